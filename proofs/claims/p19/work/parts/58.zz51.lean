/-! lay, area: what stands when it can be, beside spans and totals -/
def TN (r : Nat → Int) (h : m_H) : Prop := ∃ g s, TY r s g ∧ ∀ c, c < 94 → h c = g c
theorem TN.step {r : Nat → Int} {h h' : m_H} (T : TN r h) (e : ∀ c, c < 94 → h' c = h c) : TN r h' := by
  obtain ⟨g, s, Y, E⟩ := T
  exact ⟨g, s, Y, fun c c1 => (e c c1).trans (E c c1)⟩
theorem lm_sam2 {h g : m_H} (E : ∀ c, c < 94 → h c = g c) (a b : Int) : ∀ n, n ≤ 16 → lmN h a b n = lmN g a b n
  | 0, _ => rfl
  | n + 1, hn => by
    have i := lm_sam2 E a b n (by omega)
    show lmS h a b (n : Int) (lmN h a b n) = lmS g a b (n : Int) (lmN g a b n)
    rw [i]
    unfold lmS cnd hiV loV
    rw [E 39 (by decide), E 40 (by decide), E 41 (by decide), E (77 + (n : Int).toNat) (by omega)]
theorem TN.H {r : Nat → Int} {h : m_H} (T : TN r h) : bkH h := by
  obtain ⟨g, s, ⟨D, _, X⟩, E⟩ := T
  have b := X.1.1
  unfold bkH at b ⊢
  rw [E 39 (by decide), E 41 (by decide)]; exact b
theorem TN.R {r : Nat → Int} {h : m_H} (T : TN r h) : bkR h := by
  obtain ⟨g, s, ⟨D, _, X⟩, E⟩ := T
  have b := bkR_X X
  intro p hp
  have q := b p hp
  unfold bd at q ⊢
  rw [E (77 + p) (by omega)]; exact q
theorem TN.cp {h : m_H} {a b : Int} {B : Int × Int × Int} (G : GI h) (N : NP h) (T : TN (h 110) h) (ng : ¬ gain (bR (h 110))) (ta : thr (h 110) a) (tb : thr (h 110) b) (e : B = if a = b then (1, 1, 0) else lmN h a b 16) (o : B.2.2 = 0 ∨ B.2.2 = 1) : cpB (h 110) a b B := by
  obtain ⟨g, s, Y, E⟩ := T
  exact cp_of G N Y ng ta tb (by rw [e, lm_sam2 E a b 16 (Nat.le_refl _)]) o
/-- the least (w 0) or greatest of a length by a foot, as a fraction n / d, left out if o; without d none -/
def fyL (r : Nat → Int) (a f w n d o : Int) : Prop := (w = 0 ∧ ∃ B, BX (bR r) (12 + f).toNat a.toNat B ∧ 0 < d ∧ n * B.1 = d * B.2.1 ∧ o = 0) ∨ (w ≠ 0 ∧ ∃ B, BX (bR r) a.toNat (12 + f).toNat B ∧ ((B.2.1 = 0 ∧ d = 0) ∨ (B.2.1 ≠ 0 ∧ 0 < d ∧ n * B.2.1 = d * B.1)) ∧ (o = 1 ↔ B.2.2 = 1))
theorem fy_x {n d n' d' p q p' q' : Int} (hp : 0 < p) (hp' : 0 < p') (e : n * p = d * q) (e' : n' * p' = d' * q') (x : p * q' = p' * q) : n * d' = n' * d := by
  have k : (n * d') * (p * p') = (n' * d) * (p * p') := by
    have k1 : (n * d') * (p * p') = (n * p) * (d' * p') := by ac_rfl
    have k2 : (n' * d) * (p * p') = (n' * p') * (d * p) := by ac_rfl
    rw [k1, k2, e, e']
    have k3 : d * q * (d' * p') = (p' * q) * (d * d') := by ac_rfl
    have k4 : d' * q' * (d * p) = (p * q') * (d * d') := by ac_rfl
    rw [k3, k4, x]
  exact Int.eq_of_mul_eq_mul_right (Int.ne_of_gt (Int.mul_pos hp hp')) k
theorem fy_eq {r : Nat → Int} (hE : ∀ e ∈ bR r, gEo e) {a f w n d o n' d' o' : Int} (h : fyL r a f w n d o) (k : fyL r a f w n' d' o') : (d = 0 ↔ d' = 0) ∧ (d ≠ 0 → (0 < d ∧ 0 < d') ∧ n * d' = n' * d) ∧ (o = 1 ↔ o' = 1) := by
  rcases h with ⟨h1, B, h2, h3, h4, h5⟩ | ⟨h1, B, h2, h3, h4⟩ <;> rcases k with ⟨k1, C, k2, k3, k4, k5⟩ | ⟨k1, C, k2, k3, k4⟩
  · have z := (BW_eq hE h2.1 k2.1).2.1
    exact ⟨by omega, fun _ => ⟨⟨h3, k3⟩, fy_x h2.1.1.1 k2.1.1.1 h4 k4 z⟩, by omega⟩
  · exact absurd h1 k1
  · exact absurd k1 h1
  · obtain ⟨z1, z2, _⟩ := BW_eq hE h2.1 k2.1
    have z3 := BX_o hE h2 k2
    refine ⟨?_, fun nd => ?_, h4.trans (z3.trans k4.symm)⟩
    · rcases h3 with ⟨x1, x2⟩ | ⟨x1, x2, _⟩ <;> rcases k3 with ⟨y1, y2⟩ | ⟨y1, y2, _⟩
      · omega
      · exact absurd (z1.mp x1) y1
      · exact absurd (z1.mpr y1) x1
      · omega
    · rcases h3 with ⟨x1, x2⟩ | ⟨x1, x2, x3⟩
      · exact absurd x2 nd
      · rcases k3 with ⟨y1, y2⟩ | ⟨y1, y2, y3⟩
        · exact absurd (z1.mpr y1) x1
        · have b1 := h2.1.1.2
          have c1 := k2.1.1.2
          exact ⟨⟨x2, y2⟩, fy_x (by omega) (by omega) x3 y3 (by rw [Int.mul_comm B.2.1, Int.mul_comm C.2.1]; exact z2.symm)⟩
def orO (a b c : Int) : Int := if a = 1 ∨ b = 1 ∨ c = 1 then 1 else 0
def lyV (M n1 d1 o1 n2 d2 o2 n3 d3 o3 x : Int) : Prop := ((d1 = 0 ∨ d2 = 0 ∨ d3 = 0) ∧ x = -1) ∨ ((d1 ≠ 0 ∧ d2 ≠ 0 ∧ d3 ≠ 0) ∧ x = cap M (gnG (n1 * (d2 * d3) + n2 * (d1 * d3) + n3 * (d1 * d2)) (d1 * d2 * d3) (orO o1 o2 o3)))
def lyK (r : Nat → Int) (a b c f w : Int) : Prop := ((0 ≤ a ∧ a ≤ 11) ∧ thr r a) ∧ ((0 ≤ b ∧ b ≤ 11) ∧ thr r b) ∧ (c = -1 ∨ ((0 ≤ c ∧ c ≤ 11) ∧ thr r c)) ∧ (0 ≤ f ∧ f ≤ 3) ∧ (0 ≤ w ∧ w ≤ 1) ∧ ¬ gain (bR r)
def ly3 (r : Nat → Int) (c f w n d o : Int) : Prop := (c = -1 ∧ n = 0 ∧ d = 1 ∧ o = 0) ∨ (c ≠ -1 ∧ fyL r c f w n d o)
def lyQ (r : Nat → Int) (a b c f w x : Int) : Prop := (¬ lyK r a b c f w ∧ x = -2) ∨ (lyK r a b c f w ∧ ∃ n1 d1 o1 n2 d2 o2 n3 d3 o3, (fyL r a f w n1 d1 o1 ∧ fyL r b f w n2 d2 o2 ∧ ly3 r c f w n3 d3 o3) ∧ lyV 6000 n1 d1 o1 n2 d2 o2 n3 d3 o3 x)
theorem ly3_eq {r : Nat → Int} (hE : ∀ e ∈ bR r, gEo e) {a f w n d o n' d' o' : Int} (h : ly3 r a f w n d o) (k : ly3 r a f w n' d' o') : (d = 0 ↔ d' = 0) ∧ (d ≠ 0 → (0 < d ∧ 0 < d') ∧ n * d' = n' * d) ∧ (o = 1 ↔ o' = 1) := by
  rcases h with ⟨h1, h2, h3, h4⟩ | ⟨h1, h2⟩ <;> rcases k with ⟨k1, k2, k3, k4⟩ | ⟨k1, k2⟩
  · subst h2 h3 h4 k2 k3 k4
    exact ⟨Iff.rfl, fun _ => ⟨⟨by decide, by decide⟩, rfl⟩, Iff.rfl⟩
  · exact absurd h1 k1
  · exact absurd k1 h1
  · exact fy_eq hE h2 k2
theorem ly_sum {n1 d1 n2 d2 n3 d3 m1 e1 m2 e2 m3 e3 : Int} (h1 : n1 * e1 = m1 * d1) (h2 : n2 * e2 = m2 * d2) (h3 : n3 * e3 = m3 * d3) : (d1 * d2 * d3) * (m1 * (e2 * e3) + m2 * (e1 * e3) + m3 * (e1 * e2)) = (e1 * e2 * e3) * (n1 * (d2 * d3) + n2 * (d1 * d3) + n3 * (d1 * d2)) := by
  have a1 : (d1 * d2 * d3) * (m1 * (e2 * e3)) = (m1 * d1) * (d2 * d3 * (e2 * e3)) := by ac_rfl
  have a2 : (d1 * d2 * d3) * (m2 * (e1 * e3)) = (m2 * d2) * (d1 * d3 * (e1 * e3)) := by ac_rfl
  have a3 : (d1 * d2 * d3) * (m3 * (e1 * e2)) = (m3 * d3) * (d1 * d2 * (e1 * e2)) := by ac_rfl
  have b1 : (e1 * e2 * e3) * (n1 * (d2 * d3)) = (n1 * e1) * (d2 * d3 * (e2 * e3)) := by ac_rfl
  have b2 : (e1 * e2 * e3) * (n2 * (d1 * d3)) = (n2 * e2) * (d1 * d3 * (e1 * e3)) := by ac_rfl
  have b3 : (e1 * e2 * e3) * (n3 * (d1 * d2)) = (n3 * e3) * (d1 * d2 * (e1 * e2)) := by ac_rfl
  rw [Int.mul_add, Int.mul_add, Int.mul_add, Int.mul_add, a1, a2, a3, b1, b2, b3, h1, h2, h3]
theorem orO_eq {a b c a' b' c' : Int} (h1 : a = 1 ↔ a' = 1) (h2 : b = 1 ↔ b' = 1) (h3 : c = 1 ↔ c' = 1) : orO a b c = orO a' b' c' := by
  unfold orO
  by_cases z : a = 1 ∨ b = 1 ∨ c = 1
  · rw [if_pos z, if_pos (z.elim (fun y => Or.inl (h1.mp y)) (fun y => y.elim (fun x => Or.inr (Or.inl (h2.mp x))) (fun x => Or.inr (Or.inr (h3.mp x)))))]
  · rw [if_neg z, if_neg (fun y => z (y.elim (fun x => Or.inl (h1.mpr x)) (fun x => x.elim (fun t => Or.inr (Or.inl (h2.mpr t))) (fun t => Or.inr (Or.inr (h3.mpr t))))))]
theorem lyV_eq {M n1 d1 o1 n2 d2 o2 n3 d3 o3 m1 e1 p1 m2 e2 p2 m3 e3 p3 x y : Int} (q1 : (d1 = 0 ↔ e1 = 0) ∧ (d1 ≠ 0 → (0 < d1 ∧ 0 < e1) ∧ n1 * e1 = m1 * d1) ∧ (o1 = 1 ↔ p1 = 1)) (q2 : (d2 = 0 ↔ e2 = 0) ∧ (d2 ≠ 0 → (0 < d2 ∧ 0 < e2) ∧ n2 * e2 = m2 * d2) ∧ (o2 = 1 ↔ p2 = 1)) (q3 : (d3 = 0 ↔ e3 = 0) ∧ (d3 ≠ 0 → (0 < d3 ∧ 0 < e3) ∧ n3 * e3 = m3 * d3) ∧ (o3 = 1 ↔ p3 = 1)) (h : lyV M n1 d1 o1 n2 d2 o2 n3 d3 o3 x) (k : lyV M m1 e1 p1 m2 e2 p2 m3 e3 p3 y) : x = y := by
  rcases h with ⟨h1, h2⟩ | ⟨⟨u1, u2, u3⟩, h2⟩ <;> rcases k with ⟨k1, k2⟩ | ⟨⟨v1, v2, v3⟩, k2⟩
  · omega
  · exact absurd (h1.elim (fun z => v1 (q1.1.mp z)) (fun z => z.elim (fun y => v2 (q2.1.mp y)) (fun y => v3 (q3.1.mp y)))) id
  · exact absurd (k1.elim (fun z => u1 (q1.1.mpr z)) (fun z => z.elim (fun y => u2 (q2.1.mpr y)) (fun y => u3 (q3.1.mpr y)))) id
  · obtain ⟨⟨a1, a2⟩, a3⟩ := q1.2.1 u1
    obtain ⟨⟨b1, b2⟩, b3⟩ := q2.2.1 u2
    obtain ⟨⟨c1, c2⟩, c3⟩ := q3.2.1 u3
    rw [h2, k2, orO_eq q1.2.2 q2.2.2 q3.2.2]
    congr 1
    exact gnG_eq (Int.mul_pos (Int.mul_pos a1 b1) c1) (Int.mul_pos (Int.mul_pos a2 b2) c2) (ly_sum a3 b3 c3) Iff.rfl
theorem LX.lay {h h1 : m_H} {a b c f w x y : Int} {cs : List Nat} {ss : List (Nat × Nat)} (G : GI h) (N : NP h) (S1 : FR cs ss h h1) (A : lyQ (h 110) a b c f w x) (B : lyQ (h1 110) a b c f w y) (o : out 110 110 cs ss = true) : x = y := by
  rw [rowz S1 (fr_out o (by decide) (by decide))] at B
  have hE := bR_ok G N
  rcases A with ⟨a1, a2⟩ | ⟨a1, n1, d1, o1, n2, d2, o2, n3, d3, o3, ⟨f1, f2, f3⟩, a2⟩ <;> rcases B with ⟨b1, b2⟩ | ⟨b1, m1, e1, p1, m2, e2, p2, m3, e3, p3, ⟨g1, g2, g3⟩, b2⟩
  · omega
  · exact absurd b1 a1
  · exact absurd a1 b1
  · exact lyV_eq (fy_eq hE f1 g1) (fy_eq hE f2 g2) (ly3_eq hE f3 g3) a2 b2
def arV (M n1 d1 o1 n2 d2 o2 x : Int) : Prop := ((d1 = 0 ∨ d2 = 0) ∧ x = -1) ∨ ((d1 ≠ 0 ∧ d2 ≠ 0) ∧ x = cap M (gnG (n1 * n2) (d1 * d2) (orO o1 o2 0)))
def arK (r : Nat → Int) (a b f w : Int) : Prop := ((0 ≤ a ∧ a ≤ 11) ∧ thr r a) ∧ ((0 ≤ b ∧ b ≤ 11) ∧ thr r b) ∧ (0 ≤ f ∧ f ≤ 3) ∧ (0 ≤ w ∧ w ≤ 1) ∧ ¬ gain (bR r)
def arQ (r : Nat → Int) (a b f w x : Int) : Prop := (¬ arK r a b f w ∧ x = -2) ∨ (arK r a b f w ∧ ∃ n1 d1 o1 n2 d2 o2, (fyL r a f w n1 d1 o1 ∧ fyL r b f w n2 d2 o2) ∧ arV 4000000 n1 d1 o1 n2 d2 o2 x)
theorem LX.area {h h1 : m_H} {a b f w x y : Int} {cs : List Nat} {ss : List (Nat × Nat)} (G : GI h) (N : NP h) (S1 : FR cs ss h h1) (A : arQ (h 110) a b f w x) (B : arQ (h1 110) a b f w y) (o : out 110 110 cs ss = true) : x = y := by
  rw [rowz S1 (fr_out o (by decide) (by decide))] at B
  have hE := bR_ok G N
  rcases A with ⟨a1, a2⟩ | ⟨a1, n1, d1, o1, n2, d2, o2, ⟨f1, f2⟩, a2⟩ <;> rcases B with ⟨b1, b2⟩ | ⟨b1, m1, e1, p1, m2, e2, p2, ⟨g1, g2⟩, b2⟩
  · omega
  · exact absurd b1 a1
  · exact absurd a1 b1
  · obtain ⟨x1, x2, x3⟩ := fy_eq hE f1 g1
    obtain ⟨y1, y2, y3⟩ := fy_eq hE f2 g2
    rcases a2 with ⟨u1, u2⟩ | ⟨⟨u1, u2⟩, u3⟩ <;> rcases b2 with ⟨v1, v2⟩ | ⟨⟨v1, v2⟩, v3⟩
    · omega
    · exact absurd (u1.elim (fun z => v1 (x1.mp z)) (fun z => v2 (y1.mp z))) id
    · exact absurd (v1.elim (fun z => u1 (x1.mpr z)) (fun z => u2 (y1.mpr z))) id
    · obtain ⟨⟨q1, q2⟩, q3⟩ := x2 u1
      obtain ⟨⟨s1, s2⟩, s3⟩ := y2 u2
      rw [u3, v3, orO_eq x3 y3 Iff.rfl]
      congr 1
      refine gnG_eq (Int.mul_pos q1 s1) (Int.mul_pos q2 s2) ?_ Iff.rfl
      have k1 : d1 * d2 * (m1 * m2) = (m1 * d1) * (m2 * d2) := by ac_rfl
      have k2 : e1 * e2 * (n1 * n2) = (n1 * e1) * (n2 * e2) := by ac_rfl
      rw [k1, k2, q3, s3]
/-! the class's total, through its calls -/
def fyB (n d o : Int) : Prop := (0 ≤ n ∧ n ≤ 1600000000) ∧ (0 ≤ d ∧ d ≤ 1600000000) ∧ (o = 0 ∨ o = 1)
theorem adQ_to {a b c : Int} {h0 h1 h2 : m_H} (e96 : h1 96 = h0 96) (e97 : h1 97 = h0 97) (e98 : h1 98 = h0 98) (A : adQ a b c h1 h2) : adQ a b c h0 h2 := by
  unfold adQ toT at A ⊢
  rw [e96, e97, e98] at A
  exact A
theorem la_n {a b c : Int} {h h' : m_H} (A : adQ a b c h h') (u : h 96 4 = 1 ∨ b = 0) : h' 96 4 = 1 := by
  rcases A with ⟨_, z⟩ | ⟨z1, z2, _⟩
  · exact z
  · rcases u with u | u
    · exact z2.trans u
    · exact absurd u z1
theorem toO_b {o a : Int} (ho : o = 0 ∨ o = 1) (ha : a = 0 ∨ a = 1) : (toO o a = 0 ∨ toO o a = 1) ∧ (toO o a = 1 ↔ (o = 1 ∨ a = 1)) := by
  unfold toO
  rcases ho with ho | ho <;> rcases ha with ha | ha <;> subst ho <;> subst ha <;> decide
theorem toT_g {h : m_H} {k : Int} {P Q : Nat → Int} {o : Int} (T : toT h k P Q o) (j : Nat) (hj : j < 3) : h 97 j = P j ∧ h 98 j = Q j := T.2.1 j hj
/-- two taken -/
theorem la_2 {n1 d1 o1 n2 d2 o2 : Int} {h0 h1 h2 : m_H} (T : toT h0 0 (fun _ => 0) (fun _ => 1) 0) (z : h0 96 4 = 0) (A1 : adQ n1 d1 o1 h0 h1) (A2 : adQ n2 d2 o2 h1 h2) (b1 : fyB n1 d1 o1) (b2 : fyB n2 d2 o2) : ((d1 = 0 ∨ d2 = 0) ∧ h2 96 4 = 1) ∨ ((d1 ≠ 0 ∧ d2 ≠ 0) ∧ h2 96 4 = 0 ∧ toT h2 2 (toU (toU (fun _ => 0) 0 n1) 1 n2) (toU (toU (fun _ => 1) 0 d1) 1 d2) (orO o1 o2 0)) := by
  by_cases g1 : d1 = 0
  · exact Or.inl ⟨Or.inl g1, la_n A2 (Or.inl (la_n A1 (Or.inr g1)))⟩
  · by_cases g2 : d2 = 0
    · exact Or.inl ⟨Or.inr g2, la_n A2 (Or.inr g2)⟩
    · refine Or.inr ⟨⟨g1, g2⟩, ?_⟩
      rcases A1 with ⟨q, _⟩ | ⟨_, p1, p2⟩
      · exact absurd q g1
      · rcases A2 with ⟨q, _⟩ | ⟨_, q1, q2⟩
        · exact absurd q g2
        · have t1 := p2 0 _ _ 0 T (by decide) (by decide)
          have t2 := q2 1 _ _ _ t1 (by decide) (by decide)
          refine ⟨q1.trans (p1.trans z), ?_⟩
          have e : toO (toO 0 o1) o2 = orO o1 o2 0 := by
            have x1 := toO_b (Or.inl rfl) b1.2.2
            have x2 := toO_b x1.1 b2.2.2
            unfold orO
            by_cases c : o1 = 1 ∨ o2 = 1
            · rw [if_pos (by omega)]; omega
            · rw [if_neg (by omega)]; omega
          rw [e] at t2
          exact t2
theorem la_3 {n1 d1 o1 n2 d2 o2 n3 d3 o3 : Int} {h0 h1 h2 h3 : m_H} (T : toT h0 0 (fun _ => 0) (fun _ => 1) 0) (z : h0 96 4 = 0) (A1 : adQ n1 d1 o1 h0 h1) (A2 : adQ n2 d2 o2 h1 h2) (A3 : adQ n3 d3 o3 h2 h3) (b1 : fyB n1 d1 o1) (b2 : fyB n2 d2 o2) (b3 : fyB n3 d3 o3) : ((d1 = 0 ∨ d2 = 0 ∨ d3 = 0) ∧ h3 96 4 = 1) ∨ ((d1 ≠ 0 ∧ d2 ≠ 0 ∧ d3 ≠ 0) ∧ h3 96 4 = 0 ∧ toT h3 3 (toU (toU (toU (fun _ => 0) 0 n1) 1 n2) 2 n3) (toU (toU (toU (fun _ => 1) 0 d1) 1 d2) 2 d3) (orO o1 o2 o3)) := by
  rcases la_2 T z A1 A2 b1 b2 with ⟨c1, c2⟩ | ⟨⟨c1, c2⟩, c3, c4⟩
  · exact Or.inl ⟨c1.elim Or.inl (fun y => Or.inr (Or.inl y)), la_n A3 (Or.inl c2)⟩
  · by_cases g3 : d3 = 0
    · exact Or.inl ⟨Or.inr (Or.inr g3), la_n A3 (Or.inr g3)⟩
    · refine Or.inr ⟨⟨c1, c2, g3⟩, ?_⟩
      rcases A3 with ⟨q, _⟩ | ⟨_, q1, q2⟩
      · exact absurd q g3
      · have t3 := q2 2 _ _ _ c4 (by decide) (by decide)
        refine ⟨q1.trans c3, ?_⟩
        have e : toO (orO o1 o2 0) o3 = orO o1 o2 o3 := by
          have x0 : orO o1 o2 0 = 0 ∨ orO o1 o2 0 = 1 := by unfold orO; split <;> omega
          have x1 := toO_b x0 b3.2.2
          have x3 : orO o1 o2 0 = 1 ↔ (o1 = 1 ∨ o2 = 1) := by
            unfold orO
            by_cases c : o1 = 1 ∨ o2 = 1
            · rw [if_pos (by omega)]; omega
            · rw [if_neg (by omega)]; omega
          have b3' := b3.2.2
          conv => rhs; unfold orO
          by_cases c : o1 = 1 ∨ o2 = 1 ∨ o3 = 1
          · rw [if_pos c]; omega
          · rw [if_neg c]; omega
        rw [e] at t3
        exact t3
theorem la_b {h : m_H} {k : Int} {P Q : Nat → Int} {o : Int} (T : toT h k P Q o) (B : suB P Q) : suB (h 97) (h 98) := fun j hj => by
  obtain ⟨t1, t2⟩ := T.2.1 j hj
  rw [t1, t2]
  exact B j hj
theorem su_b2 {n1 d1 o1 n2 d2 o2 : Int} (b1 : fyB n1 d1 o1) (b2 : fyB n2 d2 o2) (g : d1 ≠ 0 ∧ d2 ≠ 0) : suB (toU (toU (fun _ => 0) 0 n1) 1 n2) (toU (toU (fun _ => 1) 0 d1) 1 d2) := fun j hj => by
  obtain ⟨x1, x2, _⟩ := b1
  obtain ⟨y1, y2, _⟩ := b2
  have e : j = 0 ∨ j = 1 ∨ j = 2 := by omega
  rcases e with e | e | e <;> subst e
  · show (0 ≤ n1 ∧ n1 ≤ 1600000000) ∧ 1 ≤ d1 ∧ d1 ≤ 1600000000; omega
  · show (0 ≤ n2 ∧ n2 ≤ 1600000000) ∧ 1 ≤ d2 ∧ d2 ≤ 1600000000; omega
  · show ((0 : Int) ≤ 0 ∧ (0 : Int) ≤ 1600000000) ∧ (1 : Int) ≤ 1 ∧ (1 : Int) ≤ 1600000000; omega
theorem su_b3 {n1 d1 o1 n2 d2 o2 n3 d3 o3 : Int} (b1 : fyB n1 d1 o1) (b2 : fyB n2 d2 o2) (b3 : fyB n3 d3 o3) (g : d1 ≠ 0 ∧ d2 ≠ 0 ∧ d3 ≠ 0) : suB (toU (toU (toU (fun _ => 0) 0 n1) 1 n2) 2 n3) (toU (toU (toU (fun _ => 1) 0 d1) 1 d2) 2 d3) := fun j hj => by
  obtain ⟨x1, x2, _⟩ := b1
  obtain ⟨y1, y2, _⟩ := b2
  obtain ⟨z1, z2, _⟩ := b3
  have e : j = 0 ∨ j = 1 ∨ j = 2 := by omega
  rcases e with e | e | e <;> subst e
  · show (0 ≤ n1 ∧ n1 ≤ 1600000000) ∧ 1 ≤ d1 ∧ d1 ≤ 1600000000; omega
  · show (0 ≤ n2 ∧ n2 ≤ 1600000000) ∧ 1 ≤ d2 ∧ d2 ≤ 1600000000; omega
  · show (0 ≤ n3 ∧ n3 ≤ 1600000000) ∧ 1 ≤ d3 ∧ d3 ≤ 1600000000; omega
theorem su_of {h : m_H} {k : Int} {P Q : Nat → Int} {o : Int} (T : toT h k P Q o) : suN (h 97) (h 98) = suN P Q ∧ suD (h 98) = suD Q ∧ h 96 3 = o := by
  obtain ⟨_, t, e⟩ := T
  obtain ⟨a0, b0⟩ := t 0 (by decide)
  obtain ⟨a1, b1⟩ := t 1 (by decide)
  obtain ⟨a2, b2⟩ := t 2 (by decide)
  unfold suN suD
  rw [a0, a1, a2, b0, b1, b2]
  exact ⟨rfl, rfl, e⟩
/-- the sum of what was laid, capped -/
theorem la_V {n1 d1 o1 n2 d2 o2 n3 d3 o3 s x : Int} {h : m_H} {k : Int} {P Q : Nat → Int} (eN : suN P Q = n1 * (d2 * d3) + n2 * (d1 * d3) + n3 * (d1 * d2)) (eD : suD Q = d1 * d2 * d3) (L : ((d1 = 0 ∨ d2 = 0 ∨ d3 = 0) ∧ h 96 4 = 1) ∨ ((d1 ≠ 0 ∧ d2 ≠ 0 ∧ d3 ≠ 0) ∧ h 96 4 = 0 ∧ toT h k P Q (orO o1 o2 o3))) (S : (h 96 4 ≠ 0 ∧ s = -1) ∨ (h 96 4 = 0 ∧ s = gnG (suN (h 97) (h 98)) (suD (h 98)) (h 96 3))) (e : (if 6000 < s then 6000 else s) = x) : lyV 6000 n1 d1 o1 n2 d2 o2 n3 d3 o3 x := by
  rcases L with ⟨l1, l2⟩ | ⟨l1, l2, l3⟩
  · rcases S with ⟨_, s2⟩ | ⟨s1, _⟩
    · exact Or.inl ⟨l1, by rw [← e, s2]; rfl⟩
    · omega
  · rcases S with ⟨s1, _⟩ | ⟨_, s2⟩
    · omega
    · obtain ⟨u1, u2, u3⟩ := su_of l3
      refine Or.inr ⟨l1, ?_⟩
      rw [← e, s2, u1, u2, u3, eN, eD]
      rfl
theorem la_A {n1 d1 o1 n2 d2 o2 s x : Int} {h : m_H} {k : Int} {P Q : Nat → Int} (eN : P 0 * P 1 = n1 * n2) (eD : Q 0 * Q 1 = d1 * d2) (L : ((d1 = 0 ∨ d2 = 0) ∧ h 96 4 = 1) ∨ ((d1 ≠ 0 ∧ d2 ≠ 0) ∧ h 96 4 = 0 ∧ toT h k P Q (orO o1 o2 0))) (S : (h 96 4 ≠ 0 ∧ s = -1) ∨ (h 96 4 = 0 ∧ s = gnG (h 97 0 * h 97 1) (h 98 0 * h 98 1) (h 96 3))) (e : (if 4000000 < s then 4000000 else s) = x) : arV 4000000 n1 d1 o1 n2 d2 o2 x := by
  rcases L with ⟨l1, l2⟩ | ⟨l1, l2, l3⟩
  · rcases S with ⟨_, s2⟩ | ⟨s1, _⟩
    · exact Or.inl ⟨l1, by rw [← e, s2]; rfl⟩
    · omega
  · rcases S with ⟨s1, _⟩ | ⟨_, s2⟩
    · omega
    · obtain ⟨a0, b0⟩ := l3.2.1 0 (by decide)
      obtain ⟨a1, b1⟩ := l3.2.1 1 (by decide)
      refine Or.inr ⟨l1, ?_⟩
      rw [← e, s2, a0, a1, b0, b1, l3.2.2, eN, eD]
      rfl
theorem gnG_b {T L o : Int} (hT : 0 ≤ T) (hL : 0 ≤ L) : -1 ≤ gnG T L o ∧ gnG T L o ≤ T := by
  have a := Int.ediv_nonneg hT hL
  have b := Int.ediv_le_self (a := T) L hT
  unfold gnG
  split <;> omega
abbrev P_X11_addFeet2 (h0 : m_H) (a1 a2 a3 : Int) : m_H → Prop := fun h' => GI h' ∧ FR (csB ++ [97, 98]) [(96, 2), (96, 3), (96, 4)] h0 h' ∧ (∀ c, c < 94 → h' c = h0 c) ∧ ∃ n d o, (fyL (h0 110) a1 a2 a3 n d o ∧ fyB n d o) ∧ adQ n d o h0 h'
set_option maxHeartbeats 4000000 in
set_option maxRecDepth 100000 in
theorem c_X11_addFeet2 (h0 : m_H) (a1 a2 a3 : Int) (G0 : GI h0) (pa1 : 0 ≤ a1 ∧ a1 ≤ 11) (pa2 : 0 ≤ a2 ∧ a2 ≤ 3) (hR : LR 1 h0 (h0 110)) (hN : NP h0) (hT : TN (h0 110) h0) (ng : ¬ gain (bR (h0 110))) (ta : thr (h0 110) a1) : m_CV M_X11_addFeet [mR 0, mI a1, mI a2, mI a3] h0 (P_X11_addFeet2 h0 a1 a2 a3) := by
  refine m_CV_of ⟨by decide, rfl, by simp [m_arg, m_isL, M_X11_addFeet], ⟨rfl, rfl⟩, rfl, rfl⟩ (ls := [some (mR 0), some (mI a1), some (mI a2), some (mI a3)]) rfl ?_
  refine z_ok (fun _ _ ok => ?_)
  have oa3 : m_32 a3 := ok 3 _ rfl
  unfold m_32 at oa3
  refine z_aload_n (M := M_X11_addFeet) 0 dX11_addFeet_0 rfl ?_
  refine z_getR (M := M_X11_addFeet) 1 dX11_addFeet_1 f_X11_53 o_0 rfl (g_0_7 G0) ?_
  refine z_aload_n (M := M_X11_addFeet) 4 dX11_addFeet_4 rfl ?_
  refine z_getR (M := M_X11_addFeet) 5 dX11_addFeet_5 f_X11_46 o_0 rfl (g_0_6 G0) ?_
  refine z_iload_n (M := M_X11_addFeet) 8 dX11_addFeet_8 rfl ?_
  refine z_bipush (M := M_X11_addFeet) 9 dX11_addFeet_9 ?_
  refine z_iload_n (M := M_X11_addFeet) 11 dX11_addFeet_11 rfl ?_
  refine z_iaddN (M := M_X11_addFeet) 12 dX11_addFeet_12 (by omega) (by omega) ?_
  refine z_vV (M := M_X11_addFeet) 13 dX11_addFeet_13 t_X7_measure l_X11_427 (m_rr_of rfl) (rest := []) (c_X7_measure2 h0 a1 (12 + a2) G0 ⟨by omega, by omega⟩ ⟨by omega, by omega⟩ hT.H hT.R) o_93 rfl rfl rfl (Nat.le_of_ble_eq_true rfl) ⟨rfl, rfl⟩ (fun h1 qx1 => ?_)
  obtain ⟨G1, S1, M1, M2, M3⟩ := qx1
  have tb_ : thr (h0 110) (12 + a2) := ⟨by omega, by omega, Or.inr (Or.inl (by omega))⟩
  have c1_ := hT.cp G0 hN ng ta tb_ M2 (by have z := g_95_2 G1; show h1 95 2 = 0 ∨ h1 95 2 = 1; omega)
  have c2_ := hT.cp G0 hN ng tb_ ta M3 (by have z := g_94_2 G1; show h1 94 2 = 0 ∨ h1 94 2 = 1; omega)
  have pb1_ : (1 ≤ h1 95 0 ∧ h1 95 0 ≤ 1600000000) ∧ (0 ≤ h1 95 1 ∧ h1 95 1 ≤ 1600000000) := by have z := c1_.2.1; unfold pBb bd at z; simp only at z; omega
  have pb2_ : (1 ≤ h1 94 0 ∧ h1 94 0 ≤ 1600000000) ∧ (0 ≤ h1 94 1 ∧ h1 94 1 ≤ 1600000000) := by have z := c2_.2.1; unfold pBb bd at z; simp only at z; omega
  have R1 := (FR.rf (cs := (csB ++ [97, 98])) (ss := [(96, 2), (96, 3), (96, 4)]) (h := h0)).call S1 (by decide +kernel)
  refine z_iload_n (M := M_X11_addFeet) 16 dX11_addFeet_16 rfl ?_
  refine z_if_ne (M := M_X11_addFeet) 17 dX11_addFeet_17 51 rfl (fun c2 => ?_) (fun c2 => ?_)
  · refine z_aload_n (M := M_X11_addFeet) 51 dX11_addFeet_51 rfl ?_
    refine z_getR (M := M_X11_addFeet) 52 dX11_addFeet_52 f_X11_60 o_0 rfl (g_0_8 G1) ?_
    refine z_aload_n (M := M_X11_addFeet) 55 dX11_addFeet_55 rfl ?_
    refine z_getR (M := M_X11_addFeet) 56 dX11_addFeet_56 f_X11_53 o_0 rfl (g_0_7 G1) ?_
    refine z_getR (M := M_X11_addFeet) 59 dX11_addFeet_59 f_X11_237 o_93 rfl (g_93_1 G1) ?_
    refine z_getJV (M := M_X11_addFeet) 62 dX11_addFeet_62 f_X11_264 o_95 rfl (fun x3 ex3 => ?_)
    refine z_aload_n (M := M_X11_addFeet) 65 dX11_addFeet_65 rfl ?_
    refine z_getR (M := M_X11_addFeet) 66 dX11_addFeet_66 f_X11_53 o_0 rfl (g_0_7 G1) ?_
    refine z_getR (M := M_X11_addFeet) 69 dX11_addFeet_69 f_X11_237 o_93 rfl (g_93_1 G1) ?_
    refine z_getJV (M := M_X11_addFeet) 72 dX11_addFeet_72 f_X11_268 o_95 rfl (fun x4 ex4 => ?_)
    refine z_aload_n (M := M_X11_addFeet) 75 dX11_addFeet_75 rfl ?_
    refine z_getR (M := M_X11_addFeet) 76 dX11_addFeet_76 f_X11_53 o_0 rfl (g_0_7 G1) ?_
    refine z_getR (M := M_X11_addFeet) 79 dX11_addFeet_79 f_X11_237 o_93 rfl (g_93_1 G1) ?_
    refine z_getIG (M := M_X11_addFeet) 82 dX11_addFeet_82 f_X11_231 o_95 (by decide) (g_95_2 G1) (fun x5 ex5 ax5 bx5 => ?_)
    refine z_vV (M := M_X11_addFeet) 85 dX11_addFeet_85 t_X10_add l_X11_431 (m_rr_of rfl) (rest := []) (c_X10_add2 h1 x3 x4 x5 G1 ⟨by omega, by omega⟩) o_96 rfl rfl rfl (Nat.le_of_ble_eq_true rfl) ⟨rfl, rfl⟩ (fun h2 qx6 => ?_)
    obtain ⟨G2, S2, A2⟩ := qx6
    have R2 := R1.call S2 (by decide +kernel)
    exact z_retV (M := M_X11_addFeet) 88 dX11_addFeet_88 rfl ⟨G2, R2, fun c hc => (rowz S2 (fr_out (a := 0) (b := 93) (by decide) (by omega) (by omega))).trans (M1 c (by omega) (by omega)), x3, x4, x5, ⟨Or.inr ⟨c2, bd h1 95, ⟨c1_.1, c1_.2.2.1⟩, (by by_cases g : x4 = 0; exact Or.inl ⟨ex4.trans g, g⟩; exact Or.inr ⟨fun z => g (ex4.symm.trans z), by omega, (by show x3 * h1 95 1 = x4 * h1 95 0; rw [ex4, ex3, Int.mul_comm])⟩), (by show x5 = 1 ↔ h1 95 2 = 1; rw [ex5])⟩, by omega, by omega, by omega⟩, adQ_to (M1 96 (by decide) (by decide)) (M1 97 (by decide) (by decide)) (M1 98 (by decide) (by decide)) A2⟩
  · refine z_aload_n (M := M_X11_addFeet) 20 dX11_addFeet_20 rfl ?_
    refine z_getR (M := M_X11_addFeet) 21 dX11_addFeet_21 f_X11_60 o_0 rfl (g_0_8 G1) ?_
    refine z_aload_n (M := M_X11_addFeet) 24 dX11_addFeet_24 rfl ?_
    refine z_getR (M := M_X11_addFeet) 25 dX11_addFeet_25 f_X11_53 o_0 rfl (g_0_7 G1) ?_
    refine z_getR (M := M_X11_addFeet) 28 dX11_addFeet_28 f_X11_227 o_93 rfl (g_93_0 G1) ?_
    refine z_getJV (M := M_X11_addFeet) 31 dX11_addFeet_31 f_X11_268 o_94 rfl (fun x7 ex7 => ?_)
    refine z_aload_n (M := M_X11_addFeet) 34 dX11_addFeet_34 rfl ?_
    refine z_getR (M := M_X11_addFeet) 35 dX11_addFeet_35 f_X11_53 o_0 rfl (g_0_7 G1) ?_
    refine z_getR (M := M_X11_addFeet) 38 dX11_addFeet_38 f_X11_227 o_93 rfl (g_93_0 G1) ?_
    refine z_getJV (M := M_X11_addFeet) 41 dX11_addFeet_41 f_X11_264 o_94 rfl (fun x8 ex8 => ?_)
    refine z_iconst (M := M_X11_addFeet) 44 dX11_addFeet_44 ?_
    refine z_vV (M := M_X11_addFeet) 45 dX11_addFeet_45 t_X10_add l_X11_431 (m_rr_of rfl) (rest := []) (c_X10_add2 h1 x7 x8 0 G1 ⟨by omega, by omega⟩) o_96 rfl rfl rfl (Nat.le_of_ble_eq_true rfl) ⟨rfl, rfl⟩ (fun h3 qx9 => ?_)
    obtain ⟨G3, S3, A3⟩ := qx9
    have R3 := R1.call S3 (by decide +kernel)
    refine z_goto (M := M_X11_addFeet) 48 dX11_addFeet_48 88 rfl ?_
    exact z_retV (M := M_X11_addFeet) 88 dX11_addFeet_88 rfl ⟨G3, R3, fun c hc => (rowz S3 (fr_out (a := 0) (b := 93) (by decide) (by omega) (by omega))).trans (M1 c (by omega) (by omega)), x7, x8, 0, ⟨Or.inl ⟨c2, bd h1 94, ⟨c2_.1, c2_.2.2.1⟩, by omega, (by show x7 * h1 94 0 = x8 * h1 94 1; rw [ex7, ex8, Int.mul_comm]), rfl⟩, by omega, by omega, Or.inl rfl⟩, adQ_to (M1 96 (by decide) (by decide)) (M1 97 (by decide) (by decide)) (M1 98 (by decide) (by decide)) A3⟩
theorem su_nn {P Q : Nat → Int} (B : suB P Q) : 0 ≤ suN P Q ∧ 0 ≤ suD Q := by
  obtain ⟨⟨a0, _⟩, b0, _⟩ := B 0 (by decide)
  obtain ⟨⟨a1, _⟩, b1, _⟩ := B 1 (by decide)
  obtain ⟨⟨a2, _⟩, b2, _⟩ := B 2 (by decide)
  have c1 := Int.mul_nonneg a0 (Int.mul_nonneg (show 0 ≤ Q 1 by omega) (show 0 ≤ Q 2 by omega))
  have c2 := Int.mul_nonneg a1 (Int.mul_nonneg (show 0 ≤ Q 0 by omega) (show 0 ≤ Q 2 by omega))
  have c3 := Int.mul_nonneg a2 (Int.mul_nonneg (show 0 ≤ Q 0 by omega) (show 0 ≤ Q 1 by omega))
  have c4 := Int.mul_nonneg (Int.mul_nonneg (show 0 ≤ Q 0 by omega) (show 0 ≤ Q 1 by omega)) (show 0 ≤ Q 2 by omega)
  unfold suN suD
  exact ⟨by omega, c4⟩
theorem ms_of {h : m_H} {a : Int} (R : LR 1 h (h 110)) (t : (0 ≤ a ∧ a ≤ 11) ∧ thr (h 110) a) : 0 ≤ a ∧ a ≤ 11 ∧ (a < 6 ∨ h (1 + 2) (a - 6).toNat ≠ -1) := by
  have y := (thr_c R).mpr t.2
  have w := t.1
  exact ⟨by omega, by omega, y.2.2.elim Or.inl (fun z => z.elim (fun s => absurd s (by omega)) Or.inr)⟩
abbrev P_X11_lay3 (h0 : m_H) (a1 a2 a3 a4 a5 : Int) : Int → m_H → Prop := fun x h' => GI h' ∧ FR (csB ++ [39, 40, 41, 97, 98]) [(96, 2), (96, 3), (96, 4)] h0 h' ∧ lyQ (h0 110) a1 a2 a3 a4 a5 x
set_option maxHeartbeats 4000000 in
set_option maxRecDepth 100000 in
theorem c_X11_lay3 (h0 : m_H) (a1 a2 a3 a4 a5 : Int) (G0 : GI h0) (hR : LR 1 h0 (h0 110)) (hN : NP h0) : m_CI M_X11_lay [mR 0, mI a1, mI a2, mI a3, mI a4, mI a5] h0 (P_X11_lay3 h0 a1 a2 a3 a4 a5) := by
  refine m_CI_of ⟨by decide, rfl, by simp [m_arg, m_isL, M_X11_lay], ⟨rfl, rfl⟩, rfl, rfl⟩ (ls := [some (mR 0), some (mI a1), some (mI a2), some (mI a3), some (mI a4), some (mI a5), none]) rfl ?_
  refine z_ok (fun _ _ ok => ?_)
  have oa1 : m_32 a1 := ok 1 _ rfl
  unfold m_32 at oa1
  have oa2 : m_32 a2 := ok 2 _ rfl
  unfold m_32 at oa2
  have oa3 : m_32 a3 := ok 3 _ rfl
  unfold m_32 at oa3
  have oa4 : m_32 a4 := ok 4 _ rfl
  unfold m_32 at oa4
  have oa5 : m_32 a5 := ok 5 _ rfl
  unfold m_32 at oa5
  refine z_aload_n (M := M_X11_lay) 0 dX11_lay_0 rfl ?_
  refine z_iload_n (M := M_X11_lay) 1 dX11_lay_1 rfl ?_
  refine z_vI (M := M_X11_lay) 2 dX11_lay_2 t_X11_isMeasured l_X11_278 (m_rr_of rfl) (rest := []) (c_X11_isMeasured h0 a1 G0) o_0 rfl rfl rfl (Nat.le_of_ble_eq_true rfl) ⟨rfl, rfl⟩ (fun x1 h1 qx1 => ?_)
  obtain ⟨rfl, ⟨rfl, cx1⟩ | ⟨rfl, cx1⟩⟩ := qx1
  · refine z_if_eq_F (M := M_X11_lay) 5 dX11_lay_5 33 rfl (by omega) ?_
    refine z_aload_n (M := M_X11_lay) 8 dX11_lay_8 rfl ?_
    refine z_iload_n (M := M_X11_lay) 9 dX11_lay_9 rfl ?_
    refine z_vI (M := M_X11_lay) 10 dX11_lay_10 t_X11_isMeasured l_X11_278 (m_rr_of rfl) (rest := []) (c_X11_isMeasured h0 a2 G0) o_0 rfl rfl rfl (Nat.le_of_ble_eq_true rfl) ⟨rfl, rfl⟩ (fun x2 h2 qx2 => ?_)
    obtain ⟨rfl, ⟨rfl, cx2⟩ | ⟨rfl, cx2⟩⟩ := qx2
    · refine z_if_eq_F (M := M_X11_lay) 13 dX11_lay_13 33 rfl (by omega) ?_
      refine z_iload_n (M := M_X11_lay) 16 dX11_lay_16 rfl ?_
      refine z_iconst (M := M_X11_lay) 17 dX11_lay_17 ?_
      refine z_icmp_eq (M := M_X11_lay) 18 dX11_lay_18 29 rfl (fun c3 => ?_) (fun c3 => ?_)
      · refine z_iconst (M := M_X11_lay) 29 dX11_lay_29 ?_
        refine z_goto (M := M_X11_lay) 30 dX11_lay_30 34 rfl ?_
        refine z_istore (M := M_X11_lay) 34 dX11_lay_34 (ls' := [some (mR 0), some (mI a1), some (mI a2), some (mI a3), some (mI a4), some (mI a5), some (mI 1)]) (by decide) rfl ?_
        refine z_iload (M := M_X11_lay) 36 dX11_lay_36 rfl ?_
        refine z_if_eq_F (M := M_X11_lay) 38 dX11_lay_38 66 rfl (by omega) ?_
        refine z_iload (M := M_X11_lay) 41 dX11_lay_41 rfl ?_
        refine z_sI (M := M_X11_lay) 43 dX11_lay_43 t_X11_isKeeper l_X11_132 (m_rr_of rfl) (rest := []) (c_X11_isKeeper h0 a4 G0) rfl rfl (Nat.le_of_ble_eq_true rfl) ⟨rfl, rfl⟩ (fun x4 h3 qx4 => ?_)
        obtain ⟨rfl, ⟨rfl, cx4⟩ | ⟨rfl, cx4⟩⟩ := qx4
        · refine z_if_eq_F (M := M_X11_lay) 46 dX11_lay_46 66 rfl (by omega) ?_
          refine z_iload (M := M_X11_lay) 49 dX11_lay_49 rfl ?_
          refine z_iconst (M := M_X11_lay) 51 dX11_lay_51 ?_
          refine z_iconst (M := M_X11_lay) 52 dX11_lay_52 ?_
          refine z_sI (M := M_X11_lay) 53 dX11_lay_53 t_X11_within l_X11_112 (m_rr_of rfl) (rest := []) (c_X11_within h0 a5 0 1 G0) rfl rfl (Nat.le_of_ble_eq_true rfl) ⟨rfl, rfl⟩ (fun x5 h4 qx5 => ?_)
          obtain ⟨rfl, ⟨rfl, cx5⟩ | ⟨rfl, cx5⟩⟩ := qx5
          · refine z_if_eq_F (M := M_X11_lay) 56 dX11_lay_56 66 rfl (by omega) ?_
            refine z_aload_n (M := M_X11_lay) 59 dX11_lay_59 rfl ?_
            refine z_vI (M := M_X11_lay) 60 dX11_lay_60 t_X11_canBe l_X11_208 (m_rr_of rfl) (rest := []) (c_X11_canBe2 h0 G0 hR hN) o_0 rfl rfl rfl (Nat.le_of_ble_eq_true rfl) ⟨rfl, rfl⟩ (fun x6 h5 qx6 => ?_)
            obtain ⟨G5, S5, ax6, bx6, fx6⟩ := qx6
            have R5 := (FR.rf (cs := (csB ++ [39, 40, 41, 97, 98])) (ss := [(96, 2), (96, 3), (96, 4)]) (h := h0)).call S5 (by decide +kernel)
            refine z_if_ne (M := M_X11_lay) 63 dX11_lay_63 69 rfl (fun c7 => ?_) (fun c7 => ?_)
            · refine z_aload_n (M := M_X11_lay) 69 dX11_lay_69 rfl ?_
              refine z_getR (M := M_X11_lay) 70 dX11_lay_70 f_X11_60 o_0 rfl (g_0_8 G5) ?_
              refine z_vV (M := M_X11_lay) 73 dX11_lay_73 t_X10_clear l_X11_281 (m_rr_of rfl) (rest := []) (c_X10_clear2 h5 G5) o_96 rfl rfl rfl (Nat.le_of_ble_eq_true rfl) ⟨rfl, rfl⟩ (fun h6 qx8 => ?_)
              have t1_ : thr (h0 110) a1 := (thr_c hR).mp ⟨by omega, by omega, cx1.2.2.elim Or.inl (fun z => Or.inr (Or.inr z))⟩
              have t2_ : thr (h0 110) a2 := (thr_c hR).mp ⟨by omega, by omega, cx2.2.2.elim Or.inl (fun z => Or.inr (Or.inr z))⟩
              obtain ⟨G6, S6, T_, z_⟩ := qx8
              have T6_ : TN (h0 110) h6 := ⟨h5, _, fx6.2 (by omega), fun c hc => rowz S6 (fr_out (a := 0) (b := 93) (by decide) (by omega) (by omega))⟩
              have ng_ := fx6.1.mp (by omega)
              have R6 := R5.call S6 (by decide +kernel)
              refine z_aload_n (M := M_X11_lay) 76 dX11_lay_76 rfl ?_
              refine z_iload_n (M := M_X11_lay) 77 dX11_lay_77 rfl ?_
              refine z_iload (M := M_X11_lay) 78 dX11_lay_78 rfl ?_
              refine z_iload (M := M_X11_lay) 80 dX11_lay_80 rfl ?_
              refine z_vV (M := M_X11_lay) 82 dX11_lay_82 t_X11_addFeet l_X11_284 (m_rr_of rfl) (rest := []) (c_X11_addFeet2 h6 a1 a4 a5 G6 ⟨by omega, by omega⟩ ⟨by omega, by omega⟩ (by rw [FR.row (c := 110) R6 (fun _ => rfl)]; exact LR.S hR R6 (by decide)) (NP.call hN R6 (fun _ => rfl) (fun _ => rfl) (fun _ => rfl)) (by rw [FR.row (c := 110) R6 (fun _ => rfl)]; exact T6_) (by rw [FR.row (c := 110) R6 (fun _ => rfl)]; exact ng_) (by rw [FR.row (c := 110) R6 (fun _ => rfl)]; exact t1_)) o_0 rfl rfl rfl (Nat.le_of_ble_eq_true rfl) ⟨rfl, rfl⟩ (fun h7 qx9 => ?_)
              obtain ⟨G7, S7, U1_, n1, d1, o1_, ⟨F1_, B1_⟩, A1_⟩ := qx9
              have T7_ := T6_.step U1_
              rw [FR.row (c := 110) R6 (fun _ => rfl)] at F1_
              have R7 := R6.call S7 (by decide +kernel)
              refine z_aload_n (M := M_X11_lay) 85 dX11_lay_85 rfl ?_
              refine z_iload_n (M := M_X11_lay) 86 dX11_lay_86 rfl ?_
              refine z_iload (M := M_X11_lay) 87 dX11_lay_87 rfl ?_
              refine z_iload (M := M_X11_lay) 89 dX11_lay_89 rfl ?_
              refine z_vV (M := M_X11_lay) 91 dX11_lay_91 t_X11_addFeet l_X11_284 (m_rr_of rfl) (rest := []) (c_X11_addFeet2 h7 a2 a4 a5 G7 ⟨by omega, by omega⟩ ⟨by omega, by omega⟩ (by rw [FR.row (c := 110) R7 (fun _ => rfl)]; exact LR.S hR R7 (by decide)) (NP.call hN R7 (fun _ => rfl) (fun _ => rfl) (fun _ => rfl)) (by rw [FR.row (c := 110) R7 (fun _ => rfl)]; exact T7_) (by rw [FR.row (c := 110) R7 (fun _ => rfl)]; exact ng_) (by rw [FR.row (c := 110) R7 (fun _ => rfl)]; exact t2_)) o_0 rfl rfl rfl (Nat.le_of_ble_eq_true rfl) ⟨rfl, rfl⟩ (fun h8 qx10 => ?_)
              obtain ⟨G8, S8, U2_, n2, d2, o2_, ⟨F2_, B2_⟩, A2_⟩ := qx10
              have T8_ := T7_.step U2_
              rw [FR.row (c := 110) R7 (fun _ => rfl)] at F2_
              have R8 := R7.call S8 (by decide +kernel)
              refine z_iload_n (M := M_X11_lay) 94 dX11_lay_94 rfl ?_
              refine z_iconst (M := M_X11_lay) 95 dX11_lay_95 ?_
              have la_ : ((d1 = 0 ∨ d2 = 0 ∨ (1 : Int) = 0) ∧ h8 96 4 = 1) ∨ ((d1 ≠ 0 ∧ d2 ≠ 0 ∧ (1 : Int) ≠ 0) ∧ h8 96 4 = 0 ∧ toT h8 2 (toU (toU (fun _ => 0) 0 n1) 1 n2) (toU (toU (fun _ => 1) 0 d1) 1 d2) (orO o1_ o2_ 0)) := (by rcases la_2 T_ z_ A1_ A2_ B1_ B2_ with ⟨y1, y2⟩ | ⟨y1, y2, y3⟩; exact Or.inl ⟨y1.elim Or.inl (fun w => Or.inr (Or.inl w)), y2⟩; exact Or.inr ⟨⟨y1.1, y1.2, by decide⟩, y2, y3⟩)
              refine z_icmp_eq_T (M := M_X11_lay) 96 dX11_lay_96 108 rfl (by omega) ?_
              refine z_aload_n (M := M_X11_lay) 108 dX11_lay_108 rfl ?_
              refine z_getR (M := M_X11_lay) 109 dX11_lay_109 f_X11_60 o_0 rfl (g_0_8 G8) ?_
              refine z_vJ (M := M_X11_lay) 112 dX11_lay_112 t_X10_sum l_X11_288 (m_rr_of rfl) (rest := []) (c_X10_sum2 h8 G8 (fun z => (by rcases la_ with ⟨_, y⟩ | ⟨y1, _, y3⟩; exact absurd (z.symm.trans y) (by decide); exact la_b y3 (su_b2 B1_ B2_ ⟨y1.1, y1.2.1⟩)))) o_96 rfl rfl rfl (Nat.le_of_ble_eq_true rfl) ⟨rfl, rfl⟩ (fun x11 h9 qx11 => ?_)
              obtain ⟨G9, S9, f11⟩ := qx11
              have lb_ : -1 ≤ x11 := (by rcases f11 with ⟨_, z⟩ | ⟨y, z⟩; omega; have k_ := su_nn ((fun z => (by rcases la_ with ⟨_, y⟩ | ⟨y1, _, y3⟩; exact absurd (z.symm.trans y) (by decide); exact la_b y3 (su_b2 B1_ B2_ ⟨y1.1, y1.2.1⟩))) y); have g_ := (gnG_b (o := h8 96 3) k_.1 k_.2).1; omega)
              have R9 := R8.call S9 (by decide +kernel)
              refine z_ldc2 (M := M_X11_lay) 115 dX11_lay_115 k_X11_291 ?_
              refine z_sI (M := M_X11_lay) 118 dX11_lay_118 t_X11_atMost l_X11_220 (m_rr_of rfl) (rest := []) (c_X11_atMost2 h9 x11 6000 G9 (by omega) ⟨by omega, by omega⟩) rfl rfl (Nat.le_of_ble_eq_true rfl) ⟨rfl, rfl⟩ (fun x12 h10 qx12 => ?_)
              obtain ⟨G10, S10, f12⟩ := qx12
              have R10 := R9.call S10 (by decide +kernel)
              refine z_ok (fun ox12 _ _ => ?_)
              have ox12 := ox12.1; unfold m_ok m_32 at ox12
              exact z_retI (M := M_X11_lay) 121 dX11_lay_121 rfl ⟨G10, R10, Or.inr ⟨⟨⟨⟨by omega, by omega⟩, t1_⟩, ⟨⟨by omega, by omega⟩, t2_⟩, Or.inl c3, cx4, cx5, ng_⟩, n1, d1, o1_, n2, d2, o2_, 0, 1, 0, ⟨F1_, F2_, Or.inl ⟨c3, rfl, rfl, rfl⟩⟩, la_V (P := toU (toU (fun _ => 0) 0 n1) 1 n2) (Q := toU (toU (fun _ => 1) 0 d1) 1 d2) rfl rfl la_ f11 f12⟩⟩
            · refine z_bipush (M := M_X11_lay) 66 dX11_lay_66 ?_
              exact z_retI (M := M_X11_lay) 68 dX11_lay_68 rfl ⟨G5, R5, Or.inl ⟨fun z => absurd (fx6.1.mpr z.2.2.2.2.2) (by omega), rfl⟩⟩
          · refine z_if_eq_T (M := M_X11_lay) 56 dX11_lay_56 66 rfl (by omega) ?_
            refine z_bipush (M := M_X11_lay) 66 dX11_lay_66 ?_
            exact z_retI (M := M_X11_lay) 68 dX11_lay_68 rfl ⟨G0, (FR.rf (cs := (csB ++ [39, 40, 41, 97, 98])) (ss := [(96, 2), (96, 3), (96, 4)]) (h := h0)), Or.inl ⟨fun z => cx5 z.2.2.2.2.1, rfl⟩⟩
        · refine z_if_eq_T (M := M_X11_lay) 46 dX11_lay_46 66 rfl (by omega) ?_
          refine z_bipush (M := M_X11_lay) 66 dX11_lay_66 ?_
          exact z_retI (M := M_X11_lay) 68 dX11_lay_68 rfl ⟨G0, (FR.rf (cs := (csB ++ [39, 40, 41, 97, 98])) (ss := [(96, 2), (96, 3), (96, 4)]) (h := h0)), Or.inl ⟨fun z => cx4 z.2.2.2.1, rfl⟩⟩
      · refine z_aload_n (M := M_X11_lay) 21 dX11_lay_21 rfl ?_
        refine z_iload_n (M := M_X11_lay) 22 dX11_lay_22 rfl ?_
        refine z_vI (M := M_X11_lay) 23 dX11_lay_23 t_X11_isMeasured l_X11_278 (m_rr_of rfl) (rest := []) (c_X11_isMeasured h0 a3 G0) o_0 rfl rfl rfl (Nat.le_of_ble_eq_true rfl) ⟨rfl, rfl⟩ (fun x13 h11 qx13 => ?_)
        obtain ⟨rfl, ⟨rfl, cx13⟩ | ⟨rfl, cx13⟩⟩ := qx13
        · refine z_if_eq_F (M := M_X11_lay) 26 dX11_lay_26 33 rfl (by omega) ?_
          refine z_iconst (M := M_X11_lay) 29 dX11_lay_29 ?_
          refine z_goto (M := M_X11_lay) 30 dX11_lay_30 34 rfl ?_
          refine z_istore (M := M_X11_lay) 34 dX11_lay_34 (ls' := [some (mR 0), some (mI a1), some (mI a2), some (mI a3), some (mI a4), some (mI a5), some (mI 1)]) (by decide) rfl ?_
          refine z_iload (M := M_X11_lay) 36 dX11_lay_36 rfl ?_
          refine z_if_eq_F (M := M_X11_lay) 38 dX11_lay_38 66 rfl (by omega) ?_
          refine z_iload (M := M_X11_lay) 41 dX11_lay_41 rfl ?_
          refine z_sI (M := M_X11_lay) 43 dX11_lay_43 t_X11_isKeeper l_X11_132 (m_rr_of rfl) (rest := []) (c_X11_isKeeper h0 a4 G0) rfl rfl (Nat.le_of_ble_eq_true rfl) ⟨rfl, rfl⟩ (fun x14 h12 qx14 => ?_)
          obtain ⟨rfl, ⟨rfl, cx14⟩ | ⟨rfl, cx14⟩⟩ := qx14
          · refine z_if_eq_F (M := M_X11_lay) 46 dX11_lay_46 66 rfl (by omega) ?_
            refine z_iload (M := M_X11_lay) 49 dX11_lay_49 rfl ?_
            refine z_iconst (M := M_X11_lay) 51 dX11_lay_51 ?_
            refine z_iconst (M := M_X11_lay) 52 dX11_lay_52 ?_
            refine z_sI (M := M_X11_lay) 53 dX11_lay_53 t_X11_within l_X11_112 (m_rr_of rfl) (rest := []) (c_X11_within h0 a5 0 1 G0) rfl rfl (Nat.le_of_ble_eq_true rfl) ⟨rfl, rfl⟩ (fun x15 h13 qx15 => ?_)
            obtain ⟨rfl, ⟨rfl, cx15⟩ | ⟨rfl, cx15⟩⟩ := qx15
            · refine z_if_eq_F (M := M_X11_lay) 56 dX11_lay_56 66 rfl (by omega) ?_
              refine z_aload_n (M := M_X11_lay) 59 dX11_lay_59 rfl ?_
              refine z_vI (M := M_X11_lay) 60 dX11_lay_60 t_X11_canBe l_X11_208 (m_rr_of rfl) (rest := []) (c_X11_canBe2 h0 G0 hR hN) o_0 rfl rfl rfl (Nat.le_of_ble_eq_true rfl) ⟨rfl, rfl⟩ (fun x16 h14 qx16 => ?_)
              obtain ⟨G14, S14, ax16, bx16, fx16⟩ := qx16
              have R14 := (FR.rf (cs := (csB ++ [39, 40, 41, 97, 98])) (ss := [(96, 2), (96, 3), (96, 4)]) (h := h0)).call S14 (by decide +kernel)
              refine z_if_ne (M := M_X11_lay) 63 dX11_lay_63 69 rfl (fun c17 => ?_) (fun c17 => ?_)
              · refine z_aload_n (M := M_X11_lay) 69 dX11_lay_69 rfl ?_
                refine z_getR (M := M_X11_lay) 70 dX11_lay_70 f_X11_60 o_0 rfl (g_0_8 G14) ?_
                refine z_vV (M := M_X11_lay) 73 dX11_lay_73 t_X10_clear l_X11_281 (m_rr_of rfl) (rest := []) (c_X10_clear2 h14 G14) o_96 rfl rfl rfl (Nat.le_of_ble_eq_true rfl) ⟨rfl, rfl⟩ (fun h15 qx18 => ?_)
                have t1_ : thr (h0 110) a1 := (thr_c hR).mp ⟨by omega, by omega, cx1.2.2.elim Or.inl (fun z => Or.inr (Or.inr z))⟩
                have t2_ : thr (h0 110) a2 := (thr_c hR).mp ⟨by omega, by omega, cx2.2.2.elim Or.inl (fun z => Or.inr (Or.inr z))⟩
                have t3_ : thr (h0 110) a3 := (thr_c hR).mp ⟨by omega, by omega, cx13.2.2.elim Or.inl (fun z => Or.inr (Or.inr z))⟩
                obtain ⟨G15, S15, T_, z_⟩ := qx18
                have T15_ : TN (h0 110) h15 := ⟨h14, _, fx16.2 (by omega), fun c hc => rowz S15 (fr_out (a := 0) (b := 93) (by decide) (by omega) (by omega))⟩
                have ng_ := fx16.1.mp (by omega)
                have R15 := R14.call S15 (by decide +kernel)
                refine z_aload_n (M := M_X11_lay) 76 dX11_lay_76 rfl ?_
                refine z_iload_n (M := M_X11_lay) 77 dX11_lay_77 rfl ?_
                refine z_iload (M := M_X11_lay) 78 dX11_lay_78 rfl ?_
                refine z_iload (M := M_X11_lay) 80 dX11_lay_80 rfl ?_
                refine z_vV (M := M_X11_lay) 82 dX11_lay_82 t_X11_addFeet l_X11_284 (m_rr_of rfl) (rest := []) (c_X11_addFeet2 h15 a1 a4 a5 G15 ⟨by omega, by omega⟩ ⟨by omega, by omega⟩ (by rw [FR.row (c := 110) R15 (fun _ => rfl)]; exact LR.S hR R15 (by decide)) (NP.call hN R15 (fun _ => rfl) (fun _ => rfl) (fun _ => rfl)) (by rw [FR.row (c := 110) R15 (fun _ => rfl)]; exact T15_) (by rw [FR.row (c := 110) R15 (fun _ => rfl)]; exact ng_) (by rw [FR.row (c := 110) R15 (fun _ => rfl)]; exact t1_)) o_0 rfl rfl rfl (Nat.le_of_ble_eq_true rfl) ⟨rfl, rfl⟩ (fun h16 qx19 => ?_)
                obtain ⟨G16, S16, U1_, n1, d1, o1_, ⟨F1_, B1_⟩, A1_⟩ := qx19
                have T16_ := T15_.step U1_
                rw [FR.row (c := 110) R15 (fun _ => rfl)] at F1_
                have R16 := R15.call S16 (by decide +kernel)
                refine z_aload_n (M := M_X11_lay) 85 dX11_lay_85 rfl ?_
                refine z_iload_n (M := M_X11_lay) 86 dX11_lay_86 rfl ?_
                refine z_iload (M := M_X11_lay) 87 dX11_lay_87 rfl ?_
                refine z_iload (M := M_X11_lay) 89 dX11_lay_89 rfl ?_
                refine z_vV (M := M_X11_lay) 91 dX11_lay_91 t_X11_addFeet l_X11_284 (m_rr_of rfl) (rest := []) (c_X11_addFeet2 h16 a2 a4 a5 G16 ⟨by omega, by omega⟩ ⟨by omega, by omega⟩ (by rw [FR.row (c := 110) R16 (fun _ => rfl)]; exact LR.S hR R16 (by decide)) (NP.call hN R16 (fun _ => rfl) (fun _ => rfl) (fun _ => rfl)) (by rw [FR.row (c := 110) R16 (fun _ => rfl)]; exact T16_) (by rw [FR.row (c := 110) R16 (fun _ => rfl)]; exact ng_) (by rw [FR.row (c := 110) R16 (fun _ => rfl)]; exact t2_)) o_0 rfl rfl rfl (Nat.le_of_ble_eq_true rfl) ⟨rfl, rfl⟩ (fun h17 qx20 => ?_)
                obtain ⟨G17, S17, U2_, n2, d2, o2_, ⟨F2_, B2_⟩, A2_⟩ := qx20
                have T17_ := T16_.step U2_
                rw [FR.row (c := 110) R16 (fun _ => rfl)] at F2_
                have R17 := R16.call S17 (by decide +kernel)
                refine z_iload_n (M := M_X11_lay) 94 dX11_lay_94 rfl ?_
                refine z_iconst (M := M_X11_lay) 95 dX11_lay_95 ?_
                refine z_icmp_eq_F (M := M_X11_lay) 96 dX11_lay_96 108 rfl (by omega) ?_
                refine z_aload_n (M := M_X11_lay) 99 dX11_lay_99 rfl ?_
                refine z_iload_n (M := M_X11_lay) 100 dX11_lay_100 rfl ?_
                refine z_iload (M := M_X11_lay) 101 dX11_lay_101 rfl ?_
                refine z_iload (M := M_X11_lay) 103 dX11_lay_103 rfl ?_
                refine z_vV (M := M_X11_lay) 105 dX11_lay_105 t_X11_addFeet l_X11_284 (m_rr_of rfl) (rest := []) (c_X11_addFeet2 h17 a3 a4 a5 G17 ⟨by omega, by omega⟩ ⟨by omega, by omega⟩ (by rw [FR.row (c := 110) R17 (fun _ => rfl)]; exact LR.S hR R17 (by decide)) (NP.call hN R17 (fun _ => rfl) (fun _ => rfl) (fun _ => rfl)) (by rw [FR.row (c := 110) R17 (fun _ => rfl)]; exact T17_) (by rw [FR.row (c := 110) R17 (fun _ => rfl)]; exact ng_) (by rw [FR.row (c := 110) R17 (fun _ => rfl)]; exact t3_)) o_0 rfl rfl rfl (Nat.le_of_ble_eq_true rfl) ⟨rfl, rfl⟩ (fun h18 qx21 => ?_)
                obtain ⟨G18, S18, U3_, n3, d3, o3_, ⟨F3_, B3_⟩, A3_⟩ := qx21
                have T18_ := T17_.step U3_
                rw [FR.row (c := 110) R17 (fun _ => rfl)] at F3_
                have R18 := R17.call S18 (by decide +kernel)
                refine z_aload_n (M := M_X11_lay) 108 dX11_lay_108 rfl ?_
                refine z_getR (M := M_X11_lay) 109 dX11_lay_109 f_X11_60 o_0 rfl (g_0_8 G18) ?_
                have la_ := la_3 T_ z_ A1_ A2_ A3_ B1_ B2_ B3_
                refine z_vJ (M := M_X11_lay) 112 dX11_lay_112 t_X10_sum l_X11_288 (m_rr_of rfl) (rest := []) (c_X10_sum2 h18 G18 (fun z => (by rcases la_ with ⟨_, y⟩ | ⟨y1, _, y3⟩; exact absurd (z.symm.trans y) (by decide); exact la_b y3 (su_b3 B1_ B2_ B3_ y1)))) o_96 rfl rfl rfl (Nat.le_of_ble_eq_true rfl) ⟨rfl, rfl⟩ (fun x22 h19 qx22 => ?_)
                obtain ⟨G19, S19, f22⟩ := qx22
                have lb_ : -1 ≤ x22 := (by rcases f22 with ⟨_, z⟩ | ⟨y, z⟩; omega; have k_ := su_nn ((fun z => (by rcases la_ with ⟨_, y⟩ | ⟨y1, _, y3⟩; exact absurd (z.symm.trans y) (by decide); exact la_b y3 (su_b3 B1_ B2_ B3_ y1))) y); have g_ := (gnG_b (o := h18 96 3) k_.1 k_.2).1; omega)
                have R19 := R18.call S19 (by decide +kernel)
                refine z_ldc2 (M := M_X11_lay) 115 dX11_lay_115 k_X11_291 ?_
                refine z_sI (M := M_X11_lay) 118 dX11_lay_118 t_X11_atMost l_X11_220 (m_rr_of rfl) (rest := []) (c_X11_atMost2 h19 x22 6000 G19 (by omega) ⟨by omega, by omega⟩) rfl rfl (Nat.le_of_ble_eq_true rfl) ⟨rfl, rfl⟩ (fun x23 h20 qx23 => ?_)
                obtain ⟨G20, S20, f23⟩ := qx23
                have R20 := R19.call S20 (by decide +kernel)
                refine z_ok (fun ox23 _ _ => ?_)
                have ox23 := ox23.1; unfold m_ok m_32 at ox23
                exact z_retI (M := M_X11_lay) 121 dX11_lay_121 rfl ⟨G20, R20, Or.inr ⟨⟨⟨⟨by omega, by omega⟩, t1_⟩, ⟨⟨by omega, by omega⟩, t2_⟩, Or.inr ⟨⟨by omega, by omega⟩, t3_⟩, cx14, cx15, ng_⟩, n1, d1, o1_, n2, d2, o2_, n3, d3, o3_, ⟨F1_, F2_, Or.inr ⟨c3, F3_⟩⟩, la_V (P := toU (toU (toU (fun _ => 0) 0 n1) 1 n2) 2 n3) (Q := toU (toU (toU (fun _ => 1) 0 d1) 1 d2) 2 d3) rfl rfl la_ f22 f23⟩⟩
              · refine z_bipush (M := M_X11_lay) 66 dX11_lay_66 ?_
                exact z_retI (M := M_X11_lay) 68 dX11_lay_68 rfl ⟨G14, R14, Or.inl ⟨fun z => absurd (fx16.1.mpr z.2.2.2.2.2) (by omega), rfl⟩⟩
            · refine z_if_eq_T (M := M_X11_lay) 56 dX11_lay_56 66 rfl (by omega) ?_
              refine z_bipush (M := M_X11_lay) 66 dX11_lay_66 ?_
              exact z_retI (M := M_X11_lay) 68 dX11_lay_68 rfl ⟨G0, (FR.rf (cs := (csB ++ [39, 40, 41, 97, 98])) (ss := [(96, 2), (96, 3), (96, 4)]) (h := h0)), Or.inl ⟨fun z => cx15 z.2.2.2.2.1, rfl⟩⟩
          · refine z_if_eq_T (M := M_X11_lay) 46 dX11_lay_46 66 rfl (by omega) ?_
            refine z_bipush (M := M_X11_lay) 66 dX11_lay_66 ?_
            exact z_retI (M := M_X11_lay) 68 dX11_lay_68 rfl ⟨G0, (FR.rf (cs := (csB ++ [39, 40, 41, 97, 98])) (ss := [(96, 2), (96, 3), (96, 4)]) (h := h0)), Or.inl ⟨fun z => cx14 z.2.2.2.1, rfl⟩⟩
        · refine z_if_eq_T (M := M_X11_lay) 26 dX11_lay_26 33 rfl (by omega) ?_
          refine z_iconst (M := M_X11_lay) 33 dX11_lay_33 ?_
          refine z_istore (M := M_X11_lay) 34 dX11_lay_34 (ls' := [some (mR 0), some (mI a1), some (mI a2), some (mI a3), some (mI a4), some (mI a5), some (mI 0)]) (by decide) rfl ?_
          refine z_iload (M := M_X11_lay) 36 dX11_lay_36 rfl ?_
          refine z_if_eq_T (M := M_X11_lay) 38 dX11_lay_38 66 rfl (by omega) ?_
          refine z_bipush (M := M_X11_lay) 66 dX11_lay_66 ?_
          exact z_retI (M := M_X11_lay) 68 dX11_lay_68 rfl ⟨G0, (FR.rf (cs := (csB ++ [39, 40, 41, 97, 98])) (ss := [(96, 2), (96, 3), (96, 4)]) (h := h0)), Or.inl ⟨fun z => z.2.2.1.elim c3 (fun t_ => cx13 (ms_of hR t_)), rfl⟩⟩
    · refine z_if_eq_T (M := M_X11_lay) 13 dX11_lay_13 33 rfl (by omega) ?_
      refine z_iconst (M := M_X11_lay) 33 dX11_lay_33 ?_
      refine z_istore (M := M_X11_lay) 34 dX11_lay_34 (ls' := [some (mR 0), some (mI a1), some (mI a2), some (mI a3), some (mI a4), some (mI a5), some (mI 0)]) (by decide) rfl ?_
      refine z_iload (M := M_X11_lay) 36 dX11_lay_36 rfl ?_
      refine z_if_eq_T (M := M_X11_lay) 38 dX11_lay_38 66 rfl (by omega) ?_
      refine z_bipush (M := M_X11_lay) 66 dX11_lay_66 ?_
      exact z_retI (M := M_X11_lay) 68 dX11_lay_68 rfl ⟨G0, (FR.rf (cs := (csB ++ [39, 40, 41, 97, 98])) (ss := [(96, 2), (96, 3), (96, 4)]) (h := h0)), Or.inl ⟨fun z => cx2 (ms_of hR z.2.1), rfl⟩⟩
  · refine z_if_eq_T (M := M_X11_lay) 5 dX11_lay_5 33 rfl (by omega) ?_
    refine z_iconst (M := M_X11_lay) 33 dX11_lay_33 ?_
    refine z_istore (M := M_X11_lay) 34 dX11_lay_34 (ls' := [some (mR 0), some (mI a1), some (mI a2), some (mI a3), some (mI a4), some (mI a5), some (mI 0)]) (by decide) rfl ?_
    refine z_iload (M := M_X11_lay) 36 dX11_lay_36 rfl ?_
    refine z_if_eq_T (M := M_X11_lay) 38 dX11_lay_38 66 rfl (by omega) ?_
    refine z_bipush (M := M_X11_lay) 66 dX11_lay_66 ?_
    exact z_retI (M := M_X11_lay) 68 dX11_lay_68 rfl ⟨G0, (FR.rf (cs := (csB ++ [39, 40, 41, 97, 98])) (ss := [(96, 2), (96, 3), (96, 4)]) (h := h0)), Or.inl ⟨fun z => cx1 (ms_of hR z.1), rfl⟩⟩
abbrev P_X11_area3 (h0 : m_H) (a1 a2 a3 a4 : Int) : Int → m_H → Prop := fun x h' => GI h' ∧ FR (csB ++ [39, 40, 41, 97, 98]) [(96, 2), (96, 3), (96, 4)] h0 h' ∧ arQ (h0 110) a1 a2 a3 a4 x
set_option maxHeartbeats 4000000 in
set_option maxRecDepth 100000 in
theorem c_X11_area3 (h0 : m_H) (a1 a2 a3 a4 : Int) (G0 : GI h0) (hR : LR 1 h0 (h0 110)) (hN : NP h0) : m_CI M_X11_area [mR 0, mI a1, mI a2, mI a3, mI a4] h0 (P_X11_area3 h0 a1 a2 a3 a4) := by
  refine m_CI_of ⟨by decide, rfl, by simp [m_arg, m_isL, M_X11_area], ⟨rfl, rfl⟩, rfl, rfl⟩ (ls := [some (mR 0), some (mI a1), some (mI a2), some (mI a3), some (mI a4), none]) rfl ?_
  refine z_ok (fun _ _ ok => ?_)
  have oa1 : m_32 a1 := ok 1 _ rfl
  unfold m_32 at oa1
  have oa2 : m_32 a2 := ok 2 _ rfl
  unfold m_32 at oa2
  have oa3 : m_32 a3 := ok 3 _ rfl
  unfold m_32 at oa3
  have oa4 : m_32 a4 := ok 4 _ rfl
  unfold m_32 at oa4
  refine z_aload_n (M := M_X11_area) 0 dX11_area_0 rfl ?_
  refine z_iload_n (M := M_X11_area) 1 dX11_area_1 rfl ?_
  refine z_vI (M := M_X11_area) 2 dX11_area_2 t_X11_isMeasured l_X11_278 (m_rr_of rfl) (rest := []) (c_X11_isMeasured h0 a1 G0) o_0 rfl rfl rfl (Nat.le_of_ble_eq_true rfl) ⟨rfl, rfl⟩ (fun x1 h1 qx1 => ?_)
  obtain ⟨rfl, ⟨rfl, cx1⟩ | ⟨rfl, cx1⟩⟩ := qx1
  · refine z_if_eq_F (M := M_X11_area) 5 dX11_area_5 20 rfl (by omega) ?_
    refine z_aload_n (M := M_X11_area) 8 dX11_area_8 rfl ?_
    refine z_iload_n (M := M_X11_area) 9 dX11_area_9 rfl ?_
    refine z_vI (M := M_X11_area) 10 dX11_area_10 t_X11_isMeasured l_X11_278 (m_rr_of rfl) (rest := []) (c_X11_isMeasured h0 a2 G0) o_0 rfl rfl rfl (Nat.le_of_ble_eq_true rfl) ⟨rfl, rfl⟩ (fun x2 h2 qx2 => ?_)
    obtain ⟨rfl, ⟨rfl, cx2⟩ | ⟨rfl, cx2⟩⟩ := qx2
    · refine z_if_eq_F (M := M_X11_area) 13 dX11_area_13 20 rfl (by omega) ?_
      refine z_iconst (M := M_X11_area) 16 dX11_area_16 ?_
      refine z_goto (M := M_X11_area) 17 dX11_area_17 21 rfl ?_
      refine z_istore (M := M_X11_area) 21 dX11_area_21 (ls' := [some (mR 0), some (mI a1), some (mI a2), some (mI a3), some (mI a4), some (mI 1)]) (by decide) rfl ?_
      refine z_iload (M := M_X11_area) 23 dX11_area_23 rfl ?_
      refine z_if_eq_F (M := M_X11_area) 25 dX11_area_25 52 rfl (by omega) ?_
      refine z_iload_n (M := M_X11_area) 28 dX11_area_28 rfl ?_
      refine z_sI (M := M_X11_area) 29 dX11_area_29 t_X11_isKeeper l_X11_132 (m_rr_of rfl) (rest := []) (c_X11_isKeeper h0 a3 G0) rfl rfl (Nat.le_of_ble_eq_true rfl) ⟨rfl, rfl⟩ (fun x3 h3 qx3 => ?_)
      obtain ⟨rfl, ⟨rfl, cx3⟩ | ⟨rfl, cx3⟩⟩ := qx3
      · refine z_if_eq_F (M := M_X11_area) 32 dX11_area_32 52 rfl (by omega) ?_
        refine z_iload (M := M_X11_area) 35 dX11_area_35 rfl ?_
        refine z_iconst (M := M_X11_area) 37 dX11_area_37 ?_
        refine z_iconst (M := M_X11_area) 38 dX11_area_38 ?_
        refine z_sI (M := M_X11_area) 39 dX11_area_39 t_X11_within l_X11_112 (m_rr_of rfl) (rest := []) (c_X11_within h0 a4 0 1 G0) rfl rfl (Nat.le_of_ble_eq_true rfl) ⟨rfl, rfl⟩ (fun x4 h4 qx4 => ?_)
        obtain ⟨rfl, ⟨rfl, cx4⟩ | ⟨rfl, cx4⟩⟩ := qx4
        · refine z_if_eq_F (M := M_X11_area) 42 dX11_area_42 52 rfl (by omega) ?_
          refine z_aload_n (M := M_X11_area) 45 dX11_area_45 rfl ?_
          refine z_vI (M := M_X11_area) 46 dX11_area_46 t_X11_canBe l_X11_208 (m_rr_of rfl) (rest := []) (c_X11_canBe2 h0 G0 hR hN) o_0 rfl rfl rfl (Nat.le_of_ble_eq_true rfl) ⟨rfl, rfl⟩ (fun x5 h5 qx5 => ?_)
          obtain ⟨G5, S5, ax5, bx5, fx5⟩ := qx5
          have R5 := (FR.rf (cs := (csB ++ [39, 40, 41, 97, 98])) (ss := [(96, 2), (96, 3), (96, 4)]) (h := h0)).call S5 (by decide +kernel)
          refine z_if_ne (M := M_X11_area) 49 dX11_area_49 55 rfl (fun c6 => ?_) (fun c6 => ?_)
          · refine z_aload_n (M := M_X11_area) 55 dX11_area_55 rfl ?_
            refine z_getR (M := M_X11_area) 56 dX11_area_56 f_X11_60 o_0 rfl (g_0_8 G5) ?_
            refine z_vV (M := M_X11_area) 59 dX11_area_59 t_X10_clear l_X11_281 (m_rr_of rfl) (rest := []) (c_X10_clear2 h5 G5) o_96 rfl rfl rfl (Nat.le_of_ble_eq_true rfl) ⟨rfl, rfl⟩ (fun h6 qx7 => ?_)
            have t1_ : thr (h0 110) a1 := (thr_c hR).mp ⟨by omega, by omega, cx1.2.2.elim Or.inl (fun z => Or.inr (Or.inr z))⟩
            have t2_ : thr (h0 110) a2 := (thr_c hR).mp ⟨by omega, by omega, cx2.2.2.elim Or.inl (fun z => Or.inr (Or.inr z))⟩
            obtain ⟨G6, S6, T_, z_⟩ := qx7
            have T6_ : TN (h0 110) h6 := ⟨h5, _, fx5.2 (by omega), fun c hc => rowz S6 (fr_out (a := 0) (b := 93) (by decide) (by omega) (by omega))⟩
            have ng_ := fx5.1.mp (by omega)
            have R6 := R5.call S6 (by decide +kernel)
            refine z_aload_n (M := M_X11_area) 62 dX11_area_62 rfl ?_
            refine z_iload_n (M := M_X11_area) 63 dX11_area_63 rfl ?_
            refine z_iload_n (M := M_X11_area) 64 dX11_area_64 rfl ?_
            refine z_iload (M := M_X11_area) 65 dX11_area_65 rfl ?_
            refine z_vV (M := M_X11_area) 67 dX11_area_67 t_X11_addFeet l_X11_284 (m_rr_of rfl) (rest := []) (c_X11_addFeet2 h6 a1 a3 a4 G6 ⟨by omega, by omega⟩ ⟨by omega, by omega⟩ (by rw [FR.row (c := 110) R6 (fun _ => rfl)]; exact LR.S hR R6 (by decide)) (NP.call hN R6 (fun _ => rfl) (fun _ => rfl) (fun _ => rfl)) (by rw [FR.row (c := 110) R6 (fun _ => rfl)]; exact T6_) (by rw [FR.row (c := 110) R6 (fun _ => rfl)]; exact ng_) (by rw [FR.row (c := 110) R6 (fun _ => rfl)]; exact t1_)) o_0 rfl rfl rfl (Nat.le_of_ble_eq_true rfl) ⟨rfl, rfl⟩ (fun h7 qx8 => ?_)
            obtain ⟨G7, S7, U1_, n1, d1, o1_, ⟨F1_, B1_⟩, A1_⟩ := qx8
            have T7_ := T6_.step U1_
            rw [FR.row (c := 110) R6 (fun _ => rfl)] at F1_
            have R7 := R6.call S7 (by decide +kernel)
            refine z_aload_n (M := M_X11_area) 70 dX11_area_70 rfl ?_
            refine z_iload_n (M := M_X11_area) 71 dX11_area_71 rfl ?_
            refine z_iload_n (M := M_X11_area) 72 dX11_area_72 rfl ?_
            refine z_iload (M := M_X11_area) 73 dX11_area_73 rfl ?_
            refine z_vV (M := M_X11_area) 75 dX11_area_75 t_X11_addFeet l_X11_284 (m_rr_of rfl) (rest := []) (c_X11_addFeet2 h7 a2 a3 a4 G7 ⟨by omega, by omega⟩ ⟨by omega, by omega⟩ (by rw [FR.row (c := 110) R7 (fun _ => rfl)]; exact LR.S hR R7 (by decide)) (NP.call hN R7 (fun _ => rfl) (fun _ => rfl) (fun _ => rfl)) (by rw [FR.row (c := 110) R7 (fun _ => rfl)]; exact T7_) (by rw [FR.row (c := 110) R7 (fun _ => rfl)]; exact ng_) (by rw [FR.row (c := 110) R7 (fun _ => rfl)]; exact t2_)) o_0 rfl rfl rfl (Nat.le_of_ble_eq_true rfl) ⟨rfl, rfl⟩ (fun h8 qx9 => ?_)
            obtain ⟨G8, S8, U2_, n2, d2, o2_, ⟨F2_, B2_⟩, A2_⟩ := qx9
            have T8_ := T7_.step U2_
            rw [FR.row (c := 110) R7 (fun _ => rfl)] at F2_
            have R8 := R7.call S8 (by decide +kernel)
            refine z_aload_n (M := M_X11_area) 78 dX11_area_78 rfl ?_
            refine z_getR (M := M_X11_area) 79 dX11_area_79 f_X11_60 o_0 rfl (g_0_8 G8) ?_
            have la_ := la_2 T_ z_ A1_ A2_ B1_ B2_
            refine z_vJ (M := M_X11_area) 82 dX11_area_82 t_X10_product l_X11_293 (m_rr_of rfl) (rest := []) (c_X10_product2 h8 G8 (fun z => (by rcases la_ with ⟨_, y⟩ | ⟨y1, _, y3⟩; exact absurd (z.symm.trans y) (by decide); exact la_b y3 (su_b2 B1_ B2_ y1)))) o_96 rfl rfl rfl (Nat.le_of_ble_eq_true rfl) ⟨rfl, rfl⟩ (fun x10 h9 qx10 => ?_)
            obtain ⟨G9, S9, f10⟩ := qx10
            have lb_ : -1 ≤ x10 := (by rcases f10 with ⟨_, z⟩ | ⟨y, z⟩; omega; have k_ := (show h8 96 4 = 0 → suB (h8 97) (h8 98) from (fun z => (by rcases la_ with ⟨_, y⟩ | ⟨y1, _, y3⟩; exact absurd (z.symm.trans y) (by decide); exact la_b y3 (su_b2 B1_ B2_ y1)))) y; have g0_ := k_ 0 (by decide); have g1_ := k_ 1 (by decide); have m1_ := Int.mul_nonneg g0_.1.1 g1_.1.1; have m2_ := Int.mul_nonneg (show 0 ≤ h8 98 0 by omega) (show 0 ≤ h8 98 1 by omega); have g_ := (gnG_b (o := h8 96 3) m1_ m2_).1; omega)
            have R9 := R8.call S9 (by decide +kernel)
            refine z_ldc2 (M := M_X11_area) 85 dX11_area_85 k_X11_296 ?_
            refine z_sI (M := M_X11_area) 88 dX11_area_88 t_X11_atMost l_X11_220 (m_rr_of rfl) (rest := []) (c_X11_atMost2 h9 x10 4000000 G9 (by omega) ⟨by omega, by omega⟩) rfl rfl (Nat.le_of_ble_eq_true rfl) ⟨rfl, rfl⟩ (fun x11 h10 qx11 => ?_)
            obtain ⟨G10, S10, f11⟩ := qx11
            have R10 := R9.call S10 (by decide +kernel)
            refine z_ok (fun ox11 _ _ => ?_)
            have ox11 := ox11.1; unfold m_ok m_32 at ox11
            exact z_retI (M := M_X11_area) 91 dX11_area_91 rfl ⟨G10, R10, Or.inr ⟨⟨⟨⟨by omega, by omega⟩, t1_⟩, ⟨⟨by omega, by omega⟩, t2_⟩, cx3, cx4, ng_⟩, n1, d1, o1_, n2, d2, o2_, ⟨F1_, F2_⟩, la_A (P := toU (toU (fun _ => 0) 0 n1) 1 n2) (Q := toU (toU (fun _ => 1) 0 d1) 1 d2) rfl rfl la_ f10 f11⟩⟩
          · refine z_bipush (M := M_X11_area) 52 dX11_area_52 ?_
            exact z_retI (M := M_X11_area) 54 dX11_area_54 rfl ⟨G5, R5, Or.inl ⟨fun z => absurd (fx5.1.mpr z.2.2.2.2) (by omega), rfl⟩⟩
        · refine z_if_eq_T (M := M_X11_area) 42 dX11_area_42 52 rfl (by omega) ?_
          refine z_bipush (M := M_X11_area) 52 dX11_area_52 ?_
          exact z_retI (M := M_X11_area) 54 dX11_area_54 rfl ⟨G0, (FR.rf (cs := (csB ++ [39, 40, 41, 97, 98])) (ss := [(96, 2), (96, 3), (96, 4)]) (h := h0)), Or.inl ⟨fun z => cx4 z.2.2.2.1, rfl⟩⟩
      · refine z_if_eq_T (M := M_X11_area) 32 dX11_area_32 52 rfl (by omega) ?_
        refine z_bipush (M := M_X11_area) 52 dX11_area_52 ?_
        exact z_retI (M := M_X11_area) 54 dX11_area_54 rfl ⟨G0, (FR.rf (cs := (csB ++ [39, 40, 41, 97, 98])) (ss := [(96, 2), (96, 3), (96, 4)]) (h := h0)), Or.inl ⟨fun z => cx3 z.2.2.1, rfl⟩⟩
    · refine z_if_eq_T (M := M_X11_area) 13 dX11_area_13 20 rfl (by omega) ?_
      refine z_iconst (M := M_X11_area) 20 dX11_area_20 ?_
      refine z_istore (M := M_X11_area) 21 dX11_area_21 (ls' := [some (mR 0), some (mI a1), some (mI a2), some (mI a3), some (mI a4), some (mI 0)]) (by decide) rfl ?_
      refine z_iload (M := M_X11_area) 23 dX11_area_23 rfl ?_
      refine z_if_eq_T (M := M_X11_area) 25 dX11_area_25 52 rfl (by omega) ?_
      refine z_bipush (M := M_X11_area) 52 dX11_area_52 ?_
      exact z_retI (M := M_X11_area) 54 dX11_area_54 rfl ⟨G0, (FR.rf (cs := (csB ++ [39, 40, 41, 97, 98])) (ss := [(96, 2), (96, 3), (96, 4)]) (h := h0)), Or.inl ⟨fun z => cx2 (ms_of hR z.2.1), rfl⟩⟩
  · refine z_if_eq_T (M := M_X11_area) 5 dX11_area_5 20 rfl (by omega) ?_
    refine z_iconst (M := M_X11_area) 20 dX11_area_20 ?_
    refine z_istore (M := M_X11_area) 21 dX11_area_21 (ls' := [some (mR 0), some (mI a1), some (mI a2), some (mI a3), some (mI a4), some (mI 0)]) (by decide) rfl ?_
    refine z_iload (M := M_X11_area) 23 dX11_area_23 rfl ?_
    refine z_if_eq_T (M := M_X11_area) 25 dX11_area_25 52 rfl (by omega) ?_
    refine z_bipush (M := M_X11_area) 52 dX11_area_52 ?_
    exact z_retI (M := M_X11_area) 54 dX11_area_54 rfl ⟨G0, (FR.rf (cs := (csB ++ [39, 40, 41, 97, 98])) (ss := [(96, 2), (96, 3), (96, 4)]) (h := h0)), Or.inl ⟨fun z => cx1 (ms_of hR z.1), rfl⟩⟩
