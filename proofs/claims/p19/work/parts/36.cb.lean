/-! ===== whether it can be ===== -/
def tiP (S : gS) (L : List gE) (e : Int) : Prop := ∃ q, L[e.toNat]? = some q ∧ (gc 0 S q).1.1 * (S q.1.2).1.2 = (S q.1.2).1.1 * (gc 0 S q).1.2
def tiQ (x : Int) (S : gS) (L : List gE) (e : Int) : Prop := x = 1 ↔ tiP S L e
theorem ti_of {h h1 h2 : m_H} {L : List gE} {e n f f2 t u l x z : Int} (hE : ∀ q ∈ L, gEo q) (A : AR h L) (he : 0 ≤ e) (en : h 108 21 = n) (hn : e < n) (ef : h 117 e.toNat = f) (eu : h 119 e.toNat = u) (S1 : FR [132] [] h h1) (T1 : vS (h1 132) 0 5 = (vS (h 124) (5 * f).toNat 5 * u) % gBig) (ef2 : h1 117 e.toNat = f2) (el : h1 120 e.toNat = l) (S2 : FR [133] [] h1 h2) (T2 : vS (h2 133) 0 5 = (vS (h1 125) (5 * f2).toNat 5 * l) % gBig) (et : h2 118 e.toNat = t) (hz : z = 0) (c : cmpQ x (vS (h2 132) z.toNat 5 * vS (h2 125) (5 * t).toNat 5) (vS (h2 124) (5 * t).toNat 5 * vS (h2 133) z.toNat 5)) : x = 0 ↔ tiP (aS h) L e := by
  subst hz
  obtain ⟨q, q1, q2, q3, q4, q5, q6, q7⟩ := AR_at A he en hn
  rw [S1 117 _ rfl] at ef2
  rw [S1 120 _ rfl] at el
  rw [S2 118 _ rfl, S1 118 _ rfl] at et
  have e1 : (5 * f).toNat = 5 * q.1.1 := by omega
  have e2 : (5 * f2).toNat = 5 * q.1.1 := by omega
  have e3 : (5 * t).toNat = 5 * q.1.2 := by omega
  have r1 : h1 125 = h 125 := FR.row S1 (fun _ => rfl)
  have r2 : h2 125 = h 125 := (FR.row S2 (fun _ => rfl)).trans r1
  have r3 : h2 124 = h 124 := (FR.row S2 (fun _ => rfl)).trans (FR.row S1 (fun _ => rfl))
  have r4 : h2 132 = h1 132 := FR.row S2 (fun _ => rfl)
  have n0 : (0 : Int).toNat = 0 := rfl
  rw [n0, r4, T1, T2, r1, r2, r3, e1, e2, e3, ← eu, ← el, q5, q6] at c
  have key : cmpQ x ((gc 0 (aS h) q).1.1 * (aS h q.1.2).1.2) ((aS h q.1.2).1.1 * (gc 0 (aS h) q).1.2) := c
  constructor
  · intro hx
    refine ⟨q, q1, ?_⟩
    rcases key with ⟨a, b⟩ | ⟨a, b⟩ | ⟨a, b⟩
    · omega
    · exact b
    · omega
  · rintro ⟨q', w1, w2⟩
    rw [q1] at w1
    cases w1
    rcases key with ⟨a, b⟩ | ⟨a, b⟩ | ⟨a, b⟩
    · exact absurd w2 (Int.ne_of_lt b)
    · exact a
    · exact absurd w2.symm (Int.ne_of_lt b)
theorem tiQ_1 {x y : Int} {S : gS} {L : List gE} {e : Int} (h : x = 0 ↔ tiP S L e) (hx : x = 0) (hy : y = 1) : tiQ y S L e := ⟨fun _ => h.mp hx, fun _ => hy⟩
theorem tiQ_0 {x y : Int} {S : gS} {L : List gE} {e : Int} (h : x = 0 ↔ tiP S L e) (hx : x ≠ 0) (hy : y = 0) : tiQ y S L e := ⟨fun q => by omega, fun q => absurd (h.mpr q) hx⟩
def gst (S : gS) (L : List gE) : Prop := ∀ e ∈ L, (S e.1.1).1.1 * e.2.1 * (S e.1.2).1.2 ≤ (S e.1.2).1.1 * ((S e.1.1).1.2 * e.2.2.1)
def cbI (h : m_H) (L : List gE) (k m : Int) : Prop := AR h L ∧ gM (199 ^ k.toNat) (aS h) ∧ (m = 0 → gM (199 ^ 16) (aS h) ∧ gst (aS h) L)
theorem p199 {k : Nat} (hk : k ≤ 16) : (199 : Int) ^ k * 199 < gBig ∧ (199 : Int) ^ k ≤ 199 ^ 16 := by
  have h2 : k = 0 ∨ k = 1 ∨ k = 2 ∨ k = 3 ∨ k = 4 ∨ k = 5 ∨ k = 6 ∨ k = 7 ∨ k = 8 ∨ k = 9 ∨ k = 10 ∨ k = 11 ∨ k = 12 ∨ k = 13 ∨ k = 14 ∨ k = 15 ∨ k = 16 := by omega
  rcases h2 with q | q | q | q | q | q | q | q | q | q | q | q | q | q | q | q | q <;> rw [q] <;> decide
theorem cb_0 {h : m_H} {L : List gE} (A : AR h L) (s : ∀ l, l < 16 → aS h l = ((1, 1), (0, if (-1 : Int) = -1 ∨ (l : Int) = -1 then 1 else 0))) : cbI h L 0 1 := by
  refine ⟨A, fun l hl => ?_, fun q => absurd q (by decide)⟩
  rw [s l hl]
  refine ⟨?_, ⟨Int.le_refl _, Int.le_refl _⟩, ⟨Int.le_refl _, Int.le_refl _⟩⟩
  show (if (-1 : Int) = -1 ∨ (l : Int) = -1 then (1 : Int) else 0) = 1
  exact if_pos (Or.inl rfl)
theorem cb_step {h h' : m_H} {L : List gE} {k m x : Int} (hE : ∀ q ∈ L, gEo q) (hk : 0 ≤ k) (hk16 : k ≤ 16) (I : cbI h L k m) (A : AR h' L) (r : ∀ l, l < 16 → aS h' l = (gi 0 (aS h) L L.length).1 l) (ex : x = (gi 0 (aS h) L L.length).2) : cbI h' L (k + 1) x := by
  obtain ⟨-, i2, -⟩ := I
  obtain ⟨p1, p2⟩ := p199 (k := k.toNat) (by omega)
  obtain ⟨s1, s2⟩ := gM_step hE p1 i2
  have n1 : (k + 1).toNat = k.toNat + 1 := by omega
  refine ⟨A, fun l hl => ?_, fun hx => ?_⟩
  · rw [r l hl, n1, Int.pow_succ]; exact s1 l hl
  · obtain ⟨t1, t2⟩ := s2 (ex.symm.trans hx)
    have e1 : ∀ l, l < 16 → aS h' l = aS h l := fun l hl => (r l hl).trans (t1 l)
    refine ⟨fun l hl => ?_, fun e he => ?_⟩
    · rw [e1 l hl]
      obtain ⟨a, b, c⟩ := i2 l hl
      exact ⟨a, ⟨b.1, Int.le_trans b.2 p2⟩, ⟨c.1, Int.le_trans c.2 p2⟩⟩
    · rw [e1 _ (hE e he).1.1, e1 _ (hE e he).1.2]; exact t2 e he
def cbJ (h : m_H) (L : List gE) : Prop := AR h L ∧ gM (199 ^ 16) (aS h) ∧ gst (aS h) L
theorem cbJ_of {h : m_H} {L : List gE} {k m : Int} (I : cbI h L k m) (hm : m = 0) : cbJ h L := ⟨I.1, I.2.2 hm⟩
theorem cbJ.put {h h' : m_H} {L : List gE} {j : Nat} {v : Int} (I : cbJ h L) (E : h' = m_up h 134 j v) : cbJ h' L := by
  unfold cbJ
  rw [aS_same (upo E (by decide)) (upo E (by decide)) (upo E (by decide)) (upo E (by decide))]
  exact ⟨I.1.same (upN E (fun z => absurd z.1 (by decide))) (fun j => upN E (fun z => absurd z.1 (by decide))) (fun j => upN E (fun z => absurd z.1 (by decide))) (fun j => upN E (fun z => absurd z.1 (by decide))) (fun j => upN E (fun z => absurd z.1 (by decide))) (fun j => upN E (fun z => absurd z.1 (by decide))), I.2⟩
theorem aS_ti {h h' : m_H} (S : FR [115, 116, 132, 133] [] h h') : aS h' = aS h := aS_same (FR.row S (fun _ => rfl)) (FR.row S (fun _ => rfl)) (FR.row S (fun _ => rfl)) (FR.row S (fun _ => rfl))
theorem cbJ.ti {h h' : m_H} {L : List gE} (I : cbJ h L) (S : FR [115, 116, 132, 133] [] h h') : cbJ h' L := by
  unfold cbJ
  rw [aS_ti S]
  exact ⟨I.1.call S rfl (fun _ => rfl) (fun _ => rfl) (fun _ => rfl) (fun _ => rfl) (fun _ => rfl), I.2⟩
/-- tight, as numbers -/
theorem ti_iff {h : m_H} {L : List gE} {q : gE} {e : Int} (hE : ∀ q ∈ L, gEo q) (I : cbJ h L) (hq : L[e.toNat]? = some q) : tiP (aS h) L e ↔ gti (fun l => (aS h l).1.1) (fun l => (aS h l).1.2) q := by
  have hm := List.mem_of_getElem? hq
  obtain ⟨p1, -⟩ := p199 (k := 16) (Nat.le_refl _)
  obtain ⟨⟨c1, c2⟩, -⟩ := gc_ex (z := 0) p1 (hE q hm) (I.2.1 _ (hE q hm).1.1).2.1 (I.2.1 _ (hE q hm).1.1).2.2
  unfold gti
  constructor
  · rintro ⟨q', w1, w2⟩
    rw [hq] at w1
    cases w1
    rw [c1, c2] at w2
    exact w2
  · intro w
    exact ⟨q, hq, by rw [c1, c2]; exact w⟩
/-! the ways round -/
def tR (τ : Nat → Int) (n : Int) : Prop := ∀ i : Nat, i < 16 → ((17 * i : Nat) : Int) < n → τ (17 * i) = 1
def tE (S : gS) (L : List gE) (τ : Nat → Int) (n : Nat) : Prop := ∀ (j : Nat) (q : gE), j < n → L[j]? = some q → gti (fun l => (S l).1.1) (fun l => (S l).1.2) q → τ (16 * q.1.1 + q.1.2) = 1
def tW (τ : Nat → Int) (m : Nat) : Prop := ∀ j a b : Nat, j < m → a < 16 → b < 16 → τ (16 * a + j) = 1 → τ (16 * j + b) = 1 → τ (16 * a + b) = 1
def tO (S : gS) (L : List gE) (τ : Nat → Int) (n : Nat) : Prop := ∀ (j : Nat) (q : gE), j < n → L[j]? = some q → q.2.2.2 = 1 → gti (fun l => (S l).1.1) (fun l => (S l).1.2) q → τ (16 * q.1.2 + q.1.1) ≠ 1
theorem tR_step {h h' : m_H} {l v : Int} (hl : 0 ≤ l) (I : tR (h 134) l) (hv : l / 16 = l % 16 → v = 1) (E : h' = m_up h 134 l.toNat v) : tR (h' 134) (l + 1) := by
  intro i hi hn
  by_cases q : ((17 * i : Nat) : Int) = l
  · have e1 : l.toNat = 17 * i := by omega
    rw [e1] at E
    rw [upE E]; exact hv (by omega)
  · rw [upN E (fun z => by have := z.2; omega)]; exact I i hi (by omega)
theorem tE_step {h h1 h' : m_H} {L : List gE} {e n f t v : Int} (hE : ∀ q ∈ L, gEo q) (J : cbJ h L) (he : 0 ≤ e) (I : tR (h 134) 256) (K : tE (aS h) L (h 134) e.toNat) (en : h 108 21 = n) (hn : e < n) (ef : h 117 e.toNat = f) (et : h 118 e.toNat = t) (e1 : h1 134 = h 134) (e2 : aS h1 = aS h) (hv : tiP (aS h) L e → v = 1) (hm : v = 1 ∨ h 134 (16 * f + t).toNat ≠ 1) (E : h' = m_up h1 134 (16 * f + t).toNat v) : tR (h' 134) 256 ∧ tE (aS h') L (h' 134) (e + 1).toNat := by
  obtain ⟨q, q1, q2, q3, q4, -⟩ := AR_at J.1 he en hn
  have n1 : (16 * f + t).toNat = 16 * q.1.1 + q.1.2 := by omega
  have n2 : (e + 1).toNat = e.toNat + 1 := by omega
  rw [n1] at E hm
  have s1 : aS h' = aS h := (aS_same (upo E (by decide)) (upo E (by decide)) (upo E (by decide)) (upo E (by decide))).trans e2
  have mono : ∀ j, h 134 j = 1 → h' 134 j = 1 := by
    intro j hj
    by_cases w : j = 16 * q.1.1 + q.1.2
    · rw [w, upE E]
      rcases hm with g | g
      · exact g
      · rw [w] at hj; exact absurd hj g
    · rw [upN E (fun z => w z.2), e1]; exact hj
  refine ⟨fun i hi hn => mono _ (I i hi hn), fun j q' hj hq' ht => ?_⟩
  rw [s1] at ht
  by_cases w : j = e.toNat
  · rw [w] at hq'
    have h2 := (ti_iff hE J hq').mpr ht
    rw [q1] at hq'
    cases hq'
    rw [upE E]; exact hv h2
  · exact mono _ (K j q' (by omega) hq' ht)
def tA (h : m_H) (L : List gE) (m : Nat) : Prop := tR (h 134) 256 ∧ tE (aS h) L (h 134) L.length ∧ tW (h 134) m
theorem tA_0 {h : m_H} {L : List gE} {e n : Int} (J : cbJ h L) (I : tR (h 134) 256) (K : tE (aS h) L (h 134) e.toNat) (en : h 108 21 = n) (hn : n ≤ e) : tA h L (0 : Int).toNat :=
  ⟨I, fun j q hj => K j q (by have := J.1.1; omega), fun j a b hj => absurd hj (Nat.not_lt_zero _)⟩
def sg (τ : Nat → Int) (m i : Nat) : Int := if τ i = 1 ∨ (τ (16 * (i / 16) + m) = 1 ∧ τ (16 * m + i % 16) = 1) then 1 else 0
def tS (h : m_H) (L : List gE) (m n : Int) : Prop := ∃ τ : Nat → Int, (tR τ 256 ∧ tE (aS h) L τ L.length ∧ tW τ m.toNat) ∧ (∀ i, i < 256 → τ i = 0 ∨ τ i = 1) ∧ ∀ i : Nat, i < 256 → ((i : Int) < n → h 134 i = sg τ m.toNat i) ∧ (n ≤ i → h 134 i = τ i)
theorem tS_0 {h : m_H} {L : List gE} {m : Int} (G : GI h) (I : tA h L m.toNat) : tS h L m (16 * 0) :=
  ⟨h 134, I, fun i hi => by have := g_134 G hi; omega, fun i hi => ⟨fun z => by omega, fun _ => rfl⟩⟩
theorem sg_col {τ : Nat → Int} {m a : Nat} (hm : m < 16) (b : ∀ i, i < 256 → τ i = 0 ∨ τ i = 1) (ha : a < 16) : sg τ m (16 * a + m) = τ (16 * a + m) := by
  unfold sg
  rw [show (16 * a + m) / 16 = a by omega]
  rcases b (16 * a + m) (by omega) with q | q
  · rw [q, if_neg (by omega)]
  · rw [q, if_pos (Or.inl rfl)]
theorem sg_row {τ : Nat → Int} {m c : Nat} (hm : m < 16) (b : ∀ i, i < 256 → τ i = 0 ∨ τ i = 1) (hc : c < 16) : sg τ m (16 * m + c) = τ (16 * m + c) := by
  unfold sg
  rw [show (16 * m + c) % 16 = c by omega]
  rcases b (16 * m + c) (by omega) with q | q
  · rw [q, if_neg (by omega)]
  · rw [q, if_pos (Or.inl rfl)]
theorem tS_step {h h' : m_H} {L : List gE} {m i k v : Int} (hm0 : 0 ≤ m) (hm : m ≤ 15) (hi0 : 0 ≤ i) (hi : i ≤ 15) (hk0 : 0 ≤ k) (hk : k ≤ 15) (I : tS h L m (16 * i + k)) (hv : (v = 1 ∧ (h 134 (16 * i + k).toNat = 1 ∨ (h 134 (16 * i + m).toNat = 1 ∧ h 134 (16 * m + k).toNat = 1))) ∨ (v = 0 ∧ h 134 (16 * i + k).toNat ≠ 1 ∧ (h 134 (16 * i + m).toNat ≠ 1 ∨ h 134 (16 * m + k).toNat ≠ 1))) (E : h' = m_up h 134 (16 * i + k).toNat v) : tS h' L m (16 * i + (k + 1)) := by
  obtain ⟨τ, t1, t2, t3⟩ := I
  have s1 : aS h' = aS h := aS_same (upo E (by decide)) (upo E (by decide)) (upo E (by decide)) (upo E (by decide))
  have n1 : (16 * i + k).toNat = 16 * i.toNat + k.toNat := by omega
  have n2 : (16 * i + m).toNat = 16 * i.toNat + m.toNat := by omega
  have n3 : (16 * m + k).toNat = 16 * m.toNat + k.toNat := by omega
  rw [n1] at E; rw [n1, n2, n3] at hv
  have a1 : h 134 (16 * i.toNat + k.toNat) = τ (16 * i.toNat + k.toNat) := (t3 _ (by omega)).2 (by omega)
  have a2 : h 134 (16 * i.toNat + m.toNat) = τ (16 * i.toNat + m.toNat) := by
    by_cases w : m < k
    · rw [(t3 _ (by omega)).1 (by omega)]; exact sg_col (by omega) t2 (by omega)
    · exact (t3 _ (by omega)).2 (by omega)
  have a3 : h 134 (16 * m.toNat + k.toNat) = τ (16 * m.toNat + k.toNat) := by
    by_cases w : m < i
    · rw [(t3 _ (by omega)).1 (by omega)]; exact sg_row (by omega) t2 (by omega)
    · exact (t3 _ (by omega)).2 (by omega)
  rw [a1, a2, a3] at hv
  have key : v = sg τ m.toNat (16 * i.toNat + k.toNat) := by
    unfold sg
    rw [show (16 * i.toNat + k.toNat) / 16 = i.toNat by omega, show (16 * i.toNat + k.toNat) % 16 = k.toNat by omega]
    rcases hv with ⟨v1, v2⟩ | ⟨v1, v2, v3⟩
    · rw [if_pos v2]; exact v1
    · rw [if_neg (by omega)]; exact v1
  refine ⟨τ, ⟨t1.1, by rw [s1]; exact t1.2.1, t1.2.2⟩, t2, fun j hj => ?_⟩
  by_cases w : j = 16 * i.toNat + k.toNat
  · refine ⟨fun _ => ?_, fun z => by omega⟩
    rw [w, upE E]; exact key
  · rw [upN E (fun z => w z.2)]
    exact ⟨fun z => (t3 j hj).1 (by omega), fun z => (t3 j hj).2 (by omega)⟩
theorem tS_end {h : m_H} {L : List gE} {m n : Int} (hE : ∀ q ∈ L, gEo q) (hm0 : 0 ≤ m) (hm : m ≤ 15) (hn : 256 ≤ n) (I : tS h L m n) : tA h L (m + 1).toNat := by
  obtain ⟨τ, ⟨r, e, w⟩, t2, t3⟩ := I
  have n1 : (m + 1).toNat = m.toNat + 1 := by omega
  have g : ∀ i, i < 256 → h 134 i = sg τ m.toNat i := fun i hi => (t3 i hi).1 (by omega)
  have up : ∀ i, i < 256 → τ i = 1 → h 134 i = 1 := fun i hi z => by rw [g i hi]; unfold sg; rw [if_pos (Or.inl z)]
  refine ⟨fun i hi hn => up _ (by omega) (r i hi hn), fun j q hj hq ht => ?_, ?_⟩
  · have := (hE q (List.mem_of_getElem? hq)).1
    exact up _ (by omega) (e j q hj hq ht)
  · rw [n1]
    intro j a b hj ha hb h1 h2
    rw [g _ (by omega)] at h1 h2 ⊢
    unfold sg at h1 h2 ⊢
    rw [show (16 * a + j) / 16 = a by omega, show (16 * a + j) % 16 = j by omega] at h1
    rw [show (16 * j + b) / 16 = j by omega, show (16 * j + b) % 16 = b by omega] at h2
    rw [show (16 * a + b) / 16 = a by omega, show (16 * a + b) % 16 = b by omega]
    have c1 : τ (16 * a + j) = 1 ∨ (τ (16 * a + m.toNat) = 1 ∧ τ (16 * m.toNat + j) = 1) := by
      by_cases z : τ (16 * a + j) = 1 ∨ (τ (16 * a + m.toNat) = 1 ∧ τ (16 * m.toNat + j) = 1)
      · exact z
      · rw [if_neg z] at h1; exact absurd h1 (by decide)
    have c2 : τ (16 * j + b) = 1 ∨ (τ (16 * j + m.toNat) = 1 ∧ τ (16 * m.toNat + b) = 1) := by
      by_cases z : τ (16 * j + b) = 1 ∨ (τ (16 * j + m.toNat) = 1 ∧ τ (16 * m.toNat + b) = 1)
      · exact z
      · rw [if_neg z] at h2; exact absurd h2 (by decide)
    refine if_pos ?_
    have hm16 : m.toNat < 16 := by omega
    by_cases q : j = m.toNat
    · rw [q] at c1 c2
      have d1 : τ (16 * a + m.toNat) = 1 := by rcases c1 with z | z; exact z; exact z.1
      have d2 : τ (16 * m.toNat + b) = 1 := by rcases c2 with z | z; exact z; exact z.2
      exact Or.inr ⟨d1, d2⟩
    · have hj2 : j < m.toNat := by omega
      rcases c1 with z1 | ⟨z1, z2⟩
      · rcases c2 with y1 | ⟨y1, y2⟩
        · exact Or.inl (w j a b hj2 ha hb z1 y1)
        · exact Or.inr ⟨w j a m.toNat hj2 ha hm16 z1 y1, y2⟩
      · rcases c2 with y1 | ⟨y1, y2⟩
        · exact Or.inr ⟨z1, w j m.toNat b hj2 hm16 hb z2 y1⟩
        · exact Or.inr ⟨z1, y2⟩
theorem tA.ti {h h' : m_H} {L : List gE} {m : Nat} (I : tA h L m) (S : FR [115, 116, 132, 133] [] h h') : tA h' L m := by
  unfold tA
  rw [aS_ti S, FR.row S (c := 134) (fun _ => rfl)]
  exact I
theorem tO_next {h : m_H} {L : List gE} {e : Int} (he : 0 ≤ e) (I : tO (aS h) L (h 134) e.toNat) (H : ∀ q, L[e.toNat]? = some q → q.2.2.2 = 1 → gti (fun l => (aS h l).1.1) (fun l => (aS h l).1.2) q → h 134 (16 * q.1.2 + q.1.1) ≠ 1) : tO (aS h) L (h 134) (e + 1).toNat := by
  have n2 : (e + 1).toNat = e.toNat + 1 := by omega
  intro j q hj hq
  by_cases w : j = e.toNat
  · rw [w] at hq; exact H q hq
  · exact I j q (by omega) hq
theorem tO_a {h : m_H} {L : List gE} {e n x : Int} (J : cbJ h L) (he : 0 ≤ e) (I : tO (aS h) L (h 134) e.toNat) (en : h 108 21 = n) (hn : e < n) (ex : h 121 e.toNat = x) (hx : x ≠ 1) : tO (aS h) L (h 134) (e + 1).toNat := by
  obtain ⟨q, q1, q2, q3, q4, q5, q6, q7⟩ := AR_at J.1 he en hn
  refine tO_next he I (fun q' hq' ho => ?_)
  rw [q1] at hq'
  cases hq'
  exact absurd (ex.symm.trans (q7.trans ho)) hx
theorem tO_b {h h' : m_H} {L : List gE} {e x : Int} (hE : ∀ q ∈ L, gEo q) (J : cbJ h L) (he : 0 ≤ e) (I : tO (aS h) L (h 134) e.toNat) (S : FR [115, 116, 132, 133] [] h h') (t : tiQ x (aS h) L e) (hx : x ≠ 1) : tO (aS h') L (h' 134) (e + 1).toNat := by
  rw [aS_ti S, FR.row S (c := 134) (fun _ => rfl)]
  refine tO_next he I (fun q' hq' ho ht => ?_)
  exact absurd (t.mpr ((ti_iff hE J hq').mpr ht)) hx
theorem tO_c {h h' : m_H} {L : List gE} {e n f t x : Int} (J : cbJ h L) (he : 0 ≤ e) (I : tO (aS h) L (h 134) e.toNat) (S : FR [115, 116, 132, 133] [] h h') (en : h 108 21 = n) (hn : e < n) (et : h' 118 e.toNat = t) (ef : h' 117 e.toNat = f) (ex : h' 134 (16 * t + f).toNat = x) (hx : x ≠ 1) : tO (aS h') L (h' 134) (e + 1).toNat := by
  rw [S 118 _ rfl] at et
  rw [S 117 _ rfl] at ef
  rw [S 134 _ rfl] at ex
  rw [aS_ti S, FR.row S (c := 134) (fun _ => rfl)]
  obtain ⟨q, q1, q2, q3, q4, -⟩ := AR_at J.1 he en hn
  have n1 : (16 * t + f).toNat = 16 * q.1.2 + q.1.1 := by omega
  rw [n1] at ex
  refine tO_next he I (fun q' hq' ho ht => ?_)
  rw [q1] at hq'
  cases hq'
  rw [ex]; exact hx
def cbQ (x : Int) (L : List gE) : Prop := x = 1 → gG L
theorem cbQ_0 {L : List gE} : cbQ 0 L := fun q => absurd q (by decide)
theorem cb_end {h : m_H} {L : List gE} {e n : Int} (hE : ∀ q ∈ L, gEo q) (J : cbJ h L) (A : tA h L 16) (O : tO (aS h) L (h 134) e.toNat) (en : h 108 21 = n) (hn : n ≤ e) : cbQ 1 L := by
  intro _
  obtain ⟨a1, a2, a3⟩ := A
  refine ⟨fun l => (aS h l).1.1, fun l => (aS h l).1.2, fun a b => h 134 (16 * a + b) = 1, fun l hl => ?_, J.2.2, fun a ha => ?_, fun a b c ha hb hc h1 h2 => a3 b a c hb ha hc h1 h2, fun q hq ht => ?_, fun q hq ho ht => ?_⟩
  · have := J.2.1 l hl
    show 0 < (aS h l).1.1 ∧ 0 < (aS h l).1.2
    exact ⟨by omega, by omega⟩
  · have := a1 a ha (by omega)
    show h 134 (16 * a + a) = 1
    rw [show 16 * a + a = 17 * a by omega]; exact this
  · obtain ⟨j, hj⟩ := List.getElem?_of_mem hq
    exact a2 j q (List.getElem?_eq_some_iff.mp hj).1 hj ht
  · obtain ⟨j, hj⟩ := List.getElem?_of_mem hq
    exact O j q (by have := (List.getElem?_eq_some_iff.mp hj).1; have := J.1.1; omega) hj ho ht
theorem bR_eq {h0 h : m_H} {en : Int} (G0 : GI h0) (e0 : ∀ j, h 110 j = h0 110 j) (K : asQ h0 h 32 6) (ec : en = cF (h0 110)) : bL (h 110) (h 122) (h 123) en = bR (h0 110) := by
  have e1 : h 110 = h0 110 := funext e0
  rw [e1]
  unfold bR
  rw [← ec, ← bL_cg (h := h0) (kp := h 122) (ct := h 123) G0 (fun j hj => K.1 j (by omega)) (fun j hj => K.2 j (by omega))]
/-! from one length on -/
def gfI (h : m_H) (L : List gE) (k m : Int) : Prop := AR h L ∧ (∃ (PU PL : Nat → Int) (TT : Nat → Nat → Prop) (I : Nat → Prop), gP L PU PL TT ∧ gJ L PU PL TT k.toNat (aS h) I) ∧ (m ≠ 0 → k ≤ 15)
def goQ (h : m_H) : Prop := ∀ l, l < 16 → ga (aS h l)
theorem gJ_cg {L : List gE} {PU PL : Nat → Int} {TT : Nat → Nat → Prop} {k : Nat} {S S' : gS} {I I' : Nat → Prop} (hE : ∀ q ∈ L, gEo q) (e : ∀ l, l < 16 → S' l = S l) (i : ∀ l, l < 16 → (I' l ↔ I l)) (J : gJ L PU PL TT k S I) : gJ L PU PL TT k S' I' := by
  obtain ⟨ja, jb, jc⟩ := J
  refine ⟨fun l hl => by rw [e l hl]; exact ja l hl, fun l hl hi => ?_, fun q hq ht hi => ?_⟩
  · obtain ⟨t, -, P, pl, pn, pb, pw, pq⟩ := jb l hl ((i l hl).mp hi)
    refine ⟨by rw [e l hl]; exact t, hl, P, pl, pn, pb, by rw [e l hl]; exact pw, fun u hu => ?_⟩
    have := pq u hu
    unfold gq nX nY at this ⊢
    rw [e l hl, e u (pb u hu)]
    exact this
  · have h1 := (hE q hq).1
    rw [e _ h1.1] at ht
    have e1 : gc 1 S' q = gc 1 S q := by unfold gc; rw [e _ h1.1]
    rw [e1, e _ h1.2]
    exact jc q hq ht (fun z => hi ((i _ h1.1).mpr z))
theorem gf_0 {h : m_H} {L : List gE} {a : Int} (hE : ∀ q ∈ L, gEo q) (g : gG L) (A : AR h L) (ha : 0 ≤ a) (ha15 : a ≤ 15) (s : ∀ l, l < 16 → aS h l = ((1, 1), (0, if a = -1 ∨ (l : Int) = a then 1 else 0))) : gfI h L 0 1 := by
  obtain ⟨PU, PL, TT, hP⟩ := g
  refine ⟨A, ⟨PU, PL, TT, fun l => l = a.toNat, hP, ?_⟩, fun _ => by decide⟩
  refine gJ_0 hP hE (by omega) (fun l hl => ?_)
  rw [s l hl]
  congr 2
  by_cases q : l = a.toNat
  · rw [if_pos q, if_pos (by omega)]
  · rw [if_neg q, if_neg (by omega)]
theorem gf_step {h h' : m_H} {L : List gE} {k m x : Int} (hE : ∀ q ∈ L, gEo q) (hk : 0 ≤ k) (I : gfI h L k m) (A : AR h' L) (r : ∀ l, l < 16 → aS h' l = (gi 1 (aS h) L L.length).1 l) (ex : x = (gi 1 (aS h) L L.length).2) : gfI h' L (k + 1) x := by
  obtain ⟨-, ⟨PU, PL, TT, I, hP, J⟩, -⟩ := I
  have n1 : (k + 1).toNat = k.toNat + 1 := by omega
  refine ⟨A, ⟨PU, PL, TT, _, hP, by rw [n1]; exact gJ_cg hE r (fun l hl => Iff.rfl) (gJ_step hP hE J)⟩, fun hx => ?_⟩
  have := gJ_end hP hE J (by rw [← ex]; exact hx)
  omega
theorem gf_end {h : m_H} {L : List gE} {k m : Int} (I : gfI h L k m) : goQ h := by
  obtain ⟨-, ⟨PU, PL, TT, I, hP, J⟩, -⟩ := I
  exact J.1
theorem gf_k {h : m_H} {L : List gE} {k m : Int} (I : gfI h L k m) (hm : m ≠ 0) : k ≤ 15 := I.2.2 hm
