/-! tokens of a tape: what both readers go through -/
noncomputable def cif {α : Type} (p : Prop) (a b : α) : α := @ite α p (Classical.propDecidable p) a b
theorem cif_pos {α : Type} {p : Prop} {a b : α} (h : p) : cif p a b = a := @if_pos p (Classical.propDecidable p) h α a b
theorem cif_neg {α : Type} {p : Prop} {a b : α} (h : ¬ p) : cif p a b = b := @if_neg p (Classical.propDecidable p) h α a b
def fam (c : Int) : Int := if 97 ≤ c ∧ c ≤ 122 then 1 else if 48 ≤ c ∧ c ≤ 57 then 2 else 0
theorem fam_1 {c : Int} (h1 : 97 ≤ c) (h2 : c ≤ 122) : fam c = 1 := if_pos ⟨h1, h2⟩
theorem fam_2 {c : Int} (h1 : 48 ≤ c) (h2 : c ≤ 57) : fam c = 2 := by unfold fam; rw [if_neg (by omega), if_pos ⟨h1, h2⟩]
theorem fam_0 {c : Int} (h1 : ¬ (97 ≤ c ∧ c ≤ 122)) (h2 : ¬ (48 ≤ c ∧ c ≤ 57)) : fam c = 0 := by unfold fam; rw [if_neg h1, if_neg h2]
theorem fam_d {c : Int} : fam c = 2 ↔ 48 ≤ c ∧ c ≤ 57 := by
  unfold fam
  by_cases h1 : 97 ≤ c ∧ c ≤ 122
  · rw [if_pos h1]; omega
  · rw [if_neg h1]
    by_cases h2 : 48 ≤ c ∧ c ≤ 57
    · rw [if_pos h2]; omega
    · rw [if_neg h2]; omega
theorem fam_l {c : Int} : fam c = 1 ↔ 97 ≤ c ∧ c ≤ 122 := by
  unfold fam
  by_cases h1 : 97 ≤ c ∧ c ≤ 122
  · rw [if_pos h1]; omega
  · rw [if_neg h1]
    by_cases h2 : 48 ≤ c ∧ c ≤ 57
    · rw [if_pos h2]; omega
    · rw [if_neg h2]; omega
theorem fam_b (c : Int) : fam c = 0 ∨ fam c = 1 ∨ fam c = 2 := by
  unfold fam
  by_cases h1 : 97 ≤ c ∧ c ≤ 122
  · rw [if_pos h1]; omega
  · rw [if_neg h1]
    by_cases h2 : 48 ≤ c ∧ c ≤ 57
    · rw [if_pos h2]; omega
    · rw [if_neg h2]; omega
def Sk (b : Nat → Int) (n p s : Int) : Prop := p ≤ s ∧ (∀ j : Nat, p ≤ (j : Int) → (j : Int) < s → (j : Int) < n ∧ b j = 32) ∧ (s < n → b s.toNat ≠ 32)
def En (b : Nat → Int) (n s e : Int) : Prop := (n ≤ s ∧ e = s) ∨ (s < n ∧ fam (b s.toNat) = 0 ∧ e = s + 1) ∨ (s < n ∧ fam (b s.toNat) ≠ 0 ∧ s < e ∧ e ≤ n ∧ (∀ j : Nat, s ≤ (j : Int) → (j : Int) < e → fam (b j) = fam (b s.toNat)) ∧ (e < n → fam (b e.toNat) ≠ fam (b s.toNat)))
def Tok (b : Nat → Int) (n p : Int) (q : Int × Int) : Prop := Sk b n p q.1 ∧ En b n q.1 q.2
theorem Sk_u {b : Nat → Int} {n p s s' : Int} (hp : 0 ≤ p) (A : Sk b n p s) (B : Sk b n p s') : s = s' := by
  obtain ⟨a1, a2, a3⟩ := A
  obtain ⟨b1, b2, b3⟩ := B
  rcases Int.lt_trichotomy s s' with h | h | h
  · have z := b2 s.toNat (by omega) (by omega)
    exact absurd z.2 (a3 (by omega))
  · exact h
  · have z := a2 s'.toNat (by omega) (by omega)
    exact absurd z.2 (b3 (by omega))
theorem En_u {b : Nat → Int} {n s e e' : Int} (hs : 0 ≤ s) (A : En b n s e) (B : En b n s e') : e = e' := by
  rcases A with ⟨a1, a2⟩ | ⟨a1, a2, a3⟩ | ⟨a1, a2, a3, a4, a5, a6⟩
  · rcases B with ⟨b1, b2⟩ | ⟨b1, _⟩ | ⟨b1, _⟩ <;> omega
  · rcases B with ⟨b1, b2⟩ | ⟨b1, b2, b3⟩ | ⟨b1, b2, _⟩
    · omega
    · omega
    · exact absurd a2 b2
  · rcases B with ⟨b1, b2⟩ | ⟨b1, b2, b3⟩ | ⟨b1, b2, b3, b4, b5, b6⟩
    · omega
    · exact absurd b2 a2
    · rcases Int.lt_trichotomy e e' with h | h | h
      · exact absurd (b5 e.toNat (by omega) (by omega)) (a6 (by omega))
      · exact h
      · exact absurd (a5 e'.toNat (by omega) (by omega)) (b6 (by omega))
theorem Tok_u {b : Nat → Int} {n p : Int} {q q' : Int × Int} (hp : 0 ≤ p) (A : Tok b n p q) (B : Tok b n p q') : q = q' := by
  have e1 := Sk_u hp A.1 B.1
  have e2 := En_u (by have := A.1.1; omega) A.2 (by rw [e1]; exact B.2)
  exact Prod.ext e1 e2
noncomputable def nx (b : Nat → Int) (n p : Int) : Int × Int := Classical.epsilon (fun q => Tok b n p q)
theorem nx_eq {b : Nat → Int} {n p : Int} {q : Int × Int} (hp : 0 ≤ p) (T : Tok b n p q) : nx b n p = q := Tok_u hp (Classical.epsilon_spec (p := fun q => Tok b n p q) ⟨q, T⟩) T
/-- what is asked of a tape: only its n bytes count -/
theorem Sk_c {b b' : Nat → Int} {n p s : Int} (hp : 0 ≤ p) (e : ∀ j : Nat, (j : Int) < n → b' j = b j) (A : Sk b n p s) : Sk b' n p s := by
  obtain ⟨a1, a2, a3⟩ := A
  refine ⟨a1, fun j u v => ?_, fun u => ?_⟩
  · have z := a2 j u v
    exact ⟨z.1, by rw [e j z.1]; exact z.2⟩
  · rw [e _ (by omega)]; exact a3 u
theorem En_c {b b' : Nat → Int} {n s t : Int} (hs : 0 ≤ s) (e : ∀ j : Nat, (j : Int) < n → b' j = b j) (A : En b n s t) : En b' n s t := by
  rcases A with ⟨a1, a2⟩ | ⟨a1, a2, a3⟩ | ⟨a1, a2, a3, a4, a5, a6⟩
  · exact Or.inl ⟨a1, a2⟩
  · exact Or.inr (Or.inl ⟨a1, by rw [e _ (by omega)]; exact a2, a3⟩)
  · refine Or.inr (Or.inr ⟨a1, by rw [e _ (by omega)]; exact a2, a3, a4, fun j u v => ?_, fun u => ?_⟩)
    · rw [e _ (by omega), e _ (by omega)]; exact a5 j u v
    · rw [e _ (by omega), e _ (by omega)]; exact a6 u
/-- the tokens themselves -/
def isW (b : Nat → Int) (q : Int × Int) (w : Nat) : Prop := q.2 - q.1 = slen w ∧ ∀ i : Nat, (i : Int) < slen w → b (q.1 + i).toNat = sch w i
def dC (b : Nat → Int) (s : Int) : Nat → Int
  | 0 => 0
  | k + 1 => if 10 * dC b s k + b (s + k).toNat - 48 < 1000 then 10 * dC b s k + b (s + k).toNat - 48 else 1000
def num (b : Nat → Int) (q : Int × Int) : Int := dC b q.1 (q.2 - q.1).toNat
def nOk (b : Nat → Int) (n : Int) (q : Int × Int) (lo hi : Int) : Prop := q.1 < n ∧ fam (b q.1.toNat) = 2 ∧ lo ≤ num b q ∧ num b q ≤ hi
theorem dC_b {b : Nat → Int} {s : Int} : ∀ k : Nat, (∀ j : Nat, (j : Int) < k → 48 ≤ b (s + j).toNat) → 0 ≤ dC b s k ∧ dC b s k ≤ 1000
  | 0, _ => by unfold dC; omega
  | k + 1, h => by
    have i := dC_b k (fun j hj => h j (by omega))
    have z := h k (by omega)
    unfold dC
    split <;> omega
/-! on the way to a token -/
def Sp (b : Nat → Int) (n p s : Int) : Prop := p ≤ s ∧ ∀ j : Nat, p ≤ (j : Int) → (j : Int) < s → (j : Int) < n ∧ b j = 32
theorem Sp_0 {b : Nat → Int} {n p s : Int} (e : p = s) : Sp b n p s := ⟨by omega, fun j u v => by omega⟩
theorem Sp_s {b : Nat → Int} {n p s : Int} (i : Sp b n p s) (hp : 0 ≤ s) (h : s < n) (hb : b s.toNat = 32) : Sp b n p (s + 1) := by
  refine ⟨by have := i.1; omega, fun j u v => ?_⟩
  by_cases q : (j : Int) = s
  · have e : j = s.toNat := by omega
    rw [e]; exact ⟨by omega, hb⟩
  · exact i.2 j u (by omega)
theorem Sk_of {b : Nat → Int} {n p s : Int} (i : Sp b n p s) (h : s < n → b s.toNat ≠ 32) : Sk b n p s := ⟨i.1, i.2, h⟩
def Ep (b : Nat → Int) (n s e l : Int) : Prop := s < n ∧ fam (b s.toNat) = l ∧ s < e ∧ e ≤ n ∧ (l = 0 → e = s + 1) ∧ ∀ j : Nat, s ≤ (j : Int) → (j : Int) < e → fam (b j) = l
theorem Ep_1 {b : Nat → Int} {n s x l : Int} (hs : 0 ≤ s) (h : s < n) (eb : b s.toNat = x) (ef : fam x = l) : Ep b n s (s + 1) l := by
  refine ⟨h, by rw [eb]; exact ef, by omega, by omega, fun _ => rfl, fun j u v => ?_⟩
  have e : j = s.toNat := by omega
  rw [e, eb]; exact ef
theorem Ep_s {b : Nat → Int} {n s e x l : Int} (i : Ep b n s e l) (hs : 0 ≤ s) (h : e < n) (hl : l ≠ 0) (eb : b e.toNat = x) (ef : fam x = l) : Ep b n s (e + 1) l := by
  obtain ⟨i1, i2, i3, i4, i5, i6⟩ := i
  refine ⟨i1, i2, by omega, by omega, fun q => absurd q hl, fun j u v => ?_⟩
  by_cases q : (j : Int) = e
  · have e' : j = e.toNat := by omega
    rw [e', eb]; exact ef
  · exact i6 j u (by omega)
theorem En_0 {b : Nat → Int} {n s : Int} (h : n ≤ s) : En b n s s := Or.inl ⟨h, rfl⟩
theorem En_1 {b : Nat → Int} {n s e l : Int} (i : Ep b n s e l) (hl : l = 0) : En b n s e := Or.inr (Or.inl ⟨i.1, i.2.1.trans hl, i.2.2.2.2.1 hl⟩)
theorem En_2 {b : Nat → Int} {n s e l : Int} (i : Ep b n s e l) (hl : l ≠ 0) (h : e < n → fam (b e.toNat) ≠ l) : En b n s e := by
  obtain ⟨i1, i2, i3, i4, i5, i6⟩ := i
  exact Or.inr (Or.inr ⟨i1, by rw [i2]; exact hl, i3, i4, fun j u v => by rw [i2]; exact i6 j u v, fun q => by rw [i2]; exact h q⟩)
theorem Tok_of {b : Nat → Int} {n p s e s' e' : Int} (e1 : s' = s) (e2 : e' = e) (A : Sk b n p s) (B : En b n s e) : Tok b n p (s', e') := by rw [e1, e2]; exact ⟨A, B⟩
theorem ne_of {x y z : Int} (e : x = y) (h : y ≠ z) : x ≠ z := by rw [e]; exact h
theorem fam_r (c : Int) : 0 ≤ fam c ∧ fam c ≤ 2 := by rcases fam_b c with h | h | h <;> omega
theorem En_dig {b : Nat → Int} {n s e : Int} (E : En b n s e) (h0 : s < n) (hf : fam (b s.toNat) = 2) {j : Nat} (h1 : s ≤ (j : Int)) (h2 : (j : Int) < e) : 48 ≤ b j ∧ b j ≤ 57 := by
  rcases E with ⟨a1, a2⟩ | ⟨a1, a2, a3⟩ | ⟨a1, a2, a3, a4, a5, a6⟩
  · omega
  · omega
  · exact fam_d.mp ((a5 j h1 h2).trans hf)
theorem rowz {cs : List Nat} {ss : List (Nat × Nat)} {h h' : m_H} {c : Nat} (S : FR cs ss h h') (e : ∀ j, fr cs ss c j = false) : h' c = h c := funext fun j => S c j (e j)
def EnS (h : m_H) : Prop := En (h 36) (h 35 1) (h 37 1) (h 37 2)
def Qc (h : m_H) : Int × Int := (h 37 1, h 37 2)
theorem dig_h {h0 h : m_H} {l : Int} (hE : EnS h0) (R : ∀ j, h 36 j = h0 36 j) (i : h0 37 1 < h0 35 1 ∧ fam (h0 36 (h0 37 1).toNat) = 2) (hs : 0 ≤ l) (h1 : h0 37 1 ≤ l) (h2 : l < h0 37 2) : 48 ≤ h 36 l.toNat ∧ h 36 l.toNat ≤ 57 := by
  rw [R]; exact En_dig hE i.1 i.2 (by omega) (by omega)
def vlQ (b : Nat → Int) (n : Int) (q : Int × Int) (x : Int) : Prop := (¬ (q.1 < n ∧ fam (b q.1.toNat) = 2) ∧ x = -1) ∨ (q.1 < n ∧ fam (b q.1.toNat) = 2 ∧ x = num b q)
theorem dC_st {b : Nat → Int} {s l l1 x y : Int} (i : l1 = dC b s (l - s).toNat) (h1 : 0 ≤ s) (h : s ≤ l) (eb : b l.toNat = x) (ey : (if 10 * l1 + x - 48 < 1000 then 10 * l1 + x - 48 else 1000) = y) : y = dC b s (l + 1 - s).toNat := by
  have e : (l + 1 - s).toNat = (l - s).toNat + 1 := by omega
  have e2 : (s + ((l - s).toNat : Nat)).toNat = l.toNat := by omega
  rw [e, ← ey]
  show _ = (if 10 * dC b s (l - s).toNat + b (s + ((l - s).toNat : Nat)).toNat - 48 < 1000 then _ else _)
  rw [e2, eb, ← i]
theorem vl_end {h0 : m_H} {l l1 : Int} (i : l1 = dC (h0 36) (h0 37 1) (l - h0 37 1).toNat) (j : h0 37 1 < h0 35 1 ∧ fam (h0 36 (h0 37 1).toNat) = 2) (e : l = h0 37 2) : vlQ (h0 36) (h0 35 1) (Qc h0) l1 := by
  rw [e] at i
  exact Or.inr ⟨j.1, j.2, i⟩
def tnQ (lo hi x : Int) (h0 h' : m_H) : Prop := (x = -1 ∧ ¬ nOk (h0 36) (h0 35 1) (Qc h0) lo hi ∧ Qc h' = Qc h0) ∨ (x = num (h0 36) (Qc h0) ∧ nOk (h0 36) (h0 35 1) (Qc h0) lo hi ∧ Qc h' = nx (h0 36) (h0 35 1) (h0 37 2))
def tkQ (w : Nat) (x : Int) (h0 h' : m_H) : Prop := (x = 1 ∧ isW (h0 36) (Qc h0) w ∧ Qc h' = nx (h0 36) (h0 35 1) (h0 37 2)) ∨ (x = 0 ∧ ¬ isW (h0 36) (Qc h0) w ∧ Qc h' = Qc h0)
theorem EnS.fr {h0 h' : m_H} (E : EnS h0) (e1 : h' 36 = h0 36) (e2 : h' 35 1 = h0 35 1) (e : Qc h' = Qc h0) : EnS h' := by
  have a : h' 37 1 = h0 37 1 := congrArg Prod.fst e
  have b : h' 37 2 = h0 37 2 := congrArg Prod.snd e
  unfold EnS; rw [e1, e2, a, b]; exact E
theorem tn_no {lo hi x : Int} {h0 h' : m_H} (hE : EnS h0) (V : vlQ (h0 36) (h0 35 1) (Qc h0) x) (S : FR [] [] h0 h') (h1 : 0 ≤ lo) (c : ¬ (lo ≤ x ∧ x ≤ hi)) : EnS h' ∧ tnQ lo hi (-1) h0 h' := by
  have q : Qc h' = Qc h0 := by unfold Qc; rw [S 37 1 rfl, S 37 2 rfl]
  refine ⟨hE.fr (rowz S (fun _ => rfl)) (S 35 1 rfl) q, Or.inl ⟨rfl, fun z => ?_, q⟩⟩
  rcases V with ⟨a, b⟩ | ⟨a, b, d⟩
  · exact a ⟨z.1, z.2.1⟩
  · exact c (by rw [d]; exact ⟨z.2.2.1, z.2.2.2⟩)
theorem tn_ok {lo hi x : Int} {h0 h1 h' : m_H} (hp : 0 ≤ h0 37 2) (V : vlQ (h0 36) (h0 35 1) (Qc h0) x) (S1 : FR [] [] h0 h1) (S : FR [] [(37, 1), (37, 2)] h1 h') (T : Tok (h1 36) (h1 35 1) (h1 37 2) (h' 37 1, h' 37 2)) (h1' : 0 ≤ lo) (c : lo ≤ x ∧ x ≤ hi) : EnS h' ∧ tnQ lo hi x h0 h' := by
  have r1 : h1 36 = h0 36 := rowz S1 (fun _ => rfl)
  have r2 : h' 36 = h1 36 := rowz S (fun _ => rfl)
  have e1 : h1 35 1 = h0 35 1 := S1 35 1 rfl
  have e2 : h' 35 1 = h1 35 1 := S 35 1 rfl
  have e3 : h1 37 2 = h0 37 2 := S1 37 2 rfl
  refine ⟨?_, ?_⟩
  · unfold EnS; rw [r2, e2]; exact T.2
  · rw [r1, e1, e3] at T
    rcases V with ⟨a, b⟩ | ⟨a, b, d⟩
    · omega
    · exact Or.inr ⟨d, ⟨a, b, by rw [← d]; exact c.1, by rw [← d]; exact c.2⟩, (nx_eq hp T).symm⟩
theorem tk_ok {w : Nat} {h0 h1 h' : m_H} (hp : 0 ≤ h0 37 2) (W : isW (h0 36) (Qc h0) w) (S1 : FR [] [] h0 h1) (S : FR [] [(37, 1), (37, 2)] h1 h') (T : Tok (h1 36) (h1 35 1) (h1 37 2) (h' 37 1, h' 37 2)) : EnS h' ∧ tkQ w 1 h0 h' := by
  have r1 : h1 36 = h0 36 := rowz S1 (fun _ => rfl)
  have r2 : h' 36 = h1 36 := rowz S (fun _ => rfl)
  have e1 : h1 35 1 = h0 35 1 := S1 35 1 rfl
  have e2 : h' 35 1 = h1 35 1 := S 35 1 rfl
  have e3 : h1 37 2 = h0 37 2 := S1 37 2 rfl
  refine ⟨?_, ?_⟩
  · unfold EnS; rw [r2, e2]; exact T.2
  · rw [r1, e1, e3] at T
    exact Or.inl ⟨rfl, W, (nx_eq hp T).symm⟩
theorem tk_no {w : Nat} {h0 h' : m_H} (hE : EnS h0) (W : ¬ isW (h0 36) (Qc h0) w) (S : FR [] [] h0 h') : EnS h' ∧ tkQ w 0 h0 h' := by
  have q : Qc h' = Qc h0 := by unfold Qc; rw [S 37 1 rfl, S 37 2 rfl]
  exact ⟨hE.fr (rowz S (fun _ => rfl)) (S 35 1 rfl) q, Or.inr ⟨rfl, W, q⟩⟩
def sdQ (w : Nat) (x : Int) (h0 : m_H) : Prop := (x = 1 ∧ isW (h0 36) (Qc h0) w) ∨ (x = 0 ∧ ¬ isW (h0 36) (Qc h0) w)
theorem sd_st {b : Nat → Int} {s l : Int} {w : Nat} (i : ∀ i : Nat, (i : Int) < l → b (s + i).toNat = sch w i) (hl : 0 ≤ l) (e : b (s + l).toNat = sch w l) : ∀ i : Nat, (i : Int) < l + 1 → b (s + i).toNat = sch w i := by
  intro k hk
  by_cases q : (k : Int) = l
  · rw [q]; exact e
  · exact i k (by omega)
theorem sd_1 {h0 : m_H} {w : Nat} {l : Int} (e : h0 37 2 - h0 37 1 = slen w) (i : ∀ i : Nat, (i : Int) < l → h0 36 (h0 37 1 + i).toNat = sch w i) (hl : slen w ≤ l) : sdQ w 1 h0 := Or.inl ⟨rfl, e, fun k hk => i k (by omega)⟩
theorem sd_0 {h0 : m_H} {w : Nat} (e : h0 37 2 - h0 37 1 ≠ slen w) : sdQ w 0 h0 := Or.inr ⟨rfl, fun z => e z.1⟩
theorem sd_2 {h0 : m_H} {w : Nat} {l : Int} (hl : 0 ≤ l) (h : l < slen w) (e : h0 36 (h0 37 1 + l).toNat ≠ sch w l) : sdQ w 0 h0 := by
  refine Or.inr ⟨rfl, fun z => e ?_⟩
  have q := z.2 l.toNat (by omega)
  have e2 : ((l.toNat : Nat) : Int) = l := by omega
  rw [e2] at q
  exact q
theorem EnS.le {h : m_H} (E : EnS h) : h 37 1 ≤ h 37 2 := by
  rcases E with ⟨_, a⟩ | ⟨_, _, a⟩ | ⟨_, _, a, _⟩ <;> omega
