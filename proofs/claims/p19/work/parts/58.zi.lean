/-! the reference's tokens: their sort and worth -/
def cW (b : Nat → Int) (s : Int) : Nat → Int
  | 0 => 0
  | k + 1 => if k < 10 then cW b s k * 32 + b (s + k).toNat - 96 else -1
def dM (b : Nat → Int) (s : Int) : Nat → Int
  | 0 => 0
  | k + 1 => if 1000000 < dM b s k then dM b s k else dM b s k * 10 + b (s + k).toNat - 48
theorem cW_10 {b : Nat → Int} {s : Int} {k : Nat} (h : 10 < k) : cW b s k = -1 := by
  obtain ⟨j, rfl⟩ : ∃ j, k = j + 1 := ⟨k - 1, by omega⟩
  unfold cW; rw [if_neg (by omega)]
theorem cW_s {b : Nat → Int} {s : Int} {k : Nat} (h : k < 10) : cW b s (k + 1) = cW b s k * 32 + b (s + k).toNat - 96 := by
  conv => lhs; unfold cW
  rw [if_pos h]
def Lt (b : Nat → Int) (s : Int) (k : Nat) : Prop := ∀ i : Nat, i < k → 97 ≤ b (s + i).toNat ∧ b (s + i).toNat ≤ 122
theorem cW_b {b : Nat → Int} {s : Int} : ∀ k : Nat, k ≤ 10 → Lt b s k → 0 ≤ cW b s k ∧ cW b s k < 32 ^ k ∧ (1 ≤ k → 32 ^ (k - 1) ≤ cW b s k)
  | 0, _, _ => ⟨Int.le_refl _, (show (0 : Int) < 1 by decide), fun h => by omega⟩
  | k + 1, hk, L => by
    obtain ⟨i1, i2, i3⟩ := cW_b k (by omega) (fun i hi => L i (by omega))
    have z := L k (by omega)
    rw [cW_s (by omega)]
    have e : (32 : Int) ^ (k + 1) = 32 ^ k * 32 := by rw [Int.pow_succ]
    refine ⟨by omega, by rw [e]; omega, fun _ => ?_⟩
    rw [show k + 1 - 1 = k by omega]
    by_cases g : 1 ≤ k
    · have e2 : (32 : Int) ^ k = 32 ^ (k - 1) * 32 := by rw [← Int.pow_succ]; congr 1; omega
      have := i3 g
      rw [e2]; omega
    · have e3 : k = 0 := by omega
      subst e3
      show (1 : Int) ≤ _
      omega
theorem cW_r {b : Nat → Int} {s : Int} {k : Nat} (L : Lt b s k) : -1 ≤ cW b s k ∧ cW b s k ≤ 1125899906842624 := by
  by_cases g : 10 < k
  · rw [cW_10 g]; decide
  · obtain ⟨i1, i2, _⟩ := cW_b k (by omega) L
    have : (32 : Int) ^ k ≤ 32 ^ 10 := by
      have h := Nat.pow_le_pow_right (show 0 < 32 by decide) (show k ≤ 10 by omega)
      exact_mod_cast h
    have e : (32 : Int) ^ 10 = 1125899906842624 := by decide
    omega
/-- which code is which word: by its letters, the last one first -/
def cod : List Int → Int
  | [] => 0
  | l :: ls => cod ls * 32 + (l - 96)
theorem spell {b : Nat → Int} {s : Int} : ∀ (ls : List Int) (k : Nat), (∀ l ∈ ls, 97 ≤ l ∧ l ≤ 122) → k ≤ 10 → ls.length ≤ 10 → Lt b s k → (cW b s k = cod ls ↔ k = ls.length ∧ ∀ i : Nat, i < ls.length → b (s + (ls.length - 1 - i : Nat)).toNat = ls.getD i 0)
  | [], 0, _, _, _, _ => by
    constructor
    · intro _; exact ⟨rfl, fun i hi => absurd hi (Nat.not_lt_zero _)⟩
    · intro _; rfl
  | [], k + 1, _, hk, _, L => by
    have z := cW_b (k + 1) hk L
    have z3 := z.2.2 (by omega)
    have p : (0 : Int) < 32 ^ (k + 1 - 1) := Int.pow_pos (by decide)
    constructor
    · intro h; rw [h] at z3; unfold cod at z3; omega
    · intro h; exact absurd h.1 (by simp)
  | l :: ls, 0, hl, _, _, _ => by
    have z := hl l List.mem_cons_self
    constructor
    · intro h
      have q : ∀ xs : List Int, (∀ x ∈ xs, 97 ≤ x ∧ x ≤ 122) → 0 ≤ cod xs := by
        intro xs
        induction xs with
        | nil => intro _; exact Int.le_refl _
        | cons x xs ih =>
          intro hx
          have a := ih (fun y hy => hx y (List.mem_cons_of_mem _ hy))
          have c := hx x List.mem_cons_self
          unfold cod; omega
      have q2 := q ls (fun y hy => hl y (List.mem_cons_of_mem _ hy))
      have h' : (0 : Int) = cod ls * 32 + (l - 96) := h
      omega
    · intro h; exact absurd h.1 (by simp)
  | l :: ls, k + 1, hl, hk, hn, L => by
    have z := hl l List.mem_cons_self
    have w := L k (by omega)
    have ih := spell ls k (fun y hy => hl y (List.mem_cons_of_mem _ hy)) (by omega) (by simp at hn; omega) (fun i hi => L i (by omega))
    rw [cW_s (by omega)]
    have e1 : cod (l :: ls) = cod ls * 32 + (l - 96) := rfl
    rw [e1]
    constructor
    · intro h
      have h1 : b (s + (k : Nat)).toNat = l := by omega
      have h2 : cW b s k = cod ls := by omega
      obtain ⟨u, v⟩ := ih.mp h2
      refine ⟨by simp [u], fun i hi => ?_⟩
      cases i with
      | zero =>
        have e2 : (l :: ls).length - 1 - 0 = k := by simp [u]
        rw [e2]; exact h1
      | succ i =>
        have hi' : i < ls.length := by simpa using hi
        have e2 : (l :: ls).length - 1 - (i + 1) = ls.length - 1 - i := by simp; omega
        rw [e2]
        exact v i hi'
    · rintro ⟨u, v⟩
      have u' : k = ls.length := by simpa using u
      have h2 : cW b s k = cod ls := ih.mpr ⟨u', fun i hi => by
        have q := v (i + 1) (by simpa using hi)
        have e2 : (l :: ls).length - 1 - (i + 1) = ls.length - 1 - i := by simp; omega
        rw [e2] at q
        exact q⟩
      have q := v 0 (by simp)
      have e2 : (l :: ls).length - 1 - 0 = k := by simp [u']
      rw [e2] at q
      have q' : b (s + (k : Nat)).toNat = l := q
      omega
/-- the digits -/
theorem dM_c {b : Nat → Int} {s : Int} : ∀ k : Nat, (∀ i : Nat, i < k → 48 ≤ b (s + i).toNat ∧ b (s + i).toNat ≤ 57) → 0 ≤ dM b s k ∧ dM b s k ≤ 10000009 ∧ ((dC b s k < 1000 ∧ dM b s k = dC b s k) ∨ (dC b s k = 1000 ∧ 1000 ≤ dM b s k))
  | 0, _ => ⟨Int.le_refl _, (show (0 : Int) ≤ 10000009 by decide), Or.inl ⟨(show (0 : Int) < 1000 by decide), rfl⟩⟩
  | k + 1, D => by
    obtain ⟨i1, i2, i3⟩ := dM_c k (fun i hi => D i (by omega))
    have c := dC_b (b := b) (s := s) k (fun j hj => (D j (by omega)).1)
    have z := D k (by omega)
    have e1 : dM b s (k + 1) = if 1000000 < dM b s k then dM b s k else dM b s k * 10 + b (s + k).toNat - 48 := rfl
    have e2 : dC b s (k + 1) = if 10 * dC b s k + b (s + k).toNat - 48 < 1000 then 10 * dC b s k + b (s + k).toNat - 48 else 1000 := rfl
    rw [e1, e2]
    by_cases g : 1000000 < dM b s k
    · rw [if_pos g]
      have g2 : dC b s k = 1000 := by omega
      rw [g2, if_neg (by omega)]
      exact ⟨i1, i2, Or.inr ⟨rfl, by omega⟩⟩
    · rw [if_neg g]
      refine ⟨by omega, by omega, ?_⟩
      by_cases g2 : 10 * dC b s k + b (s + k).toNat - 48 < 1000
      · rw [if_pos g2]; left; omega
      · rw [if_neg g2]; right; omega
def srt (b : Nat → Int) (n s : Int) : Int := if s < n then (if fam (b s.toNat) = 1 then 1 else if fam (b s.toNat) = 2 then 2 else 3) else 0
def TKm (b : Nat → Int) (n s e t w : Int) : Prop := t = srt b n s ∧ (t = 1 → w = cW b s (e - s).toNat) ∧ (t = 2 → w = dM b s (e - s).toNat) ∧ (t = 3 → w = b s.toNat)
def Qm (h : m_H) : Int × Int := (h 108 9, h 108 10)
def MTk (h : m_H) : Prop := En (h 113) (h 108 8) (h 108 9) (h 108 10) ∧ TKm (h 113) (h 108 8) (h 108 9) (h 108 10) (h 108 11) (h 108 12) ∧ h 108 9 ≤ h 108 10 ∧ h 108 10 ≤ h 108 8
theorem cod_0 : ∀ xs : List Int, (∀ x ∈ xs, 97 ≤ x ∧ x ≤ 122) → 0 ≤ cod xs
  | [], _ => Int.le_refl _
  | x :: xs, hx => by
    have a := cod_0 xs (fun y hy => hx y (List.mem_cons_of_mem _ hy))
    have c := hx x List.mem_cons_self
    unfold cod; omega
theorem srt_1 {b : Nat → Int} {n s : Int} : srt b n s = 1 ↔ s < n ∧ fam (b s.toNat) = 1 := by
  unfold srt
  by_cases h : s < n
  · rw [if_pos h]
    rcases fam_b (b s.toNat) with g | g | g
    · rw [g]; simp
    · rw [g]; simp [h]
    · rw [g]; simp
  · rw [if_neg h]; omega
theorem srt_2 {b : Nat → Int} {n s : Int} : srt b n s = 2 ↔ s < n ∧ fam (b s.toNat) = 2 := by
  unfold srt
  by_cases h : s < n
  · rw [if_pos h]
    rcases fam_b (b s.toNat) with g | g | g
    · rw [g]; simp
    · rw [g]; simp
    · rw [g]; simp [h]
  · rw [if_neg h]; omega
theorem srt_3 {b : Nat → Int} {n s : Int} : srt b n s = 3 ↔ s < n ∧ fam (b s.toNat) = 0 := by
  unfold srt
  by_cases h : s < n
  · rw [if_pos h]
    rcases fam_b (b s.toNat) with g | g | g
    · rw [g]; simp [h]
    · rw [g]; simp
    · rw [g]; simp
  · rw [if_neg h]; omega
theorem srt_0 {b : Nat → Int} {n s : Int} : srt b n s = 0 ↔ n ≤ s := by
  unfold srt
  by_cases h : s < n
  · rw [if_pos h]
    rcases fam_b (b s.toNat) with g | g | g
    · rw [g]; simp; omega
    · rw [g]; simp; omega
    · rw [g]; simp; omega
  · rw [if_neg h]; omega
theorem mw {b : Nat → Int} {n s e t v : Int} {w : Nat} (ls : List Int) (hs0 : 0 ≤ s) (E : En b n s e) (T : TKm b n s e t v) (hl : ∀ l ∈ ls, 97 ≤ l ∧ l ≤ 122) (hn : ls.length ≤ 10) (h1 : 1 ≤ ls.length) (hw : slen w = (ls.length : Nat)) (hsc : ∀ i : Nat, i < ls.length → sch w ((ls.length - 1 - i : Nat) : Int) = ls.getD i 0) (hmem : ∀ i : Nat, i < ls.length → 97 ≤ sch w (i : Int) ∧ sch w (i : Int) ≤ 122) : isW b (s, e) w ↔ (t = 1 ∧ v = cod ls) := by
  obtain ⟨t0, t1, t2, t3⟩ := T
  constructor
  · rintro ⟨u, x⟩
    have u' : e - s = (ls.length : Nat) := by rw [← hw]; exact u
    have x' : ∀ i : Nat, i < ls.length → b (s + i).toNat = sch w i := fun i hi => x i (by rw [hw]; omega)
    have b0 := x' 0 (by omega)
    have m0 := hmem 0 (by omega)
    have e0 : (s + ((0 : Nat) : Int)).toNat = s.toNat := by omega
    rw [e0] at b0
    have f0 : fam (b s.toNat) = 1 := by rw [b0]; exact fam_1 m0.1 m0.2
    have hsn : s < n := by
      rcases E with ⟨a1, a2⟩ | ⟨a1, _⟩ | ⟨a1, _⟩
      · omega
      · exact a1
      · exact a1
    have ht : t = 1 := by rw [t0]; exact srt_1.mpr ⟨hsn, f0⟩
    refine ⟨ht, ?_⟩
    rw [t1 ht, show (e - s).toNat = ls.length by omega]
    have L : Lt b s ls.length := fun i hi => by rw [x' i hi]; exact hmem i hi
    exact (spell ls ls.length hl hn hn L).mpr ⟨rfl, fun i hi => by rw [x' _ (by omega)]; exact hsc i hi⟩
  · rintro ⟨ht, hv⟩
    obtain ⟨hsn, f0⟩ := srt_1.mp (t0.symm.trans ht)
    have hE : s < e ∧ ∀ j : Nat, s ≤ (j : Int) → (j : Int) < e → fam (b j) = 1 := by
      rcases E with ⟨a1, a2⟩ | ⟨_, a2, _⟩ | ⟨_, _, a3, _, a5, _⟩
      · omega
      · omega
      · exact ⟨a3, fun j u v => (a5 j u v).trans f0⟩
    have L : Lt b s (e - s).toNat := fun i hi => fam_l.mp (hE.2 _ (by omega) (by omega))
    rw [t1 ht] at hv
    by_cases g : 10 < (e - s).toNat
    · rw [cW_10 g] at hv
      have := cod_0 ls hl
      omega
    · obtain ⟨k1, k2⟩ := (spell ls _ hl (by omega) hn L).mp hv
      refine ⟨by show e - s = slen w; rw [hw]; omega, fun i hi => ?_⟩
      show b (s + i).toNat = sch w i
      rw [hw] at hi
      have q := k2 (ls.length - 1 - i) (by omega)
      have z := hsc (ls.length - 1 - i) (by omega)
      rw [show ls.length - 1 - (ls.length - 1 - i) = i by omega] at q z
      rw [q, z]
theorem sgw {b : Nat → Int} {n s e t v c : Int} {w : Nat} (hs0 : 0 ≤ s) (E : En b n s e) (T : TKm b n s e t v) (hw : slen w = 1) (hc : sch w 0 = c) (hf : fam c = 0) : isW b (s, e) w ↔ (t = 3 ∧ v = c) := by
  obtain ⟨t0, t1, t2, t3⟩ := T
  constructor
  · rintro ⟨u, x⟩
    have u' : e - s = 1 := by rw [← hw]; exact u
    have x' := x 0 (by rw [hw]; decide)
    have e0 : (s + ((0 : Nat) : Int)).toNat = s.toNat := by omega
    have b0 : b s.toNat = c := by rw [← e0]; exact x'.trans hc
    have hsn : s < n := by
      rcases E with ⟨a1, a2⟩ | ⟨a1, _⟩ | ⟨a1, _⟩
      · omega
      · exact a1
      · exact a1
    have ht : t = 3 := by rw [t0]; exact srt_3.mpr ⟨hsn, by rw [b0]; exact hf⟩
    exact ⟨ht, (t3 ht).trans b0⟩
  · rintro ⟨ht, hv⟩
    obtain ⟨hsn, f0⟩ := srt_3.mp (t0.symm.trans ht)
    have he : e = s + 1 := by
      rcases E with ⟨a1, a2⟩ | ⟨_, _, a3⟩ | ⟨_, a2, _⟩
      · omega
      · exact a3
      · exact absurd f0 a2
    refine ⟨by show e - s = slen w; rw [hw]; omega, fun i hi => ?_⟩
    rw [hw] at hi
    have hi0 : i = 0 := by omega
    subst hi0
    show b (s + ((0 : Nat) : Int)).toNat = sch w 0
    rw [show (s + ((0 : Nat) : Int)).toNat = s.toNat by omega, hc, ← hv]; exact (t3 ht).symm
theorem nk {b : Nat → Int} {n s e t v lo hi : Int} (hs0 : 0 ≤ s) (E : En b n s e) (T : TKm b n s e t v) (h0 : 0 ≤ lo) (h1 : hi ≤ 999) : (nOk b n (s, e) lo hi ↔ (t = 2 ∧ lo ≤ v ∧ v ≤ hi)) ∧ ((t = 2 ∧ lo ≤ v ∧ v ≤ hi) → v = num b (s, e)) := by
  obtain ⟨t0, t1, t2, t3⟩ := T
  have key : s < n → fam (b s.toNat) = 2 → (dC b s (e - s).toNat < 1000 ∧ dM b s (e - s).toNat = dC b s (e - s).toNat) ∨ (dC b s (e - s).toNat = 1000 ∧ 1000 ≤ dM b s (e - s).toNat) := fun hsn f0 => by
    have hE : ∀ j : Nat, s ≤ (j : Int) → (j : Int) < e → fam (b j) = 2 := by
      rcases E with ⟨a1, a2⟩ | ⟨_, a2, _⟩ | ⟨_, _, a3, _, a5, _⟩
      · omega
      · omega
      · exact fun j u v => (a5 j u v).trans f0
    exact (dM_c _ (fun i hi => fam_d.mp (hE _ (by omega) (by omega)))).2.2
  have nn : num b (s, e) = dC b s (e - s).toNat := rfl
  refine ⟨⟨?_, ?_⟩, ?_⟩
  · rintro ⟨a1, a2, a3, a4⟩
    have ht : t = 2 := by rw [t0]; exact srt_2.mpr ⟨a1, a2⟩
    rw [nn] at a3 a4
    rw [t2 ht]
    rcases key a1 a2 with ⟨k1, k2⟩ | ⟨k1, k2⟩
    · exact ⟨ht, by omega, by omega⟩
    · omega
  · rintro ⟨ht, a3, a4⟩
    obtain ⟨a1, a2⟩ := srt_2.mp (t0.symm.trans ht)
    rw [t2 ht] at a3 a4
    refine ⟨a1, a2, ?_, ?_⟩ <;> rw [nn] <;> rcases key a1 a2 with ⟨k1, k2⟩ | ⟨k1, k2⟩ <;> omega
  · rintro ⟨ht, a3, a4⟩
    obtain ⟨a1, a2⟩ := srt_2.mp (t0.symm.trans ht)
    rw [t2 ht] at a3 a4
    rw [t2 ht, nn]
    rcases key a1 a2 with ⟨k1, k2⟩ | ⟨k1, k2⟩ <;> omega
theorem mw_0 {h : m_H} (M : MTk h) (h0 : 0 ≤ h 108 9) : isW (h 113) (Qm h) 0 ↔ (h 108 11 = 1 ∧ h 108 12 = 758955) := mw [107, 101, 101, 119] h0 M.1 M.2.1 (by decide) (by decide) (by decide) (by decide +kernel) (by decide +kernel) (by decide +kernel)
theorem mw_1 {h : m_H} (M : MTk h) (h0 : 0 ≤ h 108 9) : isW (h 113) (Qm h) 1 ↔ (h 108 11 = 1 ∧ h 108 12 = 655) := mw [111, 116] h0 M.1 M.2.1 (by decide) (by decide) (by decide) (by decide +kernel) (by decide +kernel) (by decide +kernel)
theorem mw_2 {h : m_H} (M : MTk h) (h0 : 0 ≤ h 108 9) : isW (h 113) (Qm h) 2 ↔ (h 108 11 = 1 ∧ h 108 12 = 89) := mw [121, 98] h0 M.1 M.2.1 (by decide) (by decide) (by decide) (by decide +kernel) (by decide +kernel) (by decide +kernel)
theorem mw_3 {h : m_H} (M : MTk h) (h0 : 0 ≤ h 108 9) : isW (h 113) (Qm h) 3 ↔ (h 108 11 = 1 ∧ h 108 12 = 485571737) := mw [121, 100, 111, 98, 111, 110] h0 M.1 M.2.1 (by decide) (by decide) (by decide) (by decide +kernel) (by decide +kernel) (by decide +kernel)
theorem mw_4 {h : m_H} (M : MTk h) (h0 : 0 ≤ h 108 9) : isW (h 113) (Qm h) 4 ↔ (h 108 11 = 1 ∧ h 108 12 = 21243335) := mw [103, 110, 105, 104, 116] h0 M.1 M.2.1 (by decide) (by decide) (by decide) (by decide +kernel) (by decide +kernel) (by decide +kernel)
theorem mw_5 {h : m_H} (M : MTk h) (h0 : 0 ≤ h 108 9) : isW (h 113) (Qm h) 5 ↔ (h 108 11 = 1 ∧ h 108 12 = 3764) := mw [116, 117, 99] h0 M.1 M.2.1 (by decide) (by decide) (by decide) (by decide +kernel) (by decide +kernel) (by decide +kernel)
theorem mw_6 {h : m_H} (M : MTk h) (h0 : 0 ≤ h 108 9) : isW (h 113) (Qm h) 6 ↔ (h 108 11 = 1 ∧ h 108 12 = 14866610) := mw [114, 101, 118, 101, 110] h0 M.1 M.2.1 (by decide) (by decide) (by decide) (by decide +kernel) (by decide +kernel) (by decide +kernel)
theorem mw_7 {h : m_H} (M : MTk h) (h0 : 0 ≤ h 108 9) : isW (h 113) (Qm h) 7 ↔ (h 108 11 = 1 ∧ h 108 12 = 302) := mw [110, 105] h0 M.1 M.2.1 (by decide) (by decide) (by decide) (by decide +kernel) (by decide +kernel) (by decide +kernel)
theorem mw_8 {h : m_H} (M : MTk h) (h0 : 0 ≤ h 108 9) : isW (h 113) (Qm h) 8 ↔ (h 108 11 = 1 ∧ h 108 12 = 307) := mw [115, 105] h0 M.1 M.2.1 (by decide) (by decide) (by decide) (by decide +kernel) (by decide +kernel) (by decide +kernel)
theorem mw_9 {h : m_H} (M : MTk h) (h0 : 0 ≤ h 108 9) : isW (h 113) (Qm h) 9 ↔ (h 108 11 = 1 ∧ h 108 12 = 24395141) := mw [101, 108, 111, 104, 119] h0 M.1 M.2.1 (by decide) (by decide) (by decide) (by decide +kernel) (by decide +kernel) (by decide +kernel)
theorem mw_10 {h : m_H} (M : MTk h) (h0 : 0 ≤ h 108 9) : isW (h 113) (Qm h) 10 ↔ (h 108 11 = 1 ∧ h 108 12 = 263558) := mw [102, 108, 97, 104] h0 M.1 M.2.1 (by decide) (by decide) (by decide) (by decide +kernel) (by decide +kernel) (by decide +kernel)
theorem mw_11 {h : m_H} (M : MTk h) (h0 : 0 ≤ h 108 9) : isW (h 113) (Qm h) 11 ↔ (h 108 11 = 1 ∧ h 108 12 = 6030452) := mw [116, 99, 97, 120, 101] h0 M.1 M.2.1 (by decide) (by decide) (by decide) (by decide +kernel) (by decide +kernel) (by decide +kernel)
theorem mw_12 {h : m_H} (M : MTk h) (h0 : 0 ≤ h 108 9) : isW (h 113) (Qm h) 12 ↔ (h 108 11 = 3 ∧ h 108 12 = 44) := sgw h0 M.1 M.2.1 (by decide +kernel) (by decide +kernel) (by decide)
theorem mw_13 {h : m_H} (M : MTk h) (h0 : 0 ≤ h 108 9) : isW (h 113) (Qm h) 13 ↔ (h 108 11 = 1 ∧ h 108 12 = 374522034) := mw [114, 101, 112, 101, 101, 107] h0 M.1 M.2.1 (by decide) (by decide) (by decide) (by decide +kernel) (by decide +kernel) (by decide +kernel)
theorem mw_14 {h : m_H} (M : MTk h) (h0 : 0 ≤ h 108 9) : isW (h 113) (Qm h) 14 ↔ (h 108 11 = 1 ∧ h 108 12 = 2273783) := mw [119, 111, 108, 101, 98] h0 M.1 M.2.1 (by decide) (by decide) (by decide) (by decide +kernel) (by decide +kernel) (by decide +kernel)
theorem mw_15 {h : m_H} (M : MTk h) (h0 : 0 ≤ h 108 9) : isW (h 113) (Qm h) 15 ↔ (h 108 11 = 3 ∧ h 108 12 = 59) := sgw h0 M.1 M.2.1 (by decide +kernel) (by decide +kernel) (by decide)
def Dg (b : Nat → Int) (s : Int) (k : Nat) : Prop := ∀ i : Nat, i < k → 48 ≤ b (s + i).toNat ∧ b (s + i).toNat ≤ 57
def M1 (b : Nat → Int) (n s e t w : Int) : Prop := (t = 0 ∧ n ≤ s ∧ e = s) ∨ (t = 3 ∧ s < n ∧ fam (b s.toNat) = 0 ∧ e = s + 1 ∧ w = b s.toNat) ∨ (t = 2 ∧ s < n ∧ fam (b s.toNat) = 2 ∧ e = s ∧ w = 0) ∨ (t = 1 ∧ s < n ∧ fam (b s.toNat) = 1 ∧ s ≤ e ∧ e ≤ n ∧ Lt b s (e - s).toNat ∧ w = cW b s (e - s).toNat)
def M2 (b : Nat → Int) (n s e t w : Int) : Prop := (t = 0 ∧ n ≤ s ∧ e = s) ∨ (t = 3 ∧ s < n ∧ fam (b s.toNat) = 0 ∧ e = s + 1 ∧ w = b s.toNat) ∨ (t = 1 ∧ s < n ∧ fam (b s.toNat) = 1 ∧ s < e ∧ e ≤ n ∧ Lt b s (e - s).toNat ∧ w = cW b s (e - s).toNat ∧ (e < n → fam (b e.toNat) ≠ 1)) ∨ (t = 2 ∧ s < n ∧ fam (b s.toNat) = 2 ∧ s ≤ e ∧ e ≤ n ∧ Dg b s (e - s).toNat ∧ w = dM b s (e - s).toNat)
theorem M1_0 {b : Nat → Int} {n s w : Int} (h : n ≤ s) : M1 b n s s 0 w := Or.inl ⟨rfl, h, rfl⟩
theorem M1_1 {b : Nat → Int} {n s x : Int} (h : s < n) (eb : b s.toNat = x) (c : 97 ≤ x ∧ x ≤ 122) : M1 b n s s 1 0 := by
  refine Or.inr (Or.inr (Or.inr ⟨rfl, h, by rw [eb]; exact fam_1 c.1 c.2, Int.le_refl _, by omega, ?_, ?_⟩))
  · rw [Int.sub_self]; exact fun i hi => absurd hi (Nat.not_lt_zero _)
  · rw [Int.sub_self]; rfl
theorem M1_2 {b : Nat → Int} {n s x : Int} (h : s < n) (eb : b s.toNat = x) (c : 48 ≤ x ∧ x ≤ 57) : M1 b n s s 2 0 := Or.inr (Or.inr (Or.inl ⟨rfl, h, by rw [eb]; exact fam_2 c.1 c.2, rfl, rfl⟩))
theorem M1_3 {b : Nat → Int} {n s x : Int} (h : s < n) (eb : b s.toNat = x) (c : ¬ (97 ≤ x ∧ x ≤ 122)) (d : ¬ (48 ≤ x ∧ x ≤ 57)) : M1 b n s (s + 1) 3 x := Or.inr (Or.inl ⟨rfl, h, by rw [eb]; exact fam_0 c d, rfl, eb.symm⟩)
theorem M1_s {b : Nat → Int} {n s e t w w' x : Int} (i : M1 b n s e t w) (hs : 0 ≤ s) (ht : t = 1) (he : e < n) (eb : b e.toNat = x) (c : 97 ≤ x ∧ x ≤ 122) (hw : (e - s < 10 ∧ w' = w * 32 + x - 96) ∨ (10 ≤ e - s ∧ w' = -1)) : M1 b n s (e + 1) t w' ∧ (-1 ≤ w' ∧ w' ≤ 1125899906842624) := by
  rcases i with ⟨a, _⟩ | ⟨a, _⟩ | ⟨a, _⟩ | ⟨_, i1, i2, i3, i4, i5, i6⟩
  · omega
  · omega
  · omega
  have e1 : (e + 1 - s).toNat = (e - s).toNat + 1 := by omega
  have e2 : (s + ((e - s).toNat : Nat)).toNat = e.toNat := by omega
  have L : Lt b s (e + 1 - s).toNat := by
    rw [e1]
    intro j hj
    by_cases g : j = (e - s).toNat
    · rw [g, e2, eb]; exact c
    · exact i5 j (by omega)
  have v : w' = cW b s (e + 1 - s).toNat := by
    rw [e1]
    rcases hw with ⟨g, q⟩ | ⟨g, q⟩
    · rw [cW_s (by omega), e2, eb, ← i6]; exact q
    · rw [cW_10 (by omega)]; exact q
  exact ⟨Or.inr (Or.inr (Or.inr ⟨ht, i1, i2, by omega, by omega, L, v⟩)), by rw [v]; exact cW_r L⟩
theorem M1_e {b : Nat → Int} {n s e t w : Int} (i : M1 b n s e t w) (hs : 0 ≤ s) (h : t = 1 → e < n → fam (b e.toNat) ≠ 1) : M2 b n s e t w := by
  rcases i with a | a | ⟨a, i1, i2, i3, i4⟩ | ⟨a, i1, i2, i3, i4, i5, i6⟩
  · exact Or.inl a
  · exact Or.inr (Or.inl a)
  · refine Or.inr (Or.inr (Or.inr ⟨a, i1, i2, by omega, by omega, ?_, ?_⟩))
    · rw [i3, Int.sub_self]; exact fun i hi => absurd hi (Nat.not_lt_zero _)
    · rw [i3, Int.sub_self]; exact i4
  · refine Or.inr (Or.inr (Or.inl ⟨a, i1, i2, ?_, i4, i5, i6, h a⟩))
    by_cases g : s = e
    · rw [g] at i1 i2; exact absurd i2 (h a i1)
    · omega
theorem M2_s {b : Nat → Int} {n s e t w w' x : Int} (i : M2 b n s e t w) (hs : 0 ≤ s) (ht : t = 2) (he : e < n) (eb : b e.toNat = x) (c : 48 ≤ x ∧ x ≤ 57) (hw : (1000000 < w ∧ w' = w) ∨ (w ≤ 1000000 ∧ w' = w * 10 + x - 48)) : M2 b n s (e + 1) t w' ∧ (-1 ≤ w' ∧ w' ≤ 1125899906842624) := by
  rcases i with ⟨a, _⟩ | ⟨a, _⟩ | ⟨a, _⟩ | ⟨_, i1, i2, i3, i4, i5, i6⟩
  · omega
  · omega
  · omega
  have e1 : (e + 1 - s).toNat = (e - s).toNat + 1 := by omega
  have e2 : (s + ((e - s).toNat : Nat)).toNat = e.toNat := by omega
  have L : Dg b s (e + 1 - s).toNat := by
    rw [e1]
    intro j hj
    by_cases g : j = (e - s).toNat
    · rw [g, e2, eb]; exact c
    · exact i5 j (by omega)
  have v : w' = dM b s (e + 1 - s).toNat := by
    rw [e1]
    show w' = if 1000000 < dM b s (e - s).toNat then _ else dM b s (e - s).toNat * 10 + b (s + ((e - s).toNat : Nat)).toNat - 48
    rw [e2, eb, ← i6]
    rcases hw with ⟨g, q⟩ | ⟨g, q⟩
    · rw [if_pos g]; exact q
    · rw [if_neg (by omega)]; exact q
  have z := dM_c _ L
  exact ⟨Or.inr (Or.inr (Or.inr ⟨ht, i1, i2, by omega, by omega, L, v⟩)), by rw [v]; omega⟩
theorem M2_e {b : Nat → Int} {n p s e t w : Int} {h' : m_H} (K : Sk b n p s) (i : M2 b n s e t w) (hs : 0 ≤ s) (hl : s ≤ e ∧ e ≤ n) (h : t = 2 → e < n → fam (b e.toNat) ≠ 2) (r : h' 113 = b) (e8 : h' 108 8 = n) (e9 : h' 108 9 = s) (e10 : h' 108 10 = e) (e11 : h' 108 11 = t) (e12 : h' 108 12 = w) : Tok b n p (Qm h') ∧ MTk h' := by
  have E : En b n s e := by
    rcases i with ⟨a, i1, i2⟩ | ⟨a, i1, i2, i3, i4⟩ | ⟨a, i1, i2, i3, i4, i5, i6, i7⟩ | ⟨a, i1, i2, i3, i4, i5, i6⟩
    · exact Or.inl ⟨i1, i2⟩
    · exact Or.inr (Or.inl ⟨i1, i2, i3⟩)
    · refine Or.inr (Or.inr ⟨i1, by omega, i3, i4, fun j u v => ?_, fun u => by rw [i2]; exact i7 u⟩)
      have z := i5 (j - s.toNat) (by omega)
      rw [show (s + ((j - s.toNat : Nat) : Int)).toNat = j by omega] at z
      rw [i2]; exact fam_1 z.1 z.2
    · have g : s < e := by
        by_cases g : s = e
        · rw [g] at i1 i2; exact absurd i2 (h a i1)
        · omega
      refine Or.inr (Or.inr ⟨i1, by omega, g, i4, fun j u v => ?_, fun u => by rw [i2]; exact h a u⟩)
      have z := i5 (j - s.toNat) (by omega)
      rw [show (s + ((j - s.toNat : Nat) : Int)).toNat = j by omega] at z
      rw [i2]; exact fam_2 z.1 z.2
  have T : TKm b n s e t w := by
    rcases i with ⟨a, i1, i2⟩ | ⟨a, i1, i2, i3, i4⟩ | ⟨a, i1, i2, i3, i4, i5, i6, i7⟩ | ⟨a, i1, i2, i3, i4, i5, i6⟩
    · exact ⟨by rw [a, srt_0.mpr i1], fun z => by omega, fun z => by omega, fun z => by omega⟩
    · exact ⟨by rw [a, srt_3.mpr ⟨i1, i2⟩], fun z => by omega, fun z => by omega, fun _ => i4⟩
    · exact ⟨by rw [a, srt_1.mpr ⟨i1, i2⟩], fun _ => i6, fun z => by omega, fun z => by omega⟩
    · exact ⟨by rw [a, srt_2.mpr ⟨i1, i2⟩], fun z => by omega, fun _ => i6, fun z => by omega⟩
  refine ⟨?_, ?_⟩
  · show Tok b n p (h' 108 9, h' 108 10)
    rw [e9, e10]; exact ⟨K, E⟩
  · unfold MTk
    rw [r, e8, e9, e10, e11, e12]; exact ⟨E, T, hl.1, hl.2⟩
theorem M1_3' {b : Nat → Int} {n s x y : Int} (h : s < n) (eb : b s.toNat = x) (eb2 : b s.toNat = y) (c : ¬ (97 ≤ x ∧ x ≤ 122)) (d : ¬ (48 ≤ x ∧ x ≤ 57)) : M1 b n s (s + 1) 3 y := by
  have e : y = x := eb2.symm.trans eb
  rw [e]; exact M1_3 h eb c d
theorem MTk.lt {h : m_H} (M : MTk h) (hs : h 108 11 ≠ 0) : h 108 9 < h 108 10 := by
  have a := M.2.1.1
  rcases M.1 with ⟨u, v⟩ | ⟨u, v, w⟩ | ⟨u, v, w, _⟩
  · exact absurd (a.trans (srt_0.mpr u)) hs
  · omega
  · exact w
theorem MTk.same {h h' : m_H} (M : MTk h) (e1 : h' 113 = h 113) (e2 : ∀ j, 8 ≤ j → j ≤ 12 → h' 108 j = h 108 j) : MTk h' := by
  unfold MTk
  rw [e1, e2 8 (by decide) (by decide), e2 9 (by decide) (by decide), e2 10 (by decide) (by decide), e2 11 (by decide) (by decide), e2 12 (by decide) (by decide)]
  exact M
theorem MTk.end {h : m_H} (M : MTk h) : h 108 11 = 0 ↔ h 108 8 ≤ h 108 9 := by rw [M.2.1.1]; exact srt_0
theorem iw_c {h : m_H} {b : Nat → Int} {q : Int × Int} {w : Nat} {P : Prop} (eb : h 113 = b) (eq : Qm h = q) (m : isW (h 113) (Qm h) w ↔ P) : isW b q w ↔ P := by subst eb eq; exact m
theorem nx_m {h h' : m_H} {b : Nat → Int} {n : Int} {q : Int × Int} (eb : h 113 = b) (en : h 108 8 = n) (eq : Qm h = q) (h0 : 0 ≤ h 108 10) (T : Tok (h 113) (h 108 8) (h 108 10) (Qm h')) : Qm h' = nxt b n q := by
  subst eb en eq
  exact (nx_eq h0 T).symm
/-! the acts that are drafted, done to a row -/
def act1 (k a b c d : Int) (r : Nat → Int) : Nat → Int := if k = 0 then rW r a b c else if k = 1 then rS r a b else if k = 2 then rU r (42 + a).toNat b else rE r a b c d
def apA (f : Nat → Int) : Nat → (Nat → Int) → (Nat → Int)
  | 0, r => r
  | k + 1, r => act1 (f (5 * k)) (f (5 * k + 1)) (f (5 * k + 2)) (f (5 * k + 3)) (f (5 * k + 4)) (apA f k r)
def vr (h : m_H) : Nat → Int := apA (h 114) (h 108 16).toNat (h 110)
theorem apA_c {f f' : Nat → Int} {r : Nat → Int} : ∀ k, (∀ j, j < 5 * k → f' j = f j) → apA f' k r = apA f k r
  | 0, _ => rfl
  | k + 1, e => by
    show act1 _ _ _ _ _ (apA f' k r) = act1 _ _ _ _ _ (apA f k r)
    rw [apA_c k (fun j hj => e j (by omega)), e _ (by omega), e _ (by omega), e _ (by omega), e _ (by omega), e _ (by omega)]
theorem vr_S {cs : List Nat} {ss : List (Nat × Nat)} {h h' : m_H} (S : FR cs ss h h') (e1 : ∀ j, fr cs ss 114 j = false) (e2 : fr cs ss 108 16 = false) (e3 : ∀ j, fr cs ss 110 j = false) : vr h' = vr h := by
  unfold vr
  rw [rowz S e1, rowz S e3, S _ _ e2]
theorem vr_up {h h' : m_H} {j : Nat} {v : Int} (E : h' = m_up h 108 j v) (hj : j ≠ 16) : vr h' = vr h := by
  unfold vr
  rw [tl_r E (show 114 ≠ 108 by decide), tl_r E (show 110 ≠ 108 by decide), upN E (fun z => hj z.2.symm)]
theorem vr_act {h h' : m_H} {k a b c d : Int} {cs : List Nat} {ss : List (Nat × Nat)} (p : actQ h h' k a b c d) (hb : h 108 14 = 0) (h0 : 0 ≤ h 108 16) (S : FR cs ss h h') (e3 : ∀ j, fr cs ss 110 j = false) : vr h' = act1 k a b c d (vr h) := by
  rcases p with ⟨z, _⟩ | ⟨_, p1, ⟨q0, q1, q2, q3, q4⟩, p3, _⟩
  · exact absurd hb z
  · unfold vr
    rw [rowz S e3, p1, show (h 108 16 + 1).toNat = (h 108 16).toNat + 1 by omega]
    show act1 _ _ _ _ _ (apA (h' 114) _ _) = _
    rw [q0, q1, q2, q3, q4, apA_c _ p3]
theorem act1_0 {k a b c d : Int} {r : Nat → Int} : act1 k a b c d r 0 = r 0 + (if k = 3 then 1 else 0) ∨ ¬ okA k a b c d := by
  by_cases ok : okA k a b c d
  · left
    unfold okA at ok
    unfold act1
    rcases ok with ⟨e, u1, u2, u3⟩ | ⟨e, u1, u2⟩ | ⟨e, u1, u2⟩ | ⟨e, _⟩
    · rw [if_pos e, if_neg (by omega)]; unfold rW; rw [if_neg (by omega)]; omega
    · rw [if_neg (by omega), if_pos e, if_neg (by omega)]; unfold rS; rw [if_neg (by decide), if_neg (by omega), if_neg (by omega)]; omega
    · rw [if_neg (by omega), if_neg (by omega), if_pos e, if_neg (by omega)]; unfold rU; rw [if_neg (by omega)]; omega
    · rw [if_neg (by omega), if_neg (by omega), if_neg (by omega), if_pos e]; rfl
  · exact Or.inr ok
theorem act1_1 {k a b c d : Int} {r : Nat → Int} : act1 k a b c d r 1 = r 1 + (if k = 1 then 1 else 0) ∨ ¬ okA k a b c d := by
  by_cases ok : okA k a b c d
  · left
    unfold okA at ok
    unfold act1
    rcases ok with ⟨e, u1, u2, u3⟩ | ⟨e, u1, u2⟩ | ⟨e, u1, u2⟩ | ⟨e, _⟩
    · rw [if_pos e, if_neg (by omega)]; unfold rW; rw [if_neg (by omega)]; omega
    · rw [if_neg (by omega), if_pos e, if_pos e]; rfl
    · rw [if_neg (by omega), if_neg (by omega), if_pos e, if_neg (by omega)]; unfold rU; rw [if_neg (by omega)]; omega
    · rw [if_neg (by omega), if_neg (by omega), if_neg (by omega), if_neg (by omega)]; unfold rE; rw [if_neg (by decide), if_neg (by omega), if_neg (by omega), if_neg (by omega), if_neg (by omega), if_neg (by omega)]; omega
  · exact Or.inr ok
theorem apA_01 {h : m_H} {r : Nat → Int} : ∀ k : Nat, (∀ j : Nat, j < k → aK h j) → apA (h 114) k r 0 = r 0 + cN 3 h k ∧ apA (h 114) k r 1 = r 1 + cN 1 h k
  | 0, _ => ⟨(Int.add_zero _).symm, (Int.add_zero _).symm⟩
  | k + 1, A => by
    obtain ⟨i0, i1⟩ := apA_01 (r := r) k (fun j hj => A j (by omega))
    have ok := A k (by omega)
    unfold aK at ok
    have z0 := (act1_0 (r := apA (h 114) k r)).resolve_right (fun z => z ok)
    have z1 := (act1_1 (r := apA (h 114) k r)).resolve_right (fun z => z ok)
    refine ⟨?_, ?_⟩
    · show act1 _ _ _ _ _ (apA (h 114) k r) 0 = _
      rw [z0, i0]; simp only [cN]; omega
    · show act1 _ _ _ _ _ (apA (h 114) k r) 1 = _
      rw [z1, i1]; simp only [cN]; omega
theorem vr_01 {h : m_H} (A : AI h) : vr h 0 = h 110 0 + h 108 17 ∧ vr h 1 = h 110 1 + h 108 18 := by
  have z := apA_01 (h := h) (r := h 110) (h 108 16).toNat (fun j hj => A.1 j (by omega))
  unfold vr
  rw [z.1, z.2, A.2.1, A.2.2.1]; exact ⟨rfl, rfl⟩
