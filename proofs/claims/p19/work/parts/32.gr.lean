/-! ===== the model's graph ===== -/
def AR (h : m_H) (L : List gE) : Prop := h 108 21 = (L.length : Int) ∧ ∀ (i : Nat) (q : gE), L[i]? = some q → h 117 i = (q.1.1 : Int) ∧ h 118 i = (q.1.2 : Int) ∧ h 119 i = q.2.1 ∧ h 120 i = q.2.2.1 ∧ h 121 i = q.2.2.2
theorem AR.same {h h' : m_H} {L : List gE} (A : AR h L) (e0 : h' 108 21 = h 108 21) (e1 : ∀ j, h' 117 j = h 117 j) (e2 : ∀ j, h' 118 j = h 118 j) (e3 : ∀ j, h' 119 j = h 119 j) (e4 : ∀ j, h' 120 j = h 120 j) (e5 : ∀ j, h' 121 j = h 121 j) : AR h' L := by
  refine ⟨by rw [e0]; exact A.1, fun i q hq => ?_⟩
  rw [e1, e2, e3, e4, e5]; exact A.2 i q hq
theorem AR.call {h h' : m_H} {L : List gE} {cs : List Nat} {ss : List (Nat × Nat)} (A : AR h L) (S : FR cs ss h h') (e0 : fr cs ss 108 21 = false) (e1 : ∀ j, fr cs ss 117 j = false) (e2 : ∀ j, fr cs ss 118 j = false) (e3 : ∀ j, fr cs ss 119 j = false) (e4 : ∀ j, fr cs ss 120 j = false) (e5 : ∀ j, fr cs ss 121 j = false) : AR h' L :=
  A.same (S _ _ e0) (fun j => S _ _ (e1 j)) (fun j => S _ _ (e2 j)) (fun j => S _ _ (e3 j)) (fun j => S _ _ (e4 j)) (fun j => S _ _ (e5 j))
theorem AR_at {h : m_H} {L : List gE} {e n : Int} (A : AR h L) (h0 : 0 ≤ e) (en : h 108 21 = n) (hn : e < n) : ∃ q, L[e.toNat]? = some q ∧ q ∈ L ∧ h 117 e.toNat = (q.1.1 : Int) ∧ h 118 e.toNat = (q.1.2 : Int) ∧ h 119 e.toNat = q.2.1 ∧ h 120 e.toNat = q.2.2.1 ∧ h 121 e.toNat = q.2.2.2 := by
  have hl : e.toNat < L.length := by have := A.1; omega
  refine ⟨L[e.toNat], List.getElem?_eq_getElem hl, List.getElem_mem hl, ?_⟩
  exact A.2 _ _ (List.getElem?_eq_getElem hl)
def edQ (h h' : m_H) (a b u l o : Int) : Prop := h' 108 21 = h 108 21 + 1 ∧ (h' 117 (h 108 21).toNat = a ∧ h' 118 (h 108 21).toNat = b ∧ h' 119 (h 108 21).toNat = u ∧ h' 120 (h 108 21).toNat = l ∧ h' 121 (h 108 21).toNat = o) ∧ ∀ j, j < (h 108 21).toNat → h' 117 j = h 117 j ∧ h' 118 j = h 118 j ∧ h' 119 j = h 119 j ∧ h' 120 j = h 120 j ∧ h' 121 j = h 121 j
theorem edQ_of {h h1 h2 h3 h4 h5 h6 : m_H} {y a b u l o : Int} (ey : h 108 21 = y) (E1 : h1 = m_up h 117 y.toNat a) (E2 : h2 = m_up h1 118 y.toNat b) (E3 : h3 = m_up h2 119 y.toNat u) (E4 : h4 = m_up h3 120 y.toNat l) (E5 : h5 = m_up h4 121 y.toNat o) (E6 : h6 = m_up h5 108 21 (y + 1)) : edQ h h6 a b u l o := by
  subst ey
  unfold edQ
  generalize hn : (h 108 21).toNat = n at E1 E2 E3 E4 E5 ⊢
  subst E6; subst E5; subst E4; subst E3; subst E2; subst E1
  refine ⟨by simp [m_up], ?_, fun j hj => ?_⟩
  · refine ⟨?_, ?_, ?_, ?_, ?_⟩ <;> simp [m_up]
  · have q0 : j ≠ n := by omega
    refine ⟨?_, ?_, ?_, ?_, ?_⟩ <;> simp [m_up, q0]
theorem AR_push {h h' : m_H} {L : List gE} {a b u l o : Int} (A : AR h L) (Q : edQ h h' a b u l o) (ha : 0 ≤ a) (hb : 0 ≤ b) : AR h' (L ++ [((a.toNat, b.toNat), (u, l, o))]) := by
  obtain ⟨q1, q2, q3⟩ := Q
  have hn : (h 108 21).toNat = L.length := by have := A.1; omega
  rw [hn] at q2 q3
  refine ⟨by rw [q1, A.1]; simp, fun i q hq => ?_⟩
  by_cases hi : i < L.length
  · rw [List.getElem?_append_left hi] at hq
    obtain ⟨z1, z2, z3, z4, z5⟩ := q3 i hi
    rw [z1, z2, z3, z4, z5]
    exact A.2 i q hq
  · rw [List.getElem?_append_right (by omega)] at hq
    have hi2 : i - L.length = 0 := by
      have := (List.getElem?_eq_some_iff.mp hq).1
      simp at this
      omega
    rw [hi2] at hq
    have e1 : i = L.length := by omega
    cases hq
    subst e1
    obtain ⟨z1, z2, z3, z4, z5⟩ := q2
    exact ⟨by rw [z1]; show a = ((a.toNat : Nat) : Int); omega, by rw [z2]; show b = ((b.toNat : Nat) : Int); omega, z3, z4, z5⟩
/-! as the row tells it -/
def cS (row : Nat → Int) : Nat → Int
  | 0 => 0
  | e + 1 => m_or (cS row e) (if row (5 * e + 84) = 1 then m_shl 1 e else 0)
def cF (row : Nat → Int) : Int := cS row (row 0).toNat
theorem cS_1 {row : Nat → Int} {c e x s r : Int} (h0 : 0 ≤ e) (I : c = cS row e.toNat) (ex : row (80 + 5 * e + 4).toNat = x) (hx : x = 1) (es : m_shl 1 e = s) (er : m_or c s = r) : r = cS row (e + 1).toNat := by
  have n1 : (e + 1).toNat = e.toNat + 1 := by omega
  have n2 : (80 + 5 * e + 4).toNat = 5 * e.toNat + 84 := by omega
  have n3 : ((e.toNat : Nat) : Int) = e := by omega
  rw [n2] at ex
  rw [n1]; simp only [cS]
  rw [ex, if_pos hx, n3, es, ← I, er]
theorem cS_0 {row : Nat → Int} {c e x r : Int} (h0 : 0 ≤ e) (I : c = cS row e.toNat) (ex : row (80 + 5 * e + 4).toNat = x) (hx : x ≠ 1) (er : m_or c 0 = r) : r = cS row (e + 1).toNat := by
  have n1 : (e + 1).toNat = e.toNat + 1 := by omega
  have n2 : (80 + 5 * e + 4).toNat = 5 * e.toNat + 84 := by omega
  rw [n2] at ex
  rw [n1]; simp only [cS]
  rw [ex, if_neg hx, ← I, er]
def asQ (h h' : m_H) (n m : Int) : Prop := (∀ j : Nat, (j : Int) < n → h' 122 j = h 110 (10 + j)) ∧ ∀ j : Nat, (j : Int) < m → h' 123 j = h 110 (42 + j)
theorem as_1 {h0 h h' : m_H} {l x : Int} (h1 : 0 ≤ l) (I : asQ h0 h l 0) (ex : h0 110 (10 + l).toNat = x) (E : h' = m_up h 122 l.toNat x) : asQ h0 h' (l + 1) 0 := by
  refine ⟨fun j hj => ?_, fun j hj => by omega⟩
  by_cases q : (j : Int) = l
  · have n1 : (10 + l).toNat = 10 + j := by omega
    have n2 : l.toNat = j := by omega
    rw [n2] at E; rw [n1] at ex
    rw [upE E, ex]
  · rw [upN E (fun z => by have := z.2; omega)]; exact I.1 j (by omega)
theorem as_2 {h0 h h' : m_H} {l x : Int} (h1 : 0 ≤ l) (I : asQ h0 h 32 l) (ex : h0 110 (42 + l).toNat = x) (E : h' = m_up h 123 l.toNat x) : asQ h0 h' 32 (l + 1) := by
  refine ⟨fun j hj => ?_, fun j hj => ?_⟩
  · rw [upN E (fun z => absurd z.1 (by decide))]; exact I.1 j hj
  · by_cases q : (j : Int) = l
    · have n1 : (42 + l).toNat = 42 + j := by omega
      have n2 : l.toNat = j := by omega
      rw [n2] at E; rw [n1] at ex
      rw [upE E, ex]
    · rw [upN E (fun z => by have := z.2; omega)]; exact I.2 j (by omega)
def eOf (en e kp t w c n k : Int) : List gE := if m_and (m_shr en e) 1 = 1 ∧ kp ≠ -1 then [(((12 + kp).toNat, (if c ≠ -1 ∧ c ≤ w then 6 + t else t).toNat), (if k = 2 then 2 * n - 1 else n, if k = 2 then 2 else 1, 0)), (((if c ≠ -1 ∧ c ≤ w then 6 + t else t).toNat, (12 + kp).toNat), (if k = 2 then 2 else 1, if k = 0 then n else if k = 1 then n + 1 else 2 * n + 1, if 0 < k then 1 else 0))] else []
def eR (row kp ct : Nat → Int) (en : Int) (e : Nat) : List gE := eOf en e (kp (row (5 * e + 81)).toNat) (row (5 * e + 80)) (row (5 * e + 81)) (ct (row (5 * e + 80)).toNat) (row (5 * e + 82)) (row (5 * e + 83))
def eA (row kp ct : Nat → Int) (en : Int) : Nat → List gE
  | 0 => []
  | e + 1 => eA row kp ct en e ++ eR row kp ct en e
def sA (row : Nat → Int) : Nat → List gE
  | 0 => []
  | k + 1 => sA row k ++ [(((12 + row (2 * k + 48)).toNat, (12 + row (2 * k + 49)).toNat), (1, 1, 1))]
def cA (ct : Nat → Int) : Nat → List gE
  | 0 => []
  | t + 1 => cA ct t ++ (if ct t = -1 then [] else [((6 + t, t), (1, 1, 0))])
def bL (row kp ct : Nat → Int) (en : Int) : List gE := eA row kp ct en (row 0).toNat ++ sA row (row 1).toNat ++ cA ct 6
def bR (row : Nat → Int) : List gE := bL row (fun j => row (10 + j)) (fun j => row (42 + j)) (cF row)
theorem eOf_no {en e kp t w c n k : Int} (h : ¬ (m_and (m_shr en e) 1 = 1 ∧ kp ≠ -1)) : eOf en e kp t w c n k = [] := if_neg h
theorem eOf_yes {en e kp t w c n k i lo of hi op : Int} (h1 : m_and (m_shr en e) 1 = 1) (h2 : kp ≠ -1) (a1 : i = if c ≠ -1 ∧ c ≤ w then 6 + t else t) (a2 : lo = if k = 2 then 2 * n - 1 else n) (a3 : of = if k = 2 then 2 else 1) (a4 : hi = if k = 0 then n else if k = 1 then n + 1 else 2 * n + 1) (a5 : op = if 0 < k then 1 else 0) : eOf en e kp t w c n k = [(((12 + kp).toNat, i.toNat), (lo, of, 0)), ((i.toNat, (12 + kp).toNat), (of, hi, op))] := by
  subst a1; subst a2; subst a3; subst a4; subst a5
  exact if_pos ⟨h1, h2⟩
theorem eR_of {row kp ct : Nat → Int} {en e w t c n k q : Int} (h0 : 0 ≤ e) (ew : row (80 + 5 * e + 1).toNat = w) (et : row (80 + 5 * e + 0).toNat = t) (ek : kp w.toNat = q) (ec : ct t.toNat = c) (e2 : row (80 + 5 * e + 2).toNat = n) (e3 : row (80 + 5 * e + 3).toNat = k) : eR row kp ct en e.toNat = eOf en e q t w c n k := by
  have n1 : (80 + 5 * e + 1).toNat = 5 * e.toNat + 81 := by omega
  have n0 : (80 + 5 * e + 0).toNat = 5 * e.toNat + 80 := by omega
  have n2 : (80 + 5 * e + 2).toNat = 5 * e.toNat + 82 := by omega
  have n3 : (80 + 5 * e + 3).toNat = 5 * e.toNat + 83 := by omega
  have n4 : ((e.toNat : Nat) : Int) = e := by omega
  rw [n1] at ew; rw [n0] at et; rw [n2] at e2; rw [n3] at e3
  unfold eR
  rw [ew, et, ek, ec, e2, e3, n4]
theorem eR_no {row kp ct : Nat → Int} {en e w q : Int} (h0 : 0 ≤ e) (ew : row (80 + 5 * e + 1).toNat = w) (ek : kp w.toNat = q) (h : ¬ (m_and (m_shr en e) 1 = 1 ∧ q ≠ -1)) : eR row kp ct en e.toNat = [] := by
  have n1 : (80 + 5 * e + 1).toNat = 5 * e.toNat + 81 := by omega
  have n4 : ((e.toNat : Nat) : Int) = e := by omega
  rw [n1] at ew
  unfold eR
  rw [ew, ek, n4]
  exact eOf_no h
theorem b_ent0 {h : m_H} {row kp ct : Nat → Int} {en e : Int} (h0 : 0 ≤ e) (A : AR h (eA row kp ct en e.toNat)) (Q : eR row kp ct en e.toNat = []) : AR h (eA row kp ct en (e + 1).toNat) := by
  have n1 : (e + 1).toNat = e.toNat + 1 := by omega
  rw [n1]; simp only [eA]
  rw [Q, List.append_nil]; exact A
theorem b_ent2 {h h1 h2 : m_H} {row kp ct : Nat → Int} {en e q i lo of hi op : Int} (h0 : 0 ≤ e) (A : AR h (eA row kp ct en e.toNat)) (hq : 0 ≤ q) (hi0 : 0 ≤ i) (Q1 : edQ h h1 (12 + q) i lo of 0) (Q2 : edQ h1 h2 i (12 + q) of hi op) (Q : eR row kp ct en e.toNat = [(((12 + q).toNat, i.toNat), (lo, of, 0)), ((i.toNat, (12 + q).toNat), (of, hi, op))]) : AR h2 (eA row kp ct en (e + 1).toNat) := by
  have n1 : (e + 1).toNat = e.toNat + 1 := by omega
  rw [n1]; simp only [eA]
  rw [Q]
  have := AR_push (AR_push A Q1 (by omega) hi0) Q2 hi0 (by omega)
  rw [List.append_assoc] at this
  exact this
theorem b_sh {h h1 : m_H} {Z : List gE} {row : Nat → Int} {k a b : Int} (h0 : 0 ≤ k) (A : AR h (Z ++ sA row k.toNat)) (ea : row (48 + 2 * k).toNat = a) (eb : row (48 + 2 * k + 1).toNat = b) (ha : 0 ≤ a) (hb : 0 ≤ b) (Q : edQ h h1 (12 + a) (12 + b) 1 1 1) : AR h1 (Z ++ sA row (k + 1).toNat) := by
  have n1 : (k + 1).toNat = k.toNat + 1 := by omega
  have n2 : (48 + 2 * k).toNat = 2 * k.toNat + 48 := by omega
  have n3 : (48 + 2 * k + 1).toNat = 2 * k.toNat + 49 := by omega
  rw [n2] at ea; rw [n3] at eb
  rw [n1]; simp only [sA]
  rw [ea, eb, ← List.append_assoc]
  exact AR_push A Q (by omega) (by omega)
theorem b_cut1 {h h1 : m_H} {Z : List gE} {ct : Nat → Int} {t c : Int} (h0 : 0 ≤ t) (A : AR h (Z ++ cA ct t.toNat)) (ec : ct t.toNat = c) (hc : c ≠ -1) (Q : edQ h h1 (6 + t) t 1 1 0) : AR h1 (Z ++ cA ct (t + 1).toNat) := by
  have n1 : (t + 1).toNat = t.toNat + 1 := by omega
  have n2 : (6 + t).toNat = 6 + t.toNat := by omega
  rw [n1]; simp only [cA]
  rw [ec, if_neg hc, ← List.append_assoc]
  have := AR_push A Q (by omega) h0
  rw [n2] at this
  exact this
theorem b_cut0 {h : m_H} {Z : List gE} {ct : Nat → Int} {t c : Int} (h0 : 0 ≤ t) (A : AR h (Z ++ cA ct t.toNat)) (ec : ct t.toNat = c) (hc : c = -1) : AR h (Z ++ cA ct (t + 1).toNat) := by
  have n1 : (t + 1).toNat = t.toNat + 1 := by omega
  rw [n1]; simp only [cA]
  rw [ec, if_pos hc, List.append_nil]; exact A
theorem b_end1 {h : m_H} {row kp ct : Nat → Int} {en e n : Int} (A : AR h (eA row kp ct en e.toNat)) (en0 : row 0 = n) (h1 : n ≤ e) (h2 : e ≤ n) : AR h (eA row kp ct en (row 0).toNat ++ sA row (0 : Int).toNat) := by
  have : e = n := by omega
  subst this
  rw [en0]
  show AR h (_ ++ [])
  rw [List.append_nil]; exact A
theorem b_end2 {h : m_H} {Z : List gE} {row ct : Nat → Int} {k n : Int} (A : AR h (Z ++ sA row k.toNat)) (en0 : row 1 = n) (h1 : n ≤ k) (h2 : k ≤ n) : AR h (Z ++ sA row (row 1).toNat ++ cA ct (0 : Int).toNat) := by
  have : k = n := by omega
  subst this
  rw [en0]
  show AR h (_ ++ [])
  rw [List.append_nil]; exact A
/-! every tie is as a tie must be -/
theorem eOf_ok {en e kp t w c n k : Int} (h1 : -1 ≤ kp ∧ kp ≤ 3) (h2 : 0 ≤ t ∧ t ≤ 5) (h3 : 1 ≤ n ∧ n ≤ 99) (h4 : 0 ≤ k ∧ k ≤ 2) : ∀ q ∈ eOf en e kp t w c n k, gEo q := by
  intro q hq
  unfold eOf at hq
  split at hq
  · rename_i hc
    obtain ⟨-, hk⟩ := hc
    have hi : ∃ i : Int, (if c ≠ -1 ∧ c ≤ w then 6 + t else t) = i ∧ 0 ≤ i ∧ i ≤ 11 := ⟨_, rfl, by split <;> omega, by split <;> omega⟩
    have hl : ∃ i : Int, (if k = 2 then 2 * n - 1 else n) = i ∧ 1 ≤ i ∧ i ≤ 199 := ⟨_, rfl, by split <;> omega, by split <;> omega⟩
    have ho : ∃ i : Int, (if k = 2 then (2 : Int) else 1) = i ∧ 1 ≤ i ∧ i ≤ 2 := ⟨_, rfl, by split <;> omega, by split <;> omega⟩
    have hh : ∃ i : Int, (if k = 0 then n else if k = 1 then n + 1 else 2 * n + 1) = i ∧ 1 ≤ i ∧ i ≤ 199 := ⟨_, rfl, by split <;> (try split) <;> omega, by split <;> (try split) <;> omega⟩
    obtain ⟨i, hi0, hi1, hi2⟩ := hi
    obtain ⟨lo, hl0, hl1, hl2⟩ := hl
    obtain ⟨of, ho0, ho1, ho2⟩ := ho
    obtain ⟨hi', hh0, hh1, hh2⟩ := hh
    rw [hi0, hl0, ho0, hh0] at hq
    unfold gEo
    rcases List.mem_cons.mp hq with rfl | hq
    · refine ⟨⟨?_, ?_⟩, ⟨hl1, hl2⟩, ⟨ho1, by show of ≤ 199; omega⟩, fun _ _ => ho2, fun a b => ?_, fun z => ?_⟩
      · show (12 + kp).toNat < 16; omega
      · show i.toNat < 16; omega
      · exfalso; have a2 : (12 + kp).toNat < 12 := a; omega
      · exfalso; have z2 : 12 ≤ (12 + kp).toNat ↔ 12 ≤ i.toNat := z; omega
    · rw [List.mem_singleton] at hq
      subst hq
      refine ⟨⟨?_, ?_⟩, ⟨ho1, by show of ≤ 199; omega⟩, ⟨hh1, hh2⟩, fun a b => ?_, fun _ _ => ho2, fun z => ?_⟩
      · show i.toNat < 16; omega
      · show (12 + kp).toNat < 16; omega
      · exfalso; have b2 : (12 + kp).toNat < 12 := b; omega
      · exfalso; have z2 : 12 ≤ i.toNat ↔ 12 ≤ (12 + kp).toNat := z; omega
  · cases hq
theorem eA_ok {row kp ct : Nat → Int} {en : Int} {N : Nat} (H : ∀ e, e < N → (-1 ≤ kp (row (5 * e + 81)).toNat ∧ kp (row (5 * e + 81)).toNat ≤ 3) ∧ (0 ≤ row (5 * e + 80) ∧ row (5 * e + 80) ≤ 5) ∧ (1 ≤ row (5 * e + 82) ∧ row (5 * e + 82) ≤ 99) ∧ (0 ≤ row (5 * e + 83) ∧ row (5 * e + 83) ≤ 2)) : ∀ q ∈ eA row kp ct en N, gEo q := by
  induction N with
  | zero => intro q hq; cases hq
  | succ n ih =>
    intro q hq
    simp only [eA] at hq
    rcases List.mem_append.mp hq with g | g
    · exact ih (fun e he => H e (by omega)) q g
    · obtain ⟨a, b, c, d⟩ := H n (by omega)
      exact eOf_ok a b c d q g
theorem sA_ok {row : Nat → Int} {N : Nat} (H : ∀ k, k < N → (0 ≤ row (2 * k + 48) ∧ row (2 * k + 48) ≤ 3) ∧ (0 ≤ row (2 * k + 49) ∧ row (2 * k + 49) ≤ 3)) : ∀ q ∈ sA row N, gEo q := by
  induction N with
  | zero => intro q hq; cases hq
  | succ n ih =>
    intro q hq
    simp only [sA] at hq
    rcases List.mem_append.mp hq with g | g
    · exact ih (fun e he => H e (by omega)) q g
    · rw [List.mem_singleton] at g
      subst g
      obtain ⟨a, b⟩ := H n (by omega)
      refine ⟨⟨?_, ?_⟩, ⟨Int.le_refl _, (by decide : (1 : Int) ≤ 199)⟩, ⟨Int.le_refl _, (by decide : (1 : Int) ≤ 199)⟩, fun _ _ => (by decide : (1 : Int) ≤ 2), fun _ _ => (by decide : (1 : Int) ≤ 2), fun _ => ⟨rfl, rfl⟩⟩
      · show (12 + row (2 * n + 48)).toNat < 16; omega
      · show (12 + row (2 * n + 49)).toNat < 16; omega
theorem cA_ok {ct : Nat → Int} {N : Nat} (hN : N ≤ 6) : ∀ q ∈ cA ct N, gEo q := by
  induction N with
  | zero => intro q hq; cases hq
  | succ n ih =>
    intro q hq
    simp only [cA] at hq
    rcases List.mem_append.mp hq with g | g
    · exact ih (by omega) q g
    · split at g
      · cases g
      · rw [List.mem_singleton] at g
        subst g
        refine ⟨⟨?_, ?_⟩, ⟨Int.le_refl _, (by decide : (1 : Int) ≤ 199)⟩, ⟨Int.le_refl _, (by decide : (1 : Int) ≤ 199)⟩, fun _ _ => (by decide : (1 : Int) ≤ 2), fun _ _ => (by decide : (1 : Int) ≤ 2), fun _ => ⟨rfl, rfl⟩⟩
        · show 6 + n < 16; omega
        · show n < 16; omega
theorem gw_n {h : m_H} (G : GI h) {e : Nat} (he : e < 24) : (0 ≤ h 110 (5 * e + 80) ∧ h 110 (5 * e + 80) ≤ 5) ∧ (0 ≤ h 110 (5 * e + 81) ∧ h 110 (5 * e + 81) ≤ 31) ∧ h 110 (5 * e + 82) ≤ 99 ∧ (0 ≤ h 110 (5 * e + 83) ∧ h 110 (5 * e + 83) ≤ 2) := by
  have a0 := gw_e0 G (i := 80 + 5 * (e : Int) + 0) (e := e) rfl (by omega) (by omega)
  have a1 := gw_e1 G (i := 80 + 5 * (e : Int) + 1) (e := e) rfl (by omega) (by omega)
  have a2 := gw_e2 G (i := 80 + 5 * (e : Int) + 2) (e := e) rfl (by omega) (by omega)
  have a3 := gw_e3 G (i := 80 + 5 * (e : Int) + 3) (e := e) rfl (by omega) (by omega)
  rw [show (80 + 5 * (e : Int) + 0).toNat = 5 * e + 80 by omega] at a0
  rw [show (80 + 5 * (e : Int) + 1).toNat = 5 * e + 81 by omega] at a1
  rw [show (80 + 5 * (e : Int) + 2).toNat = 5 * e + 82 by omega] at a2
  rw [show (80 + 5 * (e : Int) + 3).toNat = 5 * e + 83 by omega] at a3
  exact ⟨a0, a1, a2.2, a3⟩
theorem bL_ok {h : m_H} {kp ct : Nat → Int} {en : Int} (G : GI h) (N : NP h) (hk : ∀ j, j < 32 → -1 ≤ kp j ∧ kp j ≤ 3) : ∀ q ∈ bL (h 110) kp ct en, gEo q := by
  intro q hq
  have r0 : 0 ≤ h 110 0 ∧ h 110 0 ≤ 24 := gw_0 G
  have r1 : 0 ≤ h 110 1 ∧ h 110 1 ≤ 6 := gw_1 G
  unfold bL at hq
  rcases List.mem_append.mp hq with g | g
  · rcases List.mem_append.mp g with g | g
    · refine eA_ok (fun e he => ?_) q g
      obtain ⟨a, b, c, d⟩ := gw_n G (e := e) (by omega)
      exact ⟨hk _ (by omega), a, ⟨N.1 e (by omega), c⟩, d⟩
    · refine sA_ok (fun k hk2 => ?_) q g
      have b0 := gw_s G (i := 2 * (k : Int) + 48) (by omega) (by omega)
      have b1 := gw_s G (i := 2 * (k : Int) + 49) (by omega) (by omega)
      rw [show (2 * (k : Int) + 48).toNat = 2 * k + 48 by omega] at b0
      rw [show (2 * (k : Int) + 49).toNat = 2 * k + 49 by omega] at b1
      exact ⟨b0, b1⟩
  · exact cA_ok (Nat.le_refl _) q g
theorem eA_cg {row kp ct kp' ct' : Nat → Int} {en : Int} {N : Nat} (H : ∀ e, e < N → kp (row (5 * e + 81)).toNat = kp' (row (5 * e + 81)).toNat ∧ ct (row (5 * e + 80)).toNat = ct' (row (5 * e + 80)).toNat) : eA row kp ct en N = eA row kp' ct' en N := by
  induction N with
  | zero => rfl
  | succ n ih =>
    simp only [eA]
    rw [ih (fun e he => H e (by omega))]
    unfold eR
    rw [(H n (by omega)).1, (H n (by omega)).2]
theorem cA_cg {ct ct' : Nat → Int} {N : Nat} (H : ∀ t, t < N → ct t = ct' t) : cA ct N = cA ct' N := by
  induction N with
  | zero => rfl
  | succ n ih =>
    simp only [cA]
    rw [ih (fun e he => H e (by omega)), H n (by omega)]
theorem bL_cg {h : m_H} {kp ct kp' ct' : Nat → Int} {en : Int} (G : GI h) (hk : ∀ j, j < 32 → kp j = kp' j) (hc : ∀ j, j < 6 → ct j = ct' j) : bL (h 110) kp ct en = bL (h 110) kp' ct' en := by
  have r0 : 0 ≤ h 110 0 ∧ h 110 0 ≤ 24 := gw_0 G
  unfold bL
  rw [eA_cg (kp' := kp') (ct' := ct') (fun e he => ?_), cA_cg hc]
  obtain ⟨a, b, c, d⟩ := gw_n G (e := e) (by omega)
  exact ⟨hk _ (by omega), hc _ (by omega)⟩
/-- built as the row tells it -/
theorem bR_of {h0 h h' : m_H} {en : Int} (G0 : GI h0) (e0 : ∀ j, h 110 j = h0 110 j) (K : asQ h0 h 32 6) (ec : en = cF (h0 110)) (A : AR h' (bL (h 110) (h 122) (h 123) en)) : AR h' (bR (h0 110)) := by
  have e1 : h 110 = h0 110 := funext e0
  rw [e1] at A
  unfold bR
  rw [← ec, ← bL_cg (h := h0) (kp := h 122) (ct := h 123) G0 (fun j hj => K.1 j (by omega)) (fun j hj => K.2 j (by omega))]
  exact A
theorem bR_ok {h : m_H} (G : GI h) (N : NP h) : ∀ q ∈ bR (h 110), gEo q := bL_ok G N (fun j hj => by
  have b0 := gw_w G (i := 10 + (j : Int)) (by omega) (by omega)
  rw [show (10 + (j : Int)).toNat = 10 + j by omega] at b0
  exact b0)
theorem AR_nil {h h' : m_H} (E : h' = m_up h 108 21 0) : AR h' [] := ⟨upE E, fun i q hq => by simp at hq⟩
theorem np_at {h0 h : m_H} {cs : List Nat} {ss : List (Nat × Nat)} {e n x : Int} (N : NP h0) (R : FR cs ss h0 h) (f : ∀ j, fr cs ss 110 j = false) (h1 : 0 ≤ e) (h2 : e < n) (en : h 110 (0 : Int).toNat = n) (ex : h 110 (80 + 5 * e + 2).toNat = x) : 1 ≤ x := by
  have r0 : h 110 0 = h0 110 0 := R 110 0 (f 0)
  have h3 := N.1 e.toNat (by have e0 : h 110 0 = n := en; omega)
  rw [← R 110 _ (f _)] at h3
  rw [show 5 * e.toNat + 82 = (80 + 5 * e + 2).toNat by omega, ex] at h3
  exact h3
