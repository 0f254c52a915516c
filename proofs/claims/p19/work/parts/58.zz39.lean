/-! numbers of a kind, by the ends -/
theorem of0 : ofK 0 = 1 := by decide
theorem of1 : ofK 1 = 1 := by decide
theorem of2 : ofK 2 = 2 := by decide
theorem lo0 (n : Int) : loK n 0 = n := if_neg (by decide)
theorem lo1 (n : Int) : loK n 1 = n := if_neg (by decide)
theorem lo2 (n : Int) : loK n 2 = 2 * n - 1 := if_pos rfl
theorem hi0 (n : Int) : hiK n 0 = n := if_pos rfl
theorem hi1 (n : Int) : hiK n 1 = n + 1 := (if_neg (by decide)).trans (if_pos rfl)
theorem hi2 (n : Int) : hiK n 2 = 2 * n + 1 := (if_neg (by decide)).trans (if_neg (by decide))
theorem le_dv {a b n : Int} (hb : 0 < b) : n ≤ a / b ↔ b * n ≤ a := by
  constructor
  · intro z
    have m := Int.mul_le_mul_of_nonneg_left z (Int.le_of_lt hb)
    have k := Int.mul_ediv_self_le (x := a) (k := b) (by omega)
    omega
  · intro z
    exact Int.le_ediv_of_mul_le hb (by rw [Int.mul_comm]; exact z)
theorem dv_le {a b n : Int} (hb : 0 < b) : a / b ≤ n ↔ a < b * (n + 1) := by
  have q := le_dv (a := a) (b := b) (n := n + 1) hb
  omega
theorem dv_ex {a b n : Int} (hb : 0 < b) (e : a = b * n) : a / b * b = a := by
  rw [e, Int.mul_ediv_cancel_left n (by omega), Int.mul_comm]
theorem ln_U {T L o n k : Int} (hT : 0 < T) (hk : 0 ≤ k ∧ k ≤ 2) : lnF k T L o ≤ n ↔ tlU (T, L, o) n k := by
  have hk' : k = 0 ∨ k = 1 ∨ k = 2 := by omega
  show lnF k T L o ≤ n ↔ (L * ofK k < T * hiK n k ∨ (L * ofK k = T * hiK n k ∧ k = 0 ∧ o ≠ 1))
  rcases hk' with rfl | rfl | rfl
  · rw [of0, hi0, Int.mul_one]
    unfold lnF
    rw [if_neg (by decide)]
    have q := dv_le (a := L) (b := T) (n := n) hT
    have q1 := dv_le (a := L) (b := T) (n := n - 1) hT
    rw [show n - 1 + 1 = n by omega] at q1
    by_cases c : (0 : Int) = 0 ∧ (o = 1 ∨ L / T * T ≠ L)
    · rw [if_pos c]
      constructor
      · intro z; exact Or.inl (q1.mp (by omega))
      · rintro (z | ⟨z1, _, z3⟩)
        · have := q1.mpr z; omega
        · exfalso
          rcases c.2 with c2 | c2
          · exact z3 c2
          · exact c2 (dv_ex hT z1)
    · rw [if_neg c]
      have no : o ≠ 1 := fun z => c ⟨rfl, Or.inl z⟩
      have ex : L / T * T = L := Decidable.byContradiction (fun z => c ⟨rfl, Or.inr z⟩)
      constructor
      · intro z
        have m := Int.mul_le_mul_of_nonneg_right z (Int.le_of_lt hT)
        rw [ex, Int.mul_comm n] at m
        rcases Int.lt_or_eq_of_le m with y | y
        · exact Or.inl y
        · exact Or.inr ⟨y, rfl, no⟩
      · rintro (z | ⟨z1, _, _⟩)
        · have := q1.mpr z; omega
        · refine q.mpr ?_
          rw [Int.mul_add, Int.mul_one]; omega
  · rw [of1, hi1, Int.mul_one]
    unfold lnF
    rw [if_neg (by decide), if_neg (fun z => absurd z.1 (by decide)), dv_le hT]
    exact ⟨Or.inl, fun z => z.elim id (fun y => absurd y.2.1 (by decide))⟩
  · rw [of2, hi2]
    unfold lnF
    rw [if_pos rfl, dv_le (show 0 < 2 * T by omega)]
    have e1 : 2 * T * (n + 1) = 2 * (T * n) + 2 * T := by rw [Int.mul_add, Int.mul_one, Int.mul_assoc]
    have e2 : T * (2 * n + 1) = 2 * (T * n) + T := by rw [Int.mul_add, Int.mul_one, Int.mul_left_comm]
    rw [e1, e2]
    constructor
    · intro z; exact Or.inl (by omega)
    · rintro (z | ⟨_, z, _⟩)
      · omega
      · exact absurd z (by decide)
theorem gg_le {T L o n : Int} (hL : 0 < L) : n ≤ gnG T L o ↔ (L * n < T ∨ (L * n = T ∧ o ≠ 1)) := by
  have q := le_dv (a := T) (b := L) (n := n) hL
  have q1 := le_dv (a := T) (b := L) (n := n + 1) hL
  rw [Int.mul_add, Int.mul_one] at q1
  unfold gnG
  by_cases c : o = 1 ∧ T / L * L = T
  · rw [if_pos c]
    constructor
    · intro z; left; have := q1.mp (by omega); omega
    · rintro (z | ⟨_, z⟩)
      · have e : L * n < L * (T / L) := by rw [Int.mul_comm L (T / L), c.2]; exact z
        have := Int.lt_of_mul_lt_mul_left e (Int.le_of_lt hL)
        omega
      · exact absurd c.1 z
  · rw [if_neg c, q]
    constructor
    · intro z
      rcases Int.lt_or_eq_of_le z with y | y
      · exact Or.inl y
      · exact Or.inr ⟨y, fun w => c ⟨w, dv_ex hL y.symm⟩⟩
    · rintro (z | ⟨z, _⟩) <;> omega
theorem gn_O {T L o n k : Int} (hT : 0 < T) (hL : 0 ≤ L) (hk : 0 ≤ k ∧ k ≤ 2) : (L = 0 ∨ n ≤ gnF k T L o) ↔ tlO (T, L, o) n k := by
  have hk' : k = 0 ∨ k = 1 ∨ k = 2 := by omega
  show (L = 0 ∨ n ≤ gnF k T L o) ↔ (L * loK n k < T * ofK k ∨ (T * ofK k = L * loK n k ∧ o ≠ 1))
  by_cases g : L = 0
  · refine ⟨fun _ => Or.inl ?_, fun _ => Or.inl g⟩
    rw [g, Int.zero_mul]
    refine Int.mul_pos hT ?_
    unfold ofK
    split <;> decide
  · have hL' : 0 < L := by omega
    have e : (L = 0 ∨ n ≤ gnF k T L o) ↔ n ≤ gnF k T L o := ⟨fun z => z.elim (fun y => absurd y g) id, Or.inr⟩
    rw [e]
    unfold gnF
    rw [if_neg g]
    rcases hk' with rfl | rfl | rfl
    · rw [if_neg (by decide), gg_le hL', of0, lo0, Int.mul_one]
      exact or_congr Iff.rfl (and_congr eq_comm Iff.rfl)
    · rw [if_neg (by decide), gg_le hL', of1, lo1, Int.mul_one]
      exact or_congr Iff.rfl (and_congr eq_comm Iff.rfl)
    · rw [if_pos rfl, gg_le (show 0 < 2 * L by omega), of2, lo2]
      have e1 : 2 * L * n = 2 * (L * n) := Int.mul_assoc 2 L n
      have e2 : L * (2 * n - 1) = 2 * (L * n) - L := by rw [Int.mul_sub, Int.mul_one, Int.mul_left_comm]
      rw [e1, e2]
      exact or_congr (by omega) (and_congr (by omega) Iff.rfl)
/-- forced: nothing else can be told -/
def fcQ (B C : Int × Int × Int) (n k : Int) : Prop := (k = 0 ∧ C.1 = n * C.2.1 ∧ B.2.1 = n * B.1) ∨ (k ≠ 0 ∧ lnF k B.1 B.2.1 B.2.2 = n ∧ gnF k C.1 C.2.1 C.2.2 = n)
theorem fc_I {T L o T' L' o' n k : Int} (hT : 0 < T) (hT' : 0 < T') (hL' : 0 ≤ L') (hn : 1 ≤ n) (hk : 0 ≤ k ∧ k ≤ 2) (u : tlU (T, L, o) n k) (v : tlO (T', L', o') n k) : fcQ (T, L, o) (T', L', o') n k ↔ tlI (T, L, o) (T', L', o') n k := by
  have hk' : k = 0 ∨ k = 1 ∨ k = 2 := by omega
  have gn : k ≠ 0 → (gnF k T' L' o' = n ↔ (T' * ofK k < L' * hiK n k ∨ (T' * ofK k = L' * hiK n k ∧ o' = 1))) := fun k0 => by
    have v' := (gn_O hT' hL' hk).mpr v
    by_cases g : L' = 0
    · rw [g, Int.zero_mul]
      have p : 0 < T' * ofK k := Int.mul_pos hT' (by unfold ofK; split <;> decide)
      unfold gnF
      rw [if_pos rfl]
      constructor
      · intro z; omega
      · rintro (z | ⟨z, _⟩) <;> omega
    · have hL2 : 0 < L' := by omega
      have w : n ≤ gnF k T' L' o' := v'.elim (fun y => absurd y g) id
      have e : gnF k T' L' o' = n ↔ ¬ (n + 1 ≤ gnF k T' L' o') := by omega
      rw [e]
      unfold gnF
      rw [if_neg g]
      rcases hk' with rfl | rfl | rfl
      · exact absurd rfl k0
      · rw [if_neg (by decide), gg_le hL2, of1, hi1, Int.mul_one]
        by_cases o1 : o' = 1
        · constructor
          · intro z
            rcases Int.lt_trichotomy T' (L' * (n + 1)) with y | y | y
            · exact Or.inl y
            · exact Or.inr ⟨y, o1⟩
            · exact absurd (Or.inl y) z
          · rintro (z | ⟨z, _⟩) (y | ⟨y, y2⟩)
            · omega
            · exact y2 o1
            · omega
            · exact y2 o1
        · constructor
          · intro z
            rcases Int.lt_trichotomy T' (L' * (n + 1)) with y | y | y
            · exact Or.inl y
            · exact absurd (Or.inr ⟨y.symm, o1⟩) z
            · exact absurd (Or.inl y) z
          · rintro (z | ⟨_, z⟩)
            · rintro (y | ⟨y, _⟩) <;> omega
            · exact absurd z o1
      · rw [if_pos rfl, gg_le (show 0 < 2 * L' by omega), of2, hi2]
        have e1 : 2 * L' * (n + 1) = 2 * (L' * n) + 2 * L' := by rw [Int.mul_add, Int.mul_one, Int.mul_assoc]
        have e2 : L' * (2 * n + 1) = 2 * (L' * n) + L' := by rw [Int.mul_add, Int.mul_one, Int.mul_left_comm]
        rw [e1, e2]
        generalize L' * n = P
        by_cases o1 : o' = 1
        · constructor
          · intro z
            rcases Int.lt_trichotomy (T' * 2) (2 * P + L') with y | y | y
            · exact Or.inl y
            · exact Or.inr ⟨y, o1⟩
            · exact absurd (Or.inl (by omega)) z
          · rintro (z | ⟨z, _⟩) (y | ⟨y, y2⟩)
            · omega
            · exact y2 o1
            · omega
            · exact y2 o1
        · constructor
          · intro z
            rcases Int.lt_trichotomy (T' * 2) (2 * P + L') with y | y | y
            · exact Or.inl y
            · exact absurd (Or.inr ⟨by omega, o1⟩) z
            · exact absurd (Or.inl (by omega)) z
          · rintro (z | ⟨_, z⟩)
            · rintro (y | ⟨y, _⟩) <;> omega
            · exact absurd z o1
  have ln : k ≠ 0 → (lnF k T L o = n ↔ T * loK n k ≤ L * ofK k) := fun k0 => by
    have u' := (ln_U hT hk).mpr u
    have e : lnF k T L o = n ↔ n ≤ lnF k T L o := by omega
    rw [e]
    unfold lnF
    rcases hk' with rfl | rfl | rfl
    · exact absurd rfl k0
    · rw [if_neg (by decide), if_neg (fun z => absurd z.1 (by decide)), le_dv hT, of1, lo1, Int.mul_one]
    · rw [if_pos rfl, le_dv (show 0 < 2 * T by omega), of2, lo2]
      have e1 : 2 * T * n = 2 * (T * n) := Int.mul_assoc 2 T n
      have e2 : T * (2 * n - 1) = 2 * (T * n) - T := by rw [Int.mul_sub, Int.mul_one, Int.mul_left_comm]
      rw [e1, e2]
      omega
  show ((k = 0 ∧ T' = n * L' ∧ L = n * T) ∨ (k ≠ 0 ∧ lnF k T L o = n ∧ gnF k T' L' o' = n)) ↔ (T * loK n k ≤ L * ofK k ∧ (T' * ofK k < L' * hiK n k ∨ (T' * ofK k = L' * hiK n k ∧ (k = 0 ∨ o' = 1))))
  by_cases k0 : k = 0
  · subst k0
    have u' : L * ofK 0 < T * hiK n 0 ∨ (L * ofK 0 = T * hiK n 0 ∧ (0 : Int) = 0 ∧ o ≠ 1) := u
    have v' : L' * loK n 0 < T' * ofK 0 ∨ (T' * ofK 0 = L' * loK n 0 ∧ o' ≠ 1) := v
    rw [of0, hi0, Int.mul_one] at u'
    rw [of0, lo0, Int.mul_one] at v'
    rw [of0, lo0, hi0, Int.mul_one, Int.mul_one, Int.mul_comm n L', Int.mul_comm n T]
    generalize T * n = P at *
    generalize L' * n = Q at *
    have u2 : L ≤ P := u'.elim (fun z => by omega) (fun z => by have := z.1; omega)
    have v2 : Q ≤ T' := v'.elim (fun z => by omega) (fun z => by have := z.1; omega)
    constructor
    · rintro (⟨_, z1, z2⟩ | ⟨z, _⟩)
      · exact ⟨by omega, Or.inr ⟨z1, Or.inl rfl⟩⟩
      · exact absurd rfl z
    · rintro ⟨z1, z2⟩
      have z3 : T' ≤ Q := z2.elim (fun z => by omega) (fun z => by have := z.1; omega)
      exact Or.inl ⟨rfl, by omega, by omega⟩
  · have e1 := ln k0
    have e2 := gn k0
    constructor
    · rintro (⟨z, _⟩ | ⟨_, z1, z2⟩)
      · exact absurd z k0
      · exact ⟨e1.mp z1, (e2.mp z2).elim Or.inl (fun y => Or.inr ⟨y.1, Or.inr y.2⟩)⟩
    · rintro ⟨z1, z2⟩
      exact Or.inr ⟨k0, e1.mpr z1, e2.mpr (z2.elim Or.inl (fun y => Or.inr ⟨y.1, y.2.elim (fun w => absurd w k0) id⟩))⟩
/-- the same ends tell the same -/
theorem sc_cmp {T L T' L' : Int} (c m : Int) (hT : 0 < T) (hT' : 0 < T') (e : T * L' = T' * L) : (L * c < T * m ↔ L' * c < T' * m) ∧ (L * c = T * m ↔ L' * c = T' * m) := by
  have k1 : T' * (L * c) = T * (L' * c) := by rw [← Int.mul_assoc, ← Int.mul_assoc, e]
  have k2 : T' * (T * m) = T * (T' * m) := Int.mul_left_comm T' T m
  refine ⟨⟨fun z => ?_, fun z => ?_⟩, ⟨fun z => ?_, fun z => ?_⟩⟩
  · have q := Int.mul_lt_mul_of_pos_left z hT'
    rw [k1, k2] at q
    exact Int.lt_of_mul_lt_mul_left q (Int.le_of_lt hT)
  · have q := Int.mul_lt_mul_of_pos_left z hT
    rw [← k1, ← k2] at q
    exact Int.lt_of_mul_lt_mul_left q (Int.le_of_lt hT')
  · rw [z, k2] at k1
    exact (Int.eq_of_mul_eq_mul_left (Int.ne_of_gt hT) k1).symm
  · rw [z, ← k2] at k1
    exact Int.eq_of_mul_eq_mul_left (Int.ne_of_gt hT') k1
theorem U_eq {Ls : List gE} (hE : ∀ e ∈ Ls, gEo e) {a b : Nat} {B B' : Int × Int × Int} (h : BX Ls a b B) (h' : BX Ls a b B') (n k : Int) : tlU B n k ↔ tlU B' n k := by
  obtain ⟨x, y⟩ := sc_cmp (ofK k) (hiK n k) h.1.1.1 h'.1.1.1 (BW_eq hE h.1 h'.1).2.1
  exact or_congr x (and_congr y (and_congr Iff.rfl (not_congr (BX_o hE h h'))))
theorem O_eq {Ls : List gE} (hE : ∀ e ∈ Ls, gEo e) {a b : Nat} {B B' : Int × Int × Int} (h : BX Ls a b B) (h' : BX Ls a b B') (n k : Int) : tlO B n k ↔ tlO B' n k := by
  obtain ⟨x, y⟩ := sc_cmp (loK n k) (ofK k) h.1.1.1 h'.1.1.1 (BW_eq hE h.1 h'.1).2.1
  exact or_congr x (and_congr ⟨fun z => (y.mp z.symm).symm, fun z => (y.mpr z.symm).symm⟩ (not_congr (BX_o hE h h')))
theorem I_eq {Ls : List gE} (hE : ∀ e ∈ Ls, gEo e) {a b : Nat} {B B' C C' : Int × Int × Int} (h : BX Ls b a B) (h' : BX Ls b a B') (g : BX Ls a b C) (g' : BX Ls a b C') (n k : Int) : tlI B C n k ↔ tlI B' C' n k := by
  obtain ⟨x, y⟩ := sc_cmp (ofK k) (loK n k) h.1.1.1 h'.1.1.1 (BW_eq hE h.1 h'.1).2.1
  obtain ⟨u, v⟩ := sc_cmp (hiK n k) (ofK k) g.1.1.1 g'.1.1.1 (BW_eq hE g.1 g'.1).2.1
  refine and_congr ⟨fun z => ?_, fun z => ?_⟩ (or_congr ⟨fun z => ?_, fun z => ?_⟩ (and_congr ⟨fun z => (v.mp z.symm).symm, fun z => (v.mpr z.symm).symm⟩ (or_congr Iff.rfl (BX_o hE g g'))))
  · exact Int.not_lt.mp (fun w => absurd (x.mpr w) (Int.not_lt.mpr z))
  · exact Int.not_lt.mp (fun w => absurd (x.mp w) (Int.not_lt.mpr z))
  · rcases Int.lt_trichotomy (C'.1 * ofK k) (C'.2.1 * hiK n k) with w | w | w
    · exact w
    · have := v.mpr w.symm; omega
    · have := u.mpr w; omega
  · rcases Int.lt_trichotomy (C.1 * ofK k) (C.2.1 * hiK n k) with w | w | w
    · exact w
    · have := v.mp w.symm; omega
    · have := u.mp w; omega
theorem wd_eq {r : Nat → Int} (hE : ∀ e ∈ bR r, gEo e) {a f n k x y : Int} (h : wdQ r a f n k x) (h' : wdQ r a f n k y) : x = y := by
  rcases h with ⟨w, e⟩ | ⟨w, B, C, b, c, t⟩
  · rcases h' with ⟨_, e'⟩ | ⟨w', _⟩
    · omega
    · exact absurd w' w
  · rcases h' with ⟨w', _⟩ | ⟨_, B', C', b', c', t'⟩
    · exact absurd w w'
    · have u := U_eq hE b b' n k
      have o := O_eq hE c c' n k
      have i := I_eq hE b b' c c' n k
      unfold tlF at t t'
      rw [← u, ← o, ← i] at t'
      rcases t with ⟨p, q⟩ | ⟨p, ⟨s, q⟩ | ⟨s, q⟩⟩ <;> rcases t' with ⟨p', q'⟩ | ⟨p', ⟨s', q'⟩ | ⟨s', q'⟩⟩
      · omega
      · exact absurd p' p
      · exact absurd p' p
      · exact absurd p p'
      · omega
      · exact absurd s s'
      · exact absurd p p'
      · exact absurd s' s
      · omega
theorem LX.would {h h1 : m_H} {a b n k x y : Int} {cs : List Nat} {ss : List (Nat × Nat)} (G : GI h) (N : NP h) (S1 : FR cs ss h h1) (A : wdQ (h 110) a b n k x) (B : wdQ (h1 110) a b n k y) (o : out 110 110 cs ss = true) : x = y := by
  rw [rowz S1 (fr_out o (by decide) (by decide))] at B
  exact wd_eq (bR_ok G N) A B
abbrev P_X7_firstNumber4 (h0 : m_H) (a1 : Int) : Int → m_H → Prop := fun x h' => GI h' ∧ FR [] [] h0 h' ∧ (1 ≤ x ∧ x ≤ 100 ∧ ∀ v, 1 ≤ v → v ≤ 99 → (x ≤ v ↔ tlU (bd h0 94) v a1))
set_option maxHeartbeats 4000000 in
set_option maxRecDepth 100000 in
theorem c_X7_firstNumber4 (h0 : m_H) (a1 : Int) (G0 : GI h0) (pk : 0 ≤ a1 ∧ a1 ≤ 2) (q94 : (1 ≤ h0 94 0 ∧ h0 94 0 ≤ 1600000000) ∧ (0 ≤ h0 94 1 ∧ h0 94 1 ≤ 1600000000)) : m_CI M_X7_firstNumber [mR 93, mI a1] h0 (P_X7_firstNumber4 h0 a1) := by
  refine m_CI_of ⟨by decide, rfl, by simp [m_arg, m_isL, M_X7_firstNumber], ⟨rfl, rfl⟩, rfl, rfl⟩ (ls := [some (mR 93), some (mI a1)]) rfl ?_
  refine z_ok (fun _ _ ok => ?_)
  have oa1 : m_32 a1 := ok 1 _ rfl
  unfold m_32 at oa1
  refine z_ldc2 (M := M_X7_firstNumber) 0 dX7_firstNumber_0 k_X7_48 ?_
  refine z_lconst (M := M_X7_firstNumber) 3 dX7_firstNumber_3 (v := 1) ?_
  refine z_aload_n (M := M_X7_firstNumber) 4 dX7_firstNumber_4 rfl ?_
  refine z_iload_n (M := M_X7_firstNumber) 5 dX7_firstNumber_5 rfl ?_
  refine z_vJ (M := M_X7_firstNumber) 6 dX7_firstNumber_6 t_X7_leastNumber l_X7_50 (m_rr_of rfl) (rest := [mJ 1, mJ 100]) (c_X7_leastNumber2 h0 a1 G0 pk q94) o_93 rfl rfl rfl (Nat.le_of_ble_eq_true rfl) ⟨rfl, rfl⟩ (fun x1 h1 qx1 => ?_)
  obtain ⟨G1, S1, fx1⟩ := qx1
  have R1 := (FR.rf (cs := []) (ss := []) (h := h0)).call S1 (by decide +kernel)
  refine z_maxJ (M := M_X7_firstNumber) 9 dX7_firstNumber_9 ml_X7_54 (rest := [mJ 100]) (Nat.le_of_ble_eq_true rfl) (Nat.le_of_ble_eq_true rfl) ?_
  refine z_topJ (fun x2 ex2 => ?_)
  refine z_minJ (M := M_X7_firstNumber) 12 dX7_firstNumber_12 ml_X7_59 (rest := []) (Nat.le_of_ble_eq_true rfl) (Nat.le_of_ble_eq_true rfl) ?_
  have bx3_ : 1 ≤ x2 := (by rw [← ex2]; split <;> omega)
  refine z_topBJ (lo := 1) (hi := 100) ⟨by split <;> omega, by split <;> omega⟩ (fun x3 ex3 ax3 bx3 => ?_)
  refine z_l2iN (M := M_X7_firstNumber) 15 dX7_firstNumber_15 (by omega) (by omega) ?_
  exact z_retI (M := M_X7_firstNumber) 16 dX7_firstNumber_16 rfl ⟨G1, R1, by omega, by omega, fun v v1 v2 => by rw [← (show lnF a1 (h0 94 0) (h0 94 1) (h0 94 2) ≤ v ↔ tlU (bd h0 94) v a1 from ln_U (by omega) pk), fx1, ← ex3, ← ex2]; split <;> split <;> omega⟩
abbrev P_X7_lastNumber4 (h0 : m_H) (a1 : Int) : Int → m_H → Prop := fun x h' => GI h' ∧ FR [] [] h0 h' ∧ (-1 ≤ x ∧ x ≤ 99 ∧ ∀ v, 1 ≤ v → v ≤ 99 → (v ≤ x ↔ tlO (bd h0 95) v a1))
set_option maxHeartbeats 4000000 in
set_option maxRecDepth 100000 in
theorem c_X7_lastNumber4 (h0 : m_H) (a1 : Int) (G0 : GI h0) (pk : 0 ≤ a1 ∧ a1 ≤ 2) (q95 : (1 ≤ h0 95 0 ∧ h0 95 0 ≤ 1600000000) ∧ (0 ≤ h0 95 1 ∧ h0 95 1 ≤ 1600000000)) : m_CI M_X7_lastNumber [mR 93, mI a1] h0 (P_X7_lastNumber4 h0 a1) := by
  refine m_CI_of ⟨by decide, rfl, by simp [m_arg, m_isL, M_X7_lastNumber], ⟨rfl, rfl⟩, rfl, rfl⟩ (ls := [some (mR 93), some (mI a1)]) rfl ?_
  refine z_ok (fun _ _ ok => ?_)
  have oa1 : m_32 a1 := ok 1 _ rfl
  unfold m_32 at oa1
  refine z_aload_n (M := M_X7_lastNumber) 0 dX7_lastNumber_0 rfl ?_
  refine z_getR (M := M_X7_lastNumber) 1 dX7_lastNumber_1 f_X7_18 o_93 rfl (g_93_1 G0) ?_
  refine z_getJV (M := M_X7_lastNumber) 4 dX7_lastNumber_4 f_X7_29 o_95 rfl (fun x1 ex1 => ?_)
  refine z_lconst (M := M_X7_lastNumber) 7 dX7_lastNumber_7 (v := 0) ?_
  refine z_lcmp (M := M_X7_lastNumber) 8 dX7_lastNumber_8 ?_
  refine z_if_ne (M := M_X7_lastNumber) 9 dX7_lastNumber_9 17 rfl (fun c2 => ?_) (fun c2 => ?_)
  · rw [m_cmp_eq] at c2
    refine z_aload_n (M := M_X7_lastNumber) 17 dX7_lastNumber_17 rfl ?_
    refine z_iload_n (M := M_X7_lastNumber) 18 dX7_lastNumber_18 rfl ?_
    refine z_vJ (M := M_X7_lastNumber) 19 dX7_lastNumber_19 t_X7_greatestNumber l_X7_62 (m_rr_of rfl) (rest := []) (c_X7_greatestNumber2 h0 a1 G0 pk q95) o_93 rfl rfl rfl (Nat.le_of_ble_eq_true rfl) ⟨rfl, rfl⟩ (fun x3 h1 qx3 => ?_)
    obtain ⟨G1, S1, fx3⟩ := qx3
    have gb_ := gnF_b (k := a1) (t := h0 95 0) (l := h0 95 1) (o := h0 95 2) (by omega) (by omega)
    rw [fx3] at gb_
    have R1 := (FR.rf (cs := []) (ss := []) (h := h0)).call S1 (by decide +kernel)
    refine z_ldc2 (M := M_X7_lastNumber) 22 dX7_lastNumber_22 k_X7_65 ?_
    refine z_nI (M := M_X7_lastNumber) 25 dX7_lastNumber_25 t_X11_atMost l_X7_67 (m_rr_of rfl) (rest := []) (c_X11_atMost2 h1 x3 99 G1 (by omega) ⟨by omega, by omega⟩) rfl rfl (Nat.le_of_ble_eq_true rfl) ⟨rfl, rfl⟩ (fun x4 h2 qx4 => ?_)
    obtain ⟨G2, S2, fx4⟩ := qx4
    have R2 := R1.call S2 (by decide +kernel)
    refine z_ok (fun ox4 _ _ => ?_)
    have ox4 := ox4.1; unfold m_ok m_32 at ox4
    exact z_retI (M := M_X7_lastNumber) 28 dX7_lastNumber_28 rfl ⟨G2, R2, by rw [← fx4]; split <;> omega, by rw [← fx4]; split <;> omega, fun v v1 v2 => by rw [← (show (h0 95 1 = 0 ∨ v ≤ gnF a1 (h0 95 0) (h0 95 1) (h0 95 2)) ↔ tlO (bd h0 95) v a1 from gn_O (by omega) (by omega) pk), fx3, ← fx4, ex1]; split <;> omega⟩
  · rw [m_cmp_eq] at c2
    refine z_bipush (M := M_X7_lastNumber) 12 dX7_lastNumber_12 ?_
    refine z_goto (M := M_X7_lastNumber) 14 dX7_lastNumber_14 28 rfl ?_
    exact z_retI (M := M_X7_lastNumber) 28 dX7_lastNumber_28 rfl ⟨G0, (FR.rf (cs := []) (ss := []) (h := h0)), by omega, by omega, fun v v1 v2 => by rw [← (show (h0 95 1 = 0 ∨ v ≤ gnF a1 (h0 95 0) (h0 95 1) (h0 95 2)) ↔ tlO (bd h0 95) v a1 from gn_O (by omega) (by omega) pk), ex1]; omega⟩
def nmI (B C : Int × Int × Int) (k fo la : Int) : Prop := (1 ≤ fo ∧ fo ≤ 100) ∧ (-1 ≤ la ∧ la ≤ 99) ∧ (∀ v, 1 ≤ v → v ≤ 99 → (fo ≤ v ↔ tlU B v k)) ∧ ∀ v, 1 ≤ v → v ≤ 99 → (v ≤ la ↔ tlO C v k)
def nmN (fo la : Int) : Int := if fo ≤ la then la - fo + 1 else 0
abbrev P_X7_manyNumbers4 (h0 : m_H) (a1 : Int) : Int → m_H → Prop := fun x h' => GI h' ∧ FR [] [] h0 h' ∧ 0 ≤ x ∧ x ≤ 2147483647 ∧ ∃ fo la, nmI (bd h0 94) (bd h0 95) a1 fo la ∧ nmN fo la = x
set_option maxHeartbeats 4000000 in
set_option maxRecDepth 100000 in
theorem c_X7_manyNumbers4 (h0 : m_H) (a1 : Int) (G0 : GI h0) (pk : 0 ≤ a1 ∧ a1 ≤ 2) (q94 : (1 ≤ h0 94 0 ∧ h0 94 0 ≤ 1600000000) ∧ (0 ≤ h0 94 1 ∧ h0 94 1 ≤ 1600000000)) (q95 : (1 ≤ h0 95 0 ∧ h0 95 0 ≤ 1600000000) ∧ (0 ≤ h0 95 1 ∧ h0 95 1 ≤ 1600000000)) : m_CI M_X7_manyNumbers [mR 93, mI a1] h0 (P_X7_manyNumbers4 h0 a1) := by
  refine m_CI_of ⟨by decide, rfl, by simp [m_arg, m_isL, M_X7_manyNumbers], ⟨rfl, rfl⟩, rfl, rfl⟩ (ls := [some (mR 93), some (mI a1)]) rfl ?_
  refine z_ok (fun _ _ ok => ?_)
  have oa1 : m_32 a1 := ok 1 _ rfl
  unfold m_32 at oa1
  refine z_iconst (M := M_X7_manyNumbers) 0 dX7_manyNumbers_0 ?_
  refine z_aload_n (M := M_X7_manyNumbers) 1 dX7_manyNumbers_1 rfl ?_
  refine z_iload_n (M := M_X7_manyNumbers) 2 dX7_manyNumbers_2 rfl ?_
  refine z_vI (M := M_X7_manyNumbers) 3 dX7_manyNumbers_3 t_X7_lastNumber l_X7_71 (m_rr_of rfl) (rest := [mI 0]) (c_X7_lastNumber4 h0 a1 G0 pk q95) o_93 rfl rfl rfl (Nat.le_of_ble_eq_true rfl) ⟨rfl, rfl⟩ (fun x1 h1 qx1 => ?_)
  obtain ⟨G1, S1, l1_, l2_, l3_⟩ := qx1
  have R1 := (FR.rf (cs := []) (ss := []) (h := h0)).call S1 (by decide +kernel)
  refine z_ok (fun ox1 _ _ => ?_)
  have ox1 := ox1.1; unfold m_ok m_32 at ox1
  refine z_aload_n (M := M_X7_manyNumbers) 6 dX7_manyNumbers_6 rfl ?_
  refine z_iload_n (M := M_X7_manyNumbers) 7 dX7_manyNumbers_7 rfl ?_
  refine z_vI (M := M_X7_manyNumbers) 8 dX7_manyNumbers_8 t_X7_firstNumber l_X7_75 (m_rr_of rfl) (rest := [mI x1, mI 0]) (c_X7_firstNumber4 h1 a1 G1 pk (by rw [frE S1]; exact q94)) o_93 rfl rfl rfl (Nat.le_of_ble_eq_true rfl) ⟨rfl, rfl⟩ (fun x2 h2 qx2 => ?_)
  obtain ⟨G2, S2, f1_, f2_, f3_⟩ := qx2
  rw [frE S1] at f3_
  have R2 := R1.call S2 (by decide +kernel)
  refine z_ok (fun ox2 _ _ => ?_)
  have ox2 := ox2.1; unfold m_ok m_32 at ox2
  refine z_isubN (M := M_X7_manyNumbers) 11 dX7_manyNumbers_11 (by omega) (by omega) ?_
  refine z_iconst (M := M_X7_manyNumbers) 12 dX7_manyNumbers_12 ?_
  refine z_iaddN (M := M_X7_manyNumbers) 13 dX7_manyNumbers_13 (by omega) (by omega) ?_
  refine z_maxI (M := M_X7_manyNumbers) 14 dX7_manyNumbers_14 ml_X7_78 (rest := []) (Nat.le_of_ble_eq_true rfl) (Nat.le_of_ble_eq_true rfl) ?_
  refine z_topBI (lo := 0) (hi := 2147483647) ⟨by split <;> omega, by split <;> omega⟩ (fun x5 ex5 ax5 bx5 => ?_)
  exact z_retI (M := M_X7_manyNumbers) 17 dX7_manyNumbers_17 rfl ⟨G2, R2, by omega, by omega, ⟨x2, x1, ⟨⟨f1_, f2_⟩, ⟨l1_, l2_⟩, f3_, l3_⟩, by rw [← ex5]; unfold nmN; split <;> split <;> omega⟩⟩
abbrev P_X7_allows4 (h0 : m_H) (a1 a2 : Int) : Int → m_H → Prop := fun x h' => GI h' ∧ FR [] [] h0 h' ∧ 0 ≤ x ∧ x ≤ 1 ∧ (x = 1 ↔ (tlU (bd h0 94) a1 a2 ∧ tlO (bd h0 95) a1 a2))
set_option maxHeartbeats 4000000 in
set_option maxRecDepth 100000 in
theorem c_X7_allows4 (h0 : m_H) (a1 a2 : Int) (G0 : GI h0) (pn : 1 ≤ a1 ∧ a1 ≤ 99) (pk : 0 ≤ a2 ∧ a2 ≤ 2) (q94 : (1 ≤ h0 94 0 ∧ h0 94 0 ≤ 1600000000) ∧ (0 ≤ h0 94 1 ∧ h0 94 1 ≤ 1600000000)) (q95 : (1 ≤ h0 95 0 ∧ h0 95 0 ≤ 1600000000) ∧ (0 ≤ h0 95 1 ∧ h0 95 1 ≤ 1600000000)) : m_CI M_X7_allows [mR 93, mI a1, mI a2] h0 (P_X7_allows4 h0 a1 a2) := by
  refine m_CI_of ⟨by decide, rfl, by simp [m_arg, m_isL, M_X7_allows], ⟨rfl, rfl⟩, rfl, rfl⟩ (ls := [some (mR 93), some (mI a1), some (mI a2)]) rfl ?_
  refine z_ok (fun _ _ ok => ?_)
  have oa1 : m_32 a1 := ok 1 _ rfl
  unfold m_32 at oa1
  have oa2 : m_32 a2 := ok 2 _ rfl
  unfold m_32 at oa2
  refine z_iload_n (M := M_X7_allows) 0 dX7_allows_0 rfl ?_
  refine z_aload_n (M := M_X7_allows) 1 dX7_allows_1 rfl ?_
  refine z_iload_n (M := M_X7_allows) 2 dX7_allows_2 rfl ?_
  refine z_vI (M := M_X7_allows) 3 dX7_allows_3 t_X7_firstNumber l_X7_75 (m_rr_of rfl) (rest := [mI a1]) (c_X7_firstNumber4 h0 a2 G0 pk q94) o_93 rfl rfl rfl (Nat.le_of_ble_eq_true rfl) ⟨rfl, rfl⟩ (fun x1 h1 qx1 => ?_)
  obtain ⟨G1, S1, f1_, f2_, f3_⟩ := qx1
  have u_ := f3_ a1 pn.1 pn.2
  have R1 := (FR.rf (cs := []) (ss := []) (h := h0)).call S1 (by decide +kernel)
  refine z_ok (fun ox1 _ _ => ?_)
  have ox1 := ox1.1; unfold m_ok m_32 at ox1
  refine z_icmp_lt (M := M_X7_allows) 6 dX7_allows_6 22 rfl (fun c2 => ?_) (fun c2 => ?_)
  · refine z_iconst (M := M_X7_allows) 22 dX7_allows_22 ?_
    exact z_retZ (M := M_X7_allows) 23 dX7_allows_23 rfl (by omega) ⟨G1, R1, by omega, by omega, ⟨fun z => absurd z (by decide), fun z => absurd (u_.mpr z.1) (by omega)⟩⟩
  · refine z_iload_n (M := M_X7_allows) 9 dX7_allows_9 rfl ?_
    refine z_aload_n (M := M_X7_allows) 10 dX7_allows_10 rfl ?_
    refine z_iload_n (M := M_X7_allows) 11 dX7_allows_11 rfl ?_
    refine z_vI (M := M_X7_allows) 12 dX7_allows_12 t_X7_lastNumber l_X7_71 (m_rr_of rfl) (rest := [mI a1]) (c_X7_lastNumber4 h1 a2 G1 pk (by rw [frE S1]; exact q95)) o_93 rfl rfl rfl (Nat.le_of_ble_eq_true rfl) ⟨rfl, rfl⟩ (fun x3 h2 qx3 => ?_)
    obtain ⟨G2, S2, l1_, l2_, l3_⟩ := qx3
    rw [frE S1] at l3_
    have o_ := l3_ a1 pn.1 pn.2
    have R2 := R1.call S2 (by decide +kernel)
    refine z_ok (fun ox3 _ _ => ?_)
    have ox3 := ox3.1; unfold m_ok m_32 at ox3
    refine z_icmp_gt (M := M_X7_allows) 15 dX7_allows_15 22 rfl (fun c4 => ?_) (fun c4 => ?_)
    · refine z_iconst (M := M_X7_allows) 22 dX7_allows_22 ?_
      exact z_retZ (M := M_X7_allows) 23 dX7_allows_23 rfl (by omega) ⟨G2, R2, by omega, by omega, ⟨fun z => absurd z (by decide), fun z => absurd (o_.mpr z.2) (by omega)⟩⟩
    · refine z_iconst (M := M_X7_allows) 18 dX7_allows_18 ?_
      refine z_goto (M := M_X7_allows) 19 dX7_allows_19 23 rfl ?_
      exact z_retZ (M := M_X7_allows) 23 dX7_allows_23 rfl (by omega) ⟨G2, R2, by omega, by omega, ⟨fun _ => ⟨u_.mp (by omega), o_.mp (by omega)⟩, fun _ => rfl⟩⟩
abbrev P_X7_forces4 (h0 : m_H) (a1 a2 : Int) : Int → m_H → Prop := fun x h' => GI h' ∧ FR [] [] h0 h' ∧ 0 ≤ x ∧ x ≤ 1 ∧ (x = 1 ↔ fcQ (bd h0 94) (bd h0 95) a1 a2)
set_option maxHeartbeats 4000000 in
set_option maxRecDepth 100000 in
theorem c_X7_forces4 (h0 : m_H) (a1 a2 : Int) (G0 : GI h0) (pn : 1 ≤ a1 ∧ a1 ≤ 99) (pk : 0 ≤ a2 ∧ a2 ≤ 2) (q94 : (1 ≤ h0 94 0 ∧ h0 94 0 ≤ 1600000000) ∧ (0 ≤ h0 94 1 ∧ h0 94 1 ≤ 1600000000)) (q95 : (1 ≤ h0 95 0 ∧ h0 95 0 ≤ 1600000000) ∧ (0 ≤ h0 95 1 ∧ h0 95 1 ≤ 1600000000)) : m_CI M_X7_forces [mR 93, mI a1, mI a2] h0 (P_X7_forces4 h0 a1 a2) := by
  refine m_CI_of ⟨by decide, rfl, by simp [m_arg, m_isL, M_X7_forces], ⟨rfl, rfl⟩, rfl, rfl⟩ (ls := [some (mR 93), some (mI a1), some (mI a2)]) rfl ?_
  refine z_ok (fun _ _ ok => ?_)
  have oa1 : m_32 a1 := ok 1 _ rfl
  unfold m_32 at oa1
  have oa2 : m_32 a2 := ok 2 _ rfl
  unfold m_32 at oa2
  refine z_iload_n (M := M_X7_forces) 0 dX7_forces_0 rfl ?_
  refine z_if_ne (M := M_X7_forces) 1 dX7_forces_1 11 rfl (fun c1 => ?_) (fun c1 => ?_)
  · refine z_aload_n (M := M_X7_forces) 11 dX7_forces_11 rfl ?_
    refine z_iload_n (M := M_X7_forces) 12 dX7_forces_12 rfl ?_
    refine z_vJ (M := M_X7_forces) 13 dX7_forces_13 t_X7_leastNumber l_X7_50 (m_rr_of rfl) (rest := []) (c_X7_leastNumber2 h0 a2 G0 pk q94) o_93 rfl rfl rfl (Nat.le_of_ble_eq_true rfl) ⟨rfl, rfl⟩ (fun x2 h1 qx2 => ?_)
    obtain ⟨G1, S1, fx2⟩ := qx2
    have R1 := (FR.rf (cs := []) (ss := []) (h := h0)).call S1 (by decide +kernel)
    refine z_iload_n (M := M_X7_forces) 16 dX7_forces_16 rfl ?_
    refine z_i2l (M := M_X7_forces) 17 dX7_forces_17 ?_
    refine z_lcmp (M := M_X7_forces) 18 dX7_forces_18 ?_
    refine z_if_ne (M := M_X7_forces) 19 dX7_forces_19 37 rfl (fun c3 => ?_) (fun c3 => ?_)
    · rw [m_cmp_eq] at c3
      refine z_iconst (M := M_X7_forces) 37 dX7_forces_37 ?_
      exact z_retZ (M := M_X7_forces) 38 dX7_forces_38 rfl (by omega) ⟨G1, R1, by omega, by omega, ⟨fun z => absurd z (by decide), fun z => z.elim (fun y => absurd y.1 c1) (fun y => absurd ((fx2.symm.trans (show lnF a2 (h0 94 0) (h0 94 1) (h0 94 2) = a1 from y.2.1))) c3)⟩⟩
    · rw [m_cmp_eq] at c3
      refine z_aload_n (M := M_X7_forces) 22 dX7_forces_22 rfl ?_
      refine z_iload_n (M := M_X7_forces) 23 dX7_forces_23 rfl ?_
      refine z_vJ (M := M_X7_forces) 24 dX7_forces_24 t_X7_greatestNumber l_X7_62 (m_rr_of rfl) (rest := []) (c_X7_greatestNumber2 h1 a2 G1 pk (by rw [frE S1]; exact q95)) o_93 rfl rfl rfl (Nat.le_of_ble_eq_true rfl) ⟨rfl, rfl⟩ (fun x4 h2 qx4 => ?_)
      obtain ⟨G2, S2, fx4⟩ := qx4
      rw [frE S1] at fx4
      have R2 := R1.call S2 (by decide +kernel)
      refine z_iload_n (M := M_X7_forces) 27 dX7_forces_27 rfl ?_
      refine z_i2l (M := M_X7_forces) 28 dX7_forces_28 ?_
      refine z_lcmp (M := M_X7_forces) 29 dX7_forces_29 ?_
      refine z_if_ne (M := M_X7_forces) 30 dX7_forces_30 37 rfl (fun c5 => ?_) (fun c5 => ?_)
      · rw [m_cmp_eq] at c5
        refine z_iconst (M := M_X7_forces) 37 dX7_forces_37 ?_
        exact z_retZ (M := M_X7_forces) 38 dX7_forces_38 rfl (by omega) ⟨G2, R2, by omega, by omega, ⟨fun z => absurd z (by decide), fun z => z.elim (fun y => absurd y.1 c1) (fun y => absurd ((fx4.symm.trans (show gnF a2 (h0 95 0) (h0 95 1) (h0 95 2) = a1 from y.2.2))) c5)⟩⟩
      · rw [m_cmp_eq] at c5
        refine z_iconst (M := M_X7_forces) 33 dX7_forces_33 ?_
        refine z_goto (M := M_X7_forces) 34 dX7_forces_34 38 rfl ?_
        exact z_retZ (M := M_X7_forces) 38 dX7_forces_38 rfl (by omega) ⟨G2, R2, by omega, by omega, ⟨fun _ => Or.inr ⟨c1, fx2.trans (by omega), fx4.trans (by omega)⟩, fun _ => rfl⟩⟩
  · refine z_aload_n (M := M_X7_forces) 4 dX7_forces_4 rfl ?_
    refine z_iload_n (M := M_X7_forces) 5 dX7_forces_5 rfl ?_
    refine z_i2l (M := M_X7_forces) 6 dX7_forces_6 ?_
    refine z_vI (M := M_X7_forces) 7 dX7_forces_7 t_X7_isAlways l_X7_81 (m_rr_of rfl) (rest := []) (c_X7_isAlways2 h0 a1 G0 ⟨by omega, by omega⟩ ⟨⟨by omega, by omega⟩, by omega, by omega⟩ ⟨⟨by omega, by omega⟩, by omega, by omega⟩) o_93 rfl rfl rfl (Nat.le_of_ble_eq_true rfl) ⟨rfl, rfl⟩ (fun x6 h3 qx6 => ?_)
    obtain ⟨G3, S3, ax6, bx6, fx6⟩ := qx6
    have R3 := (FR.rf (cs := []) (ss := []) (h := h0)).call S3 (by decide +kernel)
    exact z_retZ (M := M_X7_forces) 10 dX7_forces_10 rfl (by omega) ⟨G3, R3, by omega, by omega, ⟨fun z => Or.inl ⟨by omega, fx6.mp z⟩, fun z => fx6.mpr (z.elim (fun y => y.2) (fun y => absurd (by omega) y.1))⟩⟩
abbrev P_X11_would3 (h0 : m_H) (a1 a2 a3 a4 : Int) : Int → m_H → Prop := fun x h' => GI h' ∧ FR (csB ++ [39, 40, 41]) [] h0 h' ∧ (-2) ≤ x ∧ x ≤ 2 ∧ wdQ (h0 110) a1 a2 a3 a4 x
set_option maxHeartbeats 4000000 in
set_option maxRecDepth 100000 in
theorem c_X11_would3 (h0 : m_H) (a1 a2 a3 a4 : Int) (G0 : GI h0) (hR : LR 1 h0 (h0 110)) (hN : NP h0) : m_CI M_X11_would [mR 0, mI a1, mI a2, mI a3, mI a4] h0 (P_X11_would3 h0 a1 a2 a3 a4) := by
  refine m_CI_of ⟨by decide, rfl, by simp [m_arg, m_isL, M_X11_would], ⟨rfl, rfl⟩, rfl, rfl⟩ (ls := [some (mR 0), some (mI a1), some (mI a2), some (mI a3), some (mI a4)]) rfl ?_
  refine z_ok (fun _ _ ok => ?_)
  have oa1 : m_32 a1 := ok 1 _ rfl
  unfold m_32 at oa1
  have oa2 : m_32 a2 := ok 2 _ rfl
  unfold m_32 at oa2
  have oa3 : m_32 a3 := ok 3 _ rfl
  unfold m_32 at oa3
  have oa4 : m_32 a4 := ok 4 _ rfl
  unfold m_32 at oa4
  refine z_iload_n (M := M_X11_would) 0 dX11_would_0 rfl ?_
  refine z_sI (M := M_X11_would) 1 dX11_would_1 t_X11_isNumber l_X11_298 (m_rr_of rfl) (rest := []) (c_X11_isNumber h0 a3 G0) rfl rfl (Nat.le_of_ble_eq_true rfl) ⟨rfl, rfl⟩ (fun x1 h1 qx1 => ?_)
  obtain ⟨rfl, ⟨rfl, cx1⟩ | ⟨rfl, cx1⟩⟩ := qx1
  · refine z_if_eq_F (M := M_X11_would) 4 dX11_would_4 24 rfl (by omega) ?_
    refine z_iload (M := M_X11_would) 7 dX11_would_7 rfl ?_
    refine z_sI (M := M_X11_would) 9 dX11_would_9 t_X11_isKind l_X11_301 (m_rr_of rfl) (rest := []) (c_X11_isKind h0 a4 G0) rfl rfl (Nat.le_of_ble_eq_true rfl) ⟨rfl, rfl⟩ (fun x2 h2 qx2 => ?_)
    obtain ⟨rfl, ⟨rfl, cx2⟩ | ⟨rfl, cx2⟩⟩ := qx2
    · refine z_if_eq_F (M := M_X11_would) 12 dX11_would_12 24 rfl (by omega) ?_
      refine z_aload_n (M := M_X11_would) 15 dX11_would_15 rfl ?_
      refine z_iload_n (M := M_X11_would) 16 dX11_would_16 rfl ?_
      refine z_iload_n (M := M_X11_would) 17 dX11_would_17 rfl ?_
      refine z_vI (M := M_X11_would) 18 dX11_would_18 t_X11_compareToFoot l_X11_247 (m_rr_of rfl) (rest := []) (c_X11_compareToFoot2 h0 a1 a2 G0 hR hN) o_0 rfl rfl rfl (Nat.le_of_ble_eq_true rfl) ⟨rfl, rfl⟩ (fun x3 h3 qx3 => ?_)
      obtain ⟨G3, S3, ax3, bx3, fx3⟩ := qx3
      have R3 := (FR.rf (cs := (csB ++ [39, 40, 41])) (ss := []) (h := h0)).call S3 (by decide +kernel)
      refine z_if_ne (M := M_X11_would) 21 dX11_would_21 27 rfl (fun c4 => ?_) (fun c4 => ?_)
      · have k_ := fx3.1.mp (by omega)
        have p_ := fx3.2 (by omega)
        have pb1_ : (1 ≤ h3 95 0 ∧ h3 95 0 ≤ 1600000000) ∧ (0 ≤ h3 95 1 ∧ h3 95 1 ≤ 1600000000) := by have z := p_.1.2.1; unfold pBb bd at z; simp only at z; omega
        have pb2_ : (1 ≤ h3 94 0 ∧ h3 94 0 ≤ 1600000000) ∧ (0 ≤ h3 94 1 ∧ h3 94 1 ≤ 1600000000) := by have z := p_.2.2.1; unfold pBb bd at z; simp only at z; omega
        refine z_aload_n (M := M_X11_would) 27 dX11_would_27 rfl ?_
        refine z_getR (M := M_X11_would) 28 dX11_would_28 f_X11_53 o_0 rfl (g_0_7 G3) ?_
        refine z_iload_n (M := M_X11_would) 31 dX11_would_31 rfl ?_
        refine z_iload (M := M_X11_would) 32 dX11_would_32 rfl ?_
        refine z_vI (M := M_X11_would) 34 dX11_would_34 t_X7_allows l_X11_304 (m_rr_of rfl) (rest := []) (c_X7_allows4 h3 a3 a4 G3 cx1 cx2 pb2_ pb1_) o_93 rfl rfl rfl (Nat.le_of_ble_eq_true rfl) ⟨rfl, rfl⟩ (fun x5 h4 qx5 => ?_)
        obtain ⟨G4, S4, ax5, bx5, fx5⟩ := qx5
        have R4 := R3.call S4 (by decide +kernel)
        refine z_if_ne (M := M_X11_would) 37 dX11_would_37 42 rfl (fun c6 => ?_) (fun c6 => ?_)
        · refine z_aload_n (M := M_X11_would) 42 dX11_would_42 rfl ?_
          refine z_getR (M := M_X11_would) 43 dX11_would_43 f_X11_53 o_0 rfl (g_0_7 G4) ?_
          refine z_iload_n (M := M_X11_would) 46 dX11_would_46 rfl ?_
          refine z_iload (M := M_X11_would) 47 dX11_would_47 rfl ?_
          refine z_vI (M := M_X11_would) 49 dX11_would_49 t_X7_forces l_X11_307 (m_rr_of rfl) (rest := []) (c_X7_forces4 h4 a3 a4 G4 cx1 cx2 (by rw [frE S4]; exact pb2_) (by rw [frE S4]; exact pb1_)) o_93 rfl rfl rfl (Nat.le_of_ble_eq_true rfl) ⟨rfl, rfl⟩ (fun x7 h5 qx7 => ?_)
          obtain ⟨G5, S5, ax7, bx7, fx7⟩ := qx7
          rw [frE S4] at fx7
          have uo_ := fx5.mp (by omega)
          have fi_ := fc_I (T := h3 94 0) (L := h3 94 1) (o := h3 94 2) (T' := h3 95 0) (L' := h3 95 1) (o' := h3 95 2) (by omega) (by omega) (by omega) cx1.1 cx2 uo_.1 uo_.2
          have R5 := R4.call S5 (by decide +kernel)
          refine z_if_eq (M := M_X11_would) 52 dX11_would_52 59 rfl (fun c8 => ?_) (fun c8 => ?_)
          · refine z_iconst (M := M_X11_would) 59 dX11_would_59 ?_
            exact z_retI (M := M_X11_would) 60 dX11_would_60 rfl ⟨G5, R5, by omega, by omega, Or.inr ⟨⟨cx1, cx2, k_⟩, _, _, ⟨p_.2.1, p_.2.2.2.1⟩, ⟨p_.1.1, p_.1.2.2.1⟩, Or.inr ⟨uo_, Or.inr ⟨fun z => absurd (fx7.mpr (fi_.mpr z)) (by omega), rfl⟩⟩⟩⟩
          · refine z_iconst (M := M_X11_would) 55 dX11_would_55 ?_
            refine z_goto (M := M_X11_would) 56 dX11_would_56 60 rfl ?_
            exact z_retI (M := M_X11_would) 60 dX11_would_60 rfl ⟨G5, R5, by omega, by omega, Or.inr ⟨⟨cx1, cx2, k_⟩, _, _, ⟨p_.2.1, p_.2.2.2.1⟩, ⟨p_.1.1, p_.1.2.2.1⟩, Or.inr ⟨uo_, Or.inl ⟨fi_.mp (fx7.mp (by omega)), rfl⟩⟩⟩⟩
        · refine z_iconst (M := M_X11_would) 40 dX11_would_40 ?_
          exact z_retI (M := M_X11_would) 41 dX11_would_41 rfl ⟨G4, R4, by omega, by omega, Or.inr ⟨⟨cx1, cx2, k_⟩, _, _, ⟨p_.2.1, p_.2.2.2.1⟩, ⟨p_.1.1, p_.1.2.2.1⟩, Or.inl ⟨fun z => absurd (fx5.mpr z) (by omega), rfl⟩⟩⟩
      · refine z_bipush (M := M_X11_would) 24 dX11_would_24 ?_
        exact z_retI (M := M_X11_would) 26 dX11_would_26 rfl ⟨G3, R3, by omega, by omega, Or.inl ⟨fun z => absurd (fx3.1.mpr z.2.2) (by omega), rfl⟩⟩
    · refine z_if_eq_T (M := M_X11_would) 12 dX11_would_12 24 rfl (by omega) ?_
      refine z_bipush (M := M_X11_would) 24 dX11_would_24 ?_
      exact z_retI (M := M_X11_would) 26 dX11_would_26 rfl ⟨G0, (FR.rf (cs := (csB ++ [39, 40, 41])) (ss := []) (h := h0)), by omega, by omega, Or.inl ⟨fun z => cx2 z.2.1, rfl⟩⟩
  · refine z_if_eq_T (M := M_X11_would) 4 dX11_would_4 24 rfl (by omega) ?_
    refine z_bipush (M := M_X11_would) 24 dX11_would_24 ?_
    exact z_retI (M := M_X11_would) 26 dX11_would_26 rfl ⟨G0, (FR.rf (cs := (csB ++ [39, 40, 41])) (ss := []) (h := h0)), by omega, by omega, Or.inl ⟨fun z => cx1 z.1, rfl⟩⟩
