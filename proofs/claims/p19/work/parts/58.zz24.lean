/-! what high and low hold, by the reference's edges -/
def dm (a ao b bo : Int) : Prop := 0 < a ∧ (a < b ∨ (a = b ∧ (bo = 1 → ao = 1)))
theorem lb_dm {a ao b bo P Q : Int} {s : Prop} (d : dm a ao b bo) (hP : 0 < P) (l : lb b 2 bo P Q s) : lb a 2 ao P Q s := by
  refine ⟨⟨d.1, by decide⟩, ?_⟩
  rcases d.2 with z | ⟨z, o⟩
  · have m := Int.mul_lt_mul_of_pos_right z hP
    exact Or.inl (Int.lt_of_lt_of_le m (lb_le l))
  · subst z
    rcases l.2 with y | ⟨y, k⟩
    · exact Or.inl y
    · exact Or.inr ⟨y, fun w => o (k w)⟩
theorem lwV_o {hh ho e o : Int} : lwV hh ho e o = (e, o) ∨ (hh ≠ 0 ∧ lwV hh ho e o = (hh, ho)) := by
  unfold lwV
  by_cases c : hh = 0 ∨ e < hh
  · rw [if_pos c]; exact Or.inl rfl
  · rw [if_neg c]
    by_cases d : e = hh ∧ o = 1
    · rw [if_pos d]; obtain ⟨d1, d2⟩ := d; subst d1; subst d2; exact Or.inl rfl
    · rw [if_neg d]; exact Or.inr ⟨by omega, rfl⟩
theorem lwV_1 {hh ho e o : Int} (h0 : 0 ≤ hh) (he : 0 < e) : dm (lwV hh ho e o).1 (lwV hh ho e o).2 e o := by
  unfold lwV dm
  by_cases c : hh = 0 ∨ e < hh
  · rw [if_pos c]; exact ⟨he, Or.inr ⟨rfl, id⟩⟩
  · rw [if_neg c]
    by_cases d : e = hh ∧ o = 1
    · rw [if_pos d]; exact ⟨by show 0 < hh; omega, Or.inr ⟨d.1.symm, fun _ => rfl⟩⟩
    · rw [if_neg d]
      refine ⟨by show 0 < hh; omega, ?_⟩
      by_cases y : hh < e
      · exact Or.inl y
      · exact Or.inr ⟨by show hh = e; omega, fun z => absurd ⟨by omega, z⟩ d⟩
theorem lwV_2 {hh ho e o : Int} (h0 : 0 < hh) (he : 0 < e) : dm (lwV hh ho e o).1 (lwV hh ho e o).2 hh ho := by
  unfold lwV dm
  by_cases c : hh = 0 ∨ e < hh
  · rw [if_pos c]; exact ⟨he, Or.inl (by show e < hh; omega)⟩
  · rw [if_neg c]
    by_cases d : e = hh ∧ o = 1
    · rw [if_pos d]; exact ⟨h0, Or.inr ⟨rfl, fun _ => rfl⟩⟩
    · rw [if_neg d]; exact ⟨h0, Or.inr ⟨rfl, id⟩⟩
theorem mxI_b {x y : Int} : x ≤ mxI x y ∧ y ≤ mxI x y ∧ (mxI x y = x ∨ mxI x y = y) := by
  unfold mxI; split <;> omega
def tF1 (Ls : List gE) (h : m_H) : Prop := ∀ i k : Nat, i < 12 → k < 4 → h 39 (4 * i + k) ≠ 0 → ∃ w, wk Ls w i (12 + k) ∧ h 39 (4 * i + k) * wp w = 2 * wq w ∧ (h 40 (4 * i + k) = 1 → ws w)
def tF2 (Ls : List gE) (h : m_H) : Prop := ∀ i k : Nat, i < 12 → k < 4 → h 41 (4 * i + k) ≠ 0 → ∃ w, wk Ls w (12 + k) i ∧ h 41 (4 * i + k) * wq w = 2 * wp w
def tF3 (D : List gE) (h : m_H) : Prop := ∀ q ∈ D, ∀ k : Nat, k < 4 → q.1.1 < 12 → q.1.2 = 12 + k → lb (h 39 (4 * q.1.1 + k)) 2 (h 40 (4 * q.1.1 + k)) q.2.1 q.2.2.1 (q.2.2.2 = 1)
def tF4 (D : List gE) (h : m_H) : Prop := ∀ q ∈ D, ∀ k : Nat, k < 4 → q.1.1 = 12 + k → q.1.2 < 12 → 2 * q.2.1 ≤ h 41 (4 * q.1.2 + k) * q.2.2.1
def TI (Ls D : List gE) (h : m_H) : Prop := bkH h ∧ tF1 Ls h ∧ tF2 Ls h ∧ tF3 D h ∧ tF4 D h
theorem TI_c {Ls D : List gE} {h h' : m_H} (T : TI Ls D h) (e9 : h' 39 = h 39) (e0 : h' 40 = h 40) (e1 : h' 41 = h 41) : TI Ls D h' := by
  obtain ⟨a, b, c, d, e⟩ := T
  refine ⟨fun j hj => ?_, fun i k h1 h2 h3 => ?_, fun i k h1 h2 h3 => ?_, fun q hq k h1 h2 h3 => ?_, fun q hq k h1 h2 h3 => ?_⟩
  · rw [e9, e1]; exact a j hj
  · rw [e9] at h3 ⊢; rw [e0]; exact b i k h1 h2 h3
  · rw [e1] at h3 ⊢; exact c i k h1 h2 h3
  · rw [e9, e0]; exact d q hq k h1 h2 h3
  · rw [e1]; exact e q hq k h1 h2 h3
theorem TI_0 {Ls : List gE} {h : m_H} (h9 : ∀ j : Nat, j < 48 → h 39 j = 0) (h1 : ∀ j : Nat, j < 48 → h 41 j = 0) : TI Ls [] h :=
  ⟨fun j hj => by rw [h9 j hj, h1 j hj]; omega, fun i k a b c => absurd (h9 _ (by omega)) c, fun i k a b c => absurd (h1 _ (by omega)) c, fun q hq => (by cases hq), fun q hq => (by cases hq)⟩
theorem TI_tie {Ls D : List gE} {h h' : m_H} {i k : Nat} {E o lo P1 Q1 P2 Q2 op : Int} (T : TI Ls D h) (hD : ∀ q ∈ D, 0 < q.2.1 ∧ 0 < q.2.2.1) (hi : i < 12) (hk : k < 4) (V : tiV (4 * i + k) E o lo h h') (m1 : ((12 + k, i), (P1, Q1, 0)) ∈ Ls) (m2 : ((i, 12 + k), (P2, Q2, op)) ∈ Ls) (hE : 0 < E ∧ E ≤ 200) (hl : 0 < lo ∧ lo ≤ 200) (pq : (0 < P1 ∧ 0 < Q1) ∧ 0 < P2 ∧ 0 < Q2) (x1 : lo * Q1 = 2 * P1) (x2 : E * P2 = 2 * Q2) (xo : o = 1 ↔ op = 1) : TI Ls (D ++ [((12 + k, i), (P1, Q1, 0)), ((i, 12 + k), (P2, Q2, op))]) h' := by
  obtain ⟨a, b, c, d, e⟩ := T
  obtain ⟨v1, v2, v3, v4⟩ := V
  have f3 : h' 39 (4 * i + k) = (lwV (h 39 (4 * i + k)) (h 40 (4 * i + k)) E o).1 := congrArg Prod.fst v3
  have f4 : h' 40 (4 * i + k) = (lwV (h 39 (4 * i + k)) (h 40 (4 * i + k)) E o).2 := congrArg Prod.snd v3
  have ap := a (4 * i + k) (by omega)
  have or_ := lwV_o (hh := h 39 (4 * i + k)) (ho := h 40 (4 * i + k)) (e := E) (o := o)
  have mx := mxI_b (x := h 41 (4 * i + k)) (y := lo)
  refine ⟨fun j hj => ?_, fun i' k' h1 h2 h3 => ?_, fun i' k' h1 h2 h3 => ?_, fun q hq k' h1 h2 h3 => ?_, fun q hq k' h1 h2 h3 => ?_⟩
  · by_cases g : j = 4 * i + k
    · subst g
      rw [f3, v4]
      rcases or_ with z | ⟨_, z⟩
      · rw [z]; exact ⟨⟨Int.le_of_lt hE.1, hE.2⟩, by omega, by omega⟩
      · rw [z]; exact ⟨ap.1, by omega, by omega⟩
    · rw [(v2 j g).1, (v2 j g).2.2]; exact a j hj
  · by_cases g : 4 * i' + k' = 4 * i + k
    · have gi : i' = i := by omega
      have gk : k' = k := by omega
      subst gi; subst gk
      rw [f3] at h3 ⊢
      rw [f4]
      rcases or_ with z | ⟨n, z⟩
      · rw [z]
        refine ⟨[((i', 12 + k'), (P2, Q2, op))], ⟨⟨m2, rfl⟩, rfl, by show 12 + k' < 16; omega⟩, ?_, fun w => Or.inl (xo.mp w)⟩
        show E * (P2 * 1) = 2 * (Q2 * 1)
        rw [Int.mul_one, Int.mul_one]; exact x2
      · rw [z]; exact b i' k' h1 h2 n
    · rw [(v2 _ g).1] at h3 ⊢; rw [(v2 _ g).2.1]; exact b i' k' h1 h2 h3
  · by_cases g : 4 * i' + k' = 4 * i + k
    · have gi : i' = i := by omega
      have gk : k' = k := by omega
      subst gi; subst gk
      rw [v4] at h3 ⊢
      rcases mx.2.2 with z | z
      · rw [z] at h3 ⊢; exact c i' k' h1 h2 h3
      · rw [z]
        refine ⟨[((12 + k', i'), (P1, Q1, 0))], ⟨⟨m1, rfl⟩, rfl, by show i' < 16; omega⟩, ?_⟩
        show lo * (Q1 * 1) = 2 * (P1 * 1)
        rw [Int.mul_one, Int.mul_one]; exact x1
    · rw [(v2 _ g).2.2] at h3 ⊢; exact c i' k' h1 h2 h3
  · rcases List.mem_append.mp hq with hq | hq
    · have z := d q hq k' h1 h2 h3
      by_cases g : 4 * q.1.1 + k' = 4 * i + k
      · rw [g] at z ⊢
        rw [f3, f4]
        exact lb_dm (lwV_2 z.1.1 hE.1) (hD q hq).1 z
      · rw [(v2 _ g).1, (v2 _ g).2.1]; exact z
    · rcases List.mem_cons.mp hq with rfl | hq
      · exact absurd h2 (by show ¬ 12 + k < 12; omega)
      · rcases List.mem_cons.mp hq with rfl | hq
        · have gk : k' = k := by have z : 12 + k = 12 + k' := h3; omega
          subst gk
          show lb (h' 39 (4 * i + k')) 2 (h' 40 (4 * i + k')) P2 Q2 (op = 1)
          rw [f3, f4]
          refine lb_dm (lwV_1 ap.1.1 hE.1) pq.2.1 ⟨⟨hE.1, by decide⟩, Or.inr ⟨x2, fun w => xo.mpr w⟩⟩
        · cases hq
  · rcases List.mem_append.mp hq with hq | hq
    · have z := e q hq k' h1 h2 h3
      by_cases g : 4 * q.1.2 + k' = 4 * i + k
      · rw [g] at z ⊢
        rw [v4]
        have m := Int.mul_le_mul_of_nonneg_right mx.1 (Int.le_of_lt (hD q hq).2)
        omega
      · rw [(v2 _ g).2.2]; exact z
    · rcases List.mem_cons.mp hq with rfl | hq
      · have gk : k' = k := by have z : 12 + k = 12 + k' := h2; omega
        subst gk
        show 2 * P1 ≤ h' 41 (4 * i + k') * Q1
        rw [v4]
        have m := Int.mul_le_mul_of_nonneg_right mx.2.1 (Int.le_of_lt pq.1.2)
        omega
      · rcases List.mem_cons.mp hq with rfl | hq
        · exact absurd h3 (by show ¬ 12 + k < 12; omega)
        · cases hq
/-- cuts -/
def cI (C : Nat → Int) (n : Nat) (h : m_H) : Prop := ∀ t k : Nat, t < n → C t ≠ -1 → k < 4 → (h 39 (4 * t + k) ≠ 0 → dm (h 39 (4 * (t + 6) + k)) (h 40 (4 * (t + 6) + k)) (h 39 (4 * t + k)) (h 40 (4 * t + k))) ∧ h 41 (4 * (t + 6) + k) ≤ h 41 (4 * t + k)
theorem cI_c {C : Nat → Int} {n : Nat} {h h' : m_H} (T : cI C n h) (e9 : h' 39 = h 39) (e0 : h' 40 = h 40) (e1 : h' 41 = h 41) : cI C n h' := fun t k a b c => by
  rw [e9, e0, e1]; exact T t k a b c
theorem cu_at {t : Nat} {h h' : m_H} (V : cuI (t : Int) 4 h h') (j : Nat) : (¬ (4 * t + 24 ≤ j ∧ j < 4 * t + 28) → h' 39 j = h 39 j ∧ h' 40 j = h 40 j) ∧ (¬ (4 * t ≤ j ∧ j < 4 * t + 4) → h' 41 j = h 41 j) := by
  obtain ⟨z1, z2⟩ := V.2 j
  refine ⟨fun g => ?_, fun g => ?_⟩
  · rw [if_neg (fun y => g (by omega))] at z1
    exact ⟨congrArg Prod.fst z1, congrArg Prod.snd z1⟩
  · rw [if_neg (fun y => g (by omega))] at z2; exact z2
theorem cu_rest {t k : Nat} {h h' : m_H} (V : cuI (t : Int) 4 h h') (hk : k < 4) : (h 39 (4 * t + k) = 0 → h' 39 (4 * (t + 6) + k) = h 39 (4 * (t + 6) + k) ∧ h' 40 (4 * (t + 6) + k) = h 40 (4 * (t + 6) + k)) ∧ (h 39 (4 * t + k) ≠ 0 → h' 39 (4 * (t + 6) + k) = (lwV (h 39 (4 * (t + 6) + k)) (h 40 (4 * (t + 6) + k)) (h 39 (4 * t + k)) (h 40 (4 * t + k))).1 ∧ h' 40 (4 * (t + 6) + k) = (lwV (h 39 (4 * (t + 6) + k)) (h 40 (4 * (t + 6) + k)) (h 39 (4 * t + k)) (h 40 (4 * t + k))).2) ∧ h' 41 (4 * t + k) = mxI (h 41 (4 * t + k)) (h 41 (4 * (t + 6) + k)) := by
  have z1 := (V.2 (4 * (t + 6) + k)).1
  have z2 := (V.2 (4 * t + k)).2
  have e : 4 * (t + 6) + k - 24 = 4 * t + k := by omega
  have e2 : 4 * t + k + 24 = 4 * (t + 6) + k := by omega
  rw [e] at z1
  rw [if_pos (by omega), e2] at z2
  refine ⟨fun g => ?_, fun g => ?_, z2⟩
  · rw [if_neg (fun y => y.2.2 g)] at z1
    exact ⟨congrArg Prod.fst z1, congrArg Prod.snd z1⟩
  · rw [if_pos ⟨by omega, by omega, g⟩] at z1
    exact ⟨congrArg Prod.fst z1, congrArg Prod.snd z1⟩
theorem cI_cut {C : Nat → Int} {t : Nat} {h h' : m_H} (I : cI C t h) (a : bkH h) (ht : t < 6) (V : cuI (t : Int) 4 h h') : cI C (t + 1) h' := fun s k hs hC hk => by
  by_cases g : s = t
  · subst g
    obtain ⟨r1, r2, r3⟩ := cu_rest V hk
    have w := (cu_at V (4 * s + k)).1 (by omega)
    have l := (cu_at V (4 * (s + 6) + k)).2 (by omega)
    refine ⟨fun n => ?_, ?_⟩
    · rw [w.1] at n ⊢
      rw [w.2, (r2 n).1, (r2 n).2]
      have a1 := a (4 * s + k) (by omega)
      have a2 := a (4 * (s + 6) + k) (by omega)
      exact lwV_1 a2.1.1 (by omega)
    · rw [l, r3]; exact mxI_b.2.1
  · have i := I s k (by omega) hC hk
    have w := (cu_at V (4 * s + k)).1 (by omega)
    have w2 := (cu_at V (4 * (s + 6) + k)).1 (by omega)
    have l := (cu_at V (4 * (s + 6) + k)).2 (by omega)
    have l2 := (cu_at V (4 * s + k)).2 (by omega)
    rw [w.1, w.2, w2.1, w2.2, l, l2]; exact i
theorem TI_cut {Ls D : List gE} {t : Nat} {h h' : m_H} (T : TI Ls D h) (hD : ∀ q ∈ D, 0 < q.2.1 ∧ 0 < q.2.2.1) (ht : t < 6) (m : ((6 + t, t), ((1 : Int), (1 : Int), (0 : Int))) ∈ Ls) (V : cuI (t : Int) 4 h h') : TI Ls D h' := by
  obtain ⟨a, b, c, d, e⟩ := T
  -- every place: as it was, or the rest's, or the whole's
  have hi : ∀ i k : Nat, i < 12 → k < 4 → (h' 39 (4 * i + k) = h 39 (4 * i + k) ∧ h' 40 (4 * i + k) = h 40 (4 * i + k)) ∨ (i = t + 6 ∧ h 39 (4 * t + k) ≠ 0 ∧ h' 39 (4 * i + k) = (lwV (h 39 (4 * i + k)) (h 40 (4 * i + k)) (h 39 (4 * t + k)) (h 40 (4 * t + k))).1 ∧ h' 40 (4 * i + k) = (lwV (h 39 (4 * i + k)) (h 40 (4 * i + k)) (h 39 (4 * t + k)) (h 40 (4 * t + k))).2) := fun i k h1 h2 => by
    by_cases g : i = t + 6
    · subst g
      obtain ⟨r1, r2, r3⟩ := cu_rest V h2
      by_cases n : h 39 (4 * t + k) = 0
      · exact Or.inl (r1 n)
      · exact Or.inr ⟨rfl, n, r2 n⟩
    · exact Or.inl ((cu_at V _).1 (by omega))
  have lo : ∀ i k : Nat, i < 12 → k < 4 → h' 41 (4 * i + k) = h 41 (4 * i + k) ∨ (i = t ∧ h' 41 (4 * i + k) = mxI (h 41 (4 * i + k)) (h 41 (4 * (i + 6) + k))) := fun i k h1 h2 => by
    by_cases g : i = t
    · subst g; exact Or.inr ⟨rfl, (cu_rest V h2).2.2⟩
    · exact Or.inl ((cu_at V _).2 (by omega))
  refine ⟨fun j hj => ?_, fun i k h1 h2 h3 => ?_, fun i k h1 h2 h3 => ?_, fun q hq k h1 h2 h3 => ?_, fun q hq k h1 h2 h3 => ?_⟩
  · obtain ⟨i, k, ei, ek, ej⟩ : ∃ i k : Nat, i < 12 ∧ k < 4 ∧ j = 4 * i + k := ⟨j / 4, j % 4, by omega, by omega, by omega⟩
    subst ej
    have aj := a (4 * i + k) hj
    constructor
    · rcases hi i k ei ek with z | ⟨g, n, z, _⟩
      · rw [z.1]; exact aj.1
      · have at_ := a (4 * t + k) (by omega)
        rw [z]
        rcases lwV_o (hh := h 39 (4 * i + k)) (ho := h 40 (4 * i + k)) (e := h 39 (4 * t + k)) (o := h 40 (4 * t + k)) with y | ⟨_, y⟩
        · rw [y]; exact at_.1
        · rw [y]; exact aj.1
    · rcases lo i k ei ek with z | ⟨g, z⟩
      · rw [z]; exact aj.2
      · have a6 := a (4 * (i + 6) + k) (by omega)
        rw [z]
        have mx := mxI_b (x := h 41 (4 * i + k)) (y := h 41 (4 * (i + 6) + k))
        omega
  · rcases hi i k h1 h2 with z | ⟨g, n, z, z2⟩
    · rw [z.1] at h3 ⊢; rw [z.2]; exact b i k h1 h2 h3
    · rw [z, z2]
      rcases lwV_o (hh := h 39 (4 * i + k)) (ho := h 40 (4 * i + k)) (e := h 39 (4 * t + k)) (o := h 40 (4 * t + k)) with y | ⟨n2, y⟩
      · rw [y]
        obtain ⟨w, w1, w2, w3⟩ := b t k (by omega) h2 n
        refine ⟨((6 + t, t), (1, 1, 0)) :: w, ⟨⟨m, by show 6 + t = i; omega⟩, w1⟩, ?_, fun o => Or.inr (w3 o)⟩
        show h 39 (4 * t + k) * (1 * wp w) = 2 * (1 * wq w)
        rw [Int.one_mul, Int.one_mul]; exact w2
      · rw [y]; exact b i k h1 h2 n2
  · rcases lo i k h1 h2 with z | ⟨g, z⟩
    · rw [z] at h3 ⊢; exact c i k h1 h2 h3
    · rw [z] at h3 ⊢
      rcases (mxI_b (x := h 41 (4 * i + k)) (y := h 41 (4 * (i + 6) + k))).2.2 with y | y
      · rw [y] at h3 ⊢; exact c i k h1 h2 h3
      · rw [y] at h3 ⊢
        obtain ⟨w, w1, w2⟩ := c (i + 6) k (by omega) h2 h3
        have w1' : wk Ls w (12 + k) (6 + t) := by rw [show 6 + t = i + 6 by omega]; exact w1
        refine ⟨w ++ [((6 + t, t), (1, 1, 0))], wk_app w _ _ _ _ w1' ⟨⟨m, rfl⟩, by show t = i; omega, by show t < 16; omega⟩, ?_⟩
        rw [wq_app, wp_app]
        show h 41 (4 * (i + 6) + k) * (wq w * (1 * 1)) = 2 * (wp w * (1 * 1))
        rw [Int.one_mul, Int.mul_one, Int.mul_one]; exact w2
  · have z := d q hq k h1 h2 h3
    rcases hi q.1.1 k h2 h1 with y | ⟨g, n, y, y2⟩
    · rw [y.1, y.2]; exact z
    · rw [y, y2]
      have at_ := a (4 * t + k) (by omega)
      exact lb_dm (lwV_2 z.1.1 (by omega)) (hD q hq).1 z
  · have z := e q hq k h1 h2 h3
    rcases lo q.1.2 k h3 h1 with y | ⟨g, y⟩
    · rw [y]; exact z
    · rw [y]
      have m := Int.mul_le_mul_of_nonneg_right (mxI_b (x := h 41 (4 * q.1.2 + k)) (y := h 41 (4 * (q.1.2 + 6) + k))).1 (Int.le_of_lt (hD q hq).2)
      omega
/-! steps over lengths: each that stands is a walk, and leaves no more than any -/
def lq (X Y : Int × Int × Int) : Prop := ∀ (P Q : Int) (s : Prop), 0 < P → 0 < Q → lb Y.1 Y.2.1 Y.2.2 P Q s → lb X.1 X.2.1 X.2.2 P Q s
theorem lq_t {X Y Z : Int × Int × Int} (h : lq X Y) (k : lq Y Z) : lq X Z := fun P Q s a b c => h P Q s a b (k P Q s a b c)
theorem lq_l {b c : Int × Int × Int} (hc : 0 < c.1 ∧ 0 < c.2.1) : lq (lsB b c) b := fun _ _ _ a d l => lsB_1 l hc ⟨a, d⟩
theorem lq_r {b c : Int × Int × Int} (hb : 0 < b.1 ∧ 0 ≤ b.2.1) : lq (lsB b c) c := fun _ _ _ a d l => lsB_2 l hb ⟨a, d⟩
def sF1 (Ls : List gE) (h : m_H) : Prop := ∀ a b : Nat, a < 4 → b < 4 → rl Ls (bd h (43 + (4 * a + b))) (12 + a) (12 + b)
def sF2 (n : Nat) (h : m_H) : Prop := ∀ i a b : Nat, i < n → a < 4 → b < 4 → h 41 (4 * i + a) ≠ 0 → h 39 (4 * i + b) ≠ 0 → lq (bd h (43 + (4 * a + b))) (h 39 (4 * i + b), h 41 (4 * i + a), h 40 (4 * i + b))
def sF3 (s : Int) (n : Nat) (h : m_H) : Prop := ∀ p : Nat, p < n → bt s p = true → lq (bd h (43 + p)) (1, 1, 1)
theorem so_at {i a b : Nat} {h h' : m_H} (V : soQ (i : Int) 16 h h') (ha : a < 4) (hb : b < 4) : bd h' (43 + (4 * a + b)) = if h 41 (4 * i + a) ≠ 0 ∧ h 39 (4 * i + b) ≠ 0 then lsB (bd h (43 + (4 * a + b))) (h 39 (4 * i + b), h 41 (4 * i + a), h 40 (4 * i + b)) else bd h (43 + (4 * a + b)) := by
  have z := V.2 (4 * a + b) (by omega)
  rw [if_pos (by omega)] at z
  unfold soW at z
  have e1 : 4 * ((i : Int)).toNat + (4 * a + b) / 4 = 4 * i + a := by omega
  have e2 : 4 * ((i : Int)).toNat + (4 * a + b) % 4 = 4 * i + b := by omega
  rw [e1, e2] at z
  exact z
theorem sF1_so {Ls D : List gE} {i : Nat} {h h' : m_H} (T : TI Ls D h) (S : sF1 Ls h) (hi : i < 12) (V : soQ (i : Int) 16 h h') : sF1 Ls h' := fun a b ha hb => by
  rw [so_at V ha hb]
  by_cases g : h 41 (4 * i + a) ≠ 0 ∧ h 39 (4 * i + b) ≠ 0
  · rw [if_pos g]
    refine rl_ls (S a b ha hb) (fun _ => ?_)
    obtain ⟨w, w1, w2⟩ := T.2.2.1 i a hi ha g.1
    obtain ⟨v, v1, v2, v3⟩ := T.2.1 i b hi hb g.2
    refine ⟨w ++ v, wk_app w v _ _ _ w1 v1, ?_, fun o => (ws_app w v).mpr (Or.inr (v3 o))⟩
    show h 39 (4 * i + b) * wp (w ++ v) = h 41 (4 * i + a) * wq (w ++ v)
    rw [wp_app, wq_app]
    have k1 : 2 * (h 39 (4 * i + b) * (wp w * wp v)) = (h 39 (4 * i + b) * wp v) * (2 * wp w) := by ac_rfl
    have k2 : 2 * (h 41 (4 * i + a) * (wq w * wq v)) = (2 * wq v) * (h 41 (4 * i + a) * wq w) := by ac_rfl
    rw [v2, ← w2] at k1
    omega
  · rw [if_neg g]; exact S a b ha hb
theorem sF2_so {i : Nat} {h h' : m_H} (a_ : bkH h) (k_ : bkS h) (S : sF2 i h) (hi : i < 12) (V : soQ (i : Int) 16 h h') : sF2 (i + 1) h' := fun j a b hj ha hb n1 n2 => by
  have e39 := V.1 39 (by omega)
  have e40 := V.1 40 (by omega)
  have e41 := V.1 41 (by omega)
  rw [e41] at n1 ⊢
  rw [e39] at n2 ⊢
  rw [e40, so_at V ha hb]
  by_cases g : h 41 (4 * i + a) ≠ 0 ∧ h 39 (4 * i + b) ≠ 0
  · rw [if_pos g]
    have y1 := a_ (4 * i + a) (by omega)
    have y2 := a_ (4 * i + b) (by omega)
    by_cases q : j = i
    · subst q
      have z := k_ (4 * a + b) (by omega)
      exact lq_r ⟨z.1.1, z.2.1⟩
    · refine lq_t (lq_l ?_) (S j a b (by omega) ha hb n1 n2)
      show 0 < h 39 (4 * i + b) ∧ 0 < h 41 (4 * i + a)
      omega
  · rw [if_neg g]
    by_cases q : j = i
    · subst q; exact absurd ⟨n1, n2⟩ g
    · exact S j a b (by omega) ha hb n1 n2
/-- a shorter one -/
theorem sF_sh {Ls D : List gE} {s : Int} {p : Nat} {h h' : m_H} (k_ : bkS h) (S1 : sF1 Ls h) (S2 : sF2 12 h) (S3 : sF3 s p h) (hp : p < 16) (hm : ((12 + p / 4, 12 + p % 4), ((1 : Int), (1 : Int), (1 : Int))) ∈ Ls) (B : bN (43 + p) (lsB (bd h (43 + p)) (1, 1, 1)) h h') : bkS h' ∧ sF1 Ls h' ∧ sF2 12 h' ∧ sF3 s (p + 1) h' := by
  have l1 : lq (lsB (bd h (43 + p)) (1, 1, 1)) (bd h (43 + p)) := lq_l ⟨by decide, by decide⟩
  have kp := k_ p hp
  refine ⟨fun q hq => ?_, fun a b ha hb => ?_, fun i a b hi ha hb n1 n2 => ?_, fun q hq hb => ?_⟩
  · by_cases g : q = p
    · subst g; rw [B.2]; exact pBb_ls kp ⟨⟨by decide, by decide⟩, by decide, by decide⟩
    · rw [bd_ne B (by omega)]; exact k_ q hq
  · by_cases g : 4 * a + b = p
    · rw [g, B.2]
      have z := S1 a b ha hb
      rw [g] at z
      refine rl_ls z (fun _ => ⟨[((12 + p / 4, 12 + p % 4), (1, 1, 1))], ⟨⟨hm, by show 12 + p / 4 = 12 + a; omega⟩, by show 12 + p % 4 = 12 + b; omega, by show 12 + p % 4 < 16; omega⟩, rfl, fun _ => Or.inl rfl⟩)
    · rw [bd_ne B (by omega)]; exact S1 a b ha hb
  · have e39 := B.1 39 (by omega)
    have e40 := B.1 40 (by omega)
    have e41 := B.1 41 (by omega)
    rw [e41] at n1 ⊢
    rw [e39] at n2 ⊢
    rw [e40]
    have z := S2 i a b hi ha hb n1 n2
    by_cases g : 4 * a + b = p
    · rw [g] at z ⊢; rw [B.2]; exact lq_t l1 z
    · rw [bd_ne B (by omega)]; exact z
  · by_cases g : q = p
    · subst g; rw [B.2]; exact lq_r ⟨kp.1.1, kp.2.1⟩
    · rw [bd_ne B (by omega)]; exact S3 q (by omega) hb
/-- what the edges are -/
def eCl (D Ls : List gE) (C : Nat → Int) (s : Int) : Prop := ∀ q ∈ Ls, (12 ≤ q.1.1 → 12 ≤ q.1.2 → (q.2.1 = 1 ∧ q.2.2.1 = 1 ∧ q.2.2.2 = 1) ∧ bt s (4 * (q.1.1 - 12) + (q.1.2 - 12)) = true) ∧ (12 ≤ q.1.1 → q.1.2 < 12 → q ∈ D ∧ q.2.2.2 ≠ 1) ∧ (q.1.1 < 12 → 12 ≤ q.1.2 → q ∈ D) ∧ (q.1.1 < 12 → q.1.2 < 12 → (q.1.1 = 6 + q.1.2 ∧ C q.1.2 ≠ -1) ∧ q.2.1 = 1 ∧ q.2.2.1 = 1 ∧ q.2.2.2 ≠ 1)
/-- low and high of one length, together -/
theorem lb_lo {hi ho lo P1 Q1 P2 Q2 : Int} {s : Prop} (l : lb hi 2 ho P2 Q2 s) (k : 2 * P1 ≤ lo * Q1) (p1 : 0 < P1 ∧ 0 < Q1) (p2 : 0 < P2 ∧ 0 < Q2) : lb hi lo ho (P1 * P2) (Q1 * Q2) s ∧ lo ≠ 0 ∧ hi ≠ 0 := by
  have lp : 0 < lo := by
    rcases Int.lt_or_le 0 lo with y | y
    · exact y
    · have := Int.mul_nonpos_of_nonpos_of_nonneg y (Int.le_of_lt p1.2)
      omega
  refine ⟨⟨⟨l.1.1, lp⟩, ?_⟩, by omega, by have := l.1.1; omega⟩
  have m1 := Int.mul_le_mul_of_nonneg_left k (Int.le_of_lt p2.2)
  have b1 : 2 * (hi * (P1 * P2)) = 2 * (hi * P2) * P1 := by ac_rfl
  have b2 : Q2 * (2 * P1) = (2 * Q2) * P1 := by ac_rfl
  have b3 : Q2 * (lo * Q1) = lo * (Q1 * Q2) := by ac_rfl
  rcases l.2 with z | ⟨z, o⟩
  · have m2 := Int.mul_lt_mul_of_pos_right z p1.1
    have b4 : hi * P2 * P1 = hi * (P1 * P2) := by ac_rfl
    left; omega
  · have b4 : hi * P2 * P1 = hi * (P1 * P2) := by ac_rfl
    rw [z] at b4
    rcases Int.lt_or_eq_of_le (show hi * (P1 * P2) ≤ lo * (Q1 * Q2) by omega) with y | y
    · exact Or.inl y
    · exact Or.inr ⟨y, o⟩
/-- the steps leave no more than any step of the edges -/
theorem step_ok {Ls D : List gE} {C : Nat → Int} {s : Int} {h : m_H} (hE : ∀ e ∈ Ls, gEo e) (cl : eCl D Ls C s) (T : TI Ls D h) (c_ : cI C 6 h) (S2 : sF2 12 h) (S3 : sF3 s 16 h) : ∀ e, MF Ls e → lb (wyH 43 h e.1.1 e.1.2).1 (wyH 43 h e.1.1 e.1.2).2.1 (wyH 43 h e.1.1 e.1.2).2.2 e.2.1 e.2.2.1 (e.2.2.2 = 1) := fun e he => by
  obtain ⟨⟨f1, f2⟩, u, ⟨u1, u2, u3⟩, u4, u5, u6⟩ := he
  have pu := wp_pos hE u _ _ u1
  obtain ⟨a, ea, ha⟩ : ∃ a : Nat, e.1.1 = 12 + a ∧ a < 4 := ⟨e.1.1 - 12, by omega, by omega⟩
  obtain ⟨b, eb, hb⟩ : ∃ b : Nat, e.1.2 = 12 + b ∧ b < 4 := ⟨e.1.2 - 12, by omega, by omega⟩
  have ew : wyH 43 h e.1.1 e.1.2 = bd h (43 + (4 * a + b)) := by
    unfold wyH
    rw [ea, eb, show (4 * (12 + a - 12) + (12 + b - 12)) % 16 = 4 * a + b by omega]
  rw [ew, u4, u5]
  refine lb_c (s := ws u) ?_ rfl rfl u6.mp
  rw [ea, eb] at u1
  rw [ea] at u3
  clear u4 u5 u6 ew f1 f2 ea eb
  -- through one length
  have mid : ∀ (q1 q2 : gE) (i : Nat), i < 12 → q1 ∈ Ls → q2 ∈ Ls → q1.1.1 = 12 + a → q1.1.2 < 12 → q2.1.1 = i → q2.1.2 = 12 + b → 2 * q1.2.1 ≤ h 41 (4 * i + a) * q1.2.2.1 → ∀ P Q : Int, ∀ s' : Prop, P = q1.2.1 * q2.2.1 → Q = q1.2.2.1 * q2.2.2.1 → (s' → q2.2.2.2 = 1) → lb (bd h (43 + (4 * a + b))).1 (bd h (43 + (4 * a + b))).2.1 (bd h (43 + (4 * a + b))).2.2 P Q s' := fun q1 q2 i hi m1 m2 x1 x2 x3 x4 k P Q s' eP eQ es => by
    have g1 := hE q1 m1
    have g2 := hE q2 m2
    unfold gEo at g1 g2
    have d2 := (cl q2 m2).2.2.1 (by omega) (by omega)
    have l2 := T.2.2.2.1 q2 d2 b hb (by omega) x4
    rw [x3] at l2
    obtain ⟨l, n1, n2⟩ := lb_lo l2 k ⟨by omega, by omega⟩ ⟨by omega, by omega⟩
    subst eP; subst eQ
    exact S2 i a b hi ha hb n1 n2 _ _ _ (Int.mul_pos (by omega) (by omega)) (Int.mul_pos (by omega) (by omega)) (lb_c l rfl rfl es)
  match u, u1, u2, u3, pu with
  | [q], u1, _, _, _ =>
    obtain ⟨⟨m, x1⟩, x2, _⟩ := u1
    obtain ⟨⟨y1, y2, y3⟩, y4⟩ := (cl q m).1 (by omega) (by omega)
    rw [show 4 * (q.1.1 - 12) + (q.1.2 - 12) = 4 * a + b by omega] at y4
    refine S3 _ (by omega) y4 _ _ _ (by show 0 < q.2.1 * 1; omega) (by show 0 < q.2.2.1 * 1; omega) ⟨⟨by decide, by decide⟩, Or.inr ⟨?_, fun _ => rfl⟩⟩
    show 1 * (q.2.1 * 1) = 1 * (q.2.2.1 * 1)
    rw [y1, y2]
  | [q1, q2], u1, _, u3, _ =>
    obtain ⟨⟨m1, x1⟩, ⟨m2, x2⟩, x3, _⟩ := u1
    have i1 : q1.1.2 < 12 := u3 q1.1.2 List.mem_cons_self
    have d1 := (cl q1 m1).2.1 (by omega) i1
    have k := T.2.2.2.2 q1 d1.1 a ha x1 i1
    refine mid q1 q2 q1.1.2 i1 m1 m2 x1 i1 x2 x3 k _ _ _ (by show q1.2.1 * (q2.2.1 * 1) = _; rw [Int.mul_one]) (by show q1.2.2.1 * (q2.2.2.1 * 1) = _; rw [Int.mul_one]) (fun z => ?_)
    rcases z with z | z | z
    · exact absurd z d1.2
    · exact z
    · exact z.elim
  | [q1, q0, q2], u1, _, u3, _ =>
    obtain ⟨⟨m1, x1⟩, ⟨m0, x0⟩, ⟨m2, x2⟩, x3, _⟩ := u1
    have i1 : q1.1.2 < 12 := u3 q1.1.2 List.mem_cons_self
    have i0 : q0.1.2 < 12 := u3 q0.1.2 (List.mem_cons_of_mem _ List.mem_cons_self)
    have d1 := (cl q1 m1).2.1 (by omega) i1
    have k := T.2.2.2.2 q1 d1.1 a ha x1 i1
    obtain ⟨⟨z1, z2⟩, z3, z4, z5⟩ := (cl q0 m0).2.2.2 (by omega) i0
    have cc := (c_ q0.1.2 a (by omega) z2 ha).2
    have g1 := hE q1 m1
    unfold gEo at g1
    have e6 : q1.1.2 = q0.1.2 + 6 := by omega
    rw [e6] at k
    have mm := Int.mul_le_mul_of_nonneg_right cc (show 0 ≤ q1.2.2.1 by omega)
    refine mid q1 q2 q0.1.2 i0 m1 m2 x1 i1 x2 x3 (by omega) _ _ _ (by show q1.2.1 * (q0.2.1 * (q2.2.1 * 1)) = _; rw [Int.mul_one, z3, Int.one_mul]) (by show q1.2.2.1 * (q0.2.2.1 * (q2.2.2.1 * 1)) = _; rw [Int.mul_one, z4, Int.one_mul]) (fun z => ?_)
    rcases z with z | z | z | z
    · exact absurd z d1.2
    · exact absurd z z5
    · exact z
    · exact z.elim
  | q1 :: q0 :: q9 :: q2 :: v, u1, _, u3, _ =>
    exfalso
    obtain ⟨⟨m1, x1⟩, ⟨m0, x0⟩, ⟨m9, x9⟩, _⟩ := u1
    have i1 : q1.1.2 < 12 := u3 q1.1.2 List.mem_cons_self
    have i0 : q0.1.2 < 12 := u3 q0.1.2 (List.mem_cons_of_mem _ List.mem_cons_self)
    have i9 : q9.1.2 < 12 := u3 q9.1.2 (List.mem_cons_of_mem _ (List.mem_cons_of_mem _ (by cases v <;> exact List.mem_cons_self)))
    have z0 := ((cl q0 m0).2.2.2 (by omega) i0).1.1
    have z9 := ((cl q9 m9).2.2.2 (by omega) i9).1.1
    omega
/-- both answers of the class -/
theorem goL_c {wy wy' st : Nat → Nat → Int × Int × Int} {a b : Nat} : ∀ (ks : List Nat) (x : Int × Int × Int), (∀ k ∈ ks, wy a k = wy' a k) → goL wy st a b ks x = goL wy' st a b ks x
  | [], _, _ => rfl
  | k :: ks, x, e => by
    show goL wy st a b ks _ = goL wy' st a b ks _
    rw [e k List.mem_cons_self]
    exact goL_c ks _ (fun j hj => e j (List.mem_cons_of_mem _ hj))
theorem pB_of {B : Int} {v : Int × Int × Int} (h : pBb B v) : pB v := ⟨h.1.1, h.2.1⟩
theorem cls_both {Ls D : List gE} {C : Nat → Int} {s : Int} {h : m_H} (hE : ∀ e ∈ Ls, gEo e) (cl : eCl D Ls C s) (T : TI Ls D h) (c_ : cI C 6 h) (k_ : bkS h) (S1 : sF1 Ls h) (S2 : sF2 12 h) (S3 : sF3 s 16 h) :
    ((∃ k : Nat, k < 4 ∧ bl1 (bd h (43 + (k * 4 + k)))) → gain Ls) ∧ ((∃ x y : Nat, y < x ∧ x < 4 ∧ ctr (goW (goW (wyH 43 h) (wyH 43 h)) (wyH 43 h) (12 + x) (12 + y)) (goW (goW (wyH 43 h) (wyH 43 h)) (wyH 43 h) (12 + y) (12 + x))) → gain Ls) ∧ ((∀ k : Nat, k < 4 → ¬ bl1 (bd h (43 + (k * 4 + k)))) → (∀ x y : Nat, y < x → x < 4 → ¬ ctr (goW (goW (wyH 43 h) (wyH 43 h)) (wyH 43 h) (12 + x) (12 + y)) (goW (goW (wyH 43 h) (wyH 43 h)) (wyH 43 h) (12 + y) (12 + x))) → ¬ gain Ls) := by
  have b1 : ∀ i j, pBb 200 (wyH 43 h i j) := wyH_b k_
  have b2 : ∀ i j, pBb 40000 (goW (wyH 43 h) (wyH 43 h) i j) := fun i j => goW_b b1 b1 (by decide) (by decide) (by decide)
  have b3 : ∀ i j, pBb 8000000 (goW (goW (wyH 43 h) (wyH 43 h)) (wyH 43 h) i j) := fun i j => goW_b b2 b1 (by decide) (by decide) (by decide)
  have at_ : ∀ a b : Nat, a < 4 → b < 4 → wyH 43 h (12 + a) (12 + b) = bd h (43 + (4 * a + b)) := fun a b ha hb => by
    unfold wyH
    rw [show (4 * (12 + a - 12) + (12 + b - 12)) % 16 = 4 * a + b by omega]
  have r1 : ∀ a b : Nat, a < 4 → b < 4 → rl Ls (wyH 43 h (12 + a) (12 + b)) (12 + a) (12 + b) := fun a b ha hb => by rw [at_ a b ha hb]; exact S1 a b ha hb
  have mem4 : ∀ k ∈ [12, 13, 14, 15], ∃ j : Nat, j < 4 ∧ k = 12 + j := fun k hk => by
    simp only [List.mem_cons, List.not_mem_nil, or_false] at hk
    exact ⟨k - 12, by omega, by omega⟩
  -- walks of ways with a step more: over the four feet alone
  have go_ : ∀ (wy : Nat → Nat → Int × Int × Int) (a b : Nat), a < 4 → b < 4 → (∀ k : Nat, k < 4 → rl Ls (wy (12 + a) (12 + k)) (12 + a) (12 + k)) → rl Ls (goL wy (wyH 43 h) (12 + a) (12 + b) [12, 13, 14, 15] (wy (12 + a) (12 + b))) (12 + a) (12 + b) := fun wy a b ha hb hw => by
    have gen : ∀ (ks : List Nat) (x : Int × Int × Int), (∀ k ∈ ks, ∃ j : Nat, j < 4 ∧ k = 12 + j) → rl Ls x (12 + a) (12 + b) → rl Ls (goL wy (wyH 43 h) (12 + a) (12 + b) ks x) (12 + a) (12 + b) := by
      intro ks
      induction ks with
      | nil => intro x _ hx; exact hx
      | cons k ks ih =>
        intro x hk hx
        refine ih _ (fun j hj => hk j (List.mem_cons_of_mem _ hj)) ?_
        obtain ⟨j, hj, ej⟩ := hk k List.mem_cons_self
        split
        · subst ej
          exact rl_ls hx (rl_ml (hw j hj) (r1 j b hj hb))
        · exact hx
    exact gen _ _ mem4 (hw b hb)
  have w0 : ∀ a : Nat, a < 4 → rl Ls (1, 1, 0) (12 + a) (12 + a) := fun a ha _ => ⟨[], ⟨rfl, by omega⟩, rfl, fun z => absurd z (by decide)⟩
  have r2 : ∀ a b : Nat, a < 4 → b < 4 → rl Ls (goW (wyH 43 h) (wyH 43 h) (12 + a) (12 + b)) (12 + a) (12 + b) := fun a b ha hb => by
    unfold goW
    by_cases g : 12 + a = 12 + b
    · rw [if_pos g]; have e : a = b := by omega
      subst e; exact w0 a ha
    · rw [if_neg g]; exact go_ _ a b ha hb (fun k hk => r1 a k ha hk)
  have r3 : ∀ a b : Nat, a < 4 → b < 4 → rl Ls (goW (goW (wyH 43 h) (wyH 43 h)) (wyH 43 h) (12 + a) (12 + b)) (12 + a) (12 + b) := fun a b ha hb => by
    by_cases g : 12 + a = 12 + b
    · have e : a = b := by omega
      subst e
      have z : goW (goW (wyH 43 h) (wyH 43 h)) (wyH 43 h) (12 + a) (12 + a) = (1, 1, 0) := if_pos rfl
      rw [z]; exact w0 a ha
    · have z : goW (goW (wyH 43 h) (wyH 43 h)) (wyH 43 h) (12 + a) (12 + b) = goL (goW (wyH 43 h) (wyH 43 h)) (wyH 43 h) (12 + a) (12 + b) [12, 13, 14, 15] (goW (wyH 43 h) (wyH 43 h) (12 + a) (12 + b)) := if_neg g
      rw [z]; exact go_ _ a b ha hb (fun k hk => r2 a k ha hk)
  refine ⟨?_, ?_, ?_⟩
  · rintro ⟨k, hk, z⟩
    have p := pB_of (k_ (k * 4 + k) (by omega))
    have y := S1 k k hk hk
    rw [show 4 * k + k = k * 4 + k by omega] at y
    exact rl_gain hE y p z.2
  · rintro ⟨x, y, h1, h2, z⟩
    exact rl_contra hE (r3 x y h2 (by omega)) (r3 y x (by omega) h2) (pB_of (b3 _ _)) (pB_of (b3 _ _)) z
  · intro h1 h2
    have sk := step_ok hE cl T c_ S2 S3
    refine cls_no hE (fun e he a b => ((cl e he).2.2.2 a b).1.1) (wyH 43 h) (goW (goW (wyH 43 h) (wyH 43 h)) (wyH 43 h)) (fun e he _ => sk e he) (fun a a1 a2 n z => ?_) ?_ (fun a b a1 a2 b1' b2' n z => ?_)
    · obtain ⟨k, rfl⟩ : ∃ k : Nat, a = 12 + k := ⟨a - 12, by omega⟩
      rw [at_ k k (by omega) (by omega), show 4 * k + k = k * 4 + k by omega] at n z
      exact h1 k (by omega) ⟨n, z⟩
    · exact reach_ok hE (t2 := goW (wyH 43 h) (wyH 43 h)) (fun i j => pB_of (b1 i j)) (fun i j => pB_of (b2 i j)) (fun e he _ => sk e he) (fun a b n => if_neg n) (fun a b n => if_neg n)
    · obtain ⟨x, rfl⟩ : ∃ k : Nat, a = 12 + k := ⟨a - 12, by omega⟩
      obtain ⟨y, rfl⟩ : ∃ k : Nat, b = 12 + k := ⟨b - 12, by omega⟩
      rcases Nat.lt_or_gt_of_ne (show x ≠ y by omega) with g | g
      · refine h2 y x g (by omega) ?_
        unfold ctr
        rw [Int.mul_comm (goW _ _ (12 + y) (12 + x)).1, Int.mul_comm (goW _ _ (12 + y) (12 + x)).2.1]
        rcases z with z | ⟨z1, z2⟩
        · exact Or.inl z
        · exact Or.inr ⟨z1, z2.symm⟩
      · exact h2 x y g (by omega) z
