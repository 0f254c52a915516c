/-! ===== a round ===== -/
def aS (h : m_H) : gS := fun l => ((vS (h 124) (5 * l) 5, vS (h 125) (5 * l) 5), (h 126 l, h 127 l))
def aD (h : m_H) : gS := fun l => ((vS (h 128) (5 * l) 5, vS (h 129) (5 * l) 5), (h 130 l, h 131 l))
def kp0 (h0 h : m_H) (n m : Int) : Prop := (∀ j, h 124 j = h0 124 j) ∧ (∀ j, h 125 j = h0 125 j) ∧ (∀ j, h 126 j = h0 126 j) ∧ (∀ j, h 127 j = h0 127 j) ∧ (∀ j : Nat, (j : Int) < n → h 128 j = h0 124 j ∧ h 129 j = h0 125 j) ∧ ∀ j : Nat, (j : Int) < m → h 130 j = h0 126 j ∧ h 131 j = h0 127 j
def kp1 (h0 h : m_H) (n m : Int) : Prop := (∀ j, h 128 j = h0 128 j) ∧ (∀ j, h 129 j = h0 129 j) ∧ (∀ j, h 130 j = h0 130 j) ∧ (∀ j, h 131 j = h0 131 j) ∧ (∀ j : Nat, (j : Int) < n → h 124 j = h0 128 j ∧ h 125 j = h0 129 j) ∧ ∀ j : Nat, (j : Int) < m → h 126 j = h0 130 j ∧ h 127 j = h0 131 j
theorem kp0_0 {h : m_H} : kp0 h h 0 0 := ⟨fun _ => rfl, fun _ => rfl, fun _ => rfl, fun _ => rfl, fun j hj => by omega, fun j hj => by omega⟩
theorem kp1_0 {h : m_H} : kp1 h h 0 0 := ⟨fun _ => rfl, fun _ => rfl, fun _ => rfl, fun _ => rfl, fun j hj => by omega, fun j hj => by omega⟩
/-- four stores at one place -/
theorem up4 {h h1 h2 h3 h4 : m_H} {c1 c2 c3 c4 i : Nat} {x1 x2 x3 x4 : Int} (n12 : c1 ≠ c2) (n13 : c1 ≠ c3) (n14 : c1 ≠ c4) (n23 : c2 ≠ c3) (n24 : c2 ≠ c4) (n34 : c3 ≠ c4) (E1 : h1 = m_up h c1 i x1) (E2 : h2 = m_up h1 c2 i x2) (E3 : h3 = m_up h2 c3 i x3) (E4 : h4 = m_up h3 c4 i x4) :
    (∀ j, h4 c1 j = if j = i then x1 else h c1 j) ∧ (∀ j, h4 c2 j = if j = i then x2 else h c2 j) ∧ (∀ j, h4 c3 j = if j = i then x3 else h c3 j) ∧ (∀ j, h4 c4 j = if j = i then x4 else h c4 j) ∧ (∀ c j, c ≠ c1 → c ≠ c2 → c ≠ c3 → c ≠ c4 → h4 c j = h c j) := by
  subst E4; subst E3; subst E2; subst E1
  refine ⟨fun j => ?_, fun j => ?_, fun j => ?_, fun j => ?_, fun c j a1 a2 a3 a4 => ?_⟩
  · simp [m_up, n12, n13, n14]
  · simp [m_up, n12.symm, n23, n24]
  · simp [m_up, n13.symm, n23.symm, n34]
  · simp [m_up, n14.symm, n24.symm, n34.symm]
  · simp [m_up, a1, a2, a3, a4]
theorem kp0_a {h0 h h1 h2 h3 h4 : m_H} {l x1 x2 x3 x4 : Int} (hl : 0 ≤ l) (I : kp0 h0 h l 0) (e1 : h 124 l.toNat = x1) (E1 : h1 = m_up h 128 l.toNat x1) (e2 : h1 125 l.toNat = x2) (E2 : h2 = m_up h1 129 l.toNat x2) (e3 : h2 124 l.toNat = x3) (E3 : h3 = m_up h2 124 l.toNat x3) (e4 : h3 125 l.toNat = x4) (E4 : h4 = m_up h3 125 l.toNat x4) : kp0 h0 h4 (l + 1) 0 := by
  obtain ⟨i1, i2, i3, i4, i5, i6⟩ := I
  obtain ⟨u1, u2, u3, u4, u5⟩ := up4 (by decide) (by decide) (by decide) (by decide) (by decide) (by decide) E1 E2 E3 E4
  rw [upN E1 (fun z => absurd z.1 (by decide))] at e2
  rw [upN E2 (fun z => absurd z.1 (by decide)), upN E1 (fun z => absurd z.1 (by decide))] at e3
  rw [upN E3 (fun z => absurd z.1 (by decide)), upN E2 (fun z => absurd z.1 (by decide)), upN E1 (fun z => absurd z.1 (by decide))] at e4
  refine ⟨fun j => ?_, fun j => ?_, fun j => ?_, fun j => ?_, fun j hj => ?_, fun j hj => by omega⟩
  · rw [u3]; split
    · rename_i q; rw [← e3, q]; exact i1 _
    · exact i1 j
  · rw [u4]; split
    · rename_i q; rw [← e4, q]; exact i2 _
    · exact i2 j
  · rw [u5 _ _ (by decide) (by decide) (by decide) (by decide)]; exact i3 j
  · rw [u5 _ _ (by decide) (by decide) (by decide) (by decide)]; exact i4 j
  · rw [u1, u2]
    by_cases q : j = l.toNat
    · rw [if_pos q, if_pos q, ← e1, ← e2, q]; exact ⟨i1 _, i2 _⟩
    · rw [if_neg q, if_neg q]; exact i5 j (by omega)
theorem kp0_b {h0 h h1 h2 h3 h4 : m_H} {l x1 x2 x3 x4 : Int} (hl : 0 ≤ l) (I : kp0 h0 h 80 l) (e1 : h 126 l.toNat = x1) (E1 : h1 = m_up h 130 l.toNat x1) (e2 : h1 127 l.toNat = x2) (E2 : h2 = m_up h1 131 l.toNat x2) (e3 : h2 126 l.toNat = x3) (E3 : h3 = m_up h2 126 l.toNat x3) (e4 : h3 127 l.toNat = x4) (E4 : h4 = m_up h3 127 l.toNat x4) : kp0 h0 h4 80 (l + 1) := by
  obtain ⟨i1, i2, i3, i4, i5, i6⟩ := I
  obtain ⟨u1, u2, u3, u4, u5⟩ := up4 (by decide) (by decide) (by decide) (by decide) (by decide) (by decide) E1 E2 E3 E4
  rw [upN E1 (fun z => absurd z.1 (by decide))] at e2
  rw [upN E2 (fun z => absurd z.1 (by decide)), upN E1 (fun z => absurd z.1 (by decide))] at e3
  rw [upN E3 (fun z => absurd z.1 (by decide)), upN E2 (fun z => absurd z.1 (by decide)), upN E1 (fun z => absurd z.1 (by decide))] at e4
  refine ⟨fun j => ?_, fun j => ?_, fun j => ?_, fun j => ?_, fun j hj => ?_, fun j hj => ?_⟩
  · rw [u5 _ _ (by decide) (by decide) (by decide) (by decide)]; exact i1 j
  · rw [u5 _ _ (by decide) (by decide) (by decide) (by decide)]; exact i2 j
  · rw [u3]; split
    · rename_i q; rw [← e3, q]; exact i3 _
    · exact i3 j
  · rw [u4]; split
    · rename_i q; rw [← e4, q]; exact i4 _
    · exact i4 j
  · rw [u5 _ _ (by decide) (by decide) (by decide) (by decide), u5 _ _ (by decide) (by decide) (by decide) (by decide)]; exact i5 j hj
  · rw [u1, u2]
    by_cases q : j = l.toNat
    · rw [if_pos q, if_pos q, ← e1, ← e2, q]; exact ⟨i3 _, i4 _⟩
    · rw [if_neg q, if_neg q]; exact i6 j (by omega)
theorem kp1_a {h0 h h1 h2 h3 h4 : m_H} {l x1 x2 x3 x4 : Int} (hl : 0 ≤ l) (I : kp1 h0 h l 0) (e1 : h 128 l.toNat = x1) (E1 : h1 = m_up h 128 l.toNat x1) (e2 : h1 129 l.toNat = x2) (E2 : h2 = m_up h1 129 l.toNat x2) (e3 : h2 128 l.toNat = x3) (E3 : h3 = m_up h2 124 l.toNat x3) (e4 : h3 129 l.toNat = x4) (E4 : h4 = m_up h3 125 l.toNat x4) : kp1 h0 h4 (l + 1) 0 := by
  obtain ⟨i1, i2, i3, i4, i5, i6⟩ := I
  obtain ⟨u1, u2, u3, u4, u5⟩ := up4 (by decide) (by decide) (by decide) (by decide) (by decide) (by decide) E1 E2 E3 E4
  rw [upN E1 (fun z => absurd z.1 (by decide))] at e2
  rw [upN E2 (fun z => absurd z.1 (by decide)), upE E1] at e3
  rw [upN E3 (fun z => absurd z.1 (by decide)), upE E2] at e4
  subst e3; subst e4
  refine ⟨fun j => ?_, fun j => ?_, fun j => ?_, fun j => ?_, fun j hj => ?_, fun j hj => by omega⟩
  · rw [u1]; split
    · rename_i q; rw [← e1, q]; exact i1 _
    · exact i1 j
  · rw [u2]; split
    · rename_i q; rw [← e2, q]; exact i2 _
    · exact i2 j
  · rw [u5 _ _ (by decide) (by decide) (by decide) (by decide)]; exact i3 j
  · rw [u5 _ _ (by decide) (by decide) (by decide) (by decide)]; exact i4 j
  · rw [u3, u4]
    by_cases q : j = l.toNat
    · rw [if_pos q, if_pos q, ← e1, ← e2, q]; exact ⟨i1 _, i2 _⟩
    · rw [if_neg q, if_neg q]; exact i5 j (by omega)
theorem kp1_b {h0 h h1 h2 h3 h4 : m_H} {l x1 x2 x3 x4 : Int} (hl : 0 ≤ l) (I : kp1 h0 h 80 l) (e1 : h 130 l.toNat = x1) (E1 : h1 = m_up h 130 l.toNat x1) (e2 : h1 131 l.toNat = x2) (E2 : h2 = m_up h1 131 l.toNat x2) (e3 : h2 130 l.toNat = x3) (E3 : h3 = m_up h2 126 l.toNat x3) (e4 : h3 131 l.toNat = x4) (E4 : h4 = m_up h3 127 l.toNat x4) : kp1 h0 h4 80 (l + 1) := by
  obtain ⟨i1, i2, i3, i4, i5, i6⟩ := I
  obtain ⟨u1, u2, u3, u4, u5⟩ := up4 (by decide) (by decide) (by decide) (by decide) (by decide) (by decide) E1 E2 E3 E4
  rw [upN E1 (fun z => absurd z.1 (by decide))] at e2
  rw [upN E2 (fun z => absurd z.1 (by decide)), upE E1] at e3
  rw [upN E3 (fun z => absurd z.1 (by decide)), upE E2] at e4
  subst e3; subst e4
  refine ⟨fun j => ?_, fun j => ?_, fun j => ?_, fun j => ?_, fun j hj => ?_, fun j hj => ?_⟩
  · rw [u5 _ _ (by decide) (by decide) (by decide) (by decide)]; exact i1 j
  · rw [u5 _ _ (by decide) (by decide) (by decide) (by decide)]; exact i2 j
  · rw [u1]; split
    · rename_i q; rw [← e1, q]; exact i3 _
    · exact i3 j
  · rw [u2]; split
    · rename_i q; rw [← e2, q]; exact i4 _
    · exact i4 j
  · rw [u5 _ _ (by decide) (by decide) (by decide) (by decide), u5 _ _ (by decide) (by decide) (by decide) (by decide)]; exact i5 j hj
  · rw [u3, u4]
    by_cases q : j = l.toNat
    · rw [if_pos q, if_pos q, ← e1, ← e2, q]; exact ⟨i3 _, i4 _⟩
    · rw [if_neg q, if_neg q]; exact i6 j (by omega)
/-! startAt -/
def stI (h : m_H) (a n m : Int) : Prop := (∀ i : Nat, (i : Int) < n → h 124 i = (if i % 5 = 0 then 1 else 0) ∧ h 125 i = (if i % 5 = 0 then 1 else 0)) ∧ ∀ j : Nat, (j : Int) < m → h 126 j = 0 ∧ h 127 j = (if a = -1 ∨ (j : Int) = a then 1 else 0)
theorem stI_0 {h : m_H} {a : Int} : stI h a (5 * 0) 0 := ⟨fun j hj => by omega, fun j hj => by omega⟩
theorem stI_a {h h1 h2 : m_H} {a l k v : Int} (hl : 0 ≤ l) (hk : 0 ≤ k) (hk5 : k ≤ 4) (I : stI h a (5 * l + k) l) (hv : v = if k = 0 then 1 else 0) (E1 : h1 = m_up h 124 (5 * l + k).toNat v) (E2 : h2 = m_up h1 125 (5 * l + k).toNat v) : stI h2 a (5 * l + (k + 1)) l := by
  refine ⟨fun i hi => ?_, fun j hj => ?_⟩
  · by_cases q : i = (5 * l + k).toNat
    · have e1 : h2 124 i = v := by rw [upN E2 (fun z => absurd z.1 (by decide)), q]; exact upE E1
      have e2 : h2 125 i = v := by rw [q]; exact upE E2
      have e3 : (if i % 5 = 0 then (1 : Int) else 0) = v := by
        rw [hv]
        by_cases k0 : k = 0
        · rw [if_pos (by omega), if_pos k0]
        · rw [if_neg (by omega), if_neg k0]
      rw [e1, e2, e3]; exact ⟨rfl, rfl⟩
    · rw [upN E2 (fun z => absurd z.1 (by decide)), upN E1 (fun z => q z.2), upN E2 (fun z => q z.2), upN E1 (fun z => absurd z.1 (by decide))]
      exact I.1 i (by omega)
  · rw [upN E2 (fun z => absurd z.1 (by decide)), upN E1 (fun z => absurd z.1 (by decide)), upN E2 (fun z => absurd z.1 (by decide)), upN E1 (fun z => absurd z.1 (by decide))]
    exact I.2 j hj
theorem stI_b {h h1 h2 : m_H} {a l k v : Int} (hl : 0 ≤ l) (hk : 5 ≤ k) (I : stI h a (5 * l + k) l) (hv : v = if a = -1 ∨ l = a then 1 else 0) (E1 : h1 = m_up h 126 l.toNat 0) (E2 : h2 = m_up h1 127 l.toNat v) : stI h2 a (5 * (l + 1)) (l + 1) := by
  refine ⟨fun i hi => ?_, fun j hj => ?_⟩
  · rw [upN E2 (fun z => absurd z.1 (by decide)), upN E1 (fun z => absurd z.1 (by decide)), upN E2 (fun z => absurd z.1 (by decide)), upN E1 (fun z => absurd z.1 (by decide))]
    exact I.1 i (by omega)
  · by_cases q : (j : Int) = l
    · have q2 : l.toNat = j := by omega
      rw [q2] at E1 E2
      rw [upN E2 (fun z => absurd z.1 (by decide)), upE E1, upE E2, hv, q]
      exact ⟨rfl, rfl⟩
    · rw [upN E2 (fun z => absurd z.1 (by decide)), upN E1 (fun z => by have := z.2; omega), upN E2 (fun z => by have := z.2; omega), upN E1 (fun z => absurd z.1 (by decide))]
      exact I.2 j (by omega)
theorem vS_one {f : Nat → Int} {l : Nat} (H : ∀ k, k < 5 → f (5 * l + k) = (if k = 0 then 1 else 0)) : vS f (5 * l) 5 = 1 := by
  rw [vS_same (g := fun k => if k = 0 then 1 else 0) (b := 0) (fun j hj => by rw [Nat.zero_add]; exact H j hj)]
  decide
theorem stI_end {h : m_H} {a n m : Int} (hn : 80 ≤ n) (hm : 16 ≤ m) (I : stI h a n m) : ∀ l, l < 16 → aS h l = ((1, 1), (0, if a = -1 ∨ (l : Int) = a then 1 else 0)) := by
  intro l hl
  unfold aS
  obtain ⟨a1, a2⟩ := I.2 l (by omega)
  rw [a1, a2]
  have d : ∀ k, k < 5 → h 124 (5 * l + k) = (if k = 0 then 1 else 0) ∧ h 125 (5 * l + k) = (if k = 0 then 1 else 0) := by
    intro k hk
    have := I.1 (5 * l + k) (by omega)
    rw [show (5 * l + k) % 5 = k by omega] at this
    exact this
  rw [vS_one (fun k hk => (d k hk).1), vS_one (fun k hk => (d k hk).2)]
/-! the loop over the ties -/
def rdI (h0 h : m_H) (L : List gE) (z : Int) (e : Nat) (m : Int) : Prop := (∀ l, l < 16 → aS h l = aS h0 l) ∧ (∀ l, l < 16 → aD h l = (gi z (aS h0) L e).1 l) ∧ m = (gi z (aS h0) L e).2
theorem aS_same {h h' : m_H} (e1 : h' 124 = h 124) (e2 : h' 125 = h 125) (e3 : h' 126 = h 126) (e4 : h' 127 = h 127) : aS h' = aS h := by unfold aS; rw [e1, e2, e3, e4]
theorem aD_same {h h' : m_H} (e1 : h' 128 = h 128) (e2 : h' 129 = h 129) (e3 : h' 130 = h 130) (e4 : h' 131 = h 131) : aD h' = aD h := by unfold aD; rw [e1, e2, e3, e4]
theorem rdI.call {h0 h h' : m_H} {L : List gE} {z m : Int} {e : Nat} {cs : List Nat} {ss : List (Nat × Nat)} (I : rdI h0 h L z e m) (S : FR cs ss h h') (e4 : ∀ j, fr cs ss 124 j = false) (e5 : ∀ j, fr cs ss 125 j = false) (e6 : ∀ j, fr cs ss 126 j = false) (e7 : ∀ j, fr cs ss 127 j = false) (e8 : ∀ j, fr cs ss 128 j = false) (e9 : ∀ j, fr cs ss 129 j = false) (e10 : ∀ j, fr cs ss 130 j = false) (e11 : ∀ j, fr cs ss 131 j = false) : rdI h0 h' L z e m := by
  unfold rdI
  rw [aS_same (FR.row S e4) (FR.row S e5) (FR.row S e6) (FR.row S e7), aD_same (FR.row S e8) (FR.row S e9) (FR.row S e10) (FR.row S e11)]
  exact I
theorem rd_0 {h0 h : m_H} {L : List gE} {z : Int} (K : kp0 h0 h 80 16) : rdI h0 h L z (0 : Int).toNat 0 := by
  obtain ⟨k1, k2, k3, k4, k5, k6⟩ := K
  have e1 : aS h = aS h0 := aS_same (funext k1) (funext k2) (funext k3) (funext k4)
  refine ⟨fun l _ => by rw [e1], fun l hl => ?_, rfl⟩
  show aD h l = aS h0 l
  unfold aD aS
  rw [(k6 l (by omega)).1, (k6 l (by omega)).2, vS_same (g := h0 124) (b := 5 * l) (fun j hj => (k5 _ (by omega)).1), vS_same (f := h 129) (g := h0 125) (b := 5 * l) (fun j hj => (k5 _ (by omega)).2)]
theorem rd_sk {h0 h : m_H} {L : List gE} {z m : Int} {e : Int} {q : gE} (he : 0 ≤ e) (I : rdI h0 h L z e.toNat m) (hq : L[e.toNat]? = some q) (hn : ¬ ((aS h0 q.1.1).2.2 = 1 ∧ gb (gc z (aS h0) q) ((gi z (aS h0) L e.toNat).1 q.1.2))) : rdI h0 h L z (e + 1).toNat m := by
  have n1 : (e + 1).toNat = e.toNat + 1 := by omega
  have e0 : gi z (aS h0) L (e.toNat + 1) = gi z (aS h0) L e.toNat := by
    simp only [gi, hq]
    unfold gs
    rw [if_neg hn]
  unfold rdI
  rw [n1, e0]; exact I
theorem rd_skipA {h0 h : m_H} {L : List gE} {z m e n f t : Int} (hE : ∀ q ∈ L, gEo q) (A : AR h L) (he : 0 ≤ e) (I : rdI h0 h L z e.toNat m) (en : h 108 21 = n) (hn : e < n) (ef : h 117 e.toNat = f) (et : h 127 f.toNat = t) (ht : t ≠ 1) : rdI h0 h L z (e + 1).toNat m := by
  obtain ⟨q, q1, q2, q3, q4, -⟩ := AR_at A he en hn
  refine rd_sk he I q1 (fun w => ht ?_)
  have e1 : f.toNat = q.1.1 := by omega
  have e2 := (I.1 q.1.1 (hE q q2).1.1)
  have e3 : h 127 q.1.1 = (aS h0 q.1.1).2.2 := by rw [← e2]; rfl
  rw [← et, e1, e3]; exact w.1
def rcI (h0 h : m_H) (L : List gE) (z e m t o : Int) : Prop := ∃ q, L[e.toNat]? = some q ∧ q.1.2 = t.toNat ∧ q.1.2 < 16 ∧ (aS h0 q.1.1).2.2 = 1 ∧ rdI h0 h L z e.toNat m ∧ vS (h 132) 0 5 = (gc z (aS h0) q).1.1 ∧ vS (h 133) 0 5 = (gc z (aS h0) q).1.2 ∧ o = (gc z (aS h0) q).2.1
/-- behind times, times and the question whether it is open -/
theorem rc_of {h0 h h1 h2 : m_H} {L : List gE} {z m e n f t x u l o : Int} (hE : ∀ q ∈ L, gEo q) (A : AR h L) (he : 0 ≤ e) (I : rdI h0 h L z e.toNat m) (en : h 108 21 = n) (hn : e < n) (ef : h 117 e.toNat = f) (et : h 118 e.toNat = t) (ex : h 127 f.toNat = x) (hx : x = 1)
    (eu : h 119 e.toNat = u) (S1 : FR [132] [] h h1) (T1 : vS (h1 132) 0 5 = (vS (h 124) (5 * f).toNat 5 * u) % gBig) (el : h1 120 e.toNat = l) (S2 : FR [133] [] h1 h2) (T2 : vS (h2 133) 0 5 = (vS (h1 125) (5 * f).toNat 5 * l) % gBig)
    (ho : o = if z = 1 ∧ (h 126 f.toNat = 1 ∨ h 121 e.toNat = 1) then 1 else 0) : rcI h0 h2 L z e m t o := by
  obtain ⟨q, q1, q2, q3, q4, q5, q6, q7⟩ := AR_at A he en hn
  have e1 : f.toNat = q.1.1 := by omega
  have e2 : t.toNat = q.1.2 := by omega
  have hf := (hE q q2).1.1
  have e3 := I.1 q.1.1 hf
  have e4 : (5 * f).toNat = 5 * q.1.1 := by omega
  have I2 : rdI h0 h2 L z e.toNat m := (I.call S1 (fun _ => rfl) (fun _ => rfl) (fun _ => rfl) (fun _ => rfl) (fun _ => rfl) (fun _ => rfl) (fun _ => rfl) (fun _ => rfl)).call S2 (fun _ => rfl) (fun _ => rfl) (fun _ => rfl) (fun _ => rfl) (fun _ => rfl) (fun _ => rfl) (fun _ => rfl) (fun _ => rfl)
  have r1 : h1 125 = h 125 := FR.row S1 (fun _ => rfl)
  have r2 : h2 132 = h1 132 := FR.row S2 (fun _ => rfl)
  have r3 : h1 120 = h 120 := FR.row S1 (fun _ => rfl)
  refine ⟨q, q1, e2.symm, (hE q q2).1.2, ?_, I2, ?_, ?_, ?_⟩
  · rw [← e3]; show h 127 q.1.1 = 1; rw [← e1, ex]; exact hx
  · unfold gc; rw [← e3, r2, T1, e4]
    show _ = (vS (h 124) (5 * q.1.1) 5 * q.2.1) % gBig
    rw [← q5, eu]
  · unfold gc; rw [← e3, T2, r1, e4]
    show _ = (vS (h 125) (5 * q.1.1) 5 * q.2.2.1) % gBig
    rw [← q6, ← r3, el]
  · unfold gc; rw [← e3, ho, e1, q7]; rfl
theorem rcI.call {h0 h h' : m_H} {L : List gE} {z m e t o : Int} (I : rcI h0 h L z e m t o) (S : FR [115, 116] [] h h') : rcI h0 h' L z e m t o := by
  obtain ⟨q, i1, i2, i3, i4, i5, i6, i7, i8⟩ := I
  refine ⟨q, i1, i2, i3, i4, i5.call S (fun _ => rfl) (fun _ => rfl) (fun _ => rfl) (fun _ => rfl) (fun _ => rfl) (fun _ => rfl) (fun _ => rfl) (fun _ => rfl), ?_, ?_, i8⟩
  · rw [FR.row S (c := 132) (fun _ => rfl)]; exact i6
  · rw [FR.row S (c := 133) (fun _ => rfl)]; exact i7
def gbH (h : m_H) (t : Nat) (o : Int) : Prop := h 131 t ≠ 1 ∨ vS (h 128) (5 * t) 5 * vS (h 133) 0 5 < vS (h 132) 0 5 * vS (h 129) (5 * t) 5 ∨ (vS (h 132) 0 5 * vS (h 129) (5 * t) 5 = vS (h 128) (5 * t) 5 * vS (h 133) 0 5 ∧ o = 1 ∧ h 130 t ≠ 1)
theorem gbH.call {h h' : m_H} {t : Nat} {o : Int} (I : gbH h t o) (S : FR [115, 116] [] h h') : gbH h' t o := by
  unfold gbH
  rw [FR.row S (c := 128) (fun _ => rfl), FR.row S (c := 129) (fun _ => rfl), FR.row S (c := 130) (fun _ => rfl), FR.row S (c := 131) (fun _ => rfl), FR.row S (c := 132) (fun _ => rfl), FR.row S (c := 133) (fun _ => rfl)]
  exact I
theorem gbH_iff {h0 h : m_H} {L : List gE} {z m e t o : Int} {q : gE} (i2 : q.1.2 = t.toNat) (i3 : q.1.2 < 16) (i5 : rdI h0 h L z e.toNat m) (i6 : vS (h 132) 0 5 = (gc z (aS h0) q).1.1) (i7 : vS (h 133) 0 5 = (gc z (aS h0) q).1.2) (i8 : o = (gc z (aS h0) q).2.1) : gbH h t.toNat o ↔ gb (gc z (aS h0) q) ((gi z (aS h0) L e.toNat).1 q.1.2) := by
  rw [← i5.2.1 _ i3]
  unfold gbH
  rw [i6, i7, i8, i2]
  exact Iff.rfl
theorem rc_skip {h0 h : m_H} {L : List gE} {z m e t o : Int} (he : 0 ≤ e) (I : rcI h0 h L z e m t o) (hn : ¬ gbH h t.toNat o) : rdI h0 h L z (e + 1).toNat m := by
  obtain ⟨q, i1, i2, i3, i4, i5, i6, i7, i8⟩ := I
  exact rd_sk he i5 i1 (fun w => hn ((gbH_iff i2 i3 i5 i6 i7 i8).mpr w.2))
/-! the questions -/
theorem gbH_a {h : m_H} {t : Nat} {o x : Int} (e : h 131 t = x) (hx : x ≠ 1) : gbH h t o := Or.inl (by rw [e]; exact hx)
theorem gbH_b {h : m_H} {t z : Int} {o x : Int} (ht : 0 ≤ t) (hz : z = 0) (c : cmpQ x (vS (h 132) z.toNat 5 * vS (h 129) (5 * t).toNat 5) (vS (h 128) (5 * t).toNat 5 * vS (h 133) z.toNat 5)) (hx : 0 < x) : gbH h t.toNat o := by
  subst hz
  rw [show (5 * t).toNat = 5 * t.toNat by omega] at c
  rcases c with ⟨a, b⟩ | ⟨a, b⟩ | ⟨a, b⟩
  · omega
  · omega
  · exact Or.inr (Or.inl b)
theorem gbH_c {h : m_H} {t z : Int} {o x y : Int} (ht : 0 ≤ t) (hz : z = 0) (c : cmpQ x (vS (h 132) z.toNat 5 * vS (h 129) (5 * t).toNat 5) (vS (h 128) (5 * t).toNat 5 * vS (h 133) z.toNat 5)) (hx : x = 0) (ho : o = 1) (ey : h 130 t.toNat = y) (hy : y ≠ 1) : gbH h t.toNat o := by
  subst hz
  rw [show (5 * t).toNat = 5 * t.toNat by omega] at c
  rcases c with ⟨a, b⟩ | ⟨a, b⟩ | ⟨a, b⟩
  · omega
  · exact Or.inr (Or.inr ⟨b, ho, by rw [ey]; exact hy⟩)
  · omega
theorem ngb_d {h : m_H} {t z : Int} {o x w : Int} (ht : 0 ≤ t) (hz : z = 0) (ew : h 131 t.toNat = w) (hw : w = 1) (c : cmpQ x (vS (h 132) z.toNat 5 * vS (h 129) (5 * t).toNat 5) (vS (h 128) (5 * t).toNat 5 * vS (h 133) z.toNat 5)) (hx : x < 0) : ¬ gbH h t.toNat o := by
  subst hz
  rw [show (5 * t).toNat = 5 * t.toNat by omega] at c
  rintro (q | q | ⟨q, -⟩)
  · exact q (ew.trans hw)
  · rcases c with ⟨a, b⟩ | ⟨a, b⟩ | ⟨a, b⟩
    · exact absurd q (Int.not_lt.mpr (Int.le_of_lt b))
    · omega
    · omega
  · rcases c with ⟨a, b⟩ | ⟨a, b⟩ | ⟨a, b⟩
    · exact absurd q (Int.ne_of_lt b)
    · omega
    · omega
theorem ngb_e {h : m_H} {t z : Int} {o x w : Int} (ht : 0 ≤ t) (hz : z = 0) (ew : h 131 t.toNat = w) (hw : w = 1) (c : cmpQ x (vS (h 132) z.toNat 5 * vS (h 129) (5 * t).toNat 5) (vS (h 128) (5 * t).toNat 5 * vS (h 133) z.toNat 5)) (hx : x = 0) (ho : o ≠ 1 ∨ h 130 t.toNat = 1) : ¬ gbH h t.toNat o := by
  subst hz
  rw [show (5 * t).toNat = 5 * t.toNat by omega] at c
  rintro (q | q | ⟨-, q2, q3⟩)
  · exact q (ew.trans hw)
  · rcases c with ⟨a, b⟩ | ⟨a, b⟩ | ⟨a, b⟩
    · omega
    · exact absurd b.symm (Int.ne_of_lt q)
    · omega
  · rcases ho with o1 | o1
    · exact o1 q2
    · exact q3 o1
/-! the better one is laid down -/
def rkI (h0 h : m_H) (L : List gE) (z e t o k : Int) : Prop := ∃ (q : gE) (hB : m_H) (m : Int), L[e.toNat]? = some q ∧ q.1.2 = t.toNat ∧ q.1.2 < 16 ∧ (aS h0 q.1.1).2.2 = 1 ∧ rdI h0 hB L z e.toNat m ∧ vS (hB 132) 0 5 = (gc z (aS h0) q).1.1 ∧ vS (hB 133) 0 5 = (gc z (aS h0) q).1.2 ∧ o = (gc z (aS h0) q).2.1 ∧ gbH hB t.toNat o ∧ (∀ c, c ≠ 128 → c ≠ 129 → h c = hB c) ∧ (∀ j, h 128 j = if 5 * t.toNat ≤ j ∧ j < 5 * t.toNat + k.toNat then hB 132 (j - 5 * t.toNat) else hB 128 j) ∧ ∀ j, h 129 j = if 5 * t.toNat ≤ j ∧ j < 5 * t.toNat + k.toNat then hB 133 (j - 5 * t.toNat) else hB 129 j
theorem rk_0 {h0 h : m_H} {L : List gE} {z m e t o : Int} (I : rcI h0 h L z e m t o) (g : gbH h t.toNat o) : rkI h0 h L z e t o 0 := by
  obtain ⟨q, i1, i2, i3, i4, i5, i6, i7, i8⟩ := I
  have n0 : (0 : Int).toNat = 0 := rfl
  exact ⟨q, h, m, i1, i2, i3, i4, i5, i6, i7, i8, g, fun _ _ _ => rfl, fun j => by rw [if_neg (by omega)], fun j => by rw [if_neg (by omega)]⟩
theorem rk_step {h0 h h1 h2 : m_H} {L : List gE} {z e t o k x y : Int} (ht : 0 ≤ t) (hk : 0 ≤ k) (I : rkI h0 h L z e t o k) (ex : h 132 k.toNat = x) (E1 : h1 = m_up h 128 (5 * t + k).toNat x) (ey : h1 133 k.toNat = y) (E2 : h2 = m_up h1 129 (5 * t + k).toNat y) : rkI h0 h2 L z e t o (k + 1) := by
  obtain ⟨q, hB, m, i1, i2, i3, i4, i5, i6, i7, i8, i9, j1, j2, j3⟩ := I
  have n1 : (5 * t + k).toNat = 5 * t.toNat + k.toNat := by omega
  have n2 : (k + 1).toNat = k.toNat + 1 := by omega
  rw [n1] at E1 E2
  rw [upN E1 (fun z => absurd z.1 (by decide))] at ey
  refine ⟨q, hB, m, i1, i2, i3, i4, i5, i6, i7, i8, i9, fun c c1 c2 => ?_, fun j => ?_, fun j => ?_⟩
  · rw [upo E2 c2, upo E1 c1]; exact j1 c c1 c2
  · rw [upN E2 (fun z => absurd z.1 (by decide)), n2]
    by_cases w : j = 5 * t.toNat + k.toNat
    · rw [if_pos (by omega), w, upE E1, ← ex, j1 132 (by decide) (by decide)]
      congr 1; omega
    · rw [upN E1 (fun z => w z.2), j2 j]
      by_cases w2 : 5 * t.toNat ≤ j ∧ j < 5 * t.toNat + k.toNat
      · rw [if_pos w2, if_pos (by omega)]
      · rw [if_neg w2, if_neg (by omega)]
  · rw [n2]
    by_cases w : j = 5 * t.toNat + k.toNat
    · rw [if_pos (by omega), w, upE E2, ← ey, j1 133 (by decide) (by decide)]
      congr 1; omega
    · rw [upN E2 (fun z => w z.2), upN E1 (fun z => absurd z.1 (by decide)), j3 j]
      by_cases w2 : 5 * t.toNat ≤ j ∧ j < 5 * t.toNat + k.toNat
      · rw [if_pos w2, if_pos (by omega)]
      · rw [if_neg w2, if_neg (by omega)]
theorem rk_end {h0 h h1 h2 : m_H} {L : List gE} {z e t o k : Int} (he : 0 ≤ e) (hk : k = 5) (I : rkI h0 h L z e t o k) (E1 : h1 = m_up h 130 t.toNat o) (E2 : h2 = m_up h1 131 t.toNat 1) : rdI h0 h2 L z (e + 1).toNat 1 := by
  subst hk
  obtain ⟨q, hB, m, i1, i2, i3, i4, i5, i6, i7, i8, i9, j1, j2, j3⟩ := I
  have n1 : (e + 1).toNat = e.toNat + 1 := by omega
  have n5 : (5 : Int).toNat = 5 := rfl
  have g := (gbH_iff i2 i3 i5 i6 i7 i8).mp i9
  have e0 : gi z (aS h0) L (e.toNat + 1) = (fun l => if l = q.1.2 then gc z (aS h0) q else (gi z (aS h0) L e.toNat).1 l, 1) := by
    simp only [gi, i1]
    unfold gs
    rw [if_pos ⟨i4, g⟩]
  have s1 : aS h2 = aS hB := aS_same (by rw [upo E2 (by decide), upo E1 (by decide)]; exact j1 _ (by decide) (by decide)) (by rw [upo E2 (by decide), upo E1 (by decide)]; exact j1 _ (by decide) (by decide)) (by rw [upo E2 (by decide), upo E1 (by decide)]; exact j1 _ (by decide) (by decide)) (by rw [upo E2 (by decide), upo E1 (by decide)]; exact j1 _ (by decide) (by decide))
  have u8 : h2 128 = h 128 := by rw [upo E2 (by decide), upo E1 (by decide)]
  have u9 : h2 129 = h 129 := by rw [upo E2 (by decide), upo E1 (by decide)]
  rw [n5] at j2 j3
  refine ⟨fun l hl => by rw [s1]; exact i5.1 l hl, fun l hl => ?_, by rw [n1, e0]⟩
  rw [n1, e0]
  by_cases w : l = q.1.2
  · simp only [w, if_true]
    unfold aD
    rw [u8, u9, i2]
    have v8 : vS (h 128) (5 * t.toNat) 5 = vS (hB 132) 0 5 := vS_same (fun j hj => by
      rw [j2, if_pos (by omega), Nat.zero_add]; congr 1; omega)
    have v9 : vS (h 129) (5 * t.toNat) 5 = vS (hB 133) 0 5 := vS_same (fun j hj => by
      rw [j3, if_pos (by omega), Nat.zero_add]; congr 1; omega)
    rw [v8, v9, i6, i7, upN E2 (fun z => absurd z.1 (by decide)), upE E1, upE E2, i8]
    rfl
  · simp only [w, if_false]
    rw [← i5.2.1 l hl]
    unfold aD
    rw [u8, u9]
    have v8 : vS (h 128) (5 * l) 5 = vS (hB 128) (5 * l) 5 := vS_same (fun j hj => by rw [j2, if_neg (by omega)])
    have v9 : vS (h 129) (5 * l) 5 = vS (hB 129) (5 * l) 5 := vS_same (fun j hj => by rw [j3, if_neg (by omega)])
    have w2 : l ≠ t.toNat := by rw [← i2]; exact w
    rw [v8, v9, upN E2 (fun z => absurd z.1 (by decide)), upN E1 (fun z => w2 z.2), upN E2 (fun z => w2 z.2), upN E1 (fun z => absurd z.1 (by decide)), j1 130 (by decide) (by decide), j1 131 (by decide) (by decide)]
theorem rd_end {h0 h h' : m_H} {L : List gE} {z e m n : Int} (I : rdI h0 h L z e.toNat m) (A : AR h L) (en : h 108 21 = n) (h1 : n ≤ e) (h2 : e ≤ n) (K : kp1 h h' 80 16) : (∀ l, l < 16 → aS h' l = (gi z (aS h0) L L.length).1 l) ∧ m = (gi z (aS h0) L L.length).2 := by
  have n1 : e.toNat = L.length := by have := A.1; omega
  rw [← n1]
  obtain ⟨k1, k2, k3, k4, k5, k6⟩ := K
  refine ⟨fun l hl => ?_, I.2.2⟩
  rw [← I.2.1 l hl]
  unfold aS aD
  rw [(k6 l (by omega)).1, (k6 l (by omega)).2, vS_same (g := h 128) (b := 5 * l) (fun j hj => (k5 _ (by omega)).1), vS_same (f := h' 125) (g := h 129) (b := 5 * l) (fun j hj => (k5 _ (by omega)).2)]
