/-! high and low in the heap -/
theorem fl_s {h h1 : m_H} {c : Nat} {l a : Int} (i : ∀ j : Nat, (j : Int) < l → h c j = a) (hl : 0 ≤ l) (E : h1 = m_up h c l.toNat a) : ∀ j : Nat, (j : Int) < l + 1 → h1 c j = a := fun j hj => by
  by_cases g : j = l.toNat
  · rw [g]; exact upE E
  · rw [upN E (fun z => g z.2)]; exact i j (by omega)
def lwV (hh ho e o : Int) : Int × Int := if hh = 0 ∨ e < hh then (e, o) else if e = hh ∧ o = 1 then (hh, 1) else (hh, ho)
def lwQ (p : Nat) (e o : Int) (h h' : m_H) : Prop := (∀ c, c ≠ 39 → c ≠ 40 → h' c = h c) ∧ (∀ j, j ≠ p → h' 39 j = h 39 j ∧ h' 40 j = h 40 j) ∧ (h' 39 p, h' 40 p) = lwV (h 39 p) (h 40 p) e o
theorem lw_1 {h h1 h2 : m_H} {p : Nat} {e o x : Int} (ex : h 39 p = x) (c : x = 0 ∨ e < x) (E1 : h1 = m_up h 39 p e) (E2 : h2 = m_up h1 40 p o) : lwQ p e o h h2 := by
  refine ⟨fun c n1 n2 => ?_, fun j hj => ⟨?_, ?_⟩, ?_⟩
  · rw [E2, m_up_row n2, E1, m_up_row n1]
  · rw [upN E2 (by simp), upN E1 (fun z => hj z.2)]
  · rw [upN E2 (fun z => hj z.2), upN E1 (by simp)]
  · have a1 : h2 39 p = e := by rw [upN E2 (by simp), upE E1]
    have a2 : h2 40 p = o := upE E2
    unfold lwV
    rw [ex, if_pos c, a1, a2]
theorem lw_2 {h h1 : m_H} {p : Nat} {e o x : Int} (ex : h 39 p = x) (c : ¬ (x = 0 ∨ e < x)) (c2 : e = x ∧ o = 1) (E1 : h1 = m_up h 40 p 1) : lwQ p e o h h1 := by
  refine ⟨fun c n1 n2 => ?_, fun j hj => ⟨?_, ?_⟩, ?_⟩
  · rw [E1, m_up_row n2]
  · rw [upN E1 (by simp)]
  · rw [upN E1 (fun z => hj z.2)]
  · have a1 : h1 39 p = x := by rw [upN E1 (by simp), ex]
    have a2 : h1 40 p = 1 := upE E1
    unfold lwV
    rw [ex, if_neg c, if_pos c2, a1, a2]
theorem lw_3 {h : m_H} {p : Nat} {e o x : Int} (ex : h 39 p = x) (c : ¬ (x = 0 ∨ e < x)) (c2 : ¬ (e = x ∧ o = 1)) : lwQ p e o h h := by
  refine ⟨fun _ _ _ => rfl, fun _ _ => ⟨rfl, rfl⟩, ?_⟩
  unfold lwV
  rw [ex, if_neg c, if_neg c2]
/-- an entry tied -/
def mxI (x y : Int) : Int := if x < y then y else x
def tiV (p : Nat) (e o lo : Int) (h h' : m_H) : Prop := (∀ c, c ≠ 39 → c ≠ 40 → c ≠ 41 → h' c = h c) ∧ (∀ j, j ≠ p → h' 39 j = h 39 j ∧ h' 40 j = h 40 j ∧ h' 41 j = h 41 j) ∧ (h' 39 p, h' 40 p) = lwV (h 39 p) (h 40 p) e o ∧ h' 41 p = mxI (h 41 p) lo
theorem ty_of {h h3 h4 h5 h6 : m_H} {p : Nat} {e o lo x8 x10 : Int} (e3 : h3 = h) (Q : lwQ p e o h3 h4) (e8 : h4 41 p = x8) (e5 : h5 = h4) (e10 : (if x8 < lo then lo else x8) = x10) (E : h6 = m_up h5 41 p x10) : tiV p e o lo h h6 := by
  subst e3; subst e5
  obtain ⟨q1, q2, q3⟩ := Q
  have r41 := q1 41 (by decide) (by decide)
  refine ⟨fun c n1 n2 n3 => ?_, fun j hj => ⟨?_, ?_, ?_⟩, ?_, ?_⟩
  · rw [E, m_up_row n3]; exact q1 c n1 n2
  · rw [upN E (by simp)]; exact (q2 j hj).1
  · rw [upN E (by simp)]; exact (q2 j hj).2
  · rw [upN E (fun z => hj z.2), r41]
  · rw [upN E (by simp), upN E (by simp)]; exact q3
  · rw [upE E, ← e10, ← r41, e8]; rfl
def tyQ (L : Nat) (e : Int) (h h' : m_H) : Prop := (h (L + 1) (h (L + 4) e.toNat).toNat = -1 → h' = h) ∧ (h (L + 1) (h (L + 4) e.toNat).toNat ≠ -1 → tiV (lnV (h (L + 2) (h (L + 3) e.toNat).toNat) (h (L + 3) e.toNat) (h (L + 4) e.toNat) * 4 + h (L + 1) (h (L + 4) e.toNat).toNat).toNat (hvE (h (L + 5) e.toNat) (h (L + 6) e.toNat)) (if h (L + 6) e.toNat = 0 then 0 else 1) (hvL (h (L + 5) e.toNat) (h (L + 6) e.toNat)) h h')
theorem tyQ_y {L : Nat} {e x1 x3 x4 o x9 : Int} {h h' : m_H} (k1 : h (L + 1) (h (L + 4) e.toNat).toNat = x1) (hk : x1 ≠ -1) (k3 : lnV (h (L + 2) (h (L + 3) e.toNat).toNat) (h (L + 3) e.toNat) (h (L + 4) e.toNat) = x3) (k4 : hvE (h (L + 5) e.toNat) (h (L + 6) e.toNat) = x4) (k5 : (if h (L + 6) e.toNat = 0 then (0 : Int) else 1) = o) (k9 : hvL (h (L + 5) e.toNat) (h (L + 6) e.toNat) = x9) (T : tiV (x3 * 4 + x1).toNat x4 o x9 h h') : tyQ L e h h' :=
  ⟨fun z => absurd (k1.symm.trans z) hk, fun _ => by rw [k1, k3, k4, k5, k9]; exact T⟩
/-- a cut -/
def cuI (t k : Int) (h0 h : m_H) : Prop := (∀ c, c ≠ 39 → c ≠ 40 → c ≠ 41 → h c = h0 c) ∧ ∀ j : Nat, ((h 39 j, h 40 j) = if 4 * t + 24 ≤ (j : Int) ∧ (j : Int) < 4 * t + 24 + k ∧ h0 39 (j - 24) ≠ 0 then lwV (h0 39 j) (h0 40 j) (h0 39 (j - 24)) (h0 40 (j - 24)) else (h0 39 j, h0 40 j)) ∧ h 41 j = if 4 * t ≤ (j : Int) ∧ (j : Int) < 4 * t + k then mxI (h0 41 j) (h0 41 (j + 24)) else h0 41 j
theorem cu_0 {t : Int} {h : m_H} : cuI t 0 h h := ⟨fun _ _ _ _ => rfl, fun j => ⟨by rw [if_neg (by omega)], by rw [if_neg (by omega)]⟩⟩
theorem cu_l {t k x4 x5 x6 : Int} {h0 h h1 : m_H} (i : cuI t k h0 h) (t0 : 0 ≤ t) (t5 : t ≤ 5) (k0 : 0 ≤ k) (k3 : k ≤ 3) (e4 : h 41 (t * 4 + k).toNat = x4) (e5 : h 41 ((t + 6) * 4 + k).toNat = x5) (e6 : (if x4 < x5 then x5 else x4) = x6) (E : h1 = m_up h 41 (t * 4 + k).toNat x6) : ∀ j : Nat, h1 41 j = if 4 * t ≤ (j : Int) ∧ (j : Int) < 4 * t + (k + 1) then mxI (h0 41 j) (h0 41 (j + 24)) else h0 41 j := fun j => by
  have ir : ((t + 6) * 4 + k).toNat = (t * 4 + k).toNat + 24 := by omega
  by_cases g : j = (t * 4 + k).toNat
  · have z4 := (i.2 j).2
    have z5 := (i.2 (j + 24)).2
    rw [if_neg (by omega)] at z4 z5
    rw [if_pos (by omega), g, upE E, ← e6, ← e4, ← e5, ir, ← g, z4, z5]; rfl
  · rw [upN E (fun z => g z.2), (i.2 j).2]
    by_cases y : 4 * t ≤ (j : Int) ∧ (j : Int) < 4 * t + k
    · rw [if_pos y, if_pos (by omega)]
    · rw [if_neg y, if_neg (by omega)]
theorem cu_s0 {t k x2 x4 x5 x6 : Int} {h0 h h1 : m_H} (i : cuI t k h0 h) (t0 : 0 ≤ t) (t5 : t ≤ 5) (k0 : 0 ≤ k) (k3 : k ≤ 3) (e2 : h 39 (t * 4 + k).toNat = x2) (c : x2 = 0) (e4 : h 41 (t * 4 + k).toNat = x4) (e5 : h 41 ((t + 6) * 4 + k).toNat = x5) (e6 : (if x4 < x5 then x5 else x4) = x6) (E : h1 = m_up h 41 (t * 4 + k).toNat x6) : cuI t (k + 1) h0 h1 := by
  refine ⟨fun c n1 n2 n3 => ?_, fun j => ⟨?_, cu_l i t0 t5 k0 k3 e4 e5 e6 E j⟩⟩
  · rw [E, m_up_row n3]; exact i.1 c n1 n2 n3
  · rw [upN E (by simp), upN E (by simp), (i.2 j).1]
    by_cases g : 4 * t + 24 ≤ (j : Int) ∧ (j : Int) < 4 * t + 24 + k ∧ h0 39 (j - 24) ≠ 0
    · rw [if_pos g, if_pos ⟨g.1, by omega, g.2.2⟩]
    · rw [if_neg g, if_neg]
      rintro ⟨u, v, w⟩
      by_cases y : (j : Int) < 4 * t + 24 + k
      · exact g ⟨u, y, w⟩
      · have ij : j - 24 = (t * 4 + k).toNat := by omega
        have z := (i.2 (j - 24)).1
        rw [if_neg (by omega)] at z
        have z2 := congrArg Prod.fst z
        have z3 : h 39 (j - 24) = h0 39 (j - 24) := z2
        rw [ij] at z3 w
        exact w (by rw [← z3, e2, c])
theorem cu_s1 {t k x2 x7 x4 x5 x6 : Int} {h0 h h2 h3 : m_H} (i : cuI t k h0 h) (t0 : 0 ≤ t) (t5 : t ≤ 5) (k0 : 0 ≤ k) (k3 : k ≤ 3) (e2 : h 39 (t * 4 + k).toNat = x2) (c : x2 ≠ 0) (e7 : h 40 (t * 4 + k).toNat = x7) (Q : lwQ ((t + 6) * 4 + k).toNat x2 x7 h h2) (e4 : h2 41 (t * 4 + k).toNat = x4) (e5 : h2 41 ((t + 6) * 4 + k).toNat = x5) (e6 : (if x4 < x5 then x5 else x4) = x6) (E : h3 = m_up h2 41 (t * 4 + k).toNat x6) : cuI t (k + 1) h0 h3 := by
  obtain ⟨q1, q2, q3⟩ := Q
  have r41 := q1 41 (by decide) (by decide)
  have ir : ((t + 6) * 4 + k).toNat = (t * 4 + k).toNat + 24 := by omega
  rw [r41] at e4 e5
  have E' : ∀ j, h3 41 j = (m_up h 41 (t * 4 + k).toNat x6) 41 j := fun j => by
    rw [E]; unfold m_up; by_cases g : j = (t * 4 + k).toNat <;> simp [g, r41]
  refine ⟨fun c n1 n2 n3 => ?_, fun j => ⟨?_, ?_⟩⟩
  · rw [E, m_up_row n3, q1 c n1 n2]; exact i.1 c n1 n2 n3
  · rw [upN E (by simp), upN E (by simp)]
    by_cases g : j = ((t + 6) * 4 + k).toNat
    · have zj := (i.2 j).1
      rw [if_neg (by omega)] at zj
      have zw := (i.2 (j - 24)).1
      rw [if_neg (by omega)] at zw
      have ij : j - 24 = (t * 4 + k).toNat := by omega
      have f1 : h 39 j = h0 39 j := congrArg Prod.fst zj
      have f2 : h 40 j = h0 40 j := congrArg Prod.snd zj
      have f3 : h 39 (j - 24) = h0 39 (j - 24) := congrArg Prod.fst zw
      have f4 : h 40 (j - 24) = h0 40 (j - 24) := congrArg Prod.snd zw
      rw [← g] at q3
      rw [if_pos ⟨by omega, by omega, by rw [← f3, ij, e2]; exact c⟩, q3, f1, f2, ← f3, ← f4, ij, e2, e7]
    · rw [(q2 j g).1, (q2 j g).2, (i.2 j).1]
      by_cases y : 4 * t + 24 ≤ (j : Int) ∧ (j : Int) < 4 * t + 24 + k ∧ h0 39 (j - 24) ≠ 0
      · rw [if_pos y, if_pos ⟨y.1, by omega, y.2.2⟩]
      · rw [if_neg y, if_neg]
        rintro ⟨u, v, w⟩
        exact y ⟨u, by omega, w⟩
  · rw [E' j]; exact cu_l i t0 t5 k0 k3 e4 e5 e6 rfl j
/-- nothing tied -/
def fgI (l : Int) (h : m_H) : Prop := (∀ j : Nat, j < 48 → h 39 j = 0) ∧ (∀ j : Nat, j < 48 → h 41 j = 0) ∧ ∀ p : Nat, (p : Int) < l → bd h (43 + p) = (1, 0, 1)
theorem fg_s {l : Int} {h h1 : m_H} (i : fgI l h) (l0 : 0 ≤ l) (l1 : l ≤ 15) (B : bN (43 + l.toNat) (1, 0, 1) h h1) : fgI (l + 1) h1 := by
  obtain ⟨i1, i2, i3⟩ := i
  refine ⟨fun j hj => ?_, fun j hj => ?_, fun p hp => ?_⟩
  · rw [B.1 39 (by omega)]; exact i1 j hj
  · rw [B.1 41 (by omega)]; exact i2 j hj
  · by_cases g : p = l.toNat
    · rw [g]; exact B.2
    · have e : bd h1 (43 + p) = bd h (43 + p) := by unfold bd; rw [B.1 (43 + p) (by omega)]
      rw [e]; exact i3 p (by omega)
abbrev P_J7_fill_39x (h0 : m_H) (a1 : Int) : m_H → Prop := fun h' => GI h' ∧ FR [39] [] h0 h' ∧ (∀ j : Nat, (j : Int) < 48 → h' 39 j = a1)
def q_J7_fill_39x (h0 : m_H) (a1 : Int) (n : Nat) : Prop := (∀ (l2 : Int) (h : m_H), GI h → FR [39] [] h0 h → 0 ≤ l2 → l2 ≤ 48 → (-2147483648) ≤ a1 → a1 ≤ 2147483647 → (∀ j : Nat, (j : Int) < l2 → h 39 j = a1) → 2 * (48 - l2) + (1) ≤ (n : Int) → m_Z oF M_J7_fill_53178 5 [some (mR 39), some (mI a1), some (mI l2), some (mI ((48 : Nat) : Int))] [] h (m_QV (P_J7_fill_39x h0 a1)))
set_option maxHeartbeats 4000000 in
set_option maxRecDepth 100000 in
theorem s_J7_fill_39x_5 (h0 : m_H) (a1 : Int) (G0 : GI h0) (n : Nat) (ih : q_J7_fill_39x h0 a1 n) : ∀ (l2 : Int) (h : m_H), GI h → FR [39] [] h0 h → 0 ≤ l2 → l2 ≤ 48 → (-2147483648) ≤ a1 → a1 ≤ 2147483647 → (∀ j : Nat, (j : Int) < l2 → h 39 j = a1) → 2 * (48 - l2) + (1) ≤ ((n + 1 : Nat) : Int) → m_Z oF M_J7_fill_53178 5 [some (mR 39), some (mI a1), some (mI l2), some (mI ((48 : Nat) : Int))] [] h (m_QV (P_J7_fill_39x h0 a1)) := by
  intro l2 h G R v0 v1 v2 v3 i0 hr
  refine z_iload_n (M := M_J7_fill_53178) 5 dJ7_fill_53178_5 rfl ?_
  refine z_iload_n (M := M_J7_fill_53178) 6 dJ7_fill_53178_6 rfl ?_
  refine z_icmp_ge (M := M_J7_fill_53178) 7 dJ7_fill_53178_7 20 rfl (fun c1 => ?_) (fun c1 => ?_)
  · exact z_retV (M := M_J7_fill_53178) 20 dJ7_fill_53178_20 rfl ⟨G, R, fun j hj => i0 j (by omega)⟩
  · refine z_aload_n (M := M_J7_fill_53178) 10 dJ7_fill_53178_10 rfl ?_
    refine z_iload_n (M := M_J7_fill_53178) 11 dJ7_fill_53178_11 rfl ?_
    refine z_iload_n (M := M_J7_fill_53178) 12 dJ7_fill_53178_12 rfl ?_
    refine z_iastH (M := M_J7_fill_53178) 13 dJ7_fill_53178_13 o_39 (by omega) (by omega) (u_39 G) (R.up rfl) (fun h1 E1 G1 R1 => ?_)
    refine z_iincN (M := M_J7_fill_53178) 14 dJ7_fill_53178_14 (ls' := [some (mR 39), some (mI a1), some (mI (l2 + 1)), some (mI ((48 : Nat) : Int))]) (by decide) rfl (by (unfold m_32; decide)) (by omega) (by omega) rfl ?_
    refine z_goto (M := M_J7_fill_53178) 17 dJ7_fill_53178_17 5 rfl ?_
    exact z_mask [true, true, true, true] rfl (ih (l2 + 1) h1 G1 R1 (by omega) (by omega) (by omega) (by omega) (fl_s i0 (by omega) E1) (by omega))
theorem a_J7_fill_39x (h0 : m_H) (a1 : Int) (G0 : GI h0) : ∀ n, q_J7_fill_39x h0 a1 n := by
  intro n
  induction n with
  | zero => unfold q_J7_fill_39x; intros; omega
  | succ n ih => exact s_J7_fill_39x_5 h0 a1 G0 n ih
set_option maxHeartbeats 4000000 in
set_option maxRecDepth 100000 in
theorem c_J7_fill_39x (h0 : m_H) (a1 : Int) (G0 : GI h0) : m_CV M_J7_fill_53178 [mR 39, mI a1] h0 (P_J7_fill_39x h0 a1) := by
  refine m_CV_of ⟨by decide, rfl, by simp [m_arg, m_isL, M_J7_fill_53178], ⟨rfl, rfl⟩, rfl, rfl⟩ (ls := [some (mR 39), some (mI a1), none, none]) rfl ?_
  have ih := a_J7_fill_39x h0 a1 G0 104
  refine z_ok (fun _ _ ok => ?_)
  have oa1 : m_32 a1 := ok 1 _ rfl
  unfold m_32 at oa1
  refine z_iconst (M := M_J7_fill_53178) 0 dJ7_fill_53178_0 ?_
  refine z_istore_n (M := M_J7_fill_53178) 1 dJ7_fill_53178_1 (ls' := [some (mR 39), some (mI a1), some (mI 0), none]) (by decide) rfl ?_
  refine z_aload_n (M := M_J7_fill_53178) 2 dJ7_fill_53178_2 rfl ?_
  refine z_alen (M := M_J7_fill_53178) 3 dJ7_fill_53178_3 o_39 (by decide) (by decide) ?_
  refine z_istore_n (M := M_J7_fill_53178) 4 dJ7_fill_53178_4 (ls' := [some (mR 39), some (mI a1), some (mI 0), some (mI ((48 : Nat) : Int))]) (by decide) rfl ?_
  exact z_mask [true, true, true, true] rfl (ih 0 h0 G0 (FR.rf (cs := [39]) (ss := []) (h := h0)) (by omega) (by omega) (by omega) (by omega) (fun j hj => by omega) (by omega))
abbrev P_J7_fill_41x (h0 : m_H) (a1 : Int) : m_H → Prop := fun h' => GI h' ∧ FR [41] [] h0 h' ∧ (∀ j : Nat, (j : Int) < 48 → h' 41 j = a1)
def q_J7_fill_41x (h0 : m_H) (a1 : Int) (n : Nat) : Prop := (∀ (l2 : Int) (h : m_H), GI h → FR [41] [] h0 h → 0 ≤ l2 → l2 ≤ 48 → (-2147483648) ≤ a1 → a1 ≤ 2147483647 → (∀ j : Nat, (j : Int) < l2 → h 41 j = a1) → 2 * (48 - l2) + (1) ≤ (n : Int) → m_Z oF M_J7_fill_53178 5 [some (mR 41), some (mI a1), some (mI l2), some (mI ((48 : Nat) : Int))] [] h (m_QV (P_J7_fill_41x h0 a1)))
set_option maxHeartbeats 4000000 in
set_option maxRecDepth 100000 in
theorem s_J7_fill_41x_5 (h0 : m_H) (a1 : Int) (G0 : GI h0) (n : Nat) (ih : q_J7_fill_41x h0 a1 n) : ∀ (l2 : Int) (h : m_H), GI h → FR [41] [] h0 h → 0 ≤ l2 → l2 ≤ 48 → (-2147483648) ≤ a1 → a1 ≤ 2147483647 → (∀ j : Nat, (j : Int) < l2 → h 41 j = a1) → 2 * (48 - l2) + (1) ≤ ((n + 1 : Nat) : Int) → m_Z oF M_J7_fill_53178 5 [some (mR 41), some (mI a1), some (mI l2), some (mI ((48 : Nat) : Int))] [] h (m_QV (P_J7_fill_41x h0 a1)) := by
  intro l2 h G R v0 v1 v2 v3 i0 hr
  refine z_iload_n (M := M_J7_fill_53178) 5 dJ7_fill_53178_5 rfl ?_
  refine z_iload_n (M := M_J7_fill_53178) 6 dJ7_fill_53178_6 rfl ?_
  refine z_icmp_ge (M := M_J7_fill_53178) 7 dJ7_fill_53178_7 20 rfl (fun c1 => ?_) (fun c1 => ?_)
  · exact z_retV (M := M_J7_fill_53178) 20 dJ7_fill_53178_20 rfl ⟨G, R, fun j hj => i0 j (by omega)⟩
  · refine z_aload_n (M := M_J7_fill_53178) 10 dJ7_fill_53178_10 rfl ?_
    refine z_iload_n (M := M_J7_fill_53178) 11 dJ7_fill_53178_11 rfl ?_
    refine z_iload_n (M := M_J7_fill_53178) 12 dJ7_fill_53178_12 rfl ?_
    refine z_iastH (M := M_J7_fill_53178) 13 dJ7_fill_53178_13 o_41 (by omega) (by omega) (u_41 G) (R.up rfl) (fun h1 E1 G1 R1 => ?_)
    refine z_iincN (M := M_J7_fill_53178) 14 dJ7_fill_53178_14 (ls' := [some (mR 41), some (mI a1), some (mI (l2 + 1)), some (mI ((48 : Nat) : Int))]) (by decide) rfl (by (unfold m_32; decide)) (by omega) (by omega) rfl ?_
    refine z_goto (M := M_J7_fill_53178) 17 dJ7_fill_53178_17 5 rfl ?_
    exact z_mask [true, true, true, true] rfl (ih (l2 + 1) h1 G1 R1 (by omega) (by omega) (by omega) (by omega) (fl_s i0 (by omega) E1) (by omega))
theorem a_J7_fill_41x (h0 : m_H) (a1 : Int) (G0 : GI h0) : ∀ n, q_J7_fill_41x h0 a1 n := by
  intro n
  induction n with
  | zero => unfold q_J7_fill_41x; intros; omega
  | succ n ih => exact s_J7_fill_41x_5 h0 a1 G0 n ih
set_option maxHeartbeats 4000000 in
set_option maxRecDepth 100000 in
theorem c_J7_fill_41x (h0 : m_H) (a1 : Int) (G0 : GI h0) : m_CV M_J7_fill_53178 [mR 41, mI a1] h0 (P_J7_fill_41x h0 a1) := by
  refine m_CV_of ⟨by decide, rfl, by simp [m_arg, m_isL, M_J7_fill_53178], ⟨rfl, rfl⟩, rfl, rfl⟩ (ls := [some (mR 41), some (mI a1), none, none]) rfl ?_
  have ih := a_J7_fill_41x h0 a1 G0 104
  refine z_ok (fun _ _ ok => ?_)
  have oa1 : m_32 a1 := ok 1 _ rfl
  unfold m_32 at oa1
  refine z_iconst (M := M_J7_fill_53178) 0 dJ7_fill_53178_0 ?_
  refine z_istore_n (M := M_J7_fill_53178) 1 dJ7_fill_53178_1 (ls' := [some (mR 41), some (mI a1), some (mI 0), none]) (by decide) rfl ?_
  refine z_aload_n (M := M_J7_fill_53178) 2 dJ7_fill_53178_2 rfl ?_
  refine z_alen (M := M_J7_fill_53178) 3 dJ7_fill_53178_3 o_41 (by decide) (by decide) ?_
  refine z_istore_n (M := M_J7_fill_53178) 4 dJ7_fill_53178_4 (ls' := [some (mR 41), some (mI a1), some (mI 0), some (mI ((48 : Nat) : Int))]) (by decide) rfl ?_
  exact z_mask [true, true, true, true] rfl (ih 0 h0 G0 (FR.rf (cs := [41]) (ss := []) (h := h0)) (by omega) (by omega) (by omega) (by omega) (fun j hj => by omega) (by omega))
abbrev P_X9_lower2 (h0 : m_H) (a1 a2 a3 : Int) : m_H → Prop := fun h' => GI h' ∧ FR [39, 40] [] h0 h' ∧ lwQ a1.toNat a2 a3 h0 h'
set_option maxHeartbeats 4000000 in
set_option maxRecDepth 100000 in
theorem c_X9_lower2 (h0 : m_H) (a1 a2 a3 : Int) (G0 : GI h0) (pa1 : 0 ≤ a1 ∧ a1 ≤ 47) (pa3 : 0 ≤ a3 ∧ a3 ≤ 1) : m_CV M_X9_lower [mR 38, mI a1, mI a2, mI a3] h0 (P_X9_lower2 h0 a1 a2 a3) := by
  refine m_CV_of ⟨by decide, rfl, by simp [m_arg, m_isL, M_X9_lower], ⟨rfl, rfl⟩, rfl, rfl⟩ (ls := [some (mR 38), some (mI a1), some (mI a2), some (mI a3)]) rfl ?_
  refine z_ok (fun _ _ ok => ?_)
  have oa2 : m_32 a2 := ok 2 _ rfl
  unfold m_32 at oa2
  refine z_aload_n (M := M_X9_lower) 0 dX9_lower_0 rfl ?_
  refine z_getR (M := M_X9_lower) 1 dX9_lower_1 f_X9_9 o_38 rfl (g_38_0 G0) ?_
  refine z_iload_n (M := M_X9_lower) 4 dX9_lower_4 rfl ?_
  refine z_ialdV (M := M_X9_lower) 5 dX9_lower_5 o_39 (by omega) (by omega) (fun x1 ex1 => ?_)
  refine z_ok (fun ox1 _ _ => ?_)
  have ox1 := ox1.1; unfold m_ok m_32 at ox1
  refine z_if_eq (M := M_X9_lower) 6 dX9_lower_6 19 rfl (fun c2 => ?_) (fun c2 => ?_)
  · refine z_aload_n (M := M_X9_lower) 19 dX9_lower_19 rfl ?_
    refine z_getR (M := M_X9_lower) 20 dX9_lower_20 f_X9_9 o_38 rfl (g_38_0 G0) ?_
    refine z_iload_n (M := M_X9_lower) 23 dX9_lower_23 rfl ?_
    refine z_iload_n (M := M_X9_lower) 24 dX9_lower_24 rfl ?_
    refine z_iastH (M := M_X9_lower) 25 dX9_lower_25 o_39 (by omega) (by omega) (u_39 G0) ((FR.rf (cs := [39, 40]) (ss := []) (h := h0)).up rfl) (fun h1 E1 G1 R1 => ?_)
    refine z_aload_n (M := M_X9_lower) 26 dX9_lower_26 rfl ?_
    refine z_getR (M := M_X9_lower) 27 dX9_lower_27 f_X9_15 o_38 rfl (g_38_1 G1) ?_
    refine z_iload_n (M := M_X9_lower) 30 dX9_lower_30 rfl ?_
    refine z_iload_n (M := M_X9_lower) 31 dX9_lower_31 rfl ?_
    refine z_zastH (M := M_X9_lower) 32 dX9_lower_32 o_40 (by omega) (by omega) (by omega) (u_40 G1 (by omega) (by omega)) (R1.up rfl) (fun h2 E2 G2 R2 => ?_)
    refine z_goto (M := M_X9_lower) 33 dX9_lower_33 57 rfl ?_
    exact z_retV (M := M_X9_lower) 57 dX9_lower_57 rfl ⟨G2, R2, lw_1 ex1 (Or.inl c2) E1 E2⟩
  · refine z_iload_n (M := M_X9_lower) 9 dX9_lower_9 rfl ?_
    refine z_aload_n (M := M_X9_lower) 10 dX9_lower_10 rfl ?_
    refine z_getR (M := M_X9_lower) 11 dX9_lower_11 f_X9_9 o_38 rfl (g_38_0 G0) ?_
    refine z_iload_n (M := M_X9_lower) 14 dX9_lower_14 rfl ?_
    refine z_ialdE (M := M_X9_lower) 15 dX9_lower_15 o_39 (by omega) (by omega) ex1 ?_
    refine z_icmp_ge (M := M_X9_lower) 16 dX9_lower_16 36 rfl (fun c3 => ?_) (fun c3 => ?_)
    · refine z_iload_n (M := M_X9_lower) 36 dX9_lower_36 rfl ?_
      refine z_aload_n (M := M_X9_lower) 37 dX9_lower_37 rfl ?_
      refine z_getR (M := M_X9_lower) 38 dX9_lower_38 f_X9_9 o_38 rfl (g_38_0 G0) ?_
      refine z_iload_n (M := M_X9_lower) 41 dX9_lower_41 rfl ?_
      refine z_ialdE (M := M_X9_lower) 42 dX9_lower_42 o_39 (by omega) (by omega) ex1 ?_
      refine z_icmp_ne (M := M_X9_lower) 43 dX9_lower_43 57 rfl (fun c4 => ?_) (fun c4 => ?_)
      · exact z_retV (M := M_X9_lower) 57 dX9_lower_57 rfl ⟨G0, (FR.rf (cs := [39, 40]) (ss := []) (h := h0)), lw_3 ex1 (fun z => by omega) (fun z => by omega)⟩
      · refine z_iload_n (M := M_X9_lower) 46 dX9_lower_46 rfl ?_
        refine z_if_eq (M := M_X9_lower) 47 dX9_lower_47 57 rfl (fun c5 => ?_) (fun c5 => ?_)
        · exact z_retV (M := M_X9_lower) 57 dX9_lower_57 rfl ⟨G0, (FR.rf (cs := [39, 40]) (ss := []) (h := h0)), lw_3 ex1 (fun z => by omega) (fun z => by omega)⟩
        · refine z_aload_n (M := M_X9_lower) 50 dX9_lower_50 rfl ?_
          refine z_getR (M := M_X9_lower) 51 dX9_lower_51 f_X9_15 o_38 rfl (g_38_1 G0) ?_
          refine z_iload_n (M := M_X9_lower) 54 dX9_lower_54 rfl ?_
          refine z_iconst (M := M_X9_lower) 55 dX9_lower_55 ?_
          refine z_zastH (M := M_X9_lower) 56 dX9_lower_56 o_40 (by omega) (by omega) (by omega) (u_40 G0 (by omega) (by omega)) ((FR.rf (cs := [39, 40]) (ss := []) (h := h0)).up rfl) (fun h3 E3 G3 R3 => ?_)
          exact z_retV (M := M_X9_lower) 57 dX9_lower_57 rfl ⟨G3, R3, lw_2 ex1 (fun z => by omega) ⟨by omega, by omega⟩ E3⟩
    · refine z_aload_n (M := M_X9_lower) 19 dX9_lower_19 rfl ?_
      refine z_getR (M := M_X9_lower) 20 dX9_lower_20 f_X9_9 o_38 rfl (g_38_0 G0) ?_
      refine z_iload_n (M := M_X9_lower) 23 dX9_lower_23 rfl ?_
      refine z_iload_n (M := M_X9_lower) 24 dX9_lower_24 rfl ?_
      refine z_iastH (M := M_X9_lower) 25 dX9_lower_25 o_39 (by omega) (by omega) (u_39 G0) ((FR.rf (cs := [39, 40]) (ss := []) (h := h0)).up rfl) (fun h4 E4 G4 R4 => ?_)
      refine z_aload_n (M := M_X9_lower) 26 dX9_lower_26 rfl ?_
      refine z_getR (M := M_X9_lower) 27 dX9_lower_27 f_X9_15 o_38 rfl (g_38_1 G4) ?_
      refine z_iload_n (M := M_X9_lower) 30 dX9_lower_30 rfl ?_
      refine z_iload_n (M := M_X9_lower) 31 dX9_lower_31 rfl ?_
      refine z_zastH (M := M_X9_lower) 32 dX9_lower_32 o_40 (by omega) (by omega) (by omega) (u_40 G4 (by omega) (by omega)) (R4.up rfl) (fun h5 E5 G5 R5 => ?_)
      refine z_goto (M := M_X9_lower) 33 dX9_lower_33 57 rfl ?_
      exact z_retV (M := M_X9_lower) 57 dX9_lower_57 rfl ⟨G5, R5, lw_1 ex1 (Or.inr (by omega)) E4 E5⟩
abbrev P_X9_forget2 (h0 : m_H) : m_H → Prop := fun h' => GI h' ∧ FR (csB ++ [39, 41]) [] h0 h' ∧ fgI 16 h'
def q_X9_forget2 (h0 : m_H) (n : Nat) : Prop := (∀ (l1 : Int) (h : m_H), GI h → FR (csB ++ [39, 41]) [] h0 h → 0 ≤ l1 → l1 ≤ 16 → (fgI l1 h) → 2 * (16 - l1) + (1) ≤ (n : Int) → m_Z oF M_X9_forget 18 [some (mR 38), some (mI l1)] [] h (m_QV (P_X9_forget2 h0)))
set_option maxHeartbeats 4000000 in
set_option maxRecDepth 100000 in
theorem s_X9_forget2_18 (h0 : m_H) (G0 : GI h0) (n : Nat) (ih : q_X9_forget2 h0 n) : ∀ (l1 : Int) (h : m_H), GI h → FR (csB ++ [39, 41]) [] h0 h → 0 ≤ l1 → l1 ≤ 16 → (fgI l1 h) → 2 * (16 - l1) + (1) ≤ ((n + 1 : Nat) : Int) → m_Z oF M_X9_forget 18 [some (mR 38), some (mI l1)] [] h (m_QV (P_X9_forget2 h0)) := by
  intro l1 h G R v0 v1 i0 hr
  refine z_iload_n (M := M_X9_forget) 18 dX9_forget_18 rfl ?_
  refine z_bipush (M := M_X9_forget) 19 dX9_forget_19 ?_
  refine z_icmp_ge (M := M_X9_forget) 21 dX9_forget_21 39 rfl (fun c1 => ?_) (fun c1 => ?_)
  · exact z_retV (M := M_X9_forget) 39 dX9_forget_39 rfl ⟨G, R, (show (16 : Int) = l1 by omega) ▸ i0⟩
  · refine z_aload_n (M := M_X9_forget) 24 dX9_forget_24 rfl ?_
    refine z_getR (M := M_X9_forget) 25 dX9_forget_25 f_X9_26 o_38 rfl (g_38_3 G) ?_
    refine z_iload_n (M := M_X9_forget) 28 dX9_forget_28 rfl ?_
    have hb2 := isB_42 (i := l1) (by omega) (by omega)
    refine z_aaldB (M := M_X9_forget) 29 dX9_forget_29 o_42 (by omega) (by omega) (g_42 G (by omega)) ?_
    refine z_vV (M := M_X9_forget) 30 dX9_forget_30 t_X2_clear l_X9_89 (m_rr_of rfl) (rest := []) (c_X2_clear2 h (43 + (l1).toNat) hb2 G) (oB hb2) rfl rfl rfl (Nat.le_of_ble_eq_true rfl) ⟨rfl, rfl⟩ (fun h1 qx3 => ?_)
    obtain ⟨G1, S1, B1⟩ := qx3
    have R1 := R.call S1 (by decide +kernel)
    refine z_iincN (M := M_X9_forget) 33 dX9_forget_33 (ls' := [some (mR 38), some (mI (l1 + 1))]) (by decide) rfl (by (unfold m_32; decide)) (by omega) (by omega) rfl ?_
    refine z_goto (M := M_X9_forget) 36 dX9_forget_36 18 rfl ?_
    exact z_mask [true, true] rfl (ih (l1 + 1) h1 G1 R1 (by omega) (by omega) (fg_s i0 (by omega) (by omega) B1) (by omega))
theorem a_X9_forget2 (h0 : m_H) (G0 : GI h0) : ∀ n, q_X9_forget2 h0 n := by
  intro n
  induction n with
  | zero => unfold q_X9_forget2; intros; omega
  | succ n ih => exact s_X9_forget2_18 h0 G0 n ih
set_option maxHeartbeats 4000000 in
set_option maxRecDepth 100000 in
theorem c_X9_forget2 (h0 : m_H) (G0 : GI h0) : m_CV M_X9_forget [mR 38] h0 (P_X9_forget2 h0) := by
  refine m_CV_of ⟨by decide, rfl, by simp [m_arg, m_isL, M_X9_forget], ⟨rfl, rfl⟩, rfl, rfl⟩ (ls := [some (mR 38), none]) rfl ?_
  have ih := a_X9_forget2 h0 G0 40
  refine z_aload_n (M := M_X9_forget) 0 dX9_forget_0 rfl ?_
  refine z_getR (M := M_X9_forget) 1 dX9_forget_1 f_X9_9 o_38 rfl (g_38_0 G0) ?_
  refine z_iconst (M := M_X9_forget) 4 dX9_forget_4 ?_
  refine z_sV (M := M_X9_forget) 5 dX9_forget_5 t_J7_fill_53178 l_X9_83 (m_rr_of rfl) (rest := []) (c_J7_fill_39x h0 0 G0) rfl rfl (Nat.le_of_ble_eq_true rfl) ⟨rfl, rfl⟩ (fun h1 qx1 => ?_)
  obtain ⟨G1, S1, B1⟩ := qx1
  have R1 := (FR.rf (cs := (csB ++ [39, 41])) (ss := []) (h := h0)).call S1 (by decide +kernel)
  refine z_aload_n (M := M_X9_forget) 8 dX9_forget_8 rfl ?_
  refine z_getR (M := M_X9_forget) 9 dX9_forget_9 f_X9_19 o_38 rfl (g_38_2 G1) ?_
  refine z_iconst (M := M_X9_forget) 12 dX9_forget_12 ?_
  refine z_sV (M := M_X9_forget) 13 dX9_forget_13 t_J7_fill_53178 l_X9_83 (m_rr_of rfl) (rest := []) (c_J7_fill_41x h1 0 G1) rfl rfl (Nat.le_of_ble_eq_true rfl) ⟨rfl, rfl⟩ (fun h2 qx2 => ?_)
  obtain ⟨G2, S2, B2⟩ := qx2
  have R2 := R1.call S2 (by decide +kernel)
  refine z_iconst (M := M_X9_forget) 16 dX9_forget_16 ?_
  refine z_istore_n (M := M_X9_forget) 17 dX9_forget_17 (ls' := [some (mR 38), some (mI 0)]) (by decide) rfl ?_
  exact z_mask [true, true] rfl (ih 0 h2 G2 R2 (by omega) (by omega) ⟨fun j hj => by rw [S2 39 j rfl]; exact B1 j (by omega), fun j hj => B2 j (by omega), fun p hp => by omega⟩ (by omega))
abbrev P_X9_tie2 (h0 : m_H) (L : Nat) (a2 : Int) : m_H → Prop := fun h' => GI h' ∧ FR [39, 40, 41] [] h0 h' ∧ tyQ L a2 h0 h'
set_option maxHeartbeats 4000000 in
set_option maxRecDepth 100000 in
theorem c_X9_tie2 (h0 : m_H) (L : Nat) (a2 : Int) (hL : isL L) (G0 : GI h0) (pa2 : 0 ≤ a2 ∧ a2 ≤ 23) : m_CV M_X9_tie [mR 38, mR L, mI a2] h0 (P_X9_tie2 h0 L a2) := by
  refine m_CV_of ⟨by decide, rfl, by simp [m_arg, m_isL, M_X9_tie], ⟨rfl, rfl⟩, rfl, rfl⟩ (ls := [some (mR 38), some (mR L), some (mI a2), none, none]) rfl ?_
  refine z_aload_n (M := M_X9_tie) 0 dX9_tie_0 rfl ?_
  refine z_iload_n (M := M_X9_tie) 1 dX9_tie_1 rfl ?_
  refine z_vI (M := M_X9_tie) 2 dX9_tie_2 t_X4_keeperOf l_X9_92 (m_rr_of rfl) (rest := []) (c_X4_keeperOf2 h0 L a2 hL G0 ⟨by omega, by omega⟩) (oL hL) rfl rfl rfl (Nat.le_of_ble_eq_true rfl) ⟨rfl, rfl⟩ (fun x1 h1 qx1 => ?_)
  obtain ⟨G1, S1, ax1, bx1, fx1⟩ := qx1
  have R1 := (FR.rf (cs := [39, 40, 41]) (ss := []) (h := h0)).call S1 (by decide +kernel)
  refine z_istore_n (M := M_X9_tie) 5 dX9_tie_5 (ls' := [some (mR 38), some (mR L), some (mI a2), some (mI x1), none]) (by decide) rfl ?_
  refine z_iload_n (M := M_X9_tie) 6 dX9_tie_6 rfl ?_
  refine z_iconst (M := M_X9_tie) 7 dX9_tie_7 ?_
  refine z_icmp_ne (M := M_X9_tie) 8 dX9_tie_8 12 rfl (fun c2 => ?_) (fun c2 => ?_)
  · refine z_aload_n (M := M_X9_tie) 12 dX9_tie_12 rfl ?_
    refine z_iload_n (M := M_X9_tie) 13 dX9_tie_13 rfl ?_
    refine z_vI (M := M_X9_tie) 14 dX9_tie_14 t_X4_lengthOf l_X9_96 (m_rr_of rfl) (rest := []) (c_X4_lengthOf2 h1 L a2 hL G1 ⟨by omega, by omega⟩) (oL hL) rfl rfl rfl (Nat.le_of_ble_eq_true rfl) ⟨rfl, rfl⟩ (fun x3 h2 qx3 => ?_)
    obtain ⟨G2, S2, ax3, bx3, fx3⟩ := qx3
    have R2 := R1.call S2 (by decide +kernel)
    refine z_iconst (M := M_X9_tie) 17 dX9_tie_17 ?_
    refine z_imulN (M := M_X9_tie) 18 dX9_tie_18 (by omega) (by omega) ?_
    refine z_iload_n (M := M_X9_tie) 19 dX9_tie_19 rfl ?_
    refine z_iaddN (M := M_X9_tie) 20 dX9_tie_20 (by omega) (by omega) ?_
    refine z_istore (M := M_X9_tie) 21 dX9_tie_21 (ls' := [some (mR 38), some (mR L), some (mI a2), some (mI x1), some (mI ((x3 * 4) + x1))]) (by decide) rfl ?_
    refine z_aload_n (M := M_X9_tie) 23 dX9_tie_23 rfl ?_
    refine z_iload (M := M_X9_tie) 24 dX9_tie_24 rfl ?_
    refine z_aload_n (M := M_X9_tie) 26 dX9_tie_26 rfl ?_
    refine z_iload_n (M := M_X9_tie) 27 dX9_tie_27 rfl ?_
    refine z_vI (M := M_X9_tie) 28 dX9_tie_28 t_X4_endHalves l_X9_99 (m_rr_of rfl) (rest := [mI ((x3 * 4) + x1), mR 38]) (c_X4_endHalves2 h2 L a2 hL G2 ⟨by omega, by omega⟩) (oL hL) rfl rfl rfl (Nat.le_of_ble_eq_true rfl) ⟨rfl, rfl⟩ (fun x4 h3 qx4 => ?_)
    obtain ⟨G3, S3, ax4, bx4, fx4⟩ := qx4
    have R3 := R2.call S3 (by decide +kernel)
    refine z_aload_n (M := M_X9_tie) 31 dX9_tie_31 rfl ?_
    refine z_getR (M := M_X9_tie) 32 dX9_tie_32 f_X9_102 (oL hL) rfl (rL_5 hL G3) ?_
    refine z_iload_n (M := M_X9_tie) 35 dX9_tie_35 rfl ?_
    refine z_ialdG (M := M_X9_tie) 36 dX9_tie_36 (oL_6 hL) (by omega) (by omega) (gL_6 hL G3 (by omega)) (fun x5 ex5 ax5 bx5 => ?_)
    refine z_if_eq (M := M_X9_tie) 37 dX9_tie_37 44 rfl (fun c6 => ?_) (fun c6 => ?_)
    · refine z_iconst (M := M_X9_tie) 44 dX9_tie_44 ?_
      refine z_vV (M := M_X9_tie) 45 dX9_tie_45 t_X9_lower l_X9_105 (m_rr_of rfl) (rest := []) (c_X9_lower2 h3 ((x3 * 4) + x1) x4 0 G3 ⟨by omega, by omega⟩ ⟨by omega, by omega⟩) o_38 rfl rfl rfl (Nat.le_of_ble_eq_true rfl) ⟨rfl, rfl⟩ (fun h4 qx7 => ?_)
      obtain ⟨G4, S4, Q4⟩ := qx7
      have R4 := R3.call S4 (by decide +kernel)
      refine z_aload_n (M := M_X9_tie) 48 dX9_tie_48 rfl ?_
      refine z_getR (M := M_X9_tie) 49 dX9_tie_49 f_X9_19 o_38 rfl (g_38_2 G4) ?_
      refine z_iload (M := M_X9_tie) 52 dX9_tie_52 rfl ?_
      refine z_aload_n (M := M_X9_tie) 54 dX9_tie_54 rfl ?_
      refine z_getR (M := M_X9_tie) 55 dX9_tie_55 f_X9_19 o_38 rfl (g_38_2 G4) ?_
      refine z_iload (M := M_X9_tie) 58 dX9_tie_58 rfl ?_
      refine z_ialdV (M := M_X9_tie) 60 dX9_tie_60 o_41 (by omega) (by omega) (fun x8 ex8 => ?_)
      refine z_ok (fun ox8 _ _ => ?_)
      have ox8 := ox8.1; unfold m_ok m_32 at ox8
      refine z_aload_n (M := M_X9_tie) 61 dX9_tie_61 rfl ?_
      refine z_iload_n (M := M_X9_tie) 62 dX9_tie_62 rfl ?_
      refine z_vI (M := M_X9_tie) 63 dX9_tie_63 t_X4_leastHalves l_X9_109 (m_rr_of rfl) (rest := [mI x8, mI ((x3 * 4) + x1), mR 41]) (c_X4_leastHalves2 h4 L a2 hL G4 ⟨by omega, by omega⟩) (oL hL) rfl rfl rfl (Nat.le_of_ble_eq_true rfl) ⟨rfl, rfl⟩ (fun x9 h5 qx9 => ?_)
      obtain ⟨G5, S5, ax9, bx9, fx9⟩ := qx9
      have R5 := R4.call S5 (by decide +kernel)
      refine z_maxI (M := M_X9_tie) 66 dX9_tie_66 ml_X9_112 (rest := [mI ((x3 * 4) + x1), mR 41]) (Nat.le_of_ble_eq_true rfl) (Nat.le_of_ble_eq_true rfl) ?_
      refine z_topBI (lo := (-1)) (hi := 2147483647) ⟨by split <;> omega, by split <;> omega⟩ (fun x10 ex10 ax10 bx10 => ?_)
      refine z_iastH (M := M_X9_tie) 69 dX9_tie_69 o_41 (by omega) (by omega) (u_41 G5) (R5.up rfl) (fun h6 E6 G6 R6 => ?_)
      exact z_retV (M := M_X9_tie) 70 dX9_tie_70 rfl ⟨G6, R6, tyQ_y fx1 (by omega) (by have q := fx3; rw [frE S1] at q; exact q) (by have q := fx4; rw [frE S2, frE S1] at q; exact q) (by have q := ex5; rw [frE S3, frE S2, frE S1] at q; rw [q]; exact if_pos c6) (by have q := fx9; rw [Q4.1 (L + 5) (by unfold isL at hL; omega) (by unfold isL at hL; omega), Q4.1 (L + 6) (by unfold isL at hL; omega) (by unfold isL at hL; omega), frE S3, frE S2, frE S1] at q; exact q) (ty_of ((frE S3).trans ((frE S2).trans (frE S1))) Q4 ex8 (frE S5) ex10 E6)⟩
    · refine z_iconst (M := M_X9_tie) 40 dX9_tie_40 ?_
      refine z_goto (M := M_X9_tie) 41 dX9_tie_41 45 rfl ?_
      refine z_vV (M := M_X9_tie) 45 dX9_tie_45 t_X9_lower l_X9_105 (m_rr_of rfl) (rest := []) (c_X9_lower2 h3 ((x3 * 4) + x1) x4 1 G3 ⟨by omega, by omega⟩ ⟨by omega, by omega⟩) o_38 rfl rfl rfl (Nat.le_of_ble_eq_true rfl) ⟨rfl, rfl⟩ (fun h7 qx11 => ?_)
      obtain ⟨G7, S7, Q7⟩ := qx11
      have R7 := R3.call S7 (by decide +kernel)
      refine z_aload_n (M := M_X9_tie) 48 dX9_tie_48 rfl ?_
      refine z_getR (M := M_X9_tie) 49 dX9_tie_49 f_X9_19 o_38 rfl (g_38_2 G7) ?_
      refine z_iload (M := M_X9_tie) 52 dX9_tie_52 rfl ?_
      refine z_aload_n (M := M_X9_tie) 54 dX9_tie_54 rfl ?_
      refine z_getR (M := M_X9_tie) 55 dX9_tie_55 f_X9_19 o_38 rfl (g_38_2 G7) ?_
      refine z_iload (M := M_X9_tie) 58 dX9_tie_58 rfl ?_
      refine z_ialdV (M := M_X9_tie) 60 dX9_tie_60 o_41 (by omega) (by omega) (fun x12 ex12 => ?_)
      refine z_ok (fun ox12 _ _ => ?_)
      have ox12 := ox12.1; unfold m_ok m_32 at ox12
      refine z_aload_n (M := M_X9_tie) 61 dX9_tie_61 rfl ?_
      refine z_iload_n (M := M_X9_tie) 62 dX9_tie_62 rfl ?_
      refine z_vI (M := M_X9_tie) 63 dX9_tie_63 t_X4_leastHalves l_X9_109 (m_rr_of rfl) (rest := [mI x12, mI ((x3 * 4) + x1), mR 41]) (c_X4_leastHalves2 h7 L a2 hL G7 ⟨by omega, by omega⟩) (oL hL) rfl rfl rfl (Nat.le_of_ble_eq_true rfl) ⟨rfl, rfl⟩ (fun x13 h8 qx13 => ?_)
      obtain ⟨G8, S8, ax13, bx13, fx13⟩ := qx13
      have R8 := R7.call S8 (by decide +kernel)
      refine z_maxI (M := M_X9_tie) 66 dX9_tie_66 ml_X9_112 (rest := [mI ((x3 * 4) + x1), mR 41]) (Nat.le_of_ble_eq_true rfl) (Nat.le_of_ble_eq_true rfl) ?_
      refine z_topBI (lo := (-1)) (hi := 2147483647) ⟨by split <;> omega, by split <;> omega⟩ (fun x14 ex14 ax14 bx14 => ?_)
      refine z_iastH (M := M_X9_tie) 69 dX9_tie_69 o_41 (by omega) (by omega) (u_41 G8) (R8.up rfl) (fun h9 E9 G9 R9 => ?_)
      exact z_retV (M := M_X9_tie) 70 dX9_tie_70 rfl ⟨G9, R9, tyQ_y fx1 (by omega) (by have q := fx3; rw [frE S1] at q; exact q) (by have q := fx4; rw [frE S2, frE S1] at q; exact q) (by have q := ex5; rw [frE S3, frE S2, frE S1] at q; rw [q]; exact if_neg c6) (by have q := fx13; rw [Q7.1 (L + 5) (by unfold isL at hL; omega) (by unfold isL at hL; omega), Q7.1 (L + 6) (by unfold isL at hL; omega) (by unfold isL at hL; omega), frE S3, frE S2, frE S1] at q; exact q) (ty_of ((frE S3).trans ((frE S2).trans (frE S1))) Q7 ex12 (frE S8) ex14 E9)⟩
  · exact z_retV (M := M_X9_tie) 11 dX9_tie_11 rfl ⟨G1, R1, ⟨fun _ => frE S1, fun z => absurd (fx1.trans (by omega)) z⟩⟩
abbrev P_X9_tieCut2 (h0 : m_H) (a1 : Int) : m_H → Prop := fun h' => GI h' ∧ FR [39, 40, 41] [] h0 h' ∧ cuI a1 4 h0 h'
def q_X9_tieCut2 (h0 : m_H) (a1 : Int) (n : Nat) : Prop := (∀ (l2 : Int) (h : m_H), GI h → FR [39, 40, 41] [] h0 h → 0 ≤ l2 → l2 ≤ 4 → (cuI a1 l2 h0 h) → 2 * (4 - l2) + (1) ≤ (n : Int) → m_Z oF M_X9_tieCut 2 [some (mR 38), some (mI a1), some (mI l2), none, none] [] h (m_QV (P_X9_tieCut2 h0 a1)))
set_option maxHeartbeats 4000000 in
set_option maxRecDepth 100000 in
theorem s_X9_tieCut2_2 (h0 : m_H) (a1 : Int) (G0 : GI h0) (pa1 : 0 ≤ a1 ∧ a1 ≤ 5) (n : Nat) (ih : q_X9_tieCut2 h0 a1 n) : ∀ (l2 : Int) (h : m_H), GI h → FR [39, 40, 41] [] h0 h → 0 ≤ l2 → l2 ≤ 4 → (cuI a1 l2 h0 h) → 2 * (4 - l2) + (1) ≤ ((n + 1 : Nat) : Int) → m_Z oF M_X9_tieCut 2 [some (mR 38), some (mI a1), some (mI l2), none, none] [] h (m_QV (P_X9_tieCut2 h0 a1)) := by
  intro l2 h G R v0 v1 i0 hr
  refine z_iload_n (M := M_X9_tieCut) 2 dX9_tieCut_2 rfl ?_
  refine z_iconst (M := M_X9_tieCut) 3 dX9_tieCut_3 ?_
  refine z_icmp_ge (M := M_X9_tieCut) 4 dX9_tieCut_4 78 rfl (fun c1 => ?_) (fun c1 => ?_)
  · exact z_retV (M := M_X9_tieCut) 78 dX9_tieCut_78 rfl ⟨G, R, (show (4 : Int) = l2 by omega) ▸ i0⟩
  · refine z_iload_n (M := M_X9_tieCut) 7 dX9_tieCut_7 rfl ?_
    refine z_iconst (M := M_X9_tieCut) 8 dX9_tieCut_8 ?_
    refine z_imulN (M := M_X9_tieCut) 9 dX9_tieCut_9 (by omega) (by omega) ?_
    refine z_iload_n (M := M_X9_tieCut) 10 dX9_tieCut_10 rfl ?_
    refine z_iaddN (M := M_X9_tieCut) 11 dX9_tieCut_11 (by omega) (by omega) ?_
    refine z_istore_n (M := M_X9_tieCut) 12 dX9_tieCut_12 (ls' := [some (mR 38), some (mI a1), some (mI l2), some (mI ((a1 * 4) + l2)), none]) (by decide) rfl ?_
    refine z_iload_n (M := M_X9_tieCut) 13 dX9_tieCut_13 rfl ?_
    refine z_bipush (M := M_X9_tieCut) 14 dX9_tieCut_14 ?_
    refine z_iaddN (M := M_X9_tieCut) 16 dX9_tieCut_16 (by omega) (by omega) ?_
    refine z_iconst (M := M_X9_tieCut) 17 dX9_tieCut_17 ?_
    refine z_imulN (M := M_X9_tieCut) 18 dX9_tieCut_18 (by omega) (by omega) ?_
    refine z_iload_n (M := M_X9_tieCut) 19 dX9_tieCut_19 rfl ?_
    refine z_iaddN (M := M_X9_tieCut) 20 dX9_tieCut_20 (by omega) (by omega) ?_
    refine z_istore (M := M_X9_tieCut) 21 dX9_tieCut_21 (ls' := [some (mR 38), some (mI a1), some (mI l2), some (mI ((a1 * 4) + l2)), some (mI (((a1 + 6) * 4) + l2))]) (by decide) rfl ?_
    refine z_aload_n (M := M_X9_tieCut) 23 dX9_tieCut_23 rfl ?_
    refine z_getR (M := M_X9_tieCut) 24 dX9_tieCut_24 f_X9_9 o_38 rfl (g_38_0 G) ?_
    refine z_iload_n (M := M_X9_tieCut) 27 dX9_tieCut_27 rfl ?_
    refine z_ialdV (M := M_X9_tieCut) 28 dX9_tieCut_28 o_39 (by omega) (by omega) (fun x2 ex2 => ?_)
    refine z_ok (fun ox2 _ _ => ?_)
    have ox2 := ox2.1; unfold m_ok m_32 at ox2
    refine z_if_eq (M := M_X9_tieCut) 29 dX9_tieCut_29 50 rfl (fun c3 => ?_) (fun c3 => ?_)
    · refine z_aload_n (M := M_X9_tieCut) 50 dX9_tieCut_50 rfl ?_
      refine z_getR (M := M_X9_tieCut) 51 dX9_tieCut_51 f_X9_19 o_38 rfl (g_38_2 G) ?_
      refine z_iload_n (M := M_X9_tieCut) 54 dX9_tieCut_54 rfl ?_
      refine z_aload_n (M := M_X9_tieCut) 55 dX9_tieCut_55 rfl ?_
      refine z_getR (M := M_X9_tieCut) 56 dX9_tieCut_56 f_X9_19 o_38 rfl (g_38_2 G) ?_
      refine z_iload_n (M := M_X9_tieCut) 59 dX9_tieCut_59 rfl ?_
      refine z_ialdV (M := M_X9_tieCut) 60 dX9_tieCut_60 o_41 (by omega) (by omega) (fun x4 ex4 => ?_)
      refine z_ok (fun ox4 _ _ => ?_)
      have ox4 := ox4.1; unfold m_ok m_32 at ox4
      refine z_aload_n (M := M_X9_tieCut) 61 dX9_tieCut_61 rfl ?_
      refine z_getR (M := M_X9_tieCut) 62 dX9_tieCut_62 f_X9_19 o_38 rfl (g_38_2 G) ?_
      refine z_iload (M := M_X9_tieCut) 65 dX9_tieCut_65 rfl ?_
      refine z_ialdV (M := M_X9_tieCut) 67 dX9_tieCut_67 o_41 (by omega) (by omega) (fun x5 ex5 => ?_)
      refine z_ok (fun ox5 _ _ => ?_)
      have ox5 := ox5.1; unfold m_ok m_32 at ox5
      refine z_maxI (M := M_X9_tieCut) 68 dX9_tieCut_68 ml_X9_112 (rest := [mI ((a1 * 4) + l2), mR 41]) (Nat.le_of_ble_eq_true rfl) (Nat.le_of_ble_eq_true rfl) ?_
      refine z_topBI (lo := (-2147483648)) (hi := 2147483647) ⟨by split <;> omega, by split <;> omega⟩ (fun x6 ex6 ax6 bx6 => ?_)
      refine z_iastH (M := M_X9_tieCut) 71 dX9_tieCut_71 o_41 (by omega) (by omega) (u_41 G) (R.up rfl) (fun h1 E1 G1 R1 => ?_)
      refine z_iincN (M := M_X9_tieCut) 72 dX9_tieCut_72 (ls' := [some (mR 38), some (mI a1), some (mI (l2 + 1)), some (mI ((a1 * 4) + l2)), some (mI (((a1 + 6) * 4) + l2))]) (by decide) rfl (by (unfold m_32; decide)) (by omega) (by omega) rfl ?_
      refine z_goto (M := M_X9_tieCut) 75 dX9_tieCut_75 2 rfl ?_
      exact z_mask [true, true, true, false, false] rfl (ih (l2 + 1) h1 G1 R1 (by omega) (by omega) (cu_s0 i0 (by omega) (by omega) (by omega) (by omega) ex2 c3 ex4 ex5 ex6 E1) (by omega))
    · refine z_aload_n (M := M_X9_tieCut) 32 dX9_tieCut_32 rfl ?_
      refine z_iload (M := M_X9_tieCut) 33 dX9_tieCut_33 rfl ?_
      refine z_aload_n (M := M_X9_tieCut) 35 dX9_tieCut_35 rfl ?_
      refine z_getR (M := M_X9_tieCut) 36 dX9_tieCut_36 f_X9_9 o_38 rfl (g_38_0 G) ?_
      refine z_iload_n (M := M_X9_tieCut) 39 dX9_tieCut_39 rfl ?_
      refine z_ialdE (M := M_X9_tieCut) 40 dX9_tieCut_40 o_39 (by omega) (by omega) ex2 ?_
      refine z_aload_n (M := M_X9_tieCut) 41 dX9_tieCut_41 rfl ?_
      refine z_getR (M := M_X9_tieCut) 42 dX9_tieCut_42 f_X9_15 o_38 rfl (g_38_1 G) ?_
      refine z_iload_n (M := M_X9_tieCut) 45 dX9_tieCut_45 rfl ?_
      refine z_zaldG (M := M_X9_tieCut) 46 dX9_tieCut_46 o_40 (by omega) (by omega) (g_40 G (by omega)) (fun x7 ex7 ax7 bx7 => ?_)
      refine z_vV (M := M_X9_tieCut) 47 dX9_tieCut_47 t_X9_lower l_X9_105 (m_rr_of rfl) (rest := []) (c_X9_lower2 h (((a1 + 6) * 4) + l2) x2 x7 G ⟨by omega, by omega⟩ ⟨by omega, by omega⟩) o_38 rfl rfl rfl (Nat.le_of_ble_eq_true rfl) ⟨rfl, rfl⟩ (fun h2 qx8 => ?_)
      obtain ⟨G2, S2, Q2⟩ := qx8
      have R2 := R.call S2 (by decide +kernel)
      refine z_aload_n (M := M_X9_tieCut) 50 dX9_tieCut_50 rfl ?_
      refine z_getR (M := M_X9_tieCut) 51 dX9_tieCut_51 f_X9_19 o_38 rfl (g_38_2 G2) ?_
      refine z_iload_n (M := M_X9_tieCut) 54 dX9_tieCut_54 rfl ?_
      refine z_aload_n (M := M_X9_tieCut) 55 dX9_tieCut_55 rfl ?_
      refine z_getR (M := M_X9_tieCut) 56 dX9_tieCut_56 f_X9_19 o_38 rfl (g_38_2 G2) ?_
      refine z_iload_n (M := M_X9_tieCut) 59 dX9_tieCut_59 rfl ?_
      refine z_ialdV (M := M_X9_tieCut) 60 dX9_tieCut_60 o_41 (by omega) (by omega) (fun x9 ex9 => ?_)
      refine z_ok (fun ox9 _ _ => ?_)
      have ox9 := ox9.1; unfold m_ok m_32 at ox9
      refine z_aload_n (M := M_X9_tieCut) 61 dX9_tieCut_61 rfl ?_
      refine z_getR (M := M_X9_tieCut) 62 dX9_tieCut_62 f_X9_19 o_38 rfl (g_38_2 G2) ?_
      refine z_iload (M := M_X9_tieCut) 65 dX9_tieCut_65 rfl ?_
      refine z_ialdV (M := M_X9_tieCut) 67 dX9_tieCut_67 o_41 (by omega) (by omega) (fun x10 ex10 => ?_)
      refine z_ok (fun ox10 _ _ => ?_)
      have ox10 := ox10.1; unfold m_ok m_32 at ox10
      refine z_maxI (M := M_X9_tieCut) 68 dX9_tieCut_68 ml_X9_112 (rest := [mI ((a1 * 4) + l2), mR 41]) (Nat.le_of_ble_eq_true rfl) (Nat.le_of_ble_eq_true rfl) ?_
      refine z_topBI (lo := (-2147483648)) (hi := 2147483647) ⟨by split <;> omega, by split <;> omega⟩ (fun x11 ex11 ax11 bx11 => ?_)
      refine z_iastH (M := M_X9_tieCut) 71 dX9_tieCut_71 o_41 (by omega) (by omega) (u_41 G2) (R2.up rfl) (fun h3 E3 G3 R3 => ?_)
      refine z_iincN (M := M_X9_tieCut) 72 dX9_tieCut_72 (ls' := [some (mR 38), some (mI a1), some (mI (l2 + 1)), some (mI ((a1 * 4) + l2)), some (mI (((a1 + 6) * 4) + l2))]) (by decide) rfl (by (unfold m_32; decide)) (by omega) (by omega) rfl ?_
      refine z_goto (M := M_X9_tieCut) 75 dX9_tieCut_75 2 rfl ?_
      exact z_mask [true, true, true, false, false] rfl (ih (l2 + 1) h3 G3 R3 (by omega) (by omega) (cu_s1 i0 (by omega) (by omega) (by omega) (by omega) ex2 c3 ex7 Q2 ex9 ex10 ex11 E3) (by omega))
theorem a_X9_tieCut2 (h0 : m_H) (a1 : Int) (G0 : GI h0) (pa1 : 0 ≤ a1 ∧ a1 ≤ 5) : ∀ n, q_X9_tieCut2 h0 a1 n := by
  intro n
  induction n with
  | zero => unfold q_X9_tieCut2; intros; omega
  | succ n ih => exact s_X9_tieCut2_2 h0 a1 G0 pa1 n ih
set_option maxHeartbeats 4000000 in
set_option maxRecDepth 100000 in
theorem c_X9_tieCut2 (h0 : m_H) (a1 : Int) (G0 : GI h0) (pa1 : 0 ≤ a1 ∧ a1 ≤ 5) : m_CV M_X9_tieCut [mR 38, mI a1] h0 (P_X9_tieCut2 h0 a1) := by
  refine m_CV_of ⟨by decide, rfl, by simp [m_arg, m_isL, M_X9_tieCut], ⟨rfl, rfl⟩, rfl, rfl⟩ (ls := [some (mR 38), some (mI a1), none, none, none]) rfl ?_
  have ih := a_X9_tieCut2 h0 a1 G0 pa1 16
  refine z_iconst (M := M_X9_tieCut) 0 dX9_tieCut_0 ?_
  refine z_istore_n (M := M_X9_tieCut) 1 dX9_tieCut_1 (ls' := [some (mR 38), some (mI a1), some (mI 0), none, none]) (by decide) rfl ?_
  exact z_mask [true, true, true, false, false] rfl (ih 0 h0 G0 (FR.rf (cs := [39, 40, 41]) (ss := []) (h := h0)) (by omega) (by omega) cu_0 (by omega))
