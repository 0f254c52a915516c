/-! high and low in the heap -/
theorem fl_s {h h1 : m_H} {c : Nat} {l a : Int} (i : ∀ j : Nat, (j : Int) < l → h c j = a) (hl : 0 ≤ l) (E : h1 = m_up h c l.toNat a) : ∀ j : Nat, (j : Int) < l + 1 → h1 c j = a := fun j hj => by
  by_cases g : j = l.toNat
  · rw [g]; exact upE E
  · rw [upN E (fun z => g z.2)]; exact i j (by omega)
def lwV (hh ho e o : Int) : Int × Int := if hh = 0 ∨ e < hh then (e, o) else if e = hh ∧ o = 1 then (hh, 1) else (hh, ho)
def lwQ (p : Nat) (e o : Int) (h h' : m_H) : Prop := (∀ c, c ≠ 39 → c ≠ 40 → h' c = h c) ∧ (∀ j, j ≠ p → h' 39 j = h 39 j ∧ h' 40 j = h 40 j) ∧ (h' 39 p, h' 40 p) = lwV (h 39 p) (h 40 p) e o
theorem lw_1 {h h1 h2 : m_H} {p : Nat} {e o x : Int} (ex : h 39 p = x) (c : x = 0 ∨ e < x) (E1 : h1 = m_up h 39 p e) (E2 : h2 = m_up h1 40 p o) : lwQ p e o h h2 := by
  refine ⟨fun c n1 n2 => ?_, fun j hj => ⟨?_, ?_⟩, ?_⟩
  · rw [E2, m_up_row n2, E1, m_up_row n1]
  · rw [upN E2 (by simp), upN E1 (fun z => hj z.2)]
  · rw [upN E2 (fun z => hj z.2), upN E1 (by simp)]
  · have a1 : h2 39 p = e := by rw [upN E2 (by simp), upE E1]
    have a2 : h2 40 p = o := upE E2
    unfold lwV
    rw [ex, if_pos c, a1, a2]
theorem lw_2 {h h1 : m_H} {p : Nat} {e o x : Int} (ex : h 39 p = x) (c : ¬ (x = 0 ∨ e < x)) (c2 : e = x ∧ o = 1) (E1 : h1 = m_up h 40 p 1) : lwQ p e o h h1 := by
  refine ⟨fun c n1 n2 => ?_, fun j hj => ⟨?_, ?_⟩, ?_⟩
  · rw [E1, m_up_row n2]
  · rw [upN E1 (by simp)]
  · rw [upN E1 (fun z => hj z.2)]
  · have a1 : h1 39 p = x := by rw [upN E1 (by simp), ex]
    have a2 : h1 40 p = 1 := upE E1
    unfold lwV
    rw [ex, if_neg c, if_pos c2, a1, a2]
theorem lw_3 {h : m_H} {p : Nat} {e o x : Int} (ex : h 39 p = x) (c : ¬ (x = 0 ∨ e < x)) (c2 : ¬ (e = x ∧ o = 1)) : lwQ p e o h h := by
  refine ⟨fun _ _ _ => rfl, fun _ _ => ⟨rfl, rfl⟩, ?_⟩
  unfold lwV
  rw [ex, if_neg c, if_neg c2]
/-- an entry tied -/
def mxI (x y : Int) : Int := if x < y then y else x
def tiV (p : Nat) (e o lo : Int) (h h' : m_H) : Prop := (∀ c, c ≠ 39 → c ≠ 40 → c ≠ 41 → h' c = h c) ∧ (∀ j, j ≠ p → h' 39 j = h 39 j ∧ h' 40 j = h 40 j ∧ h' 41 j = h 41 j) ∧ (h' 39 p, h' 40 p) = lwV (h 39 p) (h 40 p) e o ∧ h' 41 p = mxI (h 41 p) lo
theorem ty_of {h h3 h4 h5 h6 : m_H} {p : Nat} {e o lo x8 x10 : Int} (e3 : h3 = h) (Q : lwQ p e o h3 h4) (e8 : h4 41 p = x8) (e5 : h5 = h4) (e10 : (if x8 < lo then lo else x8) = x10) (E : h6 = m_up h5 41 p x10) : tiV p e o lo h h6 := by
  subst e3; subst e5
  obtain ⟨q1, q2, q3⟩ := Q
  have r41 := q1 41 (by decide) (by decide)
  refine ⟨fun c n1 n2 n3 => ?_, fun j hj => ⟨?_, ?_, ?_⟩, ?_, ?_⟩
  · rw [E, m_up_row n3]; exact q1 c n1 n2
  · rw [upN E (by simp)]; exact (q2 j hj).1
  · rw [upN E (by simp)]; exact (q2 j hj).2
  · rw [upN E (fun z => hj z.2), r41]
  · rw [upN E (by simp), upN E (by simp)]; exact q3
  · rw [upE E, ← e10, ← r41, e8]; rfl
def tyQ (L : Nat) (e : Int) (h h' : m_H) : Prop := (h (L + 1) (h (L + 4) e.toNat).toNat = -1 → h' = h) ∧ (h (L + 1) (h (L + 4) e.toNat).toNat ≠ -1 → tiV (lnV (h (L + 2) (h (L + 3) e.toNat).toNat) (h (L + 3) e.toNat) (h (L + 4) e.toNat) * 4 + h (L + 1) (h (L + 4) e.toNat).toNat).toNat (hvE (h (L + 5) e.toNat) (h (L + 6) e.toNat)) (if h (L + 6) e.toNat = 0 then 0 else 1) (hvL (h (L + 5) e.toNat) (h (L + 6) e.toNat)) h h')
theorem tyQ_y {L : Nat} {e x1 x3 x4 o x9 : Int} {h h' : m_H} (k1 : h (L + 1) (h (L + 4) e.toNat).toNat = x1) (hk : x1 ≠ -1) (k3 : lnV (h (L + 2) (h (L + 3) e.toNat).toNat) (h (L + 3) e.toNat) (h (L + 4) e.toNat) = x3) (k4 : hvE (h (L + 5) e.toNat) (h (L + 6) e.toNat) = x4) (k5 : (if h (L + 6) e.toNat = 0 then (0 : Int) else 1) = o) (k9 : hvL (h (L + 5) e.toNat) (h (L + 6) e.toNat) = x9) (T : tiV (x3 * 4 + x1).toNat x4 o x9 h h') : tyQ L e h h' :=
  ⟨fun z => absurd (k1.symm.trans z) hk, fun _ => by rw [k1, k3, k4, k5, k9]; exact T⟩
/-- a cut -/
def cuI (t k : Int) (h0 h : m_H) : Prop := (∀ c, c ≠ 39 → c ≠ 40 → c ≠ 41 → h c = h0 c) ∧ ∀ j : Nat, ((h 39 j, h 40 j) = if 4 * t + 24 ≤ (j : Int) ∧ (j : Int) < 4 * t + 24 + k ∧ h0 39 (j - 24) ≠ 0 then lwV (h0 39 j) (h0 40 j) (h0 39 (j - 24)) (h0 40 (j - 24)) else (h0 39 j, h0 40 j)) ∧ h 41 j = if 4 * t ≤ (j : Int) ∧ (j : Int) < 4 * t + k then mxI (h0 41 j) (h0 41 (j + 24)) else h0 41 j
theorem cu_0 {t : Int} {h : m_H} : cuI t 0 h h := ⟨fun _ _ _ _ => rfl, fun j => ⟨by rw [if_neg (by omega)], by rw [if_neg (by omega)]⟩⟩
theorem cu_l {t k x4 x5 x6 : Int} {h0 h h1 : m_H} (i : cuI t k h0 h) (t0 : 0 ≤ t) (t5 : t ≤ 5) (k0 : 0 ≤ k) (k3 : k ≤ 3) (e4 : h 41 (t * 4 + k).toNat = x4) (e5 : h 41 ((t + 6) * 4 + k).toNat = x5) (e6 : (if x4 < x5 then x5 else x4) = x6) (E : h1 = m_up h 41 (t * 4 + k).toNat x6) : ∀ j : Nat, h1 41 j = if 4 * t ≤ (j : Int) ∧ (j : Int) < 4 * t + (k + 1) then mxI (h0 41 j) (h0 41 (j + 24)) else h0 41 j := fun j => by
  have ir : ((t + 6) * 4 + k).toNat = (t * 4 + k).toNat + 24 := by omega
  by_cases g : j = (t * 4 + k).toNat
  · have z4 := (i.2 j).2
    have z5 := (i.2 (j + 24)).2
    rw [if_neg (by omega)] at z4 z5
    rw [if_pos (by omega), g, upE E, ← e6, ← e4, ← e5, ir, ← g, z4, z5]; rfl
  · rw [upN E (fun z => g z.2), (i.2 j).2]
    by_cases y : 4 * t ≤ (j : Int) ∧ (j : Int) < 4 * t + k
    · rw [if_pos y, if_pos (by omega)]
    · rw [if_neg y, if_neg (by omega)]
theorem cu_s0 {t k x2 x4 x5 x6 : Int} {h0 h h1 : m_H} (i : cuI t k h0 h) (t0 : 0 ≤ t) (t5 : t ≤ 5) (k0 : 0 ≤ k) (k3 : k ≤ 3) (e2 : h 39 (t * 4 + k).toNat = x2) (c : x2 = 0) (e4 : h 41 (t * 4 + k).toNat = x4) (e5 : h 41 ((t + 6) * 4 + k).toNat = x5) (e6 : (if x4 < x5 then x5 else x4) = x6) (E : h1 = m_up h 41 (t * 4 + k).toNat x6) : cuI t (k + 1) h0 h1 := by
  refine ⟨fun c n1 n2 n3 => ?_, fun j => ⟨?_, cu_l i t0 t5 k0 k3 e4 e5 e6 E j⟩⟩
  · rw [E, m_up_row n3]; exact i.1 c n1 n2 n3
  · rw [upN E (by simp), upN E (by simp), (i.2 j).1]
    by_cases g : 4 * t + 24 ≤ (j : Int) ∧ (j : Int) < 4 * t + 24 + k ∧ h0 39 (j - 24) ≠ 0
    · rw [if_pos g, if_pos ⟨g.1, by omega, g.2.2⟩]
    · rw [if_neg g, if_neg]
      rintro ⟨u, v, w⟩
      by_cases y : (j : Int) < 4 * t + 24 + k
      · exact g ⟨u, y, w⟩
      · have ij : j - 24 = (t * 4 + k).toNat := by omega
        have z := (i.2 (j - 24)).1
        rw [if_neg (by omega)] at z
        have z2 := congrArg Prod.fst z
        have z3 : h 39 (j - 24) = h0 39 (j - 24) := z2
        rw [ij] at z3 w
        exact w (by rw [← z3, e2, c])
theorem cu_s1 {t k x2 x7 x4 x5 x6 : Int} {h0 h h2 h3 : m_H} (i : cuI t k h0 h) (t0 : 0 ≤ t) (t5 : t ≤ 5) (k0 : 0 ≤ k) (k3 : k ≤ 3) (e2 : h 39 (t * 4 + k).toNat = x2) (c : x2 ≠ 0) (e7 : h 40 (t * 4 + k).toNat = x7) (Q : lwQ ((t + 6) * 4 + k).toNat x2 x7 h h2) (e4 : h2 41 (t * 4 + k).toNat = x4) (e5 : h2 41 ((t + 6) * 4 + k).toNat = x5) (e6 : (if x4 < x5 then x5 else x4) = x6) (E : h3 = m_up h2 41 (t * 4 + k).toNat x6) : cuI t (k + 1) h0 h3 := by
  obtain ⟨q1, q2, q3⟩ := Q
  have r41 := q1 41 (by decide) (by decide)
  have ir : ((t + 6) * 4 + k).toNat = (t * 4 + k).toNat + 24 := by omega
  rw [r41] at e4 e5
  have E' : ∀ j, h3 41 j = (m_up h 41 (t * 4 + k).toNat x6) 41 j := fun j => by
    rw [E]; unfold m_up; by_cases g : j = (t * 4 + k).toNat <;> simp [g, r41]
  refine ⟨fun c n1 n2 n3 => ?_, fun j => ⟨?_, ?_⟩⟩
  · rw [E, m_up_row n3, q1 c n1 n2]; exact i.1 c n1 n2 n3
  · rw [upN E (by simp), upN E (by simp)]
    by_cases g : j = ((t + 6) * 4 + k).toNat
    · have zj := (i.2 j).1
      rw [if_neg (by omega)] at zj
      have zw := (i.2 (j - 24)).1
      rw [if_neg (by omega)] at zw
      have ij : j - 24 = (t * 4 + k).toNat := by omega
      have f1 : h 39 j = h0 39 j := congrArg Prod.fst zj
      have f2 : h 40 j = h0 40 j := congrArg Prod.snd zj
      have f3 : h 39 (j - 24) = h0 39 (j - 24) := congrArg Prod.fst zw
      have f4 : h 40 (j - 24) = h0 40 (j - 24) := congrArg Prod.snd zw
      rw [← g] at q3
      rw [if_pos ⟨by omega, by omega, by rw [← f3, ij, e2]; exact c⟩, q3, f1, f2, ← f3, ← f4, ij, e2, e7]
    · rw [(q2 j g).1, (q2 j g).2, (i.2 j).1]
      by_cases y : 4 * t + 24 ≤ (j : Int) ∧ (j : Int) < 4 * t + 24 + k ∧ h0 39 (j - 24) ≠ 0
      · rw [if_pos y, if_pos ⟨y.1, by omega, y.2.2⟩]
      · rw [if_neg y, if_neg]
        rintro ⟨u, v, w⟩
        exact y ⟨u, by omega, w⟩
  · rw [E' j]; exact cu_l i t0 t5 k0 k3 e4 e5 e6 rfl j
/-- nothing tied -/
def fgI (l : Int) (h : m_H) : Prop := (∀ j : Nat, j < 48 → h 39 j = 0) ∧ (∀ j : Nat, j < 48 → h 41 j = 0) ∧ ∀ p : Nat, (p : Int) < l → bd h (43 + p) = (1, 0, 1)
theorem fg_s {l : Int} {h h1 : m_H} (i : fgI l h) (l0 : 0 ≤ l) (l1 : l ≤ 15) (B : bN (43 + l.toNat) (1, 0, 1) h h1) : fgI (l + 1) h1 := by
  obtain ⟨i1, i2, i3⟩ := i
  refine ⟨fun j hj => ?_, fun j hj => ?_, fun p hp => ?_⟩
  · rw [B.1 39 (by omega)]; exact i1 j hj
  · rw [B.1 41 (by omega)]; exact i2 j hj
  · by_cases g : p = l.toNat
    · rw [g]; exact B.2
    · have e : bd h1 (43 + p) = bd h (43 + p) := by unfold bd; rw [B.1 (43 + p) (by omega)]
      rw [e]; exact i3 p (by omega)
abbrev P_J7_fill_39x (h0 : m_H) (a1 : Int) : m_H → Prop := fun h' => GI h' ∧ FR [39] [] h0 h' ∧ (∀ j : Nat, (j : Int) < 48 → h' 39 j = a1)
def q_J7_fill_39x (h0 : m_H) (a1 : Int) (n : Nat) : Prop := (∀ (l2 : Int) (h : m_H), GI h → FR [39] [] h0 h → 0 ≤ l2 → l2 ≤ 48 → (-2147483648) ≤ a1 → a1 ≤ 2147483647 → (∀ j : Nat, (j : Int) < l2 → h 39 j = a1) → 2 * (48 - l2) + (1) ≤ (n : Int) → m_Z oF M_J7_fill_53178 5 [some (mR 39), some (mI a1), some (mI l2), some (mI ((48 : Nat) : Int))] [] h (m_QV (P_J7_fill_39x h0 a1)))
set_option maxHeartbeats 4000000 in
set_option maxRecDepth 100000 in
theorem s_J7_fill_39x_5 (h0 : m_H) (a1 : Int) (G0 : GI h0) (n : Nat) (ih : q_J7_fill_39x h0 a1 n) : ∀ (l2 : Int) (h : m_H), GI h → FR [39] [] h0 h → 0 ≤ l2 → l2 ≤ 48 → (-2147483648) ≤ a1 → a1 ≤ 2147483647 → (∀ j : Nat, (j : Int) < l2 → h 39 j = a1) → 2 * (48 - l2) + (1) ≤ ((n + 1 : Nat) : Int) → m_Z oF M_J7_fill_53178 5 [some (mR 39), some (mI a1), some (mI l2), some (mI ((48 : Nat) : Int))] [] h (m_QV (P_J7_fill_39x h0 a1)) := by
  intro l2 h G R v0 v1 v2 v3 i0 hr
  refine z_iload_n (M := M_J7_fill_53178) 5 dJ7_fill_53178_5 rfl ?_
  refine z_iload_n (M := M_J7_fill_53178) 6 dJ7_fill_53178_6 rfl ?_
  refine z_icmp_ge (M := M_J7_fill_53178) 7 dJ7_fill_53178_7 20 rfl (fun c1 => ?_) (fun c1 => ?_)
  · exact z_retV (M := M_J7_fill_53178) 20 dJ7_fill_53178_20 rfl ⟨G, R, fun j hj => i0 j (by omega)⟩
  · refine z_aload_n (M := M_J7_fill_53178) 10 dJ7_fill_53178_10 rfl ?_
    refine z_iload_n (M := M_J7_fill_53178) 11 dJ7_fill_53178_11 rfl ?_
    refine z_iload_n (M := M_J7_fill_53178) 12 dJ7_fill_53178_12 rfl ?_
    refine z_iastH (M := M_J7_fill_53178) 13 dJ7_fill_53178_13 o_39 (by omega) (by omega) (u_39 G) (R.up rfl) (fun h1 E1 G1 R1 => ?_)
    refine z_iincN (M := M_J7_fill_53178) 14 dJ7_fill_53178_14 (ls' := [some (mR 39), some (mI a1), some (mI (l2 + 1)), some (mI ((48 : Nat) : Int))]) (by decide) rfl (by (unfold m_32; decide)) (by omega) (by omega) rfl ?_
    refine z_goto (M := M_J7_fill_53178) 17 dJ7_fill_53178_17 5 rfl ?_
    exact z_mask [true, true, true, true] rfl (ih (l2 + 1) h1 G1 R1 (by omega) (by omega) (by omega) (by omega) (fl_s i0 (by omega) E1) (by omega))
theorem a_J7_fill_39x (h0 : m_H) (a1 : Int) (G0 : GI h0) : ∀ n, q_J7_fill_39x h0 a1 n := by
  intro n
  induction n with
  | zero => unfold q_J7_fill_39x; intros; omega
  | succ n ih => exact s_J7_fill_39x_5 h0 a1 G0 n ih
set_option maxHeartbeats 4000000 in
set_option maxRecDepth 100000 in
theorem c_J7_fill_39x (h0 : m_H) (a1 : Int) (G0 : GI h0) : m_CV M_J7_fill_53178 [mR 39, mI a1] h0 (P_J7_fill_39x h0 a1) := by
  refine m_CV_of ⟨by decide, rfl, by simp [m_arg, m_isL, M_J7_fill_53178], ⟨rfl, rfl⟩, rfl, rfl⟩ (ls := [some (mR 39), some (mI a1), none, none]) rfl ?_
  have ih := a_J7_fill_39x h0 a1 G0 104
  refine z_ok (fun _ _ ok => ?_)
  have oa1 : m_32 a1 := ok 1 _ rfl
  unfold m_32 at oa1
  refine z_iconst (M := M_J7_fill_53178) 0 dJ7_fill_53178_0 ?_
  refine z_istore_n (M := M_J7_fill_53178) 1 dJ7_fill_53178_1 (ls' := [some (mR 39), some (mI a1), some (mI 0), none]) (by decide) rfl ?_
  refine z_aload_n (M := M_J7_fill_53178) 2 dJ7_fill_53178_2 rfl ?_
  refine z_alen (M := M_J7_fill_53178) 3 dJ7_fill_53178_3 o_39 (by decide) (by decide) ?_
  refine z_istore_n (M := M_J7_fill_53178) 4 dJ7_fill_53178_4 (ls' := [some (mR 39), some (mI a1), some (mI 0), some (mI ((48 : Nat) : Int))]) (by decide) rfl ?_
  exact z_mask [true, true, true, true] rfl (ih 0 h0 G0 (FR.rf (cs := [39]) (ss := []) (h := h0)) (by omega) (by omega) (by omega) (by omega) (fun j hj => by omega) (by omega))
abbrev P_J7_fill_41x (h0 : m_H) (a1 : Int) : m_H → Prop := fun h' => GI h' ∧ FR [41] [] h0 h' ∧ (∀ j : Nat, (j : Int) < 48 → h' 41 j = a1)
def q_J7_fill_41x (h0 : m_H) (a1 : Int) (n : Nat) : Prop := (∀ (l2 : Int) (h : m_H), GI h → FR [41] [] h0 h → 0 ≤ l2 → l2 ≤ 48 → (-2147483648) ≤ a1 → a1 ≤ 2147483647 → (∀ j : Nat, (j : Int) < l2 → h 41 j = a1) → 2 * (48 - l2) + (1) ≤ (n : Int) → m_Z oF M_J7_fill_53178 5 [some (mR 41), some (mI a1), some (mI l2), some (mI ((48 : Nat) : Int))] [] h (m_QV (P_J7_fill_41x h0 a1)))
set_option maxHeartbeats 4000000 in
set_option maxRecDepth 100000 in
theorem s_J7_fill_41x_5 (h0 : m_H) (a1 : Int) (G0 : GI h0) (n : Nat) (ih : q_J7_fill_41x h0 a1 n) : ∀ (l2 : Int) (h : m_H), GI h → FR [41] [] h0 h → 0 ≤ l2 → l2 ≤ 48 → (-2147483648) ≤ a1 → a1 ≤ 2147483647 → (∀ j : Nat, (j : Int) < l2 → h 41 j = a1) → 2 * (48 - l2) + (1) ≤ ((n + 1 : Nat) : Int) → m_Z oF M_J7_fill_53178 5 [some (mR 41), some (mI a1), some (mI l2), some (mI ((48 : Nat) : Int))] [] h (m_QV (P_J7_fill_41x h0 a1)) := by
  intro l2 h G R v0 v1 v2 v3 i0 hr
  refine z_iload_n (M := M_J7_fill_53178) 5 dJ7_fill_53178_5 rfl ?_
  refine z_iload_n (M := M_J7_fill_53178) 6 dJ7_fill_53178_6 rfl ?_
  refine z_icmp_ge (M := M_J7_fill_53178) 7 dJ7_fill_53178_7 20 rfl (fun c1 => ?_) (fun c1 => ?_)
  · exact z_retV (M := M_J7_fill_53178) 20 dJ7_fill_53178_20 rfl ⟨G, R, fun j hj => i0 j (by omega)⟩
  · refine z_aload_n (M := M_J7_fill_53178) 10 dJ7_fill_53178_10 rfl ?_
    refine z_iload_n (M := M_J7_fill_53178) 11 dJ7_fill_53178_11 rfl ?_
    refine z_iload_n (M := M_J7_fill_53178) 12 dJ7_fill_53178_12 rfl ?_
    refine z_iastH (M := M_J7_fill_53178) 13 dJ7_fill_53178_13 o_41 (by omega) (by omega) (u_41 G) (R.up rfl) (fun h1 E1 G1 R1 => ?_)
    refine z_iincN (M := M_J7_fill_53178) 14 dJ7_fill_53178_14 (ls' := [some (mR 41), some (mI a1), some (mI (l2 + 1)), some (mI ((48 : Nat) : Int))]) (by decide) rfl (by (unfold m_32; decide)) (by omega) (by omega) rfl ?_
    refine z_goto (M := M_J7_fill_53178) 17 dJ7_fill_53178_17 5 rfl ?_
    exact z_mask [true, true, true, true] rfl (ih (l2 + 1) h1 G1 R1 (by omega) (by omega) (by omega) (by omega) (fl_s i0 (by omega) E1) (by omega))
theorem a_J7_fill_41x (h0 : m_H) (a1 : Int) (G0 : GI h0) : ∀ n, q_J7_fill_41x h0 a1 n := by
  intro n
  induction n with
  | zero => unfold q_J7_fill_41x; intros; omega
  | succ n ih => exact s_J7_fill_41x_5 h0 a1 G0 n ih
set_option maxHeartbeats 4000000 in
set_option maxRecDepth 100000 in
theorem c_J7_fill_41x (h0 : m_H) (a1 : Int) (G0 : GI h0) : m_CV M_J7_fill_53178 [mR 41, mI a1] h0 (P_J7_fill_41x h0 a1) := by
  refine m_CV_of ⟨by decide, rfl, by simp [m_arg, m_isL, M_J7_fill_53178], ⟨rfl, rfl⟩, rfl, rfl⟩ (ls := [some (mR 41), some (mI a1), none, none]) rfl ?_
  have ih := a_J7_fill_41x h0 a1 G0 104
  refine z_ok (fun _ _ ok => ?_)
  have oa1 : m_32 a1 := ok 1 _ rfl
  unfold m_32 at oa1
  refine z_iconst (M := M_J7_fill_53178) 0 dJ7_fill_53178_0 ?_
  refine z_istore_n (M := M_J7_fill_53178) 1 dJ7_fill_53178_1 (ls' := [some (mR 41), some (mI a1), some (mI 0), none]) (by decide) rfl ?_
  refine z_aload_n (M := M_J7_fill_53178) 2 dJ7_fill_53178_2 rfl ?_
  refine z_alen (M := M_J7_fill_53178) 3 dJ7_fill_53178_3 o_41 (by decide) (by decide) ?_
  refine z_istore_n (M := M_J7_fill_53178) 4 dJ7_fill_53178_4 (ls' := [some (mR 41), some (mI a1), some (mI 0), some (mI ((48 : Nat) : Int))]) (by decide) rfl ?_
  exact z_mask [true, true, true, true] rfl (ih 0 h0 G0 (FR.rf (cs := [41]) (ss := []) (h := h0)) (by omega) (by omega) (by omega) (by omega) (fun j hj => by omega) (by omega))
abbrev P_X9_lower2 (h0 : m_H) (a1 a2 a3 : Int) : m_H → Prop := fun h' => GI h' ∧ FR [39, 40] [] h0 h' ∧ lwQ a1.toNat a2 a3 h0 h'
set_option maxHeartbeats 4000000 in
set_option maxRecDepth 100000 in
theorem c_X9_lower2 (h0 : m_H) (a1 a2 a3 : Int) (G0 : GI h0) (pa1 : 0 ≤ a1 ∧ a1 ≤ 47) (pa3 : 0 ≤ a3 ∧ a3 ≤ 1) : m_CV M_X9_lower [mR 38, mI a1, mI a2, mI a3] h0 (P_X9_lower2 h0 a1 a2 a3) := by
  refine m_CV_of ⟨by decide, rfl, by simp [m_arg, m_isL, M_X9_lower], ⟨rfl, rfl⟩, rfl, rfl⟩ (ls := [some (mR 38), some (mI a1), some (mI a2), some (mI a3)]) rfl ?_
  refine z_ok (fun _ _ ok => ?_)
  have oa2 : m_32 a2 := ok 2 _ rfl
  unfold m_32 at oa2
  refine z_aload_n (M := M_X9_lower) 0 dX9_lower_0 rfl ?_
  refine z_getR (M := M_X9_lower) 1 dX9_lower_1 f_X9_9 o_38 rfl (g_38_0 G0) ?_
  refine z_iload_n (M := M_X9_lower) 4 dX9_lower_4 rfl ?_
  refine z_ialdV (M := M_X9_lower) 5 dX9_lower_5 o_39 (by omega) (by omega) (fun x1 ex1 => ?_)
  refine z_ok (fun ox1 _ _ => ?_)
  have ox1 := ox1.1; unfold m_ok m_32 at ox1
  refine z_if_eq (M := M_X9_lower) 6 dX9_lower_6 19 rfl (fun c2 => ?_) (fun c2 => ?_)
  · refine z_aload_n (M := M_X9_lower) 19 dX9_lower_19 rfl ?_
    refine z_getR (M := M_X9_lower) 20 dX9_lower_20 f_X9_9 o_38 rfl (g_38_0 G0) ?_
    refine z_iload_n (M := M_X9_lower) 23 dX9_lower_23 rfl ?_
    refine z_iload_n (M := M_X9_lower) 24 dX9_lower_24 rfl ?_
    refine z_iastH (M := M_X9_lower) 25 dX9_lower_25 o_39 (by omega) (by omega) (u_39 G0) ((FR.rf (cs := [39, 40]) (ss := []) (h := h0)).up rfl) (fun h1 E1 G1 R1 => ?_)
    refine z_aload_n (M := M_X9_lower) 26 dX9_lower_26 rfl ?_
    refine z_getR (M := M_X9_lower) 27 dX9_lower_27 f_X9_15 o_38 rfl (g_38_1 G1) ?_
    refine z_iload_n (M := M_X9_lower) 30 dX9_lower_30 rfl ?_
    refine z_iload_n (M := M_X9_lower) 31 dX9_lower_31 rfl ?_
    refine z_zastH (M := M_X9_lower) 32 dX9_lower_32 o_40 (by omega) (by omega) (by omega) (u_40 G1 (by omega) (by omega)) (R1.up rfl) (fun h2 E2 G2 R2 => ?_)
    refine z_goto (M := M_X9_lower) 33 dX9_lower_33 57 rfl ?_
    exact z_retV (M := M_X9_lower) 57 dX9_lower_57 rfl ⟨G2, R2, lw_1 ex1 (Or.inl c2) E1 E2⟩
  · refine z_iload_n (M := M_X9_lower) 9 dX9_lower_9 rfl ?_
    refine z_aload_n (M := M_X9_lower) 10 dX9_lower_10 rfl ?_
    refine z_getR (M := M_X9_lower) 11 dX9_lower_11 f_X9_9 o_38 rfl (g_38_0 G0) ?_
    refine z_iload_n (M := M_X9_lower) 14 dX9_lower_14 rfl ?_
    refine z_ialdE (M := M_X9_lower) 15 dX9_lower_15 o_39 (by omega) (by omega) ex1 ?_
    refine z_icmp_ge (M := M_X9_lower) 16 dX9_lower_16 36 rfl (fun c3 => ?_) (fun c3 => ?_)
    · refine z_iload_n (M := M_X9_lower) 36 dX9_lower_36 rfl ?_
      refine z_aload_n (M := M_X9_lower) 37 dX9_lower_37 rfl ?_
      refine z_getR (M := M_X9_lower) 38 dX9_lower_38 f_X9_9 o_38 rfl (g_38_0 G0) ?_
      refine z_iload_n (M := M_X9_lower) 41 dX9_lower_41 rfl ?_
      refine z_ialdE (M := M_X9_lower) 42 dX9_lower_42 o_39 (by omega) (by omega) ex1 ?_
      refine z_icmp_ne (M := M_X9_lower) 43 dX9_lower_43 57 rfl (fun c4 => ?_) (fun c4 => ?_)
      · exact z_retV (M := M_X9_lower) 57 dX9_lower_57 rfl ⟨G0, (FR.rf (cs := [39, 40]) (ss := []) (h := h0)), lw_3 ex1 (fun z => by omega) (fun z => by omega)⟩
      · refine z_iload_n (M := M_X9_lower) 46 dX9_lower_46 rfl ?_
        refine z_if_eq (M := M_X9_lower) 47 dX9_lower_47 57 rfl (fun c5 => ?_) (fun c5 => ?_)
        · exact z_retV (M := M_X9_lower) 57 dX9_lower_57 rfl ⟨G0, (FR.rf (cs := [39, 40]) (ss := []) (h := h0)), lw_3 ex1 (fun z => by omega) (fun z => by omega)⟩
        · refine z_aload_n (M := M_X9_lower) 50 dX9_lower_50 rfl ?_
          refine z_getR (M := M_X9_lower) 51 dX9_lower_51 f_X9_15 o_38 rfl (g_38_1 G0) ?_
          refine z_iload_n (M := M_X9_lower) 54 dX9_lower_54 rfl ?_
          refine z_iconst (M := M_X9_lower) 55 dX9_lower_55 ?_
          refine z_zastH (M := M_X9_lower) 56 dX9_lower_56 o_40 (by omega) (by omega) (by omega) (u_40 G0 (by omega) (by omega)) ((FR.rf (cs := [39, 40]) (ss := []) (h := h0)).up rfl) (fun h3 E3 G3 R3 => ?_)
          exact z_retV (M := M_X9_lower) 57 dX9_lower_57 rfl ⟨G3, R3, lw_2 ex1 (fun z => by omega) ⟨by omega, by omega⟩ E3⟩
    · refine z_aload_n (M := M_X9_lower) 19 dX9_lower_19 rfl ?_
      refine z_getR (M := M_X9_lower) 20 dX9_lower_20 f_X9_9 o_38 rfl (g_38_0 G0) ?_
      refine z_iload_n (M := M_X9_lower) 23 dX9_lower_23 rfl ?_
      refine z_iload_n (M := M_X9_lower) 24 dX9_lower_24 rfl ?_
      refine z_iastH (M := M_X9_lower) 25 dX9_lower_25 o_39 (by omega) (by omega) (u_39 G0) ((FR.rf (cs := [39, 40]) (ss := []) (h := h0)).up rfl) (fun h4 E4 G4 R4 => ?_)
      refine z_aload_n (M := M_X9_lower) 26 dX9_lower_26 rfl ?_
      refine z_getR (M := M_X9_lower) 27 dX9_lower_27 f_X9_15 o_38 rfl (g_38_1 G4) ?_
      refine z_iload_n (M := M_X9_lower) 30 dX9_lower_30 rfl ?_
      refine z_iload_n (M := M_X9_lower) 31 dX9_lower_31 rfl ?_
      refine z_zastH (M := M_X9_lower) 32 dX9_lower_32 o_40 (by omega) (by omega) (by omega) (u_40 G4 (by omega) (by omega)) (R4.up rfl) (fun h5 E5 G5 R5 => ?_)
      refine z_goto (M := M_X9_lower) 33 dX9_lower_33 57 rfl ?_
      exact z_retV (M := M_X9_lower) 57 dX9_lower_57 rfl ⟨G5, R5, lw_1 ex1 (Or.inr (by omega)) E4 E5⟩
abbrev P_X9_forget2 (h0 : m_H) : m_H → Prop := fun h' => GI h' ∧ FR (csB ++ [39, 41]) [] h0 h' ∧ fgI 16 h'
def q_X9_forget2 (h0 : m_H) (n : Nat) : Prop := (∀ (l1 : Int) (h : m_H), GI h → FR (csB ++ [39, 41]) [] h0 h → 0 ≤ l1 → l1 ≤ 16 → (fgI l1 h) → 2 * (16 - l1) + (1) ≤ (n : Int) → m_Z oF M_X9_forget 18 [some (mR 38), some (mI l1)] [] h (m_QV (P_X9_forget2 h0)))
set_option maxHeartbeats 4000000 in
set_option maxRecDepth 100000 in
theorem s_X9_forget2_18 (h0 : m_H) (G0 : GI h0) (n : Nat) (ih : q_X9_forget2 h0 n) : ∀ (l1 : Int) (h : m_H), GI h → FR (csB ++ [39, 41]) [] h0 h → 0 ≤ l1 → l1 ≤ 16 → (fgI l1 h) → 2 * (16 - l1) + (1) ≤ ((n + 1 : Nat) : Int) → m_Z oF M_X9_forget 18 [some (mR 38), some (mI l1)] [] h (m_QV (P_X9_forget2 h0)) := by
  intro l1 h G R v0 v1 i0 hr
  refine z_iload_n (M := M_X9_forget) 18 dX9_forget_18 rfl ?_
  refine z_bipush (M := M_X9_forget) 19 dX9_forget_19 ?_
  refine z_icmp_ge (M := M_X9_forget) 21 dX9_forget_21 39 rfl (fun c1 => ?_) (fun c1 => ?_)
  · exact z_retV (M := M_X9_forget) 39 dX9_forget_39 rfl ⟨G, R, (show (16 : Int) = l1 by omega) ▸ i0⟩
  · refine z_aload_n (M := M_X9_forget) 24 dX9_forget_24 rfl ?_
    refine z_getR (M := M_X9_forget) 25 dX9_forget_25 f_X9_26 o_38 rfl (g_38_3 G) ?_
    refine z_iload_n (M := M_X9_forget) 28 dX9_forget_28 rfl ?_
    have hb2 := isB_42 (i := l1) (by omega) (by omega)
    refine z_aaldB (M := M_X9_forget) 29 dX9_forget_29 o_42 (by omega) (by omega) (g_42 G (by omega)) ?_
    refine z_vV (M := M_X9_forget) 30 dX9_forget_30 t_X2_clear l_X9_89 (m_rr_of rfl) (rest := []) (c_X2_clear2 h (43 + (l1).toNat) hb2 G) (oB hb2) rfl rfl rfl (Nat.le_of_ble_eq_true rfl) ⟨rfl, rfl⟩ (fun h1 qx3 => ?_)
    obtain ⟨G1, S1, B1⟩ := qx3
    have R1 := R.call S1 (by decide +kernel)
    refine z_iincN (M := M_X9_forget) 33 dX9_forget_33 (ls' := [some (mR 38), some (mI (l1 + 1))]) (by decide) rfl (by (unfold m_32; decide)) (by omega) (by omega) rfl ?_
    refine z_goto (M := M_X9_forget) 36 dX9_forget_36 18 rfl ?_
    exact z_mask [true, true] rfl (ih (l1 + 1) h1 G1 R1 (by omega) (by omega) (fg_s i0 (by omega) (by omega) B1) (by omega))
theorem a_X9_forget2 (h0 : m_H) (G0 : GI h0) : ∀ n, q_X9_forget2 h0 n := by
  intro n
  induction n with
  | zero => unfold q_X9_forget2; intros; omega
  | succ n ih => exact s_X9_forget2_18 h0 G0 n ih
set_option maxHeartbeats 4000000 in
set_option maxRecDepth 100000 in
theorem c_X9_forget2 (h0 : m_H) (G0 : GI h0) : m_CV M_X9_forget [mR 38] h0 (P_X9_forget2 h0) := by
  refine m_CV_of ⟨by decide, rfl, by simp [m_arg, m_isL, M_X9_forget], ⟨rfl, rfl⟩, rfl, rfl⟩ (ls := [some (mR 38), none]) rfl ?_
  have ih := a_X9_forget2 h0 G0 40
  refine z_aload_n (M := M_X9_forget) 0 dX9_forget_0 rfl ?_
  refine z_getR (M := M_X9_forget) 1 dX9_forget_1 f_X9_9 o_38 rfl (g_38_0 G0) ?_
  refine z_iconst (M := M_X9_forget) 4 dX9_forget_4 ?_
  refine z_sV (M := M_X9_forget) 5 dX9_forget_5 t_J7_fill_53178 l_X9_83 (m_rr_of rfl) (rest := []) (c_J7_fill_39x h0 0 G0) rfl rfl (Nat.le_of_ble_eq_true rfl) ⟨rfl, rfl⟩ (fun h1 qx1 => ?_)
  obtain ⟨G1, S1, B1⟩ := qx1
  have R1 := (FR.rf (cs := (csB ++ [39, 41])) (ss := []) (h := h0)).call S1 (by decide +kernel)
  refine z_aload_n (M := M_X9_forget) 8 dX9_forget_8 rfl ?_
  refine z_getR (M := M_X9_forget) 9 dX9_forget_9 f_X9_19 o_38 rfl (g_38_2 G1) ?_
  refine z_iconst (M := M_X9_forget) 12 dX9_forget_12 ?_
  refine z_sV (M := M_X9_forget) 13 dX9_forget_13 t_J7_fill_53178 l_X9_83 (m_rr_of rfl) (rest := []) (c_J7_fill_41x h1 0 G1) rfl rfl (Nat.le_of_ble_eq_true rfl) ⟨rfl, rfl⟩ (fun h2 qx2 => ?_)
  obtain ⟨G2, S2, B2⟩ := qx2
  have R2 := R1.call S2 (by decide +kernel)
  refine z_iconst (M := M_X9_forget) 16 dX9_forget_16 ?_
  refine z_istore_n (M := M_X9_forget) 17 dX9_forget_17 (ls' := [some (mR 38), some (mI 0)]) (by decide) rfl ?_
  exact z_mask [true, true] rfl (ih 0 h2 G2 R2 (by omega) (by omega) ⟨fun j hj => by rw [S2 39 j rfl]; exact B1 j (by omega), fun j hj => B2 j (by omega), fun p hp => by omega⟩ (by omega))
abbrev P_X9_tie2 (h0 : m_H) (L : Nat) (a2 : Int) : m_H → Prop := fun h' => GI h' ∧ FR [39, 40, 41] [] h0 h' ∧ tyQ L a2 h0 h'
set_option maxHeartbeats 4000000 in
set_option maxRecDepth 100000 in
theorem c_X9_tie2 (h0 : m_H) (L : Nat) (a2 : Int) (hL : isL L) (G0 : GI h0) (pa2 : 0 ≤ a2 ∧ a2 ≤ 23) : m_CV M_X9_tie [mR 38, mR L, mI a2] h0 (P_X9_tie2 h0 L a2) := by
  refine m_CV_of ⟨by decide, rfl, by simp [m_arg, m_isL, M_X9_tie], ⟨rfl, rfl⟩, rfl, rfl⟩ (ls := [some (mR 38), some (mR L), some (mI a2), none, none]) rfl ?_
  refine z_aload_n (M := M_X9_tie) 0 dX9_tie_0 rfl ?_
  refine z_iload_n (M := M_X9_tie) 1 dX9_tie_1 rfl ?_
  refine z_vI (M := M_X9_tie) 2 dX9_tie_2 t_X4_keeperOf l_X9_92 (m_rr_of rfl) (rest := []) (c_X4_keeperOf2 h0 L a2 hL G0 ⟨by omega, by omega⟩) (oL hL) rfl rfl rfl (Nat.le_of_ble_eq_true rfl) ⟨rfl, rfl⟩ (fun x1 h1 qx1 => ?_)
  obtain ⟨G1, S1, ax1, bx1, fx1⟩ := qx1
  have R1 := (FR.rf (cs := [39, 40, 41]) (ss := []) (h := h0)).call S1 (by decide +kernel)
  refine z_istore_n (M := M_X9_tie) 5 dX9_tie_5 (ls' := [some (mR 38), some (mR L), some (mI a2), some (mI x1), none]) (by decide) rfl ?_
  refine z_iload_n (M := M_X9_tie) 6 dX9_tie_6 rfl ?_
  refine z_iconst (M := M_X9_tie) 7 dX9_tie_7 ?_
  refine z_icmp_ne (M := M_X9_tie) 8 dX9_tie_8 12 rfl (fun c2 => ?_) (fun c2 => ?_)
  · refine z_aload_n (M := M_X9_tie) 12 dX9_tie_12 rfl ?_
    refine z_iload_n (M := M_X9_tie) 13 dX9_tie_13 rfl ?_
    refine z_vI (M := M_X9_tie) 14 dX9_tie_14 t_X4_lengthOf l_X9_96 (m_rr_of rfl) (rest := []) (c_X4_lengthOf2 h1 L a2 hL G1 ⟨by omega, by omega⟩) (oL hL) rfl rfl rfl (Nat.le_of_ble_eq_true rfl) ⟨rfl, rfl⟩ (fun x3 h2 qx3 => ?_)
    obtain ⟨G2, S2, ax3, bx3, fx3⟩ := qx3
    have R2 := R1.call S2 (by decide +kernel)
    refine z_iconst (M := M_X9_tie) 17 dX9_tie_17 ?_
    refine z_imulN (M := M_X9_tie) 18 dX9_tie_18 (by omega) (by omega) ?_
    refine z_iload_n (M := M_X9_tie) 19 dX9_tie_19 rfl ?_
    refine z_iaddN (M := M_X9_tie) 20 dX9_tie_20 (by omega) (by omega) ?_
    refine z_istore (M := M_X9_tie) 21 dX9_tie_21 (ls' := [some (mR 38), some (mR L), some (mI a2), some (mI x1), some (mI ((x3 * 4) + x1))]) (by decide) rfl ?_
    refine z_aload_n (M := M_X9_tie) 23 dX9_tie_23 rfl ?_
    refine z_iload (M := M_X9_tie) 24 dX9_tie_24 rfl ?_
    refine z_aload_n (M := M_X9_tie) 26 dX9_tie_26 rfl ?_
    refine z_iload_n (M := M_X9_tie) 27 dX9_tie_27 rfl ?_
    refine z_vI (M := M_X9_tie) 28 dX9_tie_28 t_X4_endHalves l_X9_99 (m_rr_of rfl) (rest := [mI ((x3 * 4) + x1), mR 38]) (c_X4_endHalves2 h2 L a2 hL G2 ⟨by omega, by omega⟩) (oL hL) rfl rfl rfl (Nat.le_of_ble_eq_true rfl) ⟨rfl, rfl⟩ (fun x4 h3 qx4 => ?_)
    obtain ⟨G3, S3, ax4, bx4, fx4⟩ := qx4
    have R3 := R2.call S3 (by decide +kernel)
    refine z_aload_n (M := M_X9_tie) 31 dX9_tie_31 rfl ?_
    refine z_getR (M := M_X9_tie) 32 dX9_tie_32 f_X9_102 (oL hL) rfl (rL_5 hL G3) ?_
    refine z_iload_n (M := M_X9_tie) 35 dX9_tie_35 rfl ?_
    refine z_ialdG (M := M_X9_tie) 36 dX9_tie_36 (oL_6 hL) (by omega) (by omega) (gL_6 hL G3 (by omega)) (fun x5 ex5 ax5 bx5 => ?_)
    refine z_if_eq (M := M_X9_tie) 37 dX9_tie_37 44 rfl (fun c6 => ?_) (fun c6 => ?_)
    · refine z_iconst (M := M_X9_tie) 44 dX9_tie_44 ?_
      refine z_vV (M := M_X9_tie) 45 dX9_tie_45 t_X9_lower l_X9_105 (m_rr_of rfl) (rest := []) (c_X9_lower2 h3 ((x3 * 4) + x1) x4 0 G3 ⟨by omega, by omega⟩ ⟨by omega, by omega⟩) o_38 rfl rfl rfl (Nat.le_of_ble_eq_true rfl) ⟨rfl, rfl⟩ (fun h4 qx7 => ?_)
      obtain ⟨G4, S4, Q4⟩ := qx7
      have R4 := R3.call S4 (by decide +kernel)
      refine z_aload_n (M := M_X9_tie) 48 dX9_tie_48 rfl ?_
      refine z_getR (M := M_X9_tie) 49 dX9_tie_49 f_X9_19 o_38 rfl (g_38_2 G4) ?_
      refine z_iload (M := M_X9_tie) 52 dX9_tie_52 rfl ?_
      refine z_aload_n (M := M_X9_tie) 54 dX9_tie_54 rfl ?_
      refine z_getR (M := M_X9_tie) 55 dX9_tie_55 f_X9_19 o_38 rfl (g_38_2 G4) ?_
      refine z_iload (M := M_X9_tie) 58 dX9_tie_58 rfl ?_
      refine z_ialdV (M := M_X9_tie) 60 dX9_tie_60 o_41 (by omega) (by omega) (fun x8 ex8 => ?_)
      refine z_ok (fun ox8 _ _ => ?_)
      have ox8 := ox8.1; unfold m_ok m_32 at ox8
      refine z_aload_n (M := M_X9_tie) 61 dX9_tie_61 rfl ?_
      refine z_iload_n (M := M_X9_tie) 62 dX9_tie_62 rfl ?_
      refine z_vI (M := M_X9_tie) 63 dX9_tie_63 t_X4_leastHalves l_X9_109 (m_rr_of rfl) (rest := [mI x8, mI ((x3 * 4) + x1), mR 41]) (c_X4_leastHalves2 h4 L a2 hL G4 ⟨by omega, by omega⟩) (oL hL) rfl rfl rfl (Nat.le_of_ble_eq_true rfl) ⟨rfl, rfl⟩ (fun x9 h5 qx9 => ?_)
      obtain ⟨G5, S5, ax9, bx9, fx9⟩ := qx9
      have R5 := R4.call S5 (by decide +kernel)
      refine z_maxI (M := M_X9_tie) 66 dX9_tie_66 ml_X9_112 (rest := [mI ((x3 * 4) + x1), mR 41]) (Nat.le_of_ble_eq_true rfl) (Nat.le_of_ble_eq_true rfl) ?_
      refine z_topBI (lo := (-1)) (hi := 2147483647) ⟨by split <;> omega, by split <;> omega⟩ (fun x10 ex10 ax10 bx10 => ?_)
      refine z_iastH (M := M_X9_tie) 69 dX9_tie_69 o_41 (by omega) (by omega) (u_41 G5) (R5.up rfl) (fun h6 E6 G6 R6 => ?_)
      exact z_retV (M := M_X9_tie) 70 dX9_tie_70 rfl ⟨G6, R6, tyQ_y fx1 (by omega) (by have q := fx3; rw [frE S1] at q; exact q) (by have q := fx4; rw [frE S2, frE S1] at q; exact q) (by have q := ex5; rw [frE S3, frE S2, frE S1] at q; rw [q]; exact if_pos c6) (by have q := fx9; rw [Q4.1 (L + 5) (by unfold isL at hL; omega) (by unfold isL at hL; omega), Q4.1 (L + 6) (by unfold isL at hL; omega) (by unfold isL at hL; omega), frE S3, frE S2, frE S1] at q; exact q) (ty_of ((frE S3).trans ((frE S2).trans (frE S1))) Q4 ex8 (frE S5) ex10 E6)⟩
    · refine z_iconst (M := M_X9_tie) 40 dX9_tie_40 ?_
      refine z_goto (M := M_X9_tie) 41 dX9_tie_41 45 rfl ?_
      refine z_vV (M := M_X9_tie) 45 dX9_tie_45 t_X9_lower l_X9_105 (m_rr_of rfl) (rest := []) (c_X9_lower2 h3 ((x3 * 4) + x1) x4 1 G3 ⟨by omega, by omega⟩ ⟨by omega, by omega⟩) o_38 rfl rfl rfl (Nat.le_of_ble_eq_true rfl) ⟨rfl, rfl⟩ (fun h7 qx11 => ?_)
      obtain ⟨G7, S7, Q7⟩ := qx11
      have R7 := R3.call S7 (by decide +kernel)
      refine z_aload_n (M := M_X9_tie) 48 dX9_tie_48 rfl ?_
      refine z_getR (M := M_X9_tie) 49 dX9_tie_49 f_X9_19 o_38 rfl (g_38_2 G7) ?_
      refine z_iload (M := M_X9_tie) 52 dX9_tie_52 rfl ?_
      refine z_aload_n (M := M_X9_tie) 54 dX9_tie_54 rfl ?_
      refine z_getR (M := M_X9_tie) 55 dX9_tie_55 f_X9_19 o_38 rfl (g_38_2 G7) ?_
      refine z_iload (M := M_X9_tie) 58 dX9_tie_58 rfl ?_
      refine z_ialdV (M := M_X9_tie) 60 dX9_tie_60 o_41 (by omega) (by omega) (fun x12 ex12 => ?_)
      refine z_ok (fun ox12 _ _ => ?_)
      have ox12 := ox12.1; unfold m_ok m_32 at ox12
      refine z_aload_n (M := M_X9_tie) 61 dX9_tie_61 rfl ?_
      refine z_iload_n (M := M_X9_tie) 62 dX9_tie_62 rfl ?_
      refine z_vI (M := M_X9_tie) 63 dX9_tie_63 t_X4_leastHalves l_X9_109 (m_rr_of rfl) (rest := [mI x12, mI ((x3 * 4) + x1), mR 41]) (c_X4_leastHalves2 h7 L a2 hL G7 ⟨by omega, by omega⟩) (oL hL) rfl rfl rfl (Nat.le_of_ble_eq_true rfl) ⟨rfl, rfl⟩ (fun x13 h8 qx13 => ?_)
      obtain ⟨G8, S8, ax13, bx13, fx13⟩ := qx13
      have R8 := R7.call S8 (by decide +kernel)
      refine z_maxI (M := M_X9_tie) 66 dX9_tie_66 ml_X9_112 (rest := [mI ((x3 * 4) + x1), mR 41]) (Nat.le_of_ble_eq_true rfl) (Nat.le_of_ble_eq_true rfl) ?_
      refine z_topBI (lo := (-1)) (hi := 2147483647) ⟨by split <;> omega, by split <;> omega⟩ (fun x14 ex14 ax14 bx14 => ?_)
      refine z_iastH (M := M_X9_tie) 69 dX9_tie_69 o_41 (by omega) (by omega) (u_41 G8) (R8.up rfl) (fun h9 E9 G9 R9 => ?_)
      exact z_retV (M := M_X9_tie) 70 dX9_tie_70 rfl ⟨G9, R9, tyQ_y fx1 (by omega) (by have q := fx3; rw [frE S1] at q; exact q) (by have q := fx4; rw [frE S2, frE S1] at q; exact q) (by have q := ex5; rw [frE S3, frE S2, frE S1] at q; rw [q]; exact if_neg c6) (by have q := fx13; rw [Q7.1 (L + 5) (by unfold isL at hL; omega) (by unfold isL at hL; omega), Q7.1 (L + 6) (by unfold isL at hL; omega) (by unfold isL at hL; omega), frE S3, frE S2, frE S1] at q; exact q) (ty_of ((frE S3).trans ((frE S2).trans (frE S1))) Q7 ex12 (frE S8) ex14 E9)⟩
  · exact z_retV (M := M_X9_tie) 11 dX9_tie_11 rfl ⟨G1, R1, ⟨fun _ => frE S1, fun z => absurd (fx1.trans (by omega)) z⟩⟩
abbrev P_X9_tieCut2 (h0 : m_H) (a1 : Int) : m_H → Prop := fun h' => GI h' ∧ FR [39, 40, 41] [] h0 h' ∧ cuI a1 4 h0 h'
def q_X9_tieCut2 (h0 : m_H) (a1 : Int) (n : Nat) : Prop := (∀ (l2 : Int) (h : m_H), GI h → FR [39, 40, 41] [] h0 h → 0 ≤ l2 → l2 ≤ 4 → (cuI a1 l2 h0 h) → 2 * (4 - l2) + (1) ≤ (n : Int) → m_Z oF M_X9_tieCut 2 [some (mR 38), some (mI a1), some (mI l2), none, none] [] h (m_QV (P_X9_tieCut2 h0 a1)))
set_option maxHeartbeats 4000000 in
set_option maxRecDepth 100000 in
theorem s_X9_tieCut2_2 (h0 : m_H) (a1 : Int) (G0 : GI h0) (pa1 : 0 ≤ a1 ∧ a1 ≤ 5) (n : Nat) (ih : q_X9_tieCut2 h0 a1 n) : ∀ (l2 : Int) (h : m_H), GI h → FR [39, 40, 41] [] h0 h → 0 ≤ l2 → l2 ≤ 4 → (cuI a1 l2 h0 h) → 2 * (4 - l2) + (1) ≤ ((n + 1 : Nat) : Int) → m_Z oF M_X9_tieCut 2 [some (mR 38), some (mI a1), some (mI l2), none, none] [] h (m_QV (P_X9_tieCut2 h0 a1)) := by
  intro l2 h G R v0 v1 i0 hr
  refine z_iload_n (M := M_X9_tieCut) 2 dX9_tieCut_2 rfl ?_
  refine z_iconst (M := M_X9_tieCut) 3 dX9_tieCut_3 ?_
  refine z_icmp_ge (M := M_X9_tieCut) 4 dX9_tieCut_4 78 rfl (fun c1 => ?_) (fun c1 => ?_)
  · exact z_retV (M := M_X9_tieCut) 78 dX9_tieCut_78 rfl ⟨G, R, (show (4 : Int) = l2 by omega) ▸ i0⟩
  · refine z_iload_n (M := M_X9_tieCut) 7 dX9_tieCut_7 rfl ?_
    refine z_iconst (M := M_X9_tieCut) 8 dX9_tieCut_8 ?_
    refine z_imulN (M := M_X9_tieCut) 9 dX9_tieCut_9 (by omega) (by omega) ?_
    refine z_iload_n (M := M_X9_tieCut) 10 dX9_tieCut_10 rfl ?_
    refine z_iaddN (M := M_X9_tieCut) 11 dX9_tieCut_11 (by omega) (by omega) ?_
    refine z_istore_n (M := M_X9_tieCut) 12 dX9_tieCut_12 (ls' := [some (mR 38), some (mI a1), some (mI l2), some (mI ((a1 * 4) + l2)), none]) (by decide) rfl ?_
    refine z_iload_n (M := M_X9_tieCut) 13 dX9_tieCut_13 rfl ?_
    refine z_bipush (M := M_X9_tieCut) 14 dX9_tieCut_14 ?_
    refine z_iaddN (M := M_X9_tieCut) 16 dX9_tieCut_16 (by omega) (by omega) ?_
    refine z_iconst (M := M_X9_tieCut) 17 dX9_tieCut_17 ?_
    refine z_imulN (M := M_X9_tieCut) 18 dX9_tieCut_18 (by omega) (by omega) ?_
    refine z_iload_n (M := M_X9_tieCut) 19 dX9_tieCut_19 rfl ?_
    refine z_iaddN (M := M_X9_tieCut) 20 dX9_tieCut_20 (by omega) (by omega) ?_
    refine z_istore (M := M_X9_tieCut) 21 dX9_tieCut_21 (ls' := [some (mR 38), some (mI a1), some (mI l2), some (mI ((a1 * 4) + l2)), some (mI (((a1 + 6) * 4) + l2))]) (by decide) rfl ?_
    refine z_aload_n (M := M_X9_tieCut) 23 dX9_tieCut_23 rfl ?_
    refine z_getR (M := M_X9_tieCut) 24 dX9_tieCut_24 f_X9_9 o_38 rfl (g_38_0 G) ?_
    refine z_iload_n (M := M_X9_tieCut) 27 dX9_tieCut_27 rfl ?_
    refine z_ialdV (M := M_X9_tieCut) 28 dX9_tieCut_28 o_39 (by omega) (by omega) (fun x2 ex2 => ?_)
    refine z_ok (fun ox2 _ _ => ?_)
    have ox2 := ox2.1; unfold m_ok m_32 at ox2
    refine z_if_eq (M := M_X9_tieCut) 29 dX9_tieCut_29 50 rfl (fun c3 => ?_) (fun c3 => ?_)
    · refine z_aload_n (M := M_X9_tieCut) 50 dX9_tieCut_50 rfl ?_
      refine z_getR (M := M_X9_tieCut) 51 dX9_tieCut_51 f_X9_19 o_38 rfl (g_38_2 G) ?_
      refine z_iload_n (M := M_X9_tieCut) 54 dX9_tieCut_54 rfl ?_
      refine z_aload_n (M := M_X9_tieCut) 55 dX9_tieCut_55 rfl ?_
      refine z_getR (M := M_X9_tieCut) 56 dX9_tieCut_56 f_X9_19 o_38 rfl (g_38_2 G) ?_
      refine z_iload_n (M := M_X9_tieCut) 59 dX9_tieCut_59 rfl ?_
      refine z_ialdV (M := M_X9_tieCut) 60 dX9_tieCut_60 o_41 (by omega) (by omega) (fun x4 ex4 => ?_)
      refine z_ok (fun ox4 _ _ => ?_)
      have ox4 := ox4.1; unfold m_ok m_32 at ox4
      refine z_aload_n (M := M_X9_tieCut) 61 dX9_tieCut_61 rfl ?_
      refine z_getR (M := M_X9_tieCut) 62 dX9_tieCut_62 f_X9_19 o_38 rfl (g_38_2 G) ?_
      refine z_iload (M := M_X9_tieCut) 65 dX9_tieCut_65 rfl ?_
      refine z_ialdV (M := M_X9_tieCut) 67 dX9_tieCut_67 o_41 (by omega) (by omega) (fun x5 ex5 => ?_)
      refine z_ok (fun ox5 _ _ => ?_)
      have ox5 := ox5.1; unfold m_ok m_32 at ox5
      refine z_maxI (M := M_X9_tieCut) 68 dX9_tieCut_68 ml_X9_112 (rest := [mI ((a1 * 4) + l2), mR 41]) (Nat.le_of_ble_eq_true rfl) (Nat.le_of_ble_eq_true rfl) ?_
      refine z_topBI (lo := (-2147483648)) (hi := 2147483647) ⟨by split <;> omega, by split <;> omega⟩ (fun x6 ex6 ax6 bx6 => ?_)
      refine z_iastH (M := M_X9_tieCut) 71 dX9_tieCut_71 o_41 (by omega) (by omega) (u_41 G) (R.up rfl) (fun h1 E1 G1 R1 => ?_)
      refine z_iincN (M := M_X9_tieCut) 72 dX9_tieCut_72 (ls' := [some (mR 38), some (mI a1), some (mI (l2 + 1)), some (mI ((a1 * 4) + l2)), some (mI (((a1 + 6) * 4) + l2))]) (by decide) rfl (by (unfold m_32; decide)) (by omega) (by omega) rfl ?_
      refine z_goto (M := M_X9_tieCut) 75 dX9_tieCut_75 2 rfl ?_
      exact z_mask [true, true, true, false, false] rfl (ih (l2 + 1) h1 G1 R1 (by omega) (by omega) (cu_s0 i0 (by omega) (by omega) (by omega) (by omega) ex2 c3 ex4 ex5 ex6 E1) (by omega))
    · refine z_aload_n (M := M_X9_tieCut) 32 dX9_tieCut_32 rfl ?_
      refine z_iload (M := M_X9_tieCut) 33 dX9_tieCut_33 rfl ?_
      refine z_aload_n (M := M_X9_tieCut) 35 dX9_tieCut_35 rfl ?_
      refine z_getR (M := M_X9_tieCut) 36 dX9_tieCut_36 f_X9_9 o_38 rfl (g_38_0 G) ?_
      refine z_iload_n (M := M_X9_tieCut) 39 dX9_tieCut_39 rfl ?_
      refine z_ialdE (M := M_X9_tieCut) 40 dX9_tieCut_40 o_39 (by omega) (by omega) ex2 ?_
      refine z_aload_n (M := M_X9_tieCut) 41 dX9_tieCut_41 rfl ?_
      refine z_getR (M := M_X9_tieCut) 42 dX9_tieCut_42 f_X9_15 o_38 rfl (g_38_1 G) ?_
      refine z_iload_n (M := M_X9_tieCut) 45 dX9_tieCut_45 rfl ?_
      refine z_zaldG (M := M_X9_tieCut) 46 dX9_tieCut_46 o_40 (by omega) (by omega) (g_40 G (by omega)) (fun x7 ex7 ax7 bx7 => ?_)
      refine z_vV (M := M_X9_tieCut) 47 dX9_tieCut_47 t_X9_lower l_X9_105 (m_rr_of rfl) (rest := []) (c_X9_lower2 h (((a1 + 6) * 4) + l2) x2 x7 G ⟨by omega, by omega⟩ ⟨by omega, by omega⟩) o_38 rfl rfl rfl (Nat.le_of_ble_eq_true rfl) ⟨rfl, rfl⟩ (fun h2 qx8 => ?_)
      obtain ⟨G2, S2, Q2⟩ := qx8
      have R2 := R.call S2 (by decide +kernel)
      refine z_aload_n (M := M_X9_tieCut) 50 dX9_tieCut_50 rfl ?_
      refine z_getR (M := M_X9_tieCut) 51 dX9_tieCut_51 f_X9_19 o_38 rfl (g_38_2 G2) ?_
      refine z_iload_n (M := M_X9_tieCut) 54 dX9_tieCut_54 rfl ?_
      refine z_aload_n (M := M_X9_tieCut) 55 dX9_tieCut_55 rfl ?_
      refine z_getR (M := M_X9_tieCut) 56 dX9_tieCut_56 f_X9_19 o_38 rfl (g_38_2 G2) ?_
      refine z_iload_n (M := M_X9_tieCut) 59 dX9_tieCut_59 rfl ?_
      refine z_ialdV (M := M_X9_tieCut) 60 dX9_tieCut_60 o_41 (by omega) (by omega) (fun x9 ex9 => ?_)
      refine z_ok (fun ox9 _ _ => ?_)
      have ox9 := ox9.1; unfold m_ok m_32 at ox9
      refine z_aload_n (M := M_X9_tieCut) 61 dX9_tieCut_61 rfl ?_
      refine z_getR (M := M_X9_tieCut) 62 dX9_tieCut_62 f_X9_19 o_38 rfl (g_38_2 G2) ?_
      refine z_iload (M := M_X9_tieCut) 65 dX9_tieCut_65 rfl ?_
      refine z_ialdV (M := M_X9_tieCut) 67 dX9_tieCut_67 o_41 (by omega) (by omega) (fun x10 ex10 => ?_)
      refine z_ok (fun ox10 _ _ => ?_)
      have ox10 := ox10.1; unfold m_ok m_32 at ox10
      refine z_maxI (M := M_X9_tieCut) 68 dX9_tieCut_68 ml_X9_112 (rest := [mI ((a1 * 4) + l2), mR 41]) (Nat.le_of_ble_eq_true rfl) (Nat.le_of_ble_eq_true rfl) ?_
      refine z_topBI (lo := (-2147483648)) (hi := 2147483647) ⟨by split <;> omega, by split <;> omega⟩ (fun x11 ex11 ax11 bx11 => ?_)
      refine z_iastH (M := M_X9_tieCut) 71 dX9_tieCut_71 o_41 (by omega) (by omega) (u_41 G2) (R2.up rfl) (fun h3 E3 G3 R3 => ?_)
      refine z_iincN (M := M_X9_tieCut) 72 dX9_tieCut_72 (ls' := [some (mR 38), some (mI a1), some (mI (l2 + 1)), some (mI ((a1 * 4) + l2)), some (mI (((a1 + 6) * 4) + l2))]) (by decide) rfl (by (unfold m_32; decide)) (by omega) (by omega) rfl ?_
      refine z_goto (M := M_X9_tieCut) 75 dX9_tieCut_75 2 rfl ?_
      exact z_mask [true, true, true, false, false] rfl (ih (l2 + 1) h3 G3 R3 (by omega) (by omega) (cu_s1 i0 (by omega) (by omega) (by omega) (by omega) ex2 c3 ex7 Q2 ex9 ex10 ex11 E3) (by omega))
theorem a_X9_tieCut2 (h0 : m_H) (a1 : Int) (G0 : GI h0) (pa1 : 0 ≤ a1 ∧ a1 ≤ 5) : ∀ n, q_X9_tieCut2 h0 a1 n := by
  intro n
  induction n with
  | zero => unfold q_X9_tieCut2; intros; omega
  | succ n ih => exact s_X9_tieCut2_2 h0 a1 G0 pa1 n ih
set_option maxHeartbeats 4000000 in
set_option maxRecDepth 100000 in
theorem c_X9_tieCut2 (h0 : m_H) (a1 : Int) (G0 : GI h0) (pa1 : 0 ≤ a1 ∧ a1 ≤ 5) : m_CV M_X9_tieCut [mR 38, mI a1] h0 (P_X9_tieCut2 h0 a1) := by
  refine m_CV_of ⟨by decide, rfl, by simp [m_arg, m_isL, M_X9_tieCut], ⟨rfl, rfl⟩, rfl, rfl⟩ (ls := [some (mR 38), some (mI a1), none, none, none]) rfl ?_
  have ih := a_X9_tieCut2 h0 a1 G0 pa1 16
  refine z_iconst (M := M_X9_tieCut) 0 dX9_tieCut_0 ?_
  refine z_istore_n (M := M_X9_tieCut) 1 dX9_tieCut_1 (ls' := [some (mR 38), some (mI a1), some (mI 0), none, none]) (by decide) rfl ?_
  exact z_mask [true, true, true, false, false] rfl (ih 0 h0 G0 (FR.rf (cs := [39, 40, 41]) (ss := []) (h := h0)) (by omega) (by omega) cu_0 (by omega))
/-! steps over lengths -/
def pBb (B : Int) (v : Int × Int × Int) : Prop := (0 < v.1 ∧ v.1 ≤ B) ∧ 0 ≤ v.2.1 ∧ v.2.1 ≤ B
def bkH (h : m_H) : Prop := ∀ j : Nat, j < 48 → (0 ≤ h 39 j ∧ h 39 j ≤ 200) ∧ 0 ≤ h 41 j ∧ h 41 j ≤ 200
def bkS (h : m_H) : Prop := ∀ p : Nat, p < 16 → pBb 200 (bd h (43 + p))
theorem pBb_ls {B : Int} {x y : Int × Int × Int} (h : pBb B x) (k : pBb B y) : pBb B (lsB x y) := by
  unfold lsB; split
  · exact k
  · exact h
def soW (i : Int) (p : Nat) (h : m_H) : Int × Int × Int := if h 41 (4 * i.toNat + p / 4) ≠ 0 ∧ h 39 (4 * i.toNat + p % 4) ≠ 0 then lsB (bd h (43 + p)) (h 39 (4 * i.toNat + p % 4), h 41 (4 * i.toNat + p / 4), h 40 (4 * i.toNat + p % 4)) else bd h (43 + p)
def soQ (i n : Int) (h0 h : m_H) : Prop := (∀ c, (c < 43 ∨ 58 < c) → h c = h0 c) ∧ ∀ p : Nat, p < 16 → bd h (43 + p) = if (p : Int) < n then soW i p h0 else bd h0 (43 + p)
theorem so_z {i : Int} {h : m_H} : soQ i 0 h h := ⟨fun _ _ => rfl, fun p _ => by rw [if_neg (by omega)]⟩
theorem so_end {i n m : Int} {h0 h : m_H} (q : soQ i n h0 h) (e : n = m) : soQ i m h0 h := e ▸ q
/-- no low: the row stays -/
theorem so_row {i l x : Int} {h0 h : m_H} (q : soQ i (4 * l) h0 h) (i0 : 0 ≤ i) (l0 : 0 ≤ l) (e : h 41 (i * 4 + l).toNat = x) (c : x = 0) : soQ i (4 * (l + 1)) h0 h := by
  refine ⟨q.1, fun p hp => ?_⟩
  rw [q.2 p hp]
  by_cases g : (p : Int) < 4 * l
  · rw [if_pos g, if_pos (by omega)]
  · rw [if_neg g]
    by_cases y : (p : Int) < 4 * (l + 1)
    · rw [if_pos y]
      have a : 4 * i.toNat + p / 4 = (i * 4 + l).toNat := by omega
      have r := q.1 41 (by omega)
      unfold soW
      rw [if_neg]
      rintro ⟨u, _⟩
      rw [a, ← r] at u
      exact u (e.trans c)
    · rw [if_neg y]
/-- no high: it stays -/
theorem so_one {i l m x : Int} {h0 h : m_H} (q : soQ i (4 * l + m) h0 h) (i0 : 0 ≤ i) (l0 : 0 ≤ l) (m0 : 0 ≤ m) (m3 : m ≤ 3) (e : h 39 (i * 4 + m).toNat = x) (c : x = 0) : soQ i (4 * l + (m + 1)) h0 h := by
  refine ⟨q.1, fun p hp => ?_⟩
  rw [q.2 p hp]
  by_cases g : (p : Int) < 4 * l + m
  · rw [if_pos g, if_pos (by omega)]
  · rw [if_neg g]
    by_cases y : (p : Int) < 4 * l + (m + 1)
    · rw [if_pos y]
      have a : 4 * i.toNat + p % 4 = (i * 4 + m).toNat := by omega
      have r := q.1 39 (by omega)
      unfold soW
      rw [if_neg]
      rintro ⟨_, u⟩
      rw [a, ← r] at u
      exact u (e.trans c)
    · rw [if_neg y]
theorem bd_ne {h h1 : m_H} {b c : Nat} {v : Int × Int × Int} (B : bN b v h h1) (q : c ≠ b) : bd h1 c = bd h c := by unfold bd; rw [B.1 c q]
theorem so_ls {i l m x2 x5 x6 : Int} {h0 h h1 : m_H} (q : soQ i (4 * l + m) h0 h) (i0 : 0 ≤ i) (l0 : 0 ≤ l) (l3 : l ≤ 3) (m0 : 0 ≤ m) (m3 : m ≤ 3) (nz : h0 41 (i * 4 + l).toNat ≠ 0) (e2 : h 39 (i * 4 + m).toNat = x2) (c : x2 ≠ 0) (e5 : h 41 (i * 4 + l).toNat = x5) (e6 : h 40 (i * 4 + m).toNat = x6) (B : bN (43 + (l * 4 + m).toNat) (lsB (bd h (43 + (l * 4 + m).toNat)) (x2, x5, x6)) h h1) : soQ i (4 * l + (m + 1)) h0 h1 := by
  refine ⟨fun c hc => ?_, fun p hp => ?_⟩
  · rw [B.1 c (by omega)]; exact q.1 c hc
  · by_cases g : p = (l * 4 + m).toNat
    · have a1 : 4 * i.toNat + p / 4 = (i * 4 + l).toNat := by omega
      have a2 : 4 * i.toNat + p % 4 = (i * 4 + m).toNat := by omega
      have z := q.2 p hp
      rw [if_neg (by omega)] at z
      rw [if_pos (by omega)]
      unfold soW
      rw [a1, a2, ← q.1 39 (by omega), ← q.1 40 (by omega), if_pos ⟨nz, by rw [e2]; exact c⟩, ← q.1 41 (by omega), e2, e5, e6, ← z, g]
      exact B.2
    · rw [bd_ne B (by omega), q.2 p hp]
      by_cases y : (p : Int) < 4 * l + m
      · rw [if_pos y, if_pos (by omega)]
      · rw [if_neg y, if_neg (by omega)]
theorem bkS_ls {h h1 : m_H} {l m x2 x5 x6 : Int} (k : bkS h) (i0 : 0 ≤ l * 4 + m) (i1 : l * 4 + m ≤ 15) (a2 : 0 < x2 ∧ x2 ≤ 200) (a5 : 0 ≤ x5 ∧ x5 ≤ 200) (B : bN (43 + (l * 4 + m).toNat) (lsB (bd h (43 + (l * 4 + m).toNat)) (x2, x5, x6)) h h1) : bkS h1 := fun p hp => by
  by_cases g : p = (l * 4 + m).toNat
  · rw [g, B.2]
    exact pBb_ls (k _ (by omega)) ⟨a2, a5⟩
  · rw [bd_ne B (by omega)]; exact k p hp
theorem bkH_at {h0 h : m_H} (k : bkH h0) (q : ∀ c, (c < 43 ∨ 58 < c) → h c = h0 c) {i x : Int} (i1 : 0 ≤ i) (i2 : i ≤ 47) : (h 39 i.toNat = x → 0 ≤ x ∧ x ≤ 200) ∧ (h 41 i.toNat = x → 0 ≤ x ∧ x ≤ 200) := by
  have z := k i.toNat (by omega)
  rw [q 39 (by omega), q 41 (by omega)]
  exact ⟨fun e => by omega, fun e => by omega⟩
theorem bkS_at {h : m_H} (k : bkS h) {p : Int} (p0 : 0 ≤ p) (p1 : p ≤ 15) : (0 ≤ h (43 + p.toNat) 0 ∧ h (43 + p.toNat) 0 ≤ 3000000000) ∧ 0 ≤ h (43 + p.toNat) 1 ∧ h (43 + p.toNat) 1 ≤ 3000000000 := by
  have z := k p.toNat (by omega)
  unfold pBb bd at z
  simp only at z
  omega
abbrev P_X9_stepOver2 (h0 : m_H) (a1 : Int) : m_H → Prop := fun h' => GI h' ∧ FR (csB ++ []) [] h0 h' ∧ soQ a1 16 h0 h' ∧ bkS h'
def q_X9_stepOver2 (h0 : m_H) (a1 : Int) (n : Nat) : Prop := (∀ (l3 : Int) (h : m_H), GI h → FR (csB ++ []) [] h0 h → 0 ≤ l3 → l3 ≤ 4 → (soQ a1 (4 * l3) h0 h) → (bkS h) → 13 * (4 - l3) + (12) ≤ (n : Int) → m_Z oF M_X9_stepOver 6 [some (mR 38), none, some (mI (a1 * 4)), some (mI l3), none] [] h (m_QV (P_X9_stepOver2 h0 a1))) ∧ (∀ (l3 l4 : Int) (h : m_H), GI h → FR (csB ++ []) [] h0 h → 0 ≤ l3 → l3 ≤ 3 → 0 ≤ l4 → l4 ≤ 4 → (soQ a1 (4 * l3 + l4) h0 h) → (bkS h) → (h0 41 (a1 * 4 + l3).toNat ≠ 0) → 13 * (4 - l3) + 2 * (4 - l4) + (1) ≤ (n : Int) → m_Z oF M_X9_stepOver 28 [some (mR 38), none, some (mI (a1 * 4)), some (mI l3), some (mI l4)] [] h (m_QV (P_X9_stepOver2 h0 a1)))
set_option maxHeartbeats 4000000 in
set_option maxRecDepth 100000 in
theorem s_X9_stepOver2_6 (h0 : m_H) (a1 : Int) (G0 : GI h0) (pa1 : 0 ≤ a1 ∧ a1 ≤ 11) (hH : bkH h0) (hS : bkS h0) (n : Nat) (ih : q_X9_stepOver2 h0 a1 n) : ∀ (l3 : Int) (h : m_H), GI h → FR (csB ++ []) [] h0 h → 0 ≤ l3 → l3 ≤ 4 → (soQ a1 (4 * l3) h0 h) → (bkS h) → 13 * (4 - l3) + (12) ≤ ((n + 1 : Nat) : Int) → m_Z oF M_X9_stepOver 6 [some (mR 38), none, some (mI (a1 * 4)), some (mI l3), none] [] h (m_QV (P_X9_stepOver2 h0 a1)) := by
  intro l3 h G R v0 v1 i0 i1 hr
  refine z_iload_n (M := M_X9_stepOver) 6 dX9_stepOver_6 rfl ?_
  refine z_iconst (M := M_X9_stepOver) 7 dX9_stepOver_7 ?_
  refine z_icmp_ge (M := M_X9_stepOver) 8 dX9_stepOver_8 100 rfl (fun c1 => ?_) (fun c1 => ?_)
  · exact z_retV (M := M_X9_stepOver) 100 dX9_stepOver_100 rfl ⟨G, R, so_end i0 (by omega), i1⟩
  · refine z_aload_n (M := M_X9_stepOver) 11 dX9_stepOver_11 rfl ?_
    refine z_getR (M := M_X9_stepOver) 12 dX9_stepOver_12 f_X9_19 o_38 rfl (g_38_2 G) ?_
    refine z_iload_n (M := M_X9_stepOver) 15 dX9_stepOver_15 rfl ?_
    refine z_iload_n (M := M_X9_stepOver) 16 dX9_stepOver_16 rfl ?_
    refine z_iaddN (M := M_X9_stepOver) 17 dX9_stepOver_17 (by omega) (by omega) ?_
    refine z_ialdV (M := M_X9_stepOver) 18 dX9_stepOver_18 o_41 (by omega) (by omega) (fun x2 ex2 => ?_)
    refine z_ok (fun ox2 _ _ => ?_)
    have ox2 := ox2.1; unfold m_ok m_32 at ox2
    refine z_if_ne (M := M_X9_stepOver) 19 dX9_stepOver_19 25 rfl (fun c3 => ?_) (fun c3 => ?_)
    · refine z_iconst (M := M_X9_stepOver) 25 dX9_stepOver_25 ?_
      refine z_istore (M := M_X9_stepOver) 26 dX9_stepOver_26 (ls' := [some (mR 38), none, some (mI (a1 * 4)), some (mI l3), some (mI 0)]) (by decide) rfl ?_
      exact z_mask [true, false, true, true, true] rfl (ih.2 l3 0 h G R (by omega) (by omega) (by omega) (by omega) (so_end i0 (by omega)) i1 (by rw [← i0.1 41 (by omega), ex2]; exact c3) (by omega))
    · refine z_goto (M := M_X9_stepOver) 22 dX9_stepOver_22 94 rfl ?_
      refine z_iincN (M := M_X9_stepOver) 94 dX9_stepOver_94 (ls' := [some (mR 38), none, some (mI (a1 * 4)), some (mI (l3 + 1)), none]) (by decide) rfl (by (unfold m_32; decide)) (by omega) (by omega) rfl ?_
      refine z_goto (M := M_X9_stepOver) 97 dX9_stepOver_97 6 rfl ?_
      exact z_mask [true, false, true, true, false] rfl (ih.1 (l3 + 1) h G R (by omega) (by omega) (so_row i0 (by omega) (by omega) ex2 (by omega)) i1 (by omega))
set_option maxHeartbeats 4000000 in
set_option maxRecDepth 100000 in
theorem s_X9_stepOver2_28 (h0 : m_H) (a1 : Int) (G0 : GI h0) (pa1 : 0 ≤ a1 ∧ a1 ≤ 11) (hH : bkH h0) (hS : bkS h0) (n : Nat) (ih : q_X9_stepOver2 h0 a1 n) : ∀ (l3 l4 : Int) (h : m_H), GI h → FR (csB ++ []) [] h0 h → 0 ≤ l3 → l3 ≤ 3 → 0 ≤ l4 → l4 ≤ 4 → (soQ a1 (4 * l3 + l4) h0 h) → (bkS h) → (h0 41 (a1 * 4 + l3).toNat ≠ 0) → 13 * (4 - l3) + 2 * (4 - l4) + (1) ≤ ((n + 1 : Nat) : Int) → m_Z oF M_X9_stepOver 28 [some (mR 38), none, some (mI (a1 * 4)), some (mI l3), some (mI l4)] [] h (m_QV (P_X9_stepOver2 h0 a1)) := by
  intro l3 l4 h G R v0 v1 v2 v3 i0 i1 i2 hr
  refine z_iload (M := M_X9_stepOver) 28 dX9_stepOver_28 rfl ?_
  refine z_iconst (M := M_X9_stepOver) 30 dX9_stepOver_30 ?_
  refine z_icmp_ge (M := M_X9_stepOver) 31 dX9_stepOver_31 94 rfl (fun c1 => ?_) (fun c1 => ?_)
  · refine z_iincN (M := M_X9_stepOver) 94 dX9_stepOver_94 (ls' := [some (mR 38), none, some (mI (a1 * 4)), some (mI (l3 + 1)), some (mI l4)]) (by decide) rfl (by (unfold m_32; decide)) (by omega) (by omega) rfl ?_
    refine z_goto (M := M_X9_stepOver) 97 dX9_stepOver_97 6 rfl ?_
    exact z_mask [true, false, true, true, false] rfl (ih.1 (l3 + 1) h G R (by omega) (by omega) (so_end i0 (by omega)) i1 (by omega))
  · refine z_aload_n (M := M_X9_stepOver) 34 dX9_stepOver_34 rfl ?_
    refine z_getR (M := M_X9_stepOver) 35 dX9_stepOver_35 f_X9_9 o_38 rfl (g_38_0 G) ?_
    refine z_iload_n (M := M_X9_stepOver) 38 dX9_stepOver_38 rfl ?_
    refine z_iload (M := M_X9_stepOver) 39 dX9_stepOver_39 rfl ?_
    refine z_iaddN (M := M_X9_stepOver) 41 dX9_stepOver_41 (by omega) (by omega) ?_
    refine z_ialdV (M := M_X9_stepOver) 42 dX9_stepOver_42 o_39 (by omega) (by omega) (fun x2 ex2 => ?_)
    refine z_ok (fun ox2 _ _ => ?_)
    have ox2 := ox2.1; unfold m_ok m_32 at ox2
    refine z_if_eq (M := M_X9_stepOver) 43 dX9_stepOver_43 88 rfl (fun c3 => ?_) (fun c3 => ?_)
    · refine z_iincN (M := M_X9_stepOver) 88 dX9_stepOver_88 (ls' := [some (mR 38), none, some (mI (a1 * 4)), some (mI l3), some (mI (l4 + 1))]) (by decide) rfl (by (unfold m_32; decide)) (by omega) (by omega) rfl ?_
      refine z_goto (M := M_X9_stepOver) 91 dX9_stepOver_91 28 rfl ?_
      exact z_mask [true, false, true, true, true] rfl (ih.2 l3 (l4 + 1) h G R (by omega) (by omega) (by omega) (by omega) (so_one i0 (by omega) (by omega) (by omega) (by omega) ex2 c3) i1 i2 (by omega))
    · refine z_aload_n (M := M_X9_stepOver) 46 dX9_stepOver_46 rfl ?_
      refine z_getR (M := M_X9_stepOver) 47 dX9_stepOver_47 f_X9_26 o_38 rfl (g_38_3 G) ?_
      refine z_iload_n (M := M_X9_stepOver) 50 dX9_stepOver_50 rfl ?_
      refine z_iconst (M := M_X9_stepOver) 51 dX9_stepOver_51 ?_
      refine z_imulN (M := M_X9_stepOver) 52 dX9_stepOver_52 (by omega) (by omega) ?_
      refine z_iload (M := M_X9_stepOver) 53 dX9_stepOver_53 rfl ?_
      refine z_iaddN (M := M_X9_stepOver) 55 dX9_stepOver_55 (by omega) (by omega) ?_
      have hb4 := isB_42 (i := ((l3 * 4) + l4)) (by omega) (by omega)
      refine z_aaldB (M := M_X9_stepOver) 56 dX9_stepOver_56 o_42 (by omega) (by omega) (g_42 G (by omega)) ?_
      refine z_aload_n (M := M_X9_stepOver) 57 dX9_stepOver_57 rfl ?_
      refine z_getR (M := M_X9_stepOver) 58 dX9_stepOver_58 f_X9_9 o_38 rfl (g_38_0 G) ?_
      refine z_iload_n (M := M_X9_stepOver) 61 dX9_stepOver_61 rfl ?_
      refine z_iload (M := M_X9_stepOver) 62 dX9_stepOver_62 rfl ?_
      refine z_iaddN (M := M_X9_stepOver) 64 dX9_stepOver_64 (by omega) (by omega) ?_
      refine z_ialdE (M := M_X9_stepOver) 65 dX9_stepOver_65 o_39 (by omega) (by omega) ex2 ?_
      refine z_i2l (M := M_X9_stepOver) 66 dX9_stepOver_66 ?_
      refine z_aload_n (M := M_X9_stepOver) 67 dX9_stepOver_67 rfl ?_
      refine z_getR (M := M_X9_stepOver) 68 dX9_stepOver_68 f_X9_19 o_38 rfl (g_38_2 G) ?_
      refine z_iload_n (M := M_X9_stepOver) 71 dX9_stepOver_71 rfl ?_
      refine z_iload_n (M := M_X9_stepOver) 72 dX9_stepOver_72 rfl ?_
      refine z_iaddN (M := M_X9_stepOver) 73 dX9_stepOver_73 (by omega) (by omega) ?_
      refine z_ialdV (M := M_X9_stepOver) 74 dX9_stepOver_74 o_41 (by omega) (by omega) (fun x5 ex5 => ?_)
      refine z_ok (fun ox5 _ _ => ?_)
      have ox5 := ox5.1; unfold m_ok m_32 at ox5
      refine z_i2l (M := M_X9_stepOver) 75 dX9_stepOver_75 ?_
      refine z_aload_n (M := M_X9_stepOver) 76 dX9_stepOver_76 rfl ?_
      refine z_getR (M := M_X9_stepOver) 77 dX9_stepOver_77 f_X9_15 o_38 rfl (g_38_1 G) ?_
      refine z_iload_n (M := M_X9_stepOver) 80 dX9_stepOver_80 rfl ?_
      refine z_iload (M := M_X9_stepOver) 81 dX9_stepOver_81 rfl ?_
      refine z_iaddN (M := M_X9_stepOver) 83 dX9_stepOver_83 (by omega) (by omega) ?_
      refine z_zaldG (M := M_X9_stepOver) 84 dX9_stepOver_84 o_40 (by omega) (by omega) (g_40 G (by omega)) (fun x6 ex6 ax6 bx6 => ?_)
      have y2 := (bkH_at hH i0.1 (i := a1 * 4 + l4) (x := x2) (by omega) (by omega)).1 ex2
      have y5 := (bkH_at hH i0.1 (i := a1 * 4 + l3) (x := x5) (by omega) (by omega)).2 ex5
      refine z_vV (M := M_X9_stepOver) 85 dX9_stepOver_85 t_X2_lessen l_X9_66 (m_rr_of rfl) (rest := []) (c_X2_lessen2 h (43 + (((l3 * 4) + l4)).toNat) x2 x5 x6 hb4 G ⟨by omega, by omega⟩ (bkS_at i1 (by omega) (by omega)).1 (bkS_at i1 (by omega) (by omega)).2 ⟨by omega, by omega⟩ ⟨by omega, by omega⟩) (oB hb4) rfl rfl rfl (Nat.le_of_ble_eq_true rfl) ⟨rfl, rfl⟩ (fun h1 qx7 => ?_)
      obtain ⟨G1, S1, B1⟩ := qx7
      have R1 := R.call S1 (by decide +kernel)
      refine z_iincN (M := M_X9_stepOver) 88 dX9_stepOver_88 (ls' := [some (mR 38), none, some (mI (a1 * 4)), some (mI l3), some (mI (l4 + 1))]) (by decide) rfl (by (unfold m_32; decide)) (by omega) (by omega) rfl ?_
      refine z_goto (M := M_X9_stepOver) 91 dX9_stepOver_91 28 rfl ?_
      exact z_mask [true, false, true, true, true] rfl (ih.2 l3 (l4 + 1) h1 G1 R1 (by omega) (by omega) (by omega) (by omega) (so_ls i0 (by omega) (by omega) (by omega) (by omega) (by omega) i2 ex2 c3 ex5 ex6 B1) (bkS_ls i1 (by omega) (by omega) ⟨by omega, by omega⟩ ⟨by omega, by omega⟩ B1) i2 (by omega))
theorem a_X9_stepOver2 (h0 : m_H) (a1 : Int) (G0 : GI h0) (pa1 : 0 ≤ a1 ∧ a1 ≤ 11) (hH : bkH h0) (hS : bkS h0) : ∀ n, q_X9_stepOver2 h0 a1 n := by
  intro n
  induction n with
  | zero => unfold q_X9_stepOver2; refine ⟨?_, ?_⟩ <;> (intros; omega)
  | succ n ih => exact ⟨s_X9_stepOver2_6 h0 a1 G0 pa1 hH hS n ih, s_X9_stepOver2_28 h0 a1 G0 pa1 hH hS n ih⟩
set_option maxHeartbeats 4000000 in
set_option maxRecDepth 100000 in
theorem c_X9_stepOver2 (h0 : m_H) (a1 : Int) (G0 : GI h0) (pa1 : 0 ≤ a1 ∧ a1 ≤ 11) (hH : bkH h0) (hS : bkS h0) : m_CV M_X9_stepOver [mR 38, mI a1] h0 (P_X9_stepOver2 h0 a1) := by
  refine m_CV_of ⟨by decide, rfl, by simp [m_arg, m_isL, M_X9_stepOver], ⟨rfl, rfl⟩, rfl, rfl⟩ (ls := [some (mR 38), some (mI a1), none, none, none]) rfl ?_
  have ih := a_X9_stepOver2 h0 a1 G0 pa1 hH hS 71
  refine z_iload_n (M := M_X9_stepOver) 0 dX9_stepOver_0 rfl ?_
  refine z_iconst (M := M_X9_stepOver) 1 dX9_stepOver_1 ?_
  refine z_imulN (M := M_X9_stepOver) 2 dX9_stepOver_2 (by omega) (by omega) ?_
  refine z_istore_n (M := M_X9_stepOver) 3 dX9_stepOver_3 (ls' := [some (mR 38), some (mI a1), some (mI (a1 * 4)), none, none]) (by decide) rfl ?_
  refine z_iconst (M := M_X9_stepOver) 4 dX9_stepOver_4 ?_
  refine z_istore_n (M := M_X9_stepOver) 5 dX9_stepOver_5 (ls' := [some (mR 38), some (mI a1), some (mI (a1 * 4)), some (mI 0), none]) (by decide) rfl ?_
  exact z_mask [true, false, true, true, false] rfl (ih.1 0 h0 G0 (FR.rf (cs := (csB ++ [])) (ss := []) (h := h0)) (by omega) (by omega) so_z hS (by omega))
abbrev P_X9_eachFootHolds2 (h0 : m_H) : Int → m_H → Prop := fun x h' => GI h' ∧ FR [] [] h0 h' ∧ 0 ≤ x ∧ x ≤ 1 ∧ (x = 1 ↔ ∀ k : Nat, k < 4 → ¬ bl1 (bd h0 (43 + (k * 4 + k))))
def q_X9_eachFootHolds2 (h0 : m_H) (n : Nat) : Prop := (∀ (l1 : Int) (h : m_H), GI h → FR [] [] h0 h → 0 ≤ l1 → l1 ≤ 4 → (∀ k : Nat, (k : Int) < l1 → ¬ bl1 (bd h0 (43 + (k * 4 + k)))) → 2 * (4 - l1) + (1) ≤ (n : Int) → m_Z oF M_X9_eachFootHolds 2 [some (mR 38), some (mI l1)] [] h (m_QI (P_X9_eachFootHolds2 h0)))
set_option maxHeartbeats 4000000 in
set_option maxRecDepth 100000 in
theorem s_X9_eachFootHolds2_2 (h0 : m_H) (G0 : GI h0) (n : Nat) (ih : q_X9_eachFootHolds2 h0 n) : ∀ (l1 : Int) (h : m_H), GI h → FR [] [] h0 h → 0 ≤ l1 → l1 ≤ 4 → (∀ k : Nat, (k : Int) < l1 → ¬ bl1 (bd h0 (43 + (k * 4 + k)))) → 2 * (4 - l1) + (1) ≤ ((n + 1 : Nat) : Int) → m_Z oF M_X9_eachFootHolds 2 [some (mR 38), some (mI l1)] [] h (m_QI (P_X9_eachFootHolds2 h0)) := by
  intro l1 h G R v0 v1 i0 hr
  have e_ := frE R
  refine z_iload_n (M := M_X9_eachFootHolds) 2 dX9_eachFootHolds_2 rfl ?_
  refine z_iconst (M := M_X9_eachFootHolds) 3 dX9_eachFootHolds_3 ?_
  refine z_icmp_ge (M := M_X9_eachFootHolds) 4 dX9_eachFootHolds_4 31 rfl (fun c1 => ?_) (fun c1 => ?_)
  · refine z_iconst (M := M_X9_eachFootHolds) 31 dX9_eachFootHolds_31 ?_
    exact z_retZ (M := M_X9_eachFootHolds) 32 dX9_eachFootHolds_32 rfl (by omega) ⟨G, R, by omega, by omega, ⟨fun _ k hk => i0 k (by omega), fun _ => rfl⟩⟩
  · refine z_aload_n (M := M_X9_eachFootHolds) 7 dX9_eachFootHolds_7 rfl ?_
    refine z_getR (M := M_X9_eachFootHolds) 8 dX9_eachFootHolds_8 f_X9_26 o_38 rfl (g_38_3 G) ?_
    refine z_iload_n (M := M_X9_eachFootHolds) 11 dX9_eachFootHolds_11 rfl ?_
    refine z_iconst (M := M_X9_eachFootHolds) 12 dX9_eachFootHolds_12 ?_
    refine z_imulN (M := M_X9_eachFootHolds) 13 dX9_eachFootHolds_13 (by omega) (by omega) ?_
    refine z_iload_n (M := M_X9_eachFootHolds) 14 dX9_eachFootHolds_14 rfl ?_
    refine z_iaddN (M := M_X9_eachFootHolds) 15 dX9_eachFootHolds_15 (by omega) (by omega) ?_
    have hb2 := isB_42 (i := ((l1 * 4) + l1)) (by omega) (by omega)
    refine z_aaldB (M := M_X9_eachFootHolds) 16 dX9_eachFootHolds_16 o_42 (by omega) (by omega) (g_42 G (by omega)) ?_
    refine z_vI (M := M_X9_eachFootHolds) 17 dX9_eachFootHolds_17 t_X2_isBelowOne l_X9_118 (m_rr_of rfl) (rest := []) (c_X2_isBelowOne2 h (43 + (((l1 * 4) + l1)).toNat) hb2 G) (oB hb2) rfl rfl rfl (Nat.le_of_ble_eq_true rfl) ⟨rfl, rfl⟩ (fun x3 h1 qx3 => ?_)
    obtain ⟨G1, S1, ax3, bx3, fx3⟩ := qx3
    have R1 := R.call S1 (by decide +kernel)
    refine z_if_eq (M := M_X9_eachFootHolds) 20 dX9_eachFootHolds_20 25 rfl (fun c4 => ?_) (fun c4 => ?_)
    · refine z_iincN (M := M_X9_eachFootHolds) 25 dX9_eachFootHolds_25 (ls' := [some (mR 38), some (mI (l1 + 1))]) (by decide) rfl (by (unfold m_32; decide)) (by omega) (by omega) rfl ?_
      refine z_goto (M := M_X9_eachFootHolds) 28 dX9_eachFootHolds_28 2 rfl ?_
      exact z_mask [true, true] rfl (ih (l1 + 1) h1 G1 R1 (by omega) (by omega) (fun k hk => by
        by_cases g : k = l1.toNat
        · have z := fx3; rw [e_, show (l1 * 4 + l1).toNat = k * 4 + k by omega] at z; exact fun y => absurd (z.mpr y) (by omega)
        · exact i0 k (by omega)) (by omega))
    · refine z_iconst (M := M_X9_eachFootHolds) 23 dX9_eachFootHolds_23 ?_
      exact z_retZ (M := M_X9_eachFootHolds) 24 dX9_eachFootHolds_24 rfl (by omega) ⟨G1, R1, by omega, by omega, ⟨fun z => absurd z (by decide), fun z => absurd (fx3.mp (by omega)) (by rw [e_, show (l1 * 4 + l1).toNat = l1.toNat * 4 + l1.toNat by omega]; exact z l1.toNat (by omega))⟩⟩
theorem a_X9_eachFootHolds2 (h0 : m_H) (G0 : GI h0) : ∀ n, q_X9_eachFootHolds2 h0 n := by
  intro n
  induction n with
  | zero => unfold q_X9_eachFootHolds2; intros; omega
  | succ n ih => exact s_X9_eachFootHolds2_2 h0 G0 n ih
set_option maxHeartbeats 4000000 in
set_option maxRecDepth 100000 in
theorem c_X9_eachFootHolds2 (h0 : m_H) (G0 : GI h0) : m_CI M_X9_eachFootHolds [mR 38] h0 (P_X9_eachFootHolds2 h0) := by
  refine m_CI_of ⟨by decide, rfl, by simp [m_arg, m_isL, M_X9_eachFootHolds], ⟨rfl, rfl⟩, rfl, rfl⟩ (ls := [some (mR 38), none]) rfl ?_
  have ih := a_X9_eachFootHolds2 h0 G0 16
  refine z_iconst (M := M_X9_eachFootHolds) 0 dX9_eachFootHolds_0 ?_
  refine z_istore_n (M := M_X9_eachFootHolds) 1 dX9_eachFootHolds_1 (ls' := [some (mR 38), some (mI 0)]) (by decide) rfl ?_
  exact z_mask [true, true] rfl (ih 0 h0 G0 (FR.rf (cs := []) (ss := []) (h := h0)) (by omega) (by omega) (fun k hk => by omega) (by omega))
def fhN (h : m_H) (a b : Int) : Prop := ∀ x y : Nat, y < x → x < 4 → ((x : Int) < a ∨ ((x : Int) = a ∧ (y : Int) < b)) → ¬ ctr (bd h (77 + (x * 4 + y))) (bd h (77 + (y * 4 + x)))
def bkR (h : m_H) : Prop := ∀ p : Nat, p < 16 → pBb 8000000 (bd h (77 + p))
theorem bkR_at {h : m_H} (k : bkR h) {p : Int} (p0 : 0 ≤ p) (p1 : p ≤ 15) : (0 ≤ h (77 + p.toNat) 0 ∧ h (77 + p.toNat) 0 ≤ 3000000000) ∧ 0 ≤ h (77 + p.toNat) 1 ∧ h (77 + p.toNat) 1 ≤ 3000000000 := by
  have z := k p.toNat (by omega)
  unfold pBb bd at z
  simp only at z
  omega
theorem fh_s {h : m_H} {a b : Int} (i : fhN h a b) (a0 : 0 ≤ a) (b0 : 0 ≤ b) (c : ¬ ctr (bd h (77 + (a * 4 + b).toNat)) (bd h (77 + (b * 4 + a).toNat))) : fhN h a (b + 1) := fun x y h1 h2 h3 => by
  by_cases g : (x : Int) = a ∧ (y : Int) = b
  · rw [show x * 4 + y = (a * 4 + b).toNat by omega, show y * 4 + x = (b * 4 + a).toNat by omega]; exact c
  · exact i x y h1 h2 (by omega)
abbrev P_X9_feetHoldTogether2 (h0 : m_H) : Int → m_H → Prop := fun x h' => GI h' ∧ FR [] [] h0 h' ∧ 0 ≤ x ∧ x ≤ 1 ∧ (x = 1 ↔ fhN h0 4 0)
def q_X9_feetHoldTogether2 (h0 : m_H) (n : Nat) : Prop := (∀ (l1 : Int) (h : m_H), GI h → FR [] [] h0 h → 0 ≤ l1 → l1 ≤ 4 → (fhN h0 l1 0) → 11 * (4 - l1) + (10) ≤ (n : Int) → m_Z oF M_X9_feetHoldTogether 2 [some (mR 38), some (mI l1), none, none] [] h (m_QI (P_X9_feetHoldTogether2 h0))) ∧ (∀ (l1 l2 : Int) (h : m_H), GI h → FR [] [] h0 h → 0 ≤ l1 → l1 ≤ 3 → 0 ≤ l2 → l2 ≤ 3 → (fhN h0 l1 l2) → 11 * (4 - l1) + 2 * (3 - l2) + (1) ≤ (n : Int) → m_Z oF M_X9_feetHoldTogether 9 [some (mR 38), some (mI l1), some (mI l2), none] [] h (m_QI (P_X9_feetHoldTogether2 h0)))
set_option maxHeartbeats 4000000 in
set_option maxRecDepth 100000 in
theorem s_X9_feetHoldTogether2_2 (h0 : m_H) (G0 : GI h0) (hR : bkR h0) (n : Nat) (ih : q_X9_feetHoldTogether2 h0 n) : ∀ (l1 : Int) (h : m_H), GI h → FR [] [] h0 h → 0 ≤ l1 → l1 ≤ 4 → (fhN h0 l1 0) → 11 * (4 - l1) + (10) ≤ ((n + 1 : Nat) : Int) → m_Z oF M_X9_feetHoldTogether 2 [some (mR 38), some (mI l1), none, none] [] h (m_QI (P_X9_feetHoldTogether2 h0)) := by
  intro l1 h G R v0 v1 i0 hr
  refine z_iload_n (M := M_X9_feetHoldTogether) 2 dX9_feetHoldTogether_2 rfl ?_
  refine z_iconst (M := M_X9_feetHoldTogether) 3 dX9_feetHoldTogether_3 ?_
  refine z_icmp_ge (M := M_X9_feetHoldTogether) 4 dX9_feetHoldTogether_4 56 rfl (fun c1 => ?_) (fun c1 => ?_)
  · refine z_iconst (M := M_X9_feetHoldTogether) 56 dX9_feetHoldTogether_56 ?_
    exact z_retZ (M := M_X9_feetHoldTogether) 57 dX9_feetHoldTogether_57 rfl (by omega) ⟨G, R, by omega, by omega, ⟨fun _ x y h1 h2 h3 => i0 x y h1 h2 (by omega), fun _ => rfl⟩⟩
  · refine z_iconst (M := M_X9_feetHoldTogether) 7 dX9_feetHoldTogether_7 ?_
    refine z_istore_n (M := M_X9_feetHoldTogether) 8 dX9_feetHoldTogether_8 (ls' := [some (mR 38), some (mI l1), some (mI 0), none]) (by decide) rfl ?_
    exact z_mask [true, true, true, false] rfl (ih.2 l1 0 h G R (by omega) (by omega) (by omega) (by omega) i0 (by omega))
set_option maxHeartbeats 4000000 in
set_option maxRecDepth 100000 in
theorem s_X9_feetHoldTogether2_9 (h0 : m_H) (G0 : GI h0) (hR : bkR h0) (n : Nat) (ih : q_X9_feetHoldTogether2 h0 n) : ∀ (l1 l2 : Int) (h : m_H), GI h → FR [] [] h0 h → 0 ≤ l1 → l1 ≤ 3 → 0 ≤ l2 → l2 ≤ 3 → (fhN h0 l1 l2) → 11 * (4 - l1) + 2 * (3 - l2) + (1) ≤ ((n + 1 : Nat) : Int) → m_Z oF M_X9_feetHoldTogether 9 [some (mR 38), some (mI l1), some (mI l2), none] [] h (m_QI (P_X9_feetHoldTogether2 h0)) := by
  intro l1 l2 h G R v0 v1 v2 v3 i0 hr
  have e_ := frE R
  have hR2 : bkR h := e_ ▸ hR
  refine z_iload_n (M := M_X9_feetHoldTogether) 9 dX9_feetHoldTogether_9 rfl ?_
  refine z_iload_n (M := M_X9_feetHoldTogether) 10 dX9_feetHoldTogether_10 rfl ?_
  refine z_icmp_ge (M := M_X9_feetHoldTogether) 11 dX9_feetHoldTogether_11 50 rfl (fun c1 => ?_) (fun c1 => ?_)
  · refine z_iincN (M := M_X9_feetHoldTogether) 50 dX9_feetHoldTogether_50 (ls' := [some (mR 38), some (mI (l1 + 1)), some (mI l2), none]) (by decide) rfl (by (unfold m_32; decide)) (by omega) (by omega) rfl ?_
    refine z_goto (M := M_X9_feetHoldTogether) 53 dX9_feetHoldTogether_53 2 rfl ?_
    exact z_mask [true, true, false, false] rfl (ih.1 (l1 + 1) h G R (by omega) (by omega) (fun x y h1 h2 h3 => i0 x y h1 h2 (by omega)) (by omega))
  · refine z_aload_n (M := M_X9_feetHoldTogether) 14 dX9_feetHoldTogether_14 rfl ?_
    refine z_getR (M := M_X9_feetHoldTogether) 15 dX9_feetHoldTogether_15 f_X9_33 o_38 rfl (g_38_5 G) ?_
    refine z_iload_n (M := M_X9_feetHoldTogether) 18 dX9_feetHoldTogether_18 rfl ?_
    refine z_iconst (M := M_X9_feetHoldTogether) 19 dX9_feetHoldTogether_19 ?_
    refine z_imulN (M := M_X9_feetHoldTogether) 20 dX9_feetHoldTogether_20 (by omega) (by omega) ?_
    refine z_iload_n (M := M_X9_feetHoldTogether) 21 dX9_feetHoldTogether_21 rfl ?_
    refine z_iaddN (M := M_X9_feetHoldTogether) 22 dX9_feetHoldTogether_22 (by omega) (by omega) ?_
    have hb2 := isB_76 (i := ((l1 * 4) + l2)) (by omega) (by omega)
    refine z_aaldB (M := M_X9_feetHoldTogether) 23 dX9_feetHoldTogether_23 o_76 (by omega) (by omega) (g_76 G (by omega)) ?_
    refine z_astore_n (M := M_X9_feetHoldTogether) 24 dX9_feetHoldTogether_24 (ls' := [some (mR 38), some (mI l1), some (mI l2), some (mR (77 + (((l1 * 4) + l2)).toNat))]) (by decide) rfl ?_
    refine z_aload_n (M := M_X9_feetHoldTogether) 25 dX9_feetHoldTogether_25 rfl ?_
    refine z_aload_n (M := M_X9_feetHoldTogether) 26 dX9_feetHoldTogether_26 rfl ?_
    refine z_getR (M := M_X9_feetHoldTogether) 27 dX9_feetHoldTogether_27 f_X9_33 o_38 rfl (g_38_5 G) ?_
    refine z_iload_n (M := M_X9_feetHoldTogether) 30 dX9_feetHoldTogether_30 rfl ?_
    refine z_iconst (M := M_X9_feetHoldTogether) 31 dX9_feetHoldTogether_31 ?_
    refine z_imulN (M := M_X9_feetHoldTogether) 32 dX9_feetHoldTogether_32 (by omega) (by omega) ?_
    refine z_iload_n (M := M_X9_feetHoldTogether) 33 dX9_feetHoldTogether_33 rfl ?_
    refine z_iaddN (M := M_X9_feetHoldTogether) 34 dX9_feetHoldTogether_34 (by omega) (by omega) ?_
    have hb3 := isB_76 (i := ((l2 * 4) + l1)) (by omega) (by omega)
    refine z_aaldB (M := M_X9_feetHoldTogether) 35 dX9_feetHoldTogether_35 o_76 (by omega) (by omega) (g_76 G (by omega)) ?_
    refine z_vI (M := M_X9_feetHoldTogether) 36 dX9_feetHoldTogether_36 t_X2_contradicts l_X9_121 (m_rr_of rfl) (rest := []) (c_X2_contradicts2 h (77 + (((l1 * 4) + l2)).toNat) (77 + (((l2 * 4) + l1)).toNat) hb2 hb3 G (bkR_at hR2 (by omega) (by omega)).1 (bkR_at hR2 (by omega) (by omega)).2 (bkR_at hR2 (by omega) (by omega)).1 (bkR_at hR2 (by omega) (by omega)).2) (oB hb2) rfl rfl rfl (Nat.le_of_ble_eq_true rfl) ⟨rfl, rfl⟩ (fun x4 h1 qx4 => ?_)
    obtain ⟨G1, S1, ax4, bx4, fx4⟩ := qx4
    have R1 := R.call S1 (by decide +kernel)
    refine z_if_eq (M := M_X9_feetHoldTogether) 39 dX9_feetHoldTogether_39 44 rfl (fun c5 => ?_) (fun c5 => ?_)
    · refine z_iincN (M := M_X9_feetHoldTogether) 44 dX9_feetHoldTogether_44 (ls' := [some (mR 38), some (mI l1), some (mI (l2 + 1)), some (mR (77 + (((l1 * 4) + l2)).toNat))]) (by decide) rfl (by (unfold m_32; decide)) (by omega) (by omega) rfl ?_
      refine z_goto (M := M_X9_feetHoldTogether) 47 dX9_feetHoldTogether_47 9 rfl ?_
      exact z_mask [true, true, true, false] rfl (ih.2 l1 (l2 + 1) h1 G1 R1 (by omega) (by omega) (by omega) (by omega) (fh_s i0 (by omega) (by omega) (fun y => absurd (fx4.mpr (by rw [e_]; exact y)) (by omega))) (by omega))
    · refine z_iconst (M := M_X9_feetHoldTogether) 42 dX9_feetHoldTogether_42 ?_
      exact z_retZ (M := M_X9_feetHoldTogether) 43 dX9_feetHoldTogether_43 rfl (by omega) ⟨G1, R1, by omega, by omega, ⟨fun z => absurd z (by decide), fun z => absurd (fx4.mp (by omega)) (by rw [e_, show (l1 * 4 + l2).toNat = l1.toNat * 4 + l2.toNat by omega, show (l2 * 4 + l1).toNat = l2.toNat * 4 + l1.toNat by omega]; exact z l1.toNat l2.toNat (by omega) (by omega) (by omega))⟩⟩
theorem a_X9_feetHoldTogether2 (h0 : m_H) (G0 : GI h0) (hR : bkR h0) : ∀ n, q_X9_feetHoldTogether2 h0 n := by
  intro n
  induction n with
  | zero => unfold q_X9_feetHoldTogether2; refine ⟨?_, ?_⟩ <;> (intros; omega)
  | succ n ih => exact ⟨s_X9_feetHoldTogether2_2 h0 G0 hR n ih, s_X9_feetHoldTogether2_9 h0 G0 hR n ih⟩
set_option maxHeartbeats 4000000 in
set_option maxRecDepth 100000 in
theorem c_X9_feetHoldTogether2 (h0 : m_H) (G0 : GI h0) (hR : bkR h0) : m_CI M_X9_feetHoldTogether [mR 38] h0 (P_X9_feetHoldTogether2 h0) := by
  refine m_CI_of ⟨by decide, rfl, by simp [m_arg, m_isL, M_X9_feetHoldTogether], ⟨rfl, rfl⟩, rfl, rfl⟩ (ls := [some (mR 38), none, none, none]) rfl ?_
  have ih := a_X9_feetHoldTogether2 h0 G0 hR 61
  refine z_iconst (M := M_X9_feetHoldTogether) 0 dX9_feetHoldTogether_0 ?_
  refine z_istore_n (M := M_X9_feetHoldTogether) 1 dX9_feetHoldTogether_1 (ls' := [some (mR 38), some (mI 0), none, none]) (by decide) rfl ?_
  exact z_mask [true, true, false, false] rfl (ih.1 0 h0 G0 (FR.rf (cs := []) (ss := []) (h := h0)) (by omega) (by omega) (fun x y h1 h2 h3 => by omega) (by omega))
def wyH (c : Nat) (h : m_H) (a b : Nat) : Int × Int × Int := bd h (c + (4 * (a - 12) + (b - 12)) % 16)
def goW (wy st : Nat → Nat → Int × Int × Int) (a b : Nat) : Int × Int × Int := if a = b then (1, 1, 0) else goL wy st a b [12, 13, 14, 15] (wy a b)
def goP (wy st : Nat → Nat → Int × Int × Int) (a b k : Nat) : Int × Int × Int := goL wy st a b ([12, 13, 14, 15].take k) (wy a b)
theorem goP_s {wy st : Nat → Nat → Int × Int × Int} {a b : Nat} : ∀ k, k < 4 → goP wy st a b (k + 1) = if 12 + k ≠ a ∧ 12 + k ≠ b ∧ (wy a (12 + k)).2.1 ≠ 0 ∧ (st (12 + k) b).2.1 ≠ 0 then lsB (goP wy st a b k) (mlB (wy a (12 + k)) (st (12 + k) b)) else goP wy st a b k
  | 0, _ => rfl
  | 1, _ => rfl
  | 2, _ => rfl
  | 3, _ => rfl
theorem pBb_ml {W S B : Int} {x y : Int × Int × Int} (hx : pBb W x) (hy : pBb S y) (e : W * S ≤ B) : pBb B (mlB x y) := by
  have m1 := mul_bd (Int.le_of_lt hx.1.1) hx.1.2 (Int.le_of_lt hy.1.1) hy.1.2
  have m2 := mul_bd hx.2.1 hx.2.2 hy.2.1 hy.2.2
  have m3 := Int.mul_pos hx.1.1 hy.1.1
  refine ⟨⟨m3, ?_⟩, m2.1, ?_⟩
  · show x.1 * y.1 ≤ B; omega
  · show x.2.1 * y.2.1 ≤ B; omega
theorem pBb_up {A B : Int} {x : Int × Int × Int} (h : pBb A x) (e : A ≤ B) : pBb B x := ⟨⟨h.1.1, by have := h.1.2; omega⟩, h.2.1, by have := h.2.2; omega⟩
theorem goP_b {W S B : Int} {wy st : Nat → Nat → Int × Int × Int} {a b : Nat} (hw : ∀ i j, pBb W (wy i j)) (hs : ∀ i j, pBb S (st i j)) (e : W * S ≤ B) (e2 : W ≤ B) : ∀ k, k ≤ 4 → pBb B (goP wy st a b k)
  | 0, _ => pBb_up (hw a b) e2
  | k + 1, hk => by
    rw [goP_s k (by omega)]
    have i := goP_b (a := a) (b := b) hw hs e e2 k (by omega)
    split
    · exact pBb_ls i (pBb_ml (hw _ _) (hs _ _) e)
    · exact i
theorem goW_b {W S B : Int} {wy st : Nat → Nat → Int × Int × Int} {a b : Nat} (hw : ∀ i j, pBb W (wy i j)) (hs : ∀ i j, pBb S (st i j)) (e : W * S ≤ B) (e2 : W ≤ B) (e3 : 1 ≤ B) : pBb B (goW wy st a b) := by
  unfold goW
  split
  · exact ⟨⟨by decide, e3⟩, by decide, e3⟩
  · exact goP_b hw hs e e2 4 (Nat.le_refl _)
theorem wyH_b {B : Int} {c : Nat} {h : m_H} (k : ∀ p : Nat, p < 16 → pBb B (bd h (c + p))) : ∀ i j, pBb B (wyH c h i j) := fun i j => k _ (Nat.mod_lt _ (by decide))
theorem wyH_at {c : Nat} {h : m_H} {a b : Int} (a0 : 0 ≤ a) (a3 : a ≤ 3) (b0 : 0 ≤ b) (b3 : b ≤ 3) : wyH c h (12 + a.toNat) (12 + b.toNat) = bd h (c + (a * 4 + b).toNat) := by
  unfold wyH
  have e : (4 * (12 + a.toNat - 12) + (12 + b.toNat - 12)) % 16 = (a * 4 + b).toNat := by omega
  rw [e]
/-- the ways with a step more, up to a pair, and within one -/
def goI (c d : Nat) (n : Int) (h0 h : m_H) : Prop := (∀ k, (k < d ∨ d + 15 < k) → h k = h0 k) ∧ ∀ p : Nat, (p : Int) < n → bd h (d + p) = goW (wyH c h0) (wyH 43 h0) (12 + p / 4) (12 + p % 4)
def goJ (c d : Nat) (l a b k : Int) (h0 h : m_H) : Prop := (a = l / 4 ∧ b = l % 4 ∧ a ≠ b) ∧ goI c d l h0 h ∧ bd h (d + l.toNat) = goP (wyH c h0) (wyH 43 h0) (12 + a.toNat) (12 + b.toNat) k.toNat
theorem go_same {c d : Nat} {l : Int} {h0 h h1 : m_H} (i : goI c d l h0 h) (l0 : 0 ≤ l) (l1 : l ≤ 15) (q : l / 4 = l % 4) (B : bN (d + l.toNat) (1, 1, 0) h h1) : goI c d (l + 1) h0 h1 := by
  refine ⟨fun k hk => ?_, fun p hp => ?_⟩
  · rw [B.1 k (by omega)]; exact i.1 k hk
  · by_cases g : p = l.toNat
    · rw [g, B.2]; unfold goW; rw [if_pos (by omega)]
    · rw [bd_ne B (by omega)]; exact i.2 p (by omega)
theorem go_first {c d : Nat} {l x2 x3 x7 x9 x11 : Int} {h0 h h1 : m_H} (i : goI c d l h0 h) (hc : c + 15 < d ∨ d + 15 < c) (l0 : 0 ≤ l) (l1 : l ≤ 15) (e2 : l / 4 = x2) (e3 : l % 4 = x3) (q : x2 ≠ x3) (e7 : h (c + l.toNat) 0 = x7) (e9 : h (c + l.toNat) 1 = x9) (e11 : h (c + l.toNat) 2 = x11) (B : bN (d + l.toNat) (x7, x9, x11) h h1) : goJ c d l x2 x3 0 h0 h1 := by
  refine ⟨⟨by omega, by omega, q⟩, ⟨fun k hk => ?_, fun p hp => ?_⟩, ?_⟩
  · rw [B.1 k (by omega)]; exact i.1 k hk
  · rw [bd_ne B (by omega)]; exact i.2 p hp
  · rw [B.2]
    show _ = wyH c h0 (12 + x2.toNat) (12 + x3.toNat)
    rw [wyH_at (by omega) (by omega) (by omega) (by omega), show (x2 * 4 + x3).toNat = l.toNat by omega]
    unfold bd
    rw [← i.1 (c + l.toNat) (by omega), e7, e9, e11]
theorem go_end {c d : Nat} {l a b k : Int} {h0 h : m_H} (i : goJ c d l a b k h0 h) (l0 : 0 ≤ l) (l1 : l ≤ 15) (e : k = 4) : goI c d (l + 1) h0 h := by
  obtain ⟨⟨a1, a2, a3⟩, i1, i2⟩ := i
  refine ⟨i1.1, fun p hp => ?_⟩
  by_cases g : p = l.toNat
  · rw [g, i2, e]
    unfold goW
    rw [if_neg (by omega), show 12 + l.toNat / 4 = 12 + a.toNat by omega, show 12 + l.toNat % 4 = 12 + b.toNat by omega]
    rfl
  · exact i1.2 p (by omega)
theorem go_skip {c d : Nat} {l a b k : Int} {h0 h : m_H} (i : goJ c d l a b k h0 h) (a0 : 0 ≤ a) (a3 : a ≤ 3) (b0 : 0 ≤ b) (b3 : b ≤ 3) (k0 : 0 ≤ k) (k3 : k ≤ 3) (hc : c + 15 < d ∨ d + 15 < c) (hd : 58 < d) (q : k = a ∨ k = b ∨ h (c + (a * 4 + k).toNat) 1 = 0 ∨ h (43 + (k * 4 + b).toNat) 1 = 0) : goJ c d l a b (k + 1) h0 h := by
  obtain ⟨j, i1, i2⟩ := i
  refine ⟨j, i1, ?_⟩
  rw [i2, show (k + 1).toNat = k.toNat + 1 by omega, goP_s k.toNat (by omega), if_neg]
  rw [wyH_at a0 a3 k0 k3, wyH_at k0 k3 b0 b3]
  rintro ⟨u1, u2, u3, u4⟩
  have r1 := i1.1 (c + (a * 4 + k).toNat) (by omega)
  have r2 := i1.1 (43 + (k * 4 + b).toNat) (by omega)
  rcases q with q | q | q | q
  · omega
  · omega
  · exact u3 (by show h0 _ 1 = 0; rw [← r1]; exact q)
  · exact u4 (by show h0 _ 1 = 0; rw [← r2]; exact q)
theorem go_take {c d : Nat} {l a b k x6 x8 x11 x12 x13 x14 o x15 x18 : Int} {h0 h h1 : m_H} (i : goJ c d l a b k h0 h) (l0 : 0 ≤ l) (l1 : l ≤ 15) (a0 : 0 ≤ a) (a3 : a ≤ 3) (b0 : 0 ≤ b) (b3 : b ≤ 3) (k0 : 0 ≤ k) (k3 : k ≤ 3) (hc : c + 15 < d ∨ d + 15 < c) (hd : 58 < d) (n1 : k ≠ a) (n2 : k ≠ b) (e6 : h (c + (a * 4 + k).toNat) 1 = x6) (n3 : x6 ≠ 0) (e8 : h (43 + (k * 4 + b).toNat) 1 = x8) (n4 : x8 ≠ 0) (e11 : h (c + (a * 4 + k).toNat) 0 = x11) (e12 : h (43 + (k * 4 + b).toNat) 0 = x12) (e13 : x11 * x12 = x13) (e14 : x6 * x8 = x14)
    (e15 : h (c + (a * 4 + k).toNat) 2 = x15) (e18 : h (43 + (k * 4 + b).toNat) 2 = x18) (eo : (if x15 = 1 ∨ x18 = 1 then 1 else 0) = o) (B : bN (d + l.toNat) (lsB (bd h (d + l.toNat)) (x13, x14, o)) h h1) : goJ c d l a b (k + 1) h0 h1 := by
  obtain ⟨j, i1, i2⟩ := i
  have r1 := i1.1 (c + (a * 4 + k).toNat) (by omega)
  have r2 := i1.1 (43 + (k * 4 + b).toNat) (by omega)
  refine ⟨j, ⟨fun z hz => ?_, fun p hp => ?_⟩, ?_⟩
  · rw [B.1 z (by omega)]; exact i1.1 z hz
  · rw [bd_ne B (by omega)]; exact i1.2 p hp
  · rw [show (k + 1).toNat = k.toNat + 1 by omega, goP_s k.toNat (by omega), ← i2]
    have w1 : wyH c h0 (12 + a.toNat) (12 + k.toNat) = (x11, x6, x15) := by
      rw [wyH_at a0 a3 k0 k3]; unfold bd; rw [← r1, e11, e6, e15]
    have w2 : wyH 43 h0 (12 + k.toNat) (12 + b.toNat) = (x12, x8, x18) := by
      rw [wyH_at k0 k3 b0 b3]; unfold bd; rw [← r2, e12, e8, e18]
    rw [w1, w2, if_pos ⟨by omega, by omega, n3, n4⟩, B.2]
    have m : mlB (x11, x6, x15) (x12, x8, x18) = (x13, x14, o) := by
      unfold mlB
      show (x11 * x12, x6 * x8, if x15 = 1 ∨ x18 = 1 then (1 : Int) else 0) = _
      rw [e13, e14, eo]
    rw [m]
theorem pBb_at {B : Int} {h : m_H} {c : Nat} (k : pBb B (bd h c)) (e : B ≤ 3000000000) : (0 ≤ h c 0 ∧ h c 0 ≤ 3000000000) ∧ 0 ≤ h c 1 ∧ h c 1 ≤ 3000000000 := by
  unfold pBb bd at k
  simp only at k
  omega
abbrev P_X9_goOn_42x (h0 : m_H) : m_H → Prop := fun h' => GI h' ∧ FR (csB ++ []) [] h0 h' ∧ goI 43 60 16 h0 h'
def q_X9_goOn_42x (h0 : m_H) (n : Nat) : Prop := (∀ (l3 : Int) (h : m_H), GI h → FR (csB ++ []) [] h0 h → 0 ≤ l3 → l3 ≤ 16 → (goI 43 60 l3 h0 h) → 13 * (16 - l3) + (12) ≤ (n : Int) → m_Z oF M_X9_goOn 2 [some (mR 38), some (mR 42), some (mR 59), some (mI l3), none, none, none, none, none] [] h (m_QV (P_X9_goOn_42x h0))) ∧ (∀ (l3 l4 l5 l6 : Int) (h : m_H), GI h → FR (csB ++ []) [] h0 h → 0 ≤ l3 → l3 ≤ 15 → 0 ≤ l4 → l4 ≤ 3 → 0 ≤ l5 → l5 ≤ 3 → 0 ≤ l6 → l6 ≤ 4 → (goJ 43 60 l3 l4 l5 l6 h0 h) → 13 * (16 - l3) + 2 * (4 - l6) + (1) ≤ (n : Int) → m_Z oF M_X9_goOn 64 [some (mR 38), some (mR 42), some (mR 59), some (mI l3), some (mI l4), some (mI l5), some (mI l6), none, none] [] h (m_QV (P_X9_goOn_42x h0)))
set_option maxHeartbeats 4000000 in
set_option maxRecDepth 100000 in
theorem s_X9_goOn_42x_2 (h0 : m_H) (G0 : GI h0) (hs : ∀ p : Nat, p < 16 → pBb 200 (bd h0 (43 + p))) (hw : ∀ p : Nat, p < 16 → pBb 200 (bd h0 (43 + p))) (n : Nat) (ih : q_X9_goOn_42x h0 n) : ∀ (l3 : Int) (h : m_H), GI h → FR (csB ++ []) [] h0 h → 0 ≤ l3 → l3 ≤ 16 → (goI 43 60 l3 h0 h) → 13 * (16 - l3) + (12) ≤ ((n + 1 : Nat) : Int) → m_Z oF M_X9_goOn 2 [some (mR 38), some (mR 42), some (mR 59), some (mI l3), none, none, none, none, none] [] h (m_QV (P_X9_goOn_42x h0)) := by
  intro l3 h G R v0 v1 i0 hr
  refine z_iload_n (M := M_X9_goOn) 2 dX9_goOn_2 rfl ?_
  refine z_bipush (M := M_X9_goOn) 3 dX9_goOn_3 ?_
  refine z_icmp_ge (M := M_X9_goOn) 5 dX9_goOn_5 190 rfl (fun c1 => ?_) (fun c1 => ?_)
  · exact z_retV (M := M_X9_goOn) 190 dX9_goOn_190 rfl ⟨G, R, (show (16 : Int) = l3 by omega) ▸ i0⟩
  · refine z_iload_n (M := M_X9_goOn) 8 dX9_goOn_8 rfl ?_
    refine z_iconst (M := M_X9_goOn) 9 dX9_goOn_9 ?_
    refine z_idivN (M := M_X9_goOn) 10 dX9_goOn_10 (by omega) (by omega) ?_
    refine z_topBI (lo := 0) (hi := 3) ⟨by omega, by omega⟩ (fun x2 ex2 ax2 bx2 => ?_)
    refine z_istore (M := M_X9_goOn) 11 dX9_goOn_11 (ls' := [some (mR 38), some (mR 42), some (mR 59), some (mI l3), some (mI x2), none, none, none, none]) (by decide) rfl ?_
    refine z_iload_n (M := M_X9_goOn) 13 dX9_goOn_13 rfl ?_
    refine z_iconst (M := M_X9_goOn) 14 dX9_goOn_14 ?_
    refine z_iremN (M := M_X9_goOn) 15 dX9_goOn_15 (by omega) (by omega) ?_
    refine z_topBI (lo := 0) (hi := 3) ⟨by omega, by omega⟩ (fun x3 ex3 ax3 bx3 => ?_)
    refine z_istore (M := M_X9_goOn) 16 dX9_goOn_16 (ls' := [some (mR 38), some (mR 42), some (mR 59), some (mI l3), some (mI x2), some (mI x3), none, none, none]) (by decide) rfl ?_
    refine z_iload (M := M_X9_goOn) 18 dX9_goOn_18 rfl ?_
    refine z_iload (M := M_X9_goOn) 20 dX9_goOn_20 rfl ?_
    refine z_icmp_ne (M := M_X9_goOn) 22 dX9_goOn_22 37 rfl (fun c4 => ?_) (fun c4 => ?_)
    · refine z_aload_n (M := M_X9_goOn) 37 dX9_goOn_37 rfl ?_
      refine z_iload_n (M := M_X9_goOn) 38 dX9_goOn_38 rfl ?_
      have hb5 := isB_59 (i := l3) (by omega) (by omega)
      refine z_aaldB (M := M_X9_goOn) 39 dX9_goOn_39 o_59 (by omega) (by omega) (g_59 G (by omega)) ?_
      refine z_aload_n (M := M_X9_goOn) 40 dX9_goOn_40 rfl ?_
      refine z_iload_n (M := M_X9_goOn) 41 dX9_goOn_41 rfl ?_
      have hb6 := isB_42 (i := l3) (by omega) (by omega)
      refine z_aaldB (M := M_X9_goOn) 42 dX9_goOn_42 o_42 (by omega) (by omega) (g_42 G (by omega)) ?_
      refine z_getJV (M := M_X9_goOn) 43 dX9_goOn_43 f_X9_128 (oB hb6) rfl (fun x7 ex7 => ?_)
      refine z_aload_n (M := M_X9_goOn) 46 dX9_goOn_46 rfl ?_
      refine z_iload_n (M := M_X9_goOn) 47 dX9_goOn_47 rfl ?_
      have hb8 := isB_42 (i := l3) (by omega) (by omega)
      refine z_aaldB (M := M_X9_goOn) 48 dX9_goOn_48 o_42 (by omega) (by omega) (g_42 G (by omega)) ?_
      refine z_getJV (M := M_X9_goOn) 49 dX9_goOn_49 f_X9_132 (oB hb8) rfl (fun x9 ex9 => ?_)
      refine z_aload_n (M := M_X9_goOn) 52 dX9_goOn_52 rfl ?_
      refine z_iload_n (M := M_X9_goOn) 53 dX9_goOn_53 rfl ?_
      have hb10 := isB_42 (i := l3) (by omega) (by omega)
      refine z_aaldB (M := M_X9_goOn) 54 dX9_goOn_54 o_42 (by omega) (by omega) (g_42 G (by omega)) ?_
      refine z_getIG (M := M_X9_goOn) 55 dX9_goOn_55 f_X9_134 (oB hb10) (by decide) (gB hb10 G) (fun x11 ex11 ax11 bx11 => ?_)
      refine z_vV (M := M_X9_goOn) 58 dX9_goOn_58 t_X2_put l_X9_125 (m_rr_of rfl) (rest := []) (c_X2_put2 h (60 + (l3).toNat) x7 x9 x11 hb5 G ⟨by omega, by omega⟩) (oB hb5) rfl rfl rfl (Nat.le_of_ble_eq_true rfl) ⟨rfl, rfl⟩ (fun h1 qx12 => ?_)
      obtain ⟨G1, S1, B1⟩ := qx12
      have R1 := R.call S1 (by decide +kernel)
      refine z_iconst (M := M_X9_goOn) 61 dX9_goOn_61 ?_
      refine z_istore (M := M_X9_goOn) 62 dX9_goOn_62 (ls' := [some (mR 38), some (mR 42), some (mR 59), some (mI l3), some (mI x2), some (mI x3), some (mI 0), none, none]) (by decide) rfl ?_
      exact z_mask [true, true, true, true, true, true, true, false, false] rfl (ih.2 l3 x2 x3 0 h1 G1 R1 (by omega) (by omega) (by omega) (by omega) (by omega) (by omega) (by omega) (by omega) (go_first i0 (by decide) (by omega) (by omega) ex2 ex3 c4 ex7 ex9 ex11 B1) (by omega))
    · refine z_aload_n (M := M_X9_goOn) 25 dX9_goOn_25 rfl ?_
      refine z_iload_n (M := M_X9_goOn) 26 dX9_goOn_26 rfl ?_
      have hb13 := isB_59 (i := l3) (by omega) (by omega)
      refine z_aaldB (M := M_X9_goOn) 27 dX9_goOn_27 o_59 (by omega) (by omega) (g_59 G (by omega)) ?_
      refine z_lconst (M := M_X9_goOn) 28 dX9_goOn_28 (v := 1) ?_
      refine z_lconst (M := M_X9_goOn) 29 dX9_goOn_29 (v := 1) ?_
      refine z_iconst (M := M_X9_goOn) 30 dX9_goOn_30 ?_
      refine z_vV (M := M_X9_goOn) 31 dX9_goOn_31 t_X2_put l_X9_125 (m_rr_of rfl) (rest := []) (c_X2_put2 h (60 + (l3).toNat) 1 1 0 hb13 G ⟨by omega, by omega⟩) (oB hb13) rfl rfl rfl (Nat.le_of_ble_eq_true rfl) ⟨rfl, rfl⟩ (fun h2 qx14 => ?_)
      obtain ⟨G2, S2, B2⟩ := qx14
      have R2 := R.call S2 (by decide +kernel)
      refine z_goto (M := M_X9_goOn) 34 dX9_goOn_34 184 rfl ?_
      refine z_iincN (M := M_X9_goOn) 184 dX9_goOn_184 (ls' := [some (mR 38), some (mR 42), some (mR 59), some (mI (l3 + 1)), some (mI x2), some (mI x3), none, none, none]) (by decide) rfl (by (unfold m_32; decide)) (by omega) (by omega) rfl ?_
      refine z_goto (M := M_X9_goOn) 187 dX9_goOn_187 2 rfl ?_
      exact z_mask [true, true, true, true, false, false, false, false, false] rfl (ih.1 (l3 + 1) h2 G2 R2 (by omega) (by omega) (go_same i0 (by omega) (by omega) (by omega) B2) (by omega))
set_option maxHeartbeats 4000000 in
set_option maxRecDepth 100000 in
theorem s_X9_goOn_42x_64 (h0 : m_H) (G0 : GI h0) (hs : ∀ p : Nat, p < 16 → pBb 200 (bd h0 (43 + p))) (hw : ∀ p : Nat, p < 16 → pBb 200 (bd h0 (43 + p))) (n : Nat) (ih : q_X9_goOn_42x h0 n) : ∀ (l3 l4 l5 l6 : Int) (h : m_H), GI h → FR (csB ++ []) [] h0 h → 0 ≤ l3 → l3 ≤ 15 → 0 ≤ l4 → l4 ≤ 3 → 0 ≤ l5 → l5 ≤ 3 → 0 ≤ l6 → l6 ≤ 4 → (goJ 43 60 l3 l4 l5 l6 h0 h) → 13 * (16 - l3) + 2 * (4 - l6) + (1) ≤ ((n + 1 : Nat) : Int) → m_Z oF M_X9_goOn 64 [some (mR 38), some (mR 42), some (mR 59), some (mI l3), some (mI l4), some (mI l5), some (mI l6), none, none] [] h (m_QV (P_X9_goOn_42x h0)) := by
  intro l3 l4 l5 l6 h G R v0 v1 v2 v3 v4 v5 v6 v7 i0 hr
  have gb_ := goP_b (a := 12 + l4.toNat) (b := 12 + l5.toNat) (B := 40000) (wyH_b hw) (wyH_b hs) (by decide) (by decide) l6.toNat (by omega)
  rw [← i0.2.2] at gb_
  have gc_ := pBb_at gb_ (by decide)
  refine z_iload (M := M_X9_goOn) 64 dX9_goOn_64 rfl ?_
  refine z_iconst (M := M_X9_goOn) 66 dX9_goOn_66 ?_
  refine z_icmp_ge (M := M_X9_goOn) 67 dX9_goOn_67 184 rfl (fun c1 => ?_) (fun c1 => ?_)
  · refine z_iincN (M := M_X9_goOn) 184 dX9_goOn_184 (ls' := [some (mR 38), some (mR 42), some (mR 59), some (mI (l3 + 1)), some (mI l4), some (mI l5), some (mI l6), none, none]) (by decide) rfl (by (unfold m_32; decide)) (by omega) (by omega) rfl ?_
    refine z_goto (M := M_X9_goOn) 187 dX9_goOn_187 2 rfl ?_
    exact z_mask [true, true, true, true, false, false, false, false, false] rfl (ih.1 (l3 + 1) h G R (by omega) (by omega) (go_end i0 (by omega) (by omega) (by omega)) (by omega))
  · refine z_aload_n (M := M_X9_goOn) 70 dX9_goOn_70 rfl ?_
    refine z_iload (M := M_X9_goOn) 71 dX9_goOn_71 rfl ?_
    refine z_iconst (M := M_X9_goOn) 73 dX9_goOn_73 ?_
    refine z_imulN (M := M_X9_goOn) 74 dX9_goOn_74 (by omega) (by omega) ?_
    refine z_iload (M := M_X9_goOn) 75 dX9_goOn_75 rfl ?_
    refine z_iaddN (M := M_X9_goOn) 77 dX9_goOn_77 (by omega) (by omega) ?_
    have hb2 := isB_42 (i := ((l4 * 4) + l6)) (by omega) (by omega)
    refine z_aaldB (M := M_X9_goOn) 78 dX9_goOn_78 o_42 (by omega) (by omega) (g_42 G (by omega)) ?_
    refine z_astore (M := M_X9_goOn) 79 dX9_goOn_79 (ls' := [some (mR 38), some (mR 42), some (mR 59), some (mI l3), some (mI l4), some (mI l5), some (mI l6), some (mR (43 + (((l4 * 4) + l6)).toNat)), none]) (by decide) rfl ?_
    refine z_aload_n (M := M_X9_goOn) 81 dX9_goOn_81 rfl ?_
    refine z_getR (M := M_X9_goOn) 82 dX9_goOn_82 f_X9_26 o_38 rfl (g_38_3 G) ?_
    refine z_iload (M := M_X9_goOn) 85 dX9_goOn_85 rfl ?_
    refine z_iconst (M := M_X9_goOn) 87 dX9_goOn_87 ?_
    refine z_imulN (M := M_X9_goOn) 88 dX9_goOn_88 (by omega) (by omega) ?_
    refine z_iload (M := M_X9_goOn) 89 dX9_goOn_89 rfl ?_
    refine z_iaddN (M := M_X9_goOn) 91 dX9_goOn_91 (by omega) (by omega) ?_
    have hb3 := isB_42 (i := ((l6 * 4) + l5)) (by omega) (by omega)
    refine z_aaldB (M := M_X9_goOn) 92 dX9_goOn_92 o_42 (by omega) (by omega) (g_42 G (by omega)) ?_
    refine z_astore (M := M_X9_goOn) 93 dX9_goOn_93 (ls' := [some (mR 38), some (mR 42), some (mR 59), some (mI l3), some (mI l4), some (mI l5), some (mI l6), some (mR (43 + (((l4 * 4) + l6)).toNat)), some (mR (43 + (((l6 * 4) + l5)).toNat))]) (by decide) rfl ?_
    refine z_iload (M := M_X9_goOn) 95 dX9_goOn_95 rfl ?_
    refine z_iload (M := M_X9_goOn) 97 dX9_goOn_97 rfl ?_
    refine z_icmp_eq (M := M_X9_goOn) 99 dX9_goOn_99 178 rfl (fun c4 => ?_) (fun c4 => ?_)
    · refine z_iincN (M := M_X9_goOn) 178 dX9_goOn_178 (ls' := [some (mR 38), some (mR 42), some (mR 59), some (mI l3), some (mI l4), some (mI l5), some (mI (l6 + 1)), some (mR (43 + (((l4 * 4) + l6)).toNat)), some (mR (43 + (((l6 * 4) + l5)).toNat))]) (by decide) rfl (by (unfold m_32; decide)) (by omega) (by omega) rfl ?_
      refine z_goto (M := M_X9_goOn) 181 dX9_goOn_181 64 rfl ?_
      exact z_mask [true, true, true, true, true, true, true, false, false] rfl (ih.2 l3 l4 l5 (l6 + 1) h G R (by omega) (by omega) (by omega) (by omega) (by omega) (by omega) (by omega) (by omega) (go_skip i0 (by omega) (by omega) (by omega) (by omega) (by omega) (by omega) (by decide) (by decide) (Or.inl (by omega))) (by omega))
    · refine z_iload (M := M_X9_goOn) 102 dX9_goOn_102 rfl ?_
      refine z_iload (M := M_X9_goOn) 104 dX9_goOn_104 rfl ?_
      refine z_icmp_eq (M := M_X9_goOn) 106 dX9_goOn_106 178 rfl (fun c5 => ?_) (fun c5 => ?_)
      · refine z_iincN (M := M_X9_goOn) 178 dX9_goOn_178 (ls' := [some (mR 38), some (mR 42), some (mR 59), some (mI l3), some (mI l4), some (mI l5), some (mI (l6 + 1)), some (mR (43 + (((l4 * 4) + l6)).toNat)), some (mR (43 + (((l6 * 4) + l5)).toNat))]) (by decide) rfl (by (unfold m_32; decide)) (by omega) (by omega) rfl ?_
        refine z_goto (M := M_X9_goOn) 181 dX9_goOn_181 64 rfl ?_
        exact z_mask [true, true, true, true, true, true, true, false, false] rfl (ih.2 l3 l4 l5 (l6 + 1) h G R (by omega) (by omega) (by omega) (by omega) (by omega) (by omega) (by omega) (by omega) (go_skip i0 (by omega) (by omega) (by omega) (by omega) (by omega) (by omega) (by decide) (by decide) (Or.inr (Or.inl (by omega)))) (by omega))
      · have bw_ : (0 < h (43 + (l4 * 4 + l6).toNat) 0 ∧ h (43 + (l4 * 4 + l6).toNat) 0 ≤ 200) ∧ 0 ≤ h (43 + (l4 * 4 + l6).toNat) 1 ∧ h (43 + (l4 * 4 + l6).toNat) 1 ≤ 200 := (by have z_ := hw (l4 * 4 + l6).toNat (by omega); unfold pBb bd at z_; rw [← i0.2.1.1 (43 + (l4 * 4 + l6).toNat) (by omega)] at z_; exact z_)
        have bs_ : (0 < h (43 + (l6 * 4 + l5).toNat) 0 ∧ h (43 + (l6 * 4 + l5).toNat) 0 ≤ 200) ∧ 0 ≤ h (43 + (l6 * 4 + l5).toNat) 1 ∧ h (43 + (l6 * 4 + l5).toNat) 1 ≤ 200 := (by have z_ := hs (l6 * 4 + l5).toNat (by omega); unfold pBb bd at z_; rw [← i0.2.1.1 (43 + (l6 * 4 + l5).toNat) (by omega)] at z_; exact z_)
        refine z_aload (M := M_X9_goOn) 109 dX9_goOn_109 rfl ?_
        refine z_getJV (M := M_X9_goOn) 111 dX9_goOn_111 f_X9_132 (oB hb2) rfl (fun x6 ex6 => ?_)
        rw [ex6] at bw_
        refine z_lconst (M := M_X9_goOn) 114 dX9_goOn_114 (v := 0) ?_
        refine z_lcmp (M := M_X9_goOn) 115 dX9_goOn_115 ?_
        refine z_if_eq (M := M_X9_goOn) 116 dX9_goOn_116 178 rfl (fun c7 => ?_) (fun c7 => ?_)
        · rw [m_cmp_eq] at c7
          refine z_iincN (M := M_X9_goOn) 178 dX9_goOn_178 (ls' := [some (mR 38), some (mR 42), some (mR 59), some (mI l3), some (mI l4), some (mI l5), some (mI (l6 + 1)), some (mR (43 + (((l4 * 4) + l6)).toNat)), some (mR (43 + (((l6 * 4) + l5)).toNat))]) (by decide) rfl (by (unfold m_32; decide)) (by omega) (by omega) rfl ?_
          refine z_goto (M := M_X9_goOn) 181 dX9_goOn_181 64 rfl ?_
          exact z_mask [true, true, true, true, true, true, true, false, false] rfl (ih.2 l3 l4 l5 (l6 + 1) h G R (by omega) (by omega) (by omega) (by omega) (by omega) (by omega) (by omega) (by omega) (go_skip i0 (by omega) (by omega) (by omega) (by omega) (by omega) (by omega) (by decide) (by decide) (Or.inr (Or.inr (Or.inl (ex6.trans c7))))) (by omega))
        · rw [m_cmp_eq] at c7
          refine z_aload (M := M_X9_goOn) 119 dX9_goOn_119 rfl ?_
          refine z_getJV (M := M_X9_goOn) 121 dX9_goOn_121 f_X9_132 (oB hb3) rfl (fun x8 ex8 => ?_)
          rw [ex8] at bs_
          refine z_lconst (M := M_X9_goOn) 124 dX9_goOn_124 (v := 0) ?_
          refine z_lcmp (M := M_X9_goOn) 125 dX9_goOn_125 ?_
          refine z_if_eq (M := M_X9_goOn) 126 dX9_goOn_126 178 rfl (fun c9 => ?_) (fun c9 => ?_)
          · rw [m_cmp_eq] at c9
            refine z_iincN (M := M_X9_goOn) 178 dX9_goOn_178 (ls' := [some (mR 38), some (mR 42), some (mR 59), some (mI l3), some (mI l4), some (mI l5), some (mI (l6 + 1)), some (mR (43 + (((l4 * 4) + l6)).toNat)), some (mR (43 + (((l6 * 4) + l5)).toNat))]) (by decide) rfl (by (unfold m_32; decide)) (by omega) (by omega) rfl ?_
            refine z_goto (M := M_X9_goOn) 181 dX9_goOn_181 64 rfl ?_
            exact z_mask [true, true, true, true, true, true, true, false, false] rfl (ih.2 l3 l4 l5 (l6 + 1) h G R (by omega) (by omega) (by omega) (by omega) (by omega) (by omega) (by omega) (by omega) (go_skip i0 (by omega) (by omega) (by omega) (by omega) (by omega) (by omega) (by decide) (by decide) (Or.inr (Or.inr (Or.inr (ex8.trans c9))))) (by omega))
          · rw [m_cmp_eq] at c9
            refine z_aload_n (M := M_X9_goOn) 129 dX9_goOn_129 rfl ?_
            refine z_iload_n (M := M_X9_goOn) 130 dX9_goOn_130 rfl ?_
            have hb10 := isB_59 (i := l3) (by omega) (by omega)
            refine z_aaldB (M := M_X9_goOn) 131 dX9_goOn_131 o_59 (by omega) (by omega) (g_59 G (by omega)) ?_
            refine z_aload (M := M_X9_goOn) 132 dX9_goOn_132 rfl ?_
            refine z_getJV (M := M_X9_goOn) 134 dX9_goOn_134 f_X9_128 (oB hb2) rfl (fun x11 ex11 => ?_)
            rw [ex11] at bw_
            refine z_aload (M := M_X9_goOn) 137 dX9_goOn_137 rfl ?_
            refine z_getJV (M := M_X9_goOn) 139 dX9_goOn_139 f_X9_128 (oB hb3) rfl (fun x12 ex12 => ?_)
            rw [ex12] at bs_
            have mx13 := mul_bd (x := x11) (y := x12) (X := 200) (Y := 200) (by omega) (by omega) (by omega) (by omega)
            refine z_lmulN (M := M_X9_goOn) 142 dX9_goOn_142 (by omega) (by omega) ?_
            refine z_topBJ (lo := 0) (hi := 40000) ⟨by omega, by omega⟩ (fun x13 ex13 ax13 bx13 => ?_)
            refine z_aload (M := M_X9_goOn) 143 dX9_goOn_143 rfl ?_
            refine z_getJE (M := M_X9_goOn) 145 dX9_goOn_145 f_X9_132 (oB hb2) rfl ex6 ?_
            refine z_aload (M := M_X9_goOn) 148 dX9_goOn_148 rfl ?_
            refine z_getJE (M := M_X9_goOn) 150 dX9_goOn_150 f_X9_132 (oB hb3) rfl ex8 ?_
            have mx14 := mul_bd (x := x6) (y := x8) (X := 200) (Y := 200) (by omega) (by omega) (by omega) (by omega)
            refine z_lmulN (M := M_X9_goOn) 153 dX9_goOn_153 (by omega) (by omega) ?_
            refine z_topBJ (lo := 0) (hi := 40000) ⟨by omega, by omega⟩ (fun x14 ex14 ax14 bx14 => ?_)
            refine z_aload (M := M_X9_goOn) 154 dX9_goOn_154 rfl ?_
            refine z_getIG (M := M_X9_goOn) 156 dX9_goOn_156 f_X9_134 (oB hb2) (by decide) (gB hb2 G) (fun x15 ex15 ax15 bx15 => ?_)
            refine z_if_ne (M := M_X9_goOn) 159 dX9_goOn_159 170 rfl (fun c16 => ?_) (fun c16 => ?_)
            · refine z_iconst (M := M_X9_goOn) 170 dX9_goOn_170 ?_
              refine z_goto (M := M_X9_goOn) 171 dX9_goOn_171 175 rfl ?_
              refine z_vV (M := M_X9_goOn) 175 dX9_goOn_175 t_X2_lessen l_X9_66 (m_rr_of rfl) (rest := []) (c_X2_lessen2 h (60 + (l3).toNat) x13 x14 1 hb10 G ⟨by omega, by omega⟩ gc_.1 gc_.2 ⟨by omega, by omega⟩ ⟨by omega, by omega⟩) (oB hb10) rfl rfl rfl (Nat.le_of_ble_eq_true rfl) ⟨rfl, rfl⟩ (fun h1 qx17 => ?_)
              obtain ⟨G1, S1, B1⟩ := qx17
              have R1 := R.call S1 (by decide +kernel)
              refine z_iincN (M := M_X9_goOn) 178 dX9_goOn_178 (ls' := [some (mR 38), some (mR 42), some (mR 59), some (mI l3), some (mI l4), some (mI l5), some (mI (l6 + 1)), some (mR (43 + (((l4 * 4) + l6)).toNat)), some (mR (43 + (((l6 * 4) + l5)).toNat))]) (by decide) rfl (by (unfold m_32; decide)) (by omega) (by omega) rfl ?_
              refine z_goto (M := M_X9_goOn) 181 dX9_goOn_181 64 rfl ?_
              exact z_mask [true, true, true, true, true, true, true, false, false] rfl (ih.2 l3 l4 l5 (l6 + 1) h1 G1 R1 (by omega) (by omega) (by omega) (by omega) (by omega) (by omega) (by omega) (by omega) (go_take i0 (by omega) (by omega) (by omega) (by omega) (by omega) (by omega) (by omega) (by omega) (by decide) (by decide) (by omega) (by omega) ex6 c7 ex8 c9 ex11 ex12 ex13 ex14 ex15 rfl (if_pos (Or.inl (by omega))) B1) (by omega))
            · refine z_aload (M := M_X9_goOn) 162 dX9_goOn_162 rfl ?_
              refine z_getIG (M := M_X9_goOn) 164 dX9_goOn_164 f_X9_134 (oB hb3) (by decide) (gB hb3 G) (fun x18 ex18 ax18 bx18 => ?_)
              refine z_if_eq (M := M_X9_goOn) 167 dX9_goOn_167 174 rfl (fun c19 => ?_) (fun c19 => ?_)
              · refine z_iconst (M := M_X9_goOn) 174 dX9_goOn_174 ?_
                refine z_vV (M := M_X9_goOn) 175 dX9_goOn_175 t_X2_lessen l_X9_66 (m_rr_of rfl) (rest := []) (c_X2_lessen2 h (60 + (l3).toNat) x13 x14 0 hb10 G ⟨by omega, by omega⟩ gc_.1 gc_.2 ⟨by omega, by omega⟩ ⟨by omega, by omega⟩) (oB hb10) rfl rfl rfl (Nat.le_of_ble_eq_true rfl) ⟨rfl, rfl⟩ (fun h2 qx20 => ?_)
                obtain ⟨G2, S2, B2⟩ := qx20
                have R2 := R.call S2 (by decide +kernel)
                refine z_iincN (M := M_X9_goOn) 178 dX9_goOn_178 (ls' := [some (mR 38), some (mR 42), some (mR 59), some (mI l3), some (mI l4), some (mI l5), some (mI (l6 + 1)), some (mR (43 + (((l4 * 4) + l6)).toNat)), some (mR (43 + (((l6 * 4) + l5)).toNat))]) (by decide) rfl (by (unfold m_32; decide)) (by omega) (by omega) rfl ?_
                refine z_goto (M := M_X9_goOn) 181 dX9_goOn_181 64 rfl ?_
                exact z_mask [true, true, true, true, true, true, true, false, false] rfl (ih.2 l3 l4 l5 (l6 + 1) h2 G2 R2 (by omega) (by omega) (by omega) (by omega) (by omega) (by omega) (by omega) (by omega) (go_take i0 (by omega) (by omega) (by omega) (by omega) (by omega) (by omega) (by omega) (by omega) (by decide) (by decide) (by omega) (by omega) ex6 c7 ex8 c9 ex11 ex12 ex13 ex14 ex15 ex18 (if_neg (by omega)) B2) (by omega))
              · refine z_iconst (M := M_X9_goOn) 170 dX9_goOn_170 ?_
                refine z_goto (M := M_X9_goOn) 171 dX9_goOn_171 175 rfl ?_
                refine z_vV (M := M_X9_goOn) 175 dX9_goOn_175 t_X2_lessen l_X9_66 (m_rr_of rfl) (rest := []) (c_X2_lessen2 h (60 + (l3).toNat) x13 x14 1 hb10 G ⟨by omega, by omega⟩ gc_.1 gc_.2 ⟨by omega, by omega⟩ ⟨by omega, by omega⟩) (oB hb10) rfl rfl rfl (Nat.le_of_ble_eq_true rfl) ⟨rfl, rfl⟩ (fun h3 qx21 => ?_)
                obtain ⟨G3, S3, B3⟩ := qx21
                have R3 := R.call S3 (by decide +kernel)
                refine z_iincN (M := M_X9_goOn) 178 dX9_goOn_178 (ls' := [some (mR 38), some (mR 42), some (mR 59), some (mI l3), some (mI l4), some (mI l5), some (mI (l6 + 1)), some (mR (43 + (((l4 * 4) + l6)).toNat)), some (mR (43 + (((l6 * 4) + l5)).toNat))]) (by decide) rfl (by (unfold m_32; decide)) (by omega) (by omega) rfl ?_
                refine z_goto (M := M_X9_goOn) 181 dX9_goOn_181 64 rfl ?_
                exact z_mask [true, true, true, true, true, true, true, false, false] rfl (ih.2 l3 l4 l5 (l6 + 1) h3 G3 R3 (by omega) (by omega) (by omega) (by omega) (by omega) (by omega) (by omega) (by omega) (go_take i0 (by omega) (by omega) (by omega) (by omega) (by omega) (by omega) (by omega) (by omega) (by decide) (by decide) (by omega) (by omega) ex6 c7 ex8 c9 ex11 ex12 ex13 ex14 ex15 ex18 (if_pos (Or.inr (by omega))) B3) (by omega))
theorem a_X9_goOn_42x (h0 : m_H) (G0 : GI h0) (hs : ∀ p : Nat, p < 16 → pBb 200 (bd h0 (43 + p))) (hw : ∀ p : Nat, p < 16 → pBb 200 (bd h0 (43 + p))) : ∀ n, q_X9_goOn_42x h0 n := by
  intro n
  induction n with
  | zero => unfold q_X9_goOn_42x; refine ⟨?_, ?_⟩ <;> (intros; omega)
  | succ n ih => exact ⟨s_X9_goOn_42x_2 h0 G0 hs hw n ih, s_X9_goOn_42x_64 h0 G0 hs hw n ih⟩
set_option maxHeartbeats 4000000 in
set_option maxRecDepth 100000 in
theorem c_X9_goOn_42x (h0 : m_H) (G0 : GI h0) (hs : ∀ p : Nat, p < 16 → pBb 200 (bd h0 (43 + p))) (hw : ∀ p : Nat, p < 16 → pBb 200 (bd h0 (43 + p))) : m_CV M_X9_goOn [mR 38, mR 42, mR 59] h0 (P_X9_goOn_42x h0) := by
  refine m_CV_of ⟨by decide, rfl, by simp [m_arg, m_isL, M_X9_goOn], ⟨rfl, rfl⟩, rfl, rfl⟩ (ls := [some (mR 38), some (mR 42), some (mR 59), none, none, none, none, none, none]) rfl ?_
  have ih := a_X9_goOn_42x h0 G0 hs hw 227
  refine z_iconst (M := M_X9_goOn) 0 dX9_goOn_0 ?_
  refine z_istore_n (M := M_X9_goOn) 1 dX9_goOn_1 (ls' := [some (mR 38), some (mR 42), some (mR 59), some (mI 0), none, none, none, none, none]) (by decide) rfl ?_
  exact z_mask [true, true, true, true, false, false, false, false, false] rfl (ih.1 0 h0 G0 (FR.rf (cs := (csB ++ [])) (ss := []) (h := h0)) (by omega) (by omega) ⟨fun _ _ => rfl, fun p hp => by omega⟩ (by omega))
abbrev P_X9_goOn_59x (h0 : m_H) : m_H → Prop := fun h' => GI h' ∧ FR (csB ++ []) [] h0 h' ∧ goI 60 77 16 h0 h'
def q_X9_goOn_59x (h0 : m_H) (n : Nat) : Prop := (∀ (l3 : Int) (h : m_H), GI h → FR (csB ++ []) [] h0 h → 0 ≤ l3 → l3 ≤ 16 → (goI 60 77 l3 h0 h) → 13 * (16 - l3) + (12) ≤ (n : Int) → m_Z oF M_X9_goOn 2 [some (mR 38), some (mR 59), some (mR 76), some (mI l3), none, none, none, none, none] [] h (m_QV (P_X9_goOn_59x h0))) ∧ (∀ (l3 l4 l5 l6 : Int) (h : m_H), GI h → FR (csB ++ []) [] h0 h → 0 ≤ l3 → l3 ≤ 15 → 0 ≤ l4 → l4 ≤ 3 → 0 ≤ l5 → l5 ≤ 3 → 0 ≤ l6 → l6 ≤ 4 → (goJ 60 77 l3 l4 l5 l6 h0 h) → 13 * (16 - l3) + 2 * (4 - l6) + (1) ≤ (n : Int) → m_Z oF M_X9_goOn 64 [some (mR 38), some (mR 59), some (mR 76), some (mI l3), some (mI l4), some (mI l5), some (mI l6), none, none] [] h (m_QV (P_X9_goOn_59x h0)))
set_option maxHeartbeats 4000000 in
set_option maxRecDepth 100000 in
theorem s_X9_goOn_59x_2 (h0 : m_H) (G0 : GI h0) (hs : ∀ p : Nat, p < 16 → pBb 200 (bd h0 (43 + p))) (hw : ∀ p : Nat, p < 16 → pBb 40000 (bd h0 (60 + p))) (n : Nat) (ih : q_X9_goOn_59x h0 n) : ∀ (l3 : Int) (h : m_H), GI h → FR (csB ++ []) [] h0 h → 0 ≤ l3 → l3 ≤ 16 → (goI 60 77 l3 h0 h) → 13 * (16 - l3) + (12) ≤ ((n + 1 : Nat) : Int) → m_Z oF M_X9_goOn 2 [some (mR 38), some (mR 59), some (mR 76), some (mI l3), none, none, none, none, none] [] h (m_QV (P_X9_goOn_59x h0)) := by
  intro l3 h G R v0 v1 i0 hr
  refine z_iload_n (M := M_X9_goOn) 2 dX9_goOn_2 rfl ?_
  refine z_bipush (M := M_X9_goOn) 3 dX9_goOn_3 ?_
  refine z_icmp_ge (M := M_X9_goOn) 5 dX9_goOn_5 190 rfl (fun c1 => ?_) (fun c1 => ?_)
  · exact z_retV (M := M_X9_goOn) 190 dX9_goOn_190 rfl ⟨G, R, (show (16 : Int) = l3 by omega) ▸ i0⟩
  · refine z_iload_n (M := M_X9_goOn) 8 dX9_goOn_8 rfl ?_
    refine z_iconst (M := M_X9_goOn) 9 dX9_goOn_9 ?_
    refine z_idivN (M := M_X9_goOn) 10 dX9_goOn_10 (by omega) (by omega) ?_
    refine z_topBI (lo := 0) (hi := 3) ⟨by omega, by omega⟩ (fun x2 ex2 ax2 bx2 => ?_)
    refine z_istore (M := M_X9_goOn) 11 dX9_goOn_11 (ls' := [some (mR 38), some (mR 59), some (mR 76), some (mI l3), some (mI x2), none, none, none, none]) (by decide) rfl ?_
    refine z_iload_n (M := M_X9_goOn) 13 dX9_goOn_13 rfl ?_
    refine z_iconst (M := M_X9_goOn) 14 dX9_goOn_14 ?_
    refine z_iremN (M := M_X9_goOn) 15 dX9_goOn_15 (by omega) (by omega) ?_
    refine z_topBI (lo := 0) (hi := 3) ⟨by omega, by omega⟩ (fun x3 ex3 ax3 bx3 => ?_)
    refine z_istore (M := M_X9_goOn) 16 dX9_goOn_16 (ls' := [some (mR 38), some (mR 59), some (mR 76), some (mI l3), some (mI x2), some (mI x3), none, none, none]) (by decide) rfl ?_
    refine z_iload (M := M_X9_goOn) 18 dX9_goOn_18 rfl ?_
    refine z_iload (M := M_X9_goOn) 20 dX9_goOn_20 rfl ?_
    refine z_icmp_ne (M := M_X9_goOn) 22 dX9_goOn_22 37 rfl (fun c4 => ?_) (fun c4 => ?_)
    · refine z_aload_n (M := M_X9_goOn) 37 dX9_goOn_37 rfl ?_
      refine z_iload_n (M := M_X9_goOn) 38 dX9_goOn_38 rfl ?_
      have hb5 := isB_76 (i := l3) (by omega) (by omega)
      refine z_aaldB (M := M_X9_goOn) 39 dX9_goOn_39 o_76 (by omega) (by omega) (g_76 G (by omega)) ?_
      refine z_aload_n (M := M_X9_goOn) 40 dX9_goOn_40 rfl ?_
      refine z_iload_n (M := M_X9_goOn) 41 dX9_goOn_41 rfl ?_
      have hb6 := isB_59 (i := l3) (by omega) (by omega)
      refine z_aaldB (M := M_X9_goOn) 42 dX9_goOn_42 o_59 (by omega) (by omega) (g_59 G (by omega)) ?_
      refine z_getJV (M := M_X9_goOn) 43 dX9_goOn_43 f_X9_128 (oB hb6) rfl (fun x7 ex7 => ?_)
      refine z_aload_n (M := M_X9_goOn) 46 dX9_goOn_46 rfl ?_
      refine z_iload_n (M := M_X9_goOn) 47 dX9_goOn_47 rfl ?_
      have hb8 := isB_59 (i := l3) (by omega) (by omega)
      refine z_aaldB (M := M_X9_goOn) 48 dX9_goOn_48 o_59 (by omega) (by omega) (g_59 G (by omega)) ?_
      refine z_getJV (M := M_X9_goOn) 49 dX9_goOn_49 f_X9_132 (oB hb8) rfl (fun x9 ex9 => ?_)
      refine z_aload_n (M := M_X9_goOn) 52 dX9_goOn_52 rfl ?_
      refine z_iload_n (M := M_X9_goOn) 53 dX9_goOn_53 rfl ?_
      have hb10 := isB_59 (i := l3) (by omega) (by omega)
      refine z_aaldB (M := M_X9_goOn) 54 dX9_goOn_54 o_59 (by omega) (by omega) (g_59 G (by omega)) ?_
      refine z_getIG (M := M_X9_goOn) 55 dX9_goOn_55 f_X9_134 (oB hb10) (by decide) (gB hb10 G) (fun x11 ex11 ax11 bx11 => ?_)
      refine z_vV (M := M_X9_goOn) 58 dX9_goOn_58 t_X2_put l_X9_125 (m_rr_of rfl) (rest := []) (c_X2_put2 h (77 + (l3).toNat) x7 x9 x11 hb5 G ⟨by omega, by omega⟩) (oB hb5) rfl rfl rfl (Nat.le_of_ble_eq_true rfl) ⟨rfl, rfl⟩ (fun h1 qx12 => ?_)
      obtain ⟨G1, S1, B1⟩ := qx12
      have R1 := R.call S1 (by decide +kernel)
      refine z_iconst (M := M_X9_goOn) 61 dX9_goOn_61 ?_
      refine z_istore (M := M_X9_goOn) 62 dX9_goOn_62 (ls' := [some (mR 38), some (mR 59), some (mR 76), some (mI l3), some (mI x2), some (mI x3), some (mI 0), none, none]) (by decide) rfl ?_
      exact z_mask [true, true, true, true, true, true, true, false, false] rfl (ih.2 l3 x2 x3 0 h1 G1 R1 (by omega) (by omega) (by omega) (by omega) (by omega) (by omega) (by omega) (by omega) (go_first i0 (by decide) (by omega) (by omega) ex2 ex3 c4 ex7 ex9 ex11 B1) (by omega))
    · refine z_aload_n (M := M_X9_goOn) 25 dX9_goOn_25 rfl ?_
      refine z_iload_n (M := M_X9_goOn) 26 dX9_goOn_26 rfl ?_
      have hb13 := isB_76 (i := l3) (by omega) (by omega)
      refine z_aaldB (M := M_X9_goOn) 27 dX9_goOn_27 o_76 (by omega) (by omega) (g_76 G (by omega)) ?_
      refine z_lconst (M := M_X9_goOn) 28 dX9_goOn_28 (v := 1) ?_
      refine z_lconst (M := M_X9_goOn) 29 dX9_goOn_29 (v := 1) ?_
      refine z_iconst (M := M_X9_goOn) 30 dX9_goOn_30 ?_
      refine z_vV (M := M_X9_goOn) 31 dX9_goOn_31 t_X2_put l_X9_125 (m_rr_of rfl) (rest := []) (c_X2_put2 h (77 + (l3).toNat) 1 1 0 hb13 G ⟨by omega, by omega⟩) (oB hb13) rfl rfl rfl (Nat.le_of_ble_eq_true rfl) ⟨rfl, rfl⟩ (fun h2 qx14 => ?_)
      obtain ⟨G2, S2, B2⟩ := qx14
      have R2 := R.call S2 (by decide +kernel)
      refine z_goto (M := M_X9_goOn) 34 dX9_goOn_34 184 rfl ?_
      refine z_iincN (M := M_X9_goOn) 184 dX9_goOn_184 (ls' := [some (mR 38), some (mR 59), some (mR 76), some (mI (l3 + 1)), some (mI x2), some (mI x3), none, none, none]) (by decide) rfl (by (unfold m_32; decide)) (by omega) (by omega) rfl ?_
      refine z_goto (M := M_X9_goOn) 187 dX9_goOn_187 2 rfl ?_
      exact z_mask [true, true, true, true, false, false, false, false, false] rfl (ih.1 (l3 + 1) h2 G2 R2 (by omega) (by omega) (go_same i0 (by omega) (by omega) (by omega) B2) (by omega))
set_option maxHeartbeats 4000000 in
set_option maxRecDepth 100000 in
theorem s_X9_goOn_59x_64 (h0 : m_H) (G0 : GI h0) (hs : ∀ p : Nat, p < 16 → pBb 200 (bd h0 (43 + p))) (hw : ∀ p : Nat, p < 16 → pBb 40000 (bd h0 (60 + p))) (n : Nat) (ih : q_X9_goOn_59x h0 n) : ∀ (l3 l4 l5 l6 : Int) (h : m_H), GI h → FR (csB ++ []) [] h0 h → 0 ≤ l3 → l3 ≤ 15 → 0 ≤ l4 → l4 ≤ 3 → 0 ≤ l5 → l5 ≤ 3 → 0 ≤ l6 → l6 ≤ 4 → (goJ 60 77 l3 l4 l5 l6 h0 h) → 13 * (16 - l3) + 2 * (4 - l6) + (1) ≤ ((n + 1 : Nat) : Int) → m_Z oF M_X9_goOn 64 [some (mR 38), some (mR 59), some (mR 76), some (mI l3), some (mI l4), some (mI l5), some (mI l6), none, none] [] h (m_QV (P_X9_goOn_59x h0)) := by
  intro l3 l4 l5 l6 h G R v0 v1 v2 v3 v4 v5 v6 v7 i0 hr
  have gb_ := goP_b (a := 12 + l4.toNat) (b := 12 + l5.toNat) (B := 8000000) (wyH_b hw) (wyH_b hs) (by decide) (by decide) l6.toNat (by omega)
  rw [← i0.2.2] at gb_
  have gc_ := pBb_at gb_ (by decide)
  refine z_iload (M := M_X9_goOn) 64 dX9_goOn_64 rfl ?_
  refine z_iconst (M := M_X9_goOn) 66 dX9_goOn_66 ?_
  refine z_icmp_ge (M := M_X9_goOn) 67 dX9_goOn_67 184 rfl (fun c1 => ?_) (fun c1 => ?_)
  · refine z_iincN (M := M_X9_goOn) 184 dX9_goOn_184 (ls' := [some (mR 38), some (mR 59), some (mR 76), some (mI (l3 + 1)), some (mI l4), some (mI l5), some (mI l6), none, none]) (by decide) rfl (by (unfold m_32; decide)) (by omega) (by omega) rfl ?_
    refine z_goto (M := M_X9_goOn) 187 dX9_goOn_187 2 rfl ?_
    exact z_mask [true, true, true, true, false, false, false, false, false] rfl (ih.1 (l3 + 1) h G R (by omega) (by omega) (go_end i0 (by omega) (by omega) (by omega)) (by omega))
  · refine z_aload_n (M := M_X9_goOn) 70 dX9_goOn_70 rfl ?_
    refine z_iload (M := M_X9_goOn) 71 dX9_goOn_71 rfl ?_
    refine z_iconst (M := M_X9_goOn) 73 dX9_goOn_73 ?_
    refine z_imulN (M := M_X9_goOn) 74 dX9_goOn_74 (by omega) (by omega) ?_
    refine z_iload (M := M_X9_goOn) 75 dX9_goOn_75 rfl ?_
    refine z_iaddN (M := M_X9_goOn) 77 dX9_goOn_77 (by omega) (by omega) ?_
    have hb2 := isB_59 (i := ((l4 * 4) + l6)) (by omega) (by omega)
    refine z_aaldB (M := M_X9_goOn) 78 dX9_goOn_78 o_59 (by omega) (by omega) (g_59 G (by omega)) ?_
    refine z_astore (M := M_X9_goOn) 79 dX9_goOn_79 (ls' := [some (mR 38), some (mR 59), some (mR 76), some (mI l3), some (mI l4), some (mI l5), some (mI l6), some (mR (60 + (((l4 * 4) + l6)).toNat)), none]) (by decide) rfl ?_
    refine z_aload_n (M := M_X9_goOn) 81 dX9_goOn_81 rfl ?_
    refine z_getR (M := M_X9_goOn) 82 dX9_goOn_82 f_X9_26 o_38 rfl (g_38_3 G) ?_
    refine z_iload (M := M_X9_goOn) 85 dX9_goOn_85 rfl ?_
    refine z_iconst (M := M_X9_goOn) 87 dX9_goOn_87 ?_
    refine z_imulN (M := M_X9_goOn) 88 dX9_goOn_88 (by omega) (by omega) ?_
    refine z_iload (M := M_X9_goOn) 89 dX9_goOn_89 rfl ?_
    refine z_iaddN (M := M_X9_goOn) 91 dX9_goOn_91 (by omega) (by omega) ?_
    have hb3 := isB_42 (i := ((l6 * 4) + l5)) (by omega) (by omega)
    refine z_aaldB (M := M_X9_goOn) 92 dX9_goOn_92 o_42 (by omega) (by omega) (g_42 G (by omega)) ?_
    refine z_astore (M := M_X9_goOn) 93 dX9_goOn_93 (ls' := [some (mR 38), some (mR 59), some (mR 76), some (mI l3), some (mI l4), some (mI l5), some (mI l6), some (mR (60 + (((l4 * 4) + l6)).toNat)), some (mR (43 + (((l6 * 4) + l5)).toNat))]) (by decide) rfl ?_
    refine z_iload (M := M_X9_goOn) 95 dX9_goOn_95 rfl ?_
    refine z_iload (M := M_X9_goOn) 97 dX9_goOn_97 rfl ?_
    refine z_icmp_eq (M := M_X9_goOn) 99 dX9_goOn_99 178 rfl (fun c4 => ?_) (fun c4 => ?_)
    · refine z_iincN (M := M_X9_goOn) 178 dX9_goOn_178 (ls' := [some (mR 38), some (mR 59), some (mR 76), some (mI l3), some (mI l4), some (mI l5), some (mI (l6 + 1)), some (mR (60 + (((l4 * 4) + l6)).toNat)), some (mR (43 + (((l6 * 4) + l5)).toNat))]) (by decide) rfl (by (unfold m_32; decide)) (by omega) (by omega) rfl ?_
      refine z_goto (M := M_X9_goOn) 181 dX9_goOn_181 64 rfl ?_
      exact z_mask [true, true, true, true, true, true, true, false, false] rfl (ih.2 l3 l4 l5 (l6 + 1) h G R (by omega) (by omega) (by omega) (by omega) (by omega) (by omega) (by omega) (by omega) (go_skip i0 (by omega) (by omega) (by omega) (by omega) (by omega) (by omega) (by decide) (by decide) (Or.inl (by omega))) (by omega))
    · refine z_iload (M := M_X9_goOn) 102 dX9_goOn_102 rfl ?_
      refine z_iload (M := M_X9_goOn) 104 dX9_goOn_104 rfl ?_
      refine z_icmp_eq (M := M_X9_goOn) 106 dX9_goOn_106 178 rfl (fun c5 => ?_) (fun c5 => ?_)
      · refine z_iincN (M := M_X9_goOn) 178 dX9_goOn_178 (ls' := [some (mR 38), some (mR 59), some (mR 76), some (mI l3), some (mI l4), some (mI l5), some (mI (l6 + 1)), some (mR (60 + (((l4 * 4) + l6)).toNat)), some (mR (43 + (((l6 * 4) + l5)).toNat))]) (by decide) rfl (by (unfold m_32; decide)) (by omega) (by omega) rfl ?_
        refine z_goto (M := M_X9_goOn) 181 dX9_goOn_181 64 rfl ?_
        exact z_mask [true, true, true, true, true, true, true, false, false] rfl (ih.2 l3 l4 l5 (l6 + 1) h G R (by omega) (by omega) (by omega) (by omega) (by omega) (by omega) (by omega) (by omega) (go_skip i0 (by omega) (by omega) (by omega) (by omega) (by omega) (by omega) (by decide) (by decide) (Or.inr (Or.inl (by omega)))) (by omega))
      · have bw_ : (0 < h (60 + (l4 * 4 + l6).toNat) 0 ∧ h (60 + (l4 * 4 + l6).toNat) 0 ≤ 40000) ∧ 0 ≤ h (60 + (l4 * 4 + l6).toNat) 1 ∧ h (60 + (l4 * 4 + l6).toNat) 1 ≤ 40000 := (by have z_ := hw (l4 * 4 + l6).toNat (by omega); unfold pBb bd at z_; rw [← i0.2.1.1 (60 + (l4 * 4 + l6).toNat) (by omega)] at z_; exact z_)
        have bs_ : (0 < h (43 + (l6 * 4 + l5).toNat) 0 ∧ h (43 + (l6 * 4 + l5).toNat) 0 ≤ 200) ∧ 0 ≤ h (43 + (l6 * 4 + l5).toNat) 1 ∧ h (43 + (l6 * 4 + l5).toNat) 1 ≤ 200 := (by have z_ := hs (l6 * 4 + l5).toNat (by omega); unfold pBb bd at z_; rw [← i0.2.1.1 (43 + (l6 * 4 + l5).toNat) (by omega)] at z_; exact z_)
        refine z_aload (M := M_X9_goOn) 109 dX9_goOn_109 rfl ?_
        refine z_getJV (M := M_X9_goOn) 111 dX9_goOn_111 f_X9_132 (oB hb2) rfl (fun x6 ex6 => ?_)
        rw [ex6] at bw_
        refine z_lconst (M := M_X9_goOn) 114 dX9_goOn_114 (v := 0) ?_
        refine z_lcmp (M := M_X9_goOn) 115 dX9_goOn_115 ?_
        refine z_if_eq (M := M_X9_goOn) 116 dX9_goOn_116 178 rfl (fun c7 => ?_) (fun c7 => ?_)
        · rw [m_cmp_eq] at c7
          refine z_iincN (M := M_X9_goOn) 178 dX9_goOn_178 (ls' := [some (mR 38), some (mR 59), some (mR 76), some (mI l3), some (mI l4), some (mI l5), some (mI (l6 + 1)), some (mR (60 + (((l4 * 4) + l6)).toNat)), some (mR (43 + (((l6 * 4) + l5)).toNat))]) (by decide) rfl (by (unfold m_32; decide)) (by omega) (by omega) rfl ?_
          refine z_goto (M := M_X9_goOn) 181 dX9_goOn_181 64 rfl ?_
          exact z_mask [true, true, true, true, true, true, true, false, false] rfl (ih.2 l3 l4 l5 (l6 + 1) h G R (by omega) (by omega) (by omega) (by omega) (by omega) (by omega) (by omega) (by omega) (go_skip i0 (by omega) (by omega) (by omega) (by omega) (by omega) (by omega) (by decide) (by decide) (Or.inr (Or.inr (Or.inl (ex6.trans c7))))) (by omega))
        · rw [m_cmp_eq] at c7
          refine z_aload (M := M_X9_goOn) 119 dX9_goOn_119 rfl ?_
          refine z_getJV (M := M_X9_goOn) 121 dX9_goOn_121 f_X9_132 (oB hb3) rfl (fun x8 ex8 => ?_)
          rw [ex8] at bs_
          refine z_lconst (M := M_X9_goOn) 124 dX9_goOn_124 (v := 0) ?_
          refine z_lcmp (M := M_X9_goOn) 125 dX9_goOn_125 ?_
          refine z_if_eq (M := M_X9_goOn) 126 dX9_goOn_126 178 rfl (fun c9 => ?_) (fun c9 => ?_)
          · rw [m_cmp_eq] at c9
            refine z_iincN (M := M_X9_goOn) 178 dX9_goOn_178 (ls' := [some (mR 38), some (mR 59), some (mR 76), some (mI l3), some (mI l4), some (mI l5), some (mI (l6 + 1)), some (mR (60 + (((l4 * 4) + l6)).toNat)), some (mR (43 + (((l6 * 4) + l5)).toNat))]) (by decide) rfl (by (unfold m_32; decide)) (by omega) (by omega) rfl ?_
            refine z_goto (M := M_X9_goOn) 181 dX9_goOn_181 64 rfl ?_
            exact z_mask [true, true, true, true, true, true, true, false, false] rfl (ih.2 l3 l4 l5 (l6 + 1) h G R (by omega) (by omega) (by omega) (by omega) (by omega) (by omega) (by omega) (by omega) (go_skip i0 (by omega) (by omega) (by omega) (by omega) (by omega) (by omega) (by decide) (by decide) (Or.inr (Or.inr (Or.inr (ex8.trans c9))))) (by omega))
          · rw [m_cmp_eq] at c9
            refine z_aload_n (M := M_X9_goOn) 129 dX9_goOn_129 rfl ?_
            refine z_iload_n (M := M_X9_goOn) 130 dX9_goOn_130 rfl ?_
            have hb10 := isB_76 (i := l3) (by omega) (by omega)
            refine z_aaldB (M := M_X9_goOn) 131 dX9_goOn_131 o_76 (by omega) (by omega) (g_76 G (by omega)) ?_
            refine z_aload (M := M_X9_goOn) 132 dX9_goOn_132 rfl ?_
            refine z_getJV (M := M_X9_goOn) 134 dX9_goOn_134 f_X9_128 (oB hb2) rfl (fun x11 ex11 => ?_)
            rw [ex11] at bw_
            refine z_aload (M := M_X9_goOn) 137 dX9_goOn_137 rfl ?_
            refine z_getJV (M := M_X9_goOn) 139 dX9_goOn_139 f_X9_128 (oB hb3) rfl (fun x12 ex12 => ?_)
            rw [ex12] at bs_
            have mx13 := mul_bd (x := x11) (y := x12) (X := 40000) (Y := 200) (by omega) (by omega) (by omega) (by omega)
            refine z_lmulN (M := M_X9_goOn) 142 dX9_goOn_142 (by omega) (by omega) ?_
            refine z_topBJ (lo := 0) (hi := 8000000) ⟨by omega, by omega⟩ (fun x13 ex13 ax13 bx13 => ?_)
            refine z_aload (M := M_X9_goOn) 143 dX9_goOn_143 rfl ?_
            refine z_getJE (M := M_X9_goOn) 145 dX9_goOn_145 f_X9_132 (oB hb2) rfl ex6 ?_
            refine z_aload (M := M_X9_goOn) 148 dX9_goOn_148 rfl ?_
            refine z_getJE (M := M_X9_goOn) 150 dX9_goOn_150 f_X9_132 (oB hb3) rfl ex8 ?_
            have mx14 := mul_bd (x := x6) (y := x8) (X := 40000) (Y := 200) (by omega) (by omega) (by omega) (by omega)
            refine z_lmulN (M := M_X9_goOn) 153 dX9_goOn_153 (by omega) (by omega) ?_
            refine z_topBJ (lo := 0) (hi := 8000000) ⟨by omega, by omega⟩ (fun x14 ex14 ax14 bx14 => ?_)
            refine z_aload (M := M_X9_goOn) 154 dX9_goOn_154 rfl ?_
            refine z_getIG (M := M_X9_goOn) 156 dX9_goOn_156 f_X9_134 (oB hb2) (by decide) (gB hb2 G) (fun x15 ex15 ax15 bx15 => ?_)
            refine z_if_ne (M := M_X9_goOn) 159 dX9_goOn_159 170 rfl (fun c16 => ?_) (fun c16 => ?_)
            · refine z_iconst (M := M_X9_goOn) 170 dX9_goOn_170 ?_
              refine z_goto (M := M_X9_goOn) 171 dX9_goOn_171 175 rfl ?_
              refine z_vV (M := M_X9_goOn) 175 dX9_goOn_175 t_X2_lessen l_X9_66 (m_rr_of rfl) (rest := []) (c_X2_lessen2 h (77 + (l3).toNat) x13 x14 1 hb10 G ⟨by omega, by omega⟩ gc_.1 gc_.2 ⟨by omega, by omega⟩ ⟨by omega, by omega⟩) (oB hb10) rfl rfl rfl (Nat.le_of_ble_eq_true rfl) ⟨rfl, rfl⟩ (fun h1 qx17 => ?_)
              obtain ⟨G1, S1, B1⟩ := qx17
              have R1 := R.call S1 (by decide +kernel)
              refine z_iincN (M := M_X9_goOn) 178 dX9_goOn_178 (ls' := [some (mR 38), some (mR 59), some (mR 76), some (mI l3), some (mI l4), some (mI l5), some (mI (l6 + 1)), some (mR (60 + (((l4 * 4) + l6)).toNat)), some (mR (43 + (((l6 * 4) + l5)).toNat))]) (by decide) rfl (by (unfold m_32; decide)) (by omega) (by omega) rfl ?_
              refine z_goto (M := M_X9_goOn) 181 dX9_goOn_181 64 rfl ?_
              exact z_mask [true, true, true, true, true, true, true, false, false] rfl (ih.2 l3 l4 l5 (l6 + 1) h1 G1 R1 (by omega) (by omega) (by omega) (by omega) (by omega) (by omega) (by omega) (by omega) (go_take i0 (by omega) (by omega) (by omega) (by omega) (by omega) (by omega) (by omega) (by omega) (by decide) (by decide) (by omega) (by omega) ex6 c7 ex8 c9 ex11 ex12 ex13 ex14 ex15 rfl (if_pos (Or.inl (by omega))) B1) (by omega))
            · refine z_aload (M := M_X9_goOn) 162 dX9_goOn_162 rfl ?_
              refine z_getIG (M := M_X9_goOn) 164 dX9_goOn_164 f_X9_134 (oB hb3) (by decide) (gB hb3 G) (fun x18 ex18 ax18 bx18 => ?_)
              refine z_if_eq (M := M_X9_goOn) 167 dX9_goOn_167 174 rfl (fun c19 => ?_) (fun c19 => ?_)
              · refine z_iconst (M := M_X9_goOn) 174 dX9_goOn_174 ?_
                refine z_vV (M := M_X9_goOn) 175 dX9_goOn_175 t_X2_lessen l_X9_66 (m_rr_of rfl) (rest := []) (c_X2_lessen2 h (77 + (l3).toNat) x13 x14 0 hb10 G ⟨by omega, by omega⟩ gc_.1 gc_.2 ⟨by omega, by omega⟩ ⟨by omega, by omega⟩) (oB hb10) rfl rfl rfl (Nat.le_of_ble_eq_true rfl) ⟨rfl, rfl⟩ (fun h2 qx20 => ?_)
                obtain ⟨G2, S2, B2⟩ := qx20
                have R2 := R.call S2 (by decide +kernel)
                refine z_iincN (M := M_X9_goOn) 178 dX9_goOn_178 (ls' := [some (mR 38), some (mR 59), some (mR 76), some (mI l3), some (mI l4), some (mI l5), some (mI (l6 + 1)), some (mR (60 + (((l4 * 4) + l6)).toNat)), some (mR (43 + (((l6 * 4) + l5)).toNat))]) (by decide) rfl (by (unfold m_32; decide)) (by omega) (by omega) rfl ?_
                refine z_goto (M := M_X9_goOn) 181 dX9_goOn_181 64 rfl ?_
                exact z_mask [true, true, true, true, true, true, true, false, false] rfl (ih.2 l3 l4 l5 (l6 + 1) h2 G2 R2 (by omega) (by omega) (by omega) (by omega) (by omega) (by omega) (by omega) (by omega) (go_take i0 (by omega) (by omega) (by omega) (by omega) (by omega) (by omega) (by omega) (by omega) (by decide) (by decide) (by omega) (by omega) ex6 c7 ex8 c9 ex11 ex12 ex13 ex14 ex15 ex18 (if_neg (by omega)) B2) (by omega))
              · refine z_iconst (M := M_X9_goOn) 170 dX9_goOn_170 ?_
                refine z_goto (M := M_X9_goOn) 171 dX9_goOn_171 175 rfl ?_
                refine z_vV (M := M_X9_goOn) 175 dX9_goOn_175 t_X2_lessen l_X9_66 (m_rr_of rfl) (rest := []) (c_X2_lessen2 h (77 + (l3).toNat) x13 x14 1 hb10 G ⟨by omega, by omega⟩ gc_.1 gc_.2 ⟨by omega, by omega⟩ ⟨by omega, by omega⟩) (oB hb10) rfl rfl rfl (Nat.le_of_ble_eq_true rfl) ⟨rfl, rfl⟩ (fun h3 qx21 => ?_)
                obtain ⟨G3, S3, B3⟩ := qx21
                have R3 := R.call S3 (by decide +kernel)
                refine z_iincN (M := M_X9_goOn) 178 dX9_goOn_178 (ls' := [some (mR 38), some (mR 59), some (mR 76), some (mI l3), some (mI l4), some (mI l5), some (mI (l6 + 1)), some (mR (60 + (((l4 * 4) + l6)).toNat)), some (mR (43 + (((l6 * 4) + l5)).toNat))]) (by decide) rfl (by (unfold m_32; decide)) (by omega) (by omega) rfl ?_
                refine z_goto (M := M_X9_goOn) 181 dX9_goOn_181 64 rfl ?_
                exact z_mask [true, true, true, true, true, true, true, false, false] rfl (ih.2 l3 l4 l5 (l6 + 1) h3 G3 R3 (by omega) (by omega) (by omega) (by omega) (by omega) (by omega) (by omega) (by omega) (go_take i0 (by omega) (by omega) (by omega) (by omega) (by omega) (by omega) (by omega) (by omega) (by decide) (by decide) (by omega) (by omega) ex6 c7 ex8 c9 ex11 ex12 ex13 ex14 ex15 ex18 (if_pos (Or.inr (by omega))) B3) (by omega))
theorem a_X9_goOn_59x (h0 : m_H) (G0 : GI h0) (hs : ∀ p : Nat, p < 16 → pBb 200 (bd h0 (43 + p))) (hw : ∀ p : Nat, p < 16 → pBb 40000 (bd h0 (60 + p))) : ∀ n, q_X9_goOn_59x h0 n := by
  intro n
  induction n with
  | zero => unfold q_X9_goOn_59x; refine ⟨?_, ?_⟩ <;> (intros; omega)
  | succ n ih => exact ⟨s_X9_goOn_59x_2 h0 G0 hs hw n ih, s_X9_goOn_59x_64 h0 G0 hs hw n ih⟩
set_option maxHeartbeats 4000000 in
set_option maxRecDepth 100000 in
theorem c_X9_goOn_59x (h0 : m_H) (G0 : GI h0) (hs : ∀ p : Nat, p < 16 → pBb 200 (bd h0 (43 + p))) (hw : ∀ p : Nat, p < 16 → pBb 40000 (bd h0 (60 + p))) : m_CV M_X9_goOn [mR 38, mR 59, mR 76] h0 (P_X9_goOn_59x h0) := by
  refine m_CV_of ⟨by decide, rfl, by simp [m_arg, m_isL, M_X9_goOn], ⟨rfl, rfl⟩, rfl, rfl⟩ (ls := [some (mR 38), some (mR 59), some (mR 76), none, none, none, none, none, none]) rfl ?_
  have ih := a_X9_goOn_59x h0 G0 hs hw 227
  refine z_iconst (M := M_X9_goOn) 0 dX9_goOn_0 ?_
  refine z_istore_n (M := M_X9_goOn) 1 dX9_goOn_1 (ls' := [some (mR 38), some (mR 59), some (mR 76), some (mI 0), none, none, none, none, none]) (by decide) rfl ?_
  exact z_mask [true, true, true, true, false, false, false, false, false] rfl (ih.1 0 h0 G0 (FR.rf (cs := (csB ++ [])) (ss := []) (h := h0)) (by omega) (by omega) ⟨fun _ _ => rfl, fun p hp => by omega⟩ (by omega))
/-! what high and low hold, by the reference's edges -/
def dm (a ao b bo : Int) : Prop := 0 < a ∧ (a < b ∨ (a = b ∧ (bo = 1 → ao = 1)))
theorem lb_dm {a ao b bo P Q : Int} {s : Prop} (d : dm a ao b bo) (hP : 0 < P) (l : lb b 2 bo P Q s) : lb a 2 ao P Q s := by
  refine ⟨⟨d.1, by decide⟩, ?_⟩
  rcases d.2 with z | ⟨z, o⟩
  · have m := Int.mul_lt_mul_of_pos_right z hP
    exact Or.inl (Int.lt_of_lt_of_le m (lb_le l))
  · subst z
    rcases l.2 with y | ⟨y, k⟩
    · exact Or.inl y
    · exact Or.inr ⟨y, fun w => o (k w)⟩
theorem lwV_o {hh ho e o : Int} : lwV hh ho e o = (e, o) ∨ (hh ≠ 0 ∧ lwV hh ho e o = (hh, ho)) := by
  unfold lwV
  by_cases c : hh = 0 ∨ e < hh
  · rw [if_pos c]; exact Or.inl rfl
  · rw [if_neg c]
    by_cases d : e = hh ∧ o = 1
    · rw [if_pos d]; obtain ⟨d1, d2⟩ := d; subst d1; subst d2; exact Or.inl rfl
    · rw [if_neg d]; exact Or.inr ⟨by omega, rfl⟩
theorem lwV_1 {hh ho e o : Int} (h0 : 0 ≤ hh) (he : 0 < e) : dm (lwV hh ho e o).1 (lwV hh ho e o).2 e o := by
  unfold lwV dm
  by_cases c : hh = 0 ∨ e < hh
  · rw [if_pos c]; exact ⟨he, Or.inr ⟨rfl, id⟩⟩
  · rw [if_neg c]
    by_cases d : e = hh ∧ o = 1
    · rw [if_pos d]; exact ⟨by show 0 < hh; omega, Or.inr ⟨d.1.symm, fun _ => rfl⟩⟩
    · rw [if_neg d]
      refine ⟨by show 0 < hh; omega, ?_⟩
      by_cases y : hh < e
      · exact Or.inl y
      · exact Or.inr ⟨by show hh = e; omega, fun z => absurd ⟨by omega, z⟩ d⟩
theorem lwV_2 {hh ho e o : Int} (h0 : 0 < hh) (he : 0 < e) : dm (lwV hh ho e o).1 (lwV hh ho e o).2 hh ho := by
  unfold lwV dm
  by_cases c : hh = 0 ∨ e < hh
  · rw [if_pos c]; exact ⟨he, Or.inl (by show e < hh; omega)⟩
  · rw [if_neg c]
    by_cases d : e = hh ∧ o = 1
    · rw [if_pos d]; exact ⟨h0, Or.inr ⟨rfl, fun _ => rfl⟩⟩
    · rw [if_neg d]; exact ⟨h0, Or.inr ⟨rfl, id⟩⟩
theorem mxI_b {x y : Int} : x ≤ mxI x y ∧ y ≤ mxI x y ∧ (mxI x y = x ∨ mxI x y = y) := by
  unfold mxI; split <;> omega
def tF1 (Ls : List gE) (h : m_H) : Prop := ∀ i k : Nat, i < 12 → k < 4 → h 39 (4 * i + k) ≠ 0 → ∃ w, wk Ls w i (12 + k) ∧ h 39 (4 * i + k) * wp w = 2 * wq w ∧ (h 40 (4 * i + k) = 1 → ws w)
def tF2 (Ls : List gE) (h : m_H) : Prop := ∀ i k : Nat, i < 12 → k < 4 → h 41 (4 * i + k) ≠ 0 → ∃ w, wk Ls w (12 + k) i ∧ h 41 (4 * i + k) * wq w = 2 * wp w
def tF3 (D : List gE) (h : m_H) : Prop := ∀ q ∈ D, ∀ k : Nat, k < 4 → q.1.1 < 12 → q.1.2 = 12 + k → lb (h 39 (4 * q.1.1 + k)) 2 (h 40 (4 * q.1.1 + k)) q.2.1 q.2.2.1 (q.2.2.2 = 1)
def tF4 (D : List gE) (h : m_H) : Prop := ∀ q ∈ D, ∀ k : Nat, k < 4 → q.1.1 = 12 + k → q.1.2 < 12 → 2 * q.2.1 ≤ h 41 (4 * q.1.2 + k) * q.2.2.1
def TI (Ls D : List gE) (h : m_H) : Prop := bkH h ∧ tF1 Ls h ∧ tF2 Ls h ∧ tF3 D h ∧ tF4 D h
theorem TI_c {Ls D : List gE} {h h' : m_H} (T : TI Ls D h) (e9 : h' 39 = h 39) (e0 : h' 40 = h 40) (e1 : h' 41 = h 41) : TI Ls D h' := by
  obtain ⟨a, b, c, d, e⟩ := T
  refine ⟨fun j hj => ?_, fun i k h1 h2 h3 => ?_, fun i k h1 h2 h3 => ?_, fun q hq k h1 h2 h3 => ?_, fun q hq k h1 h2 h3 => ?_⟩
  · rw [e9, e1]; exact a j hj
  · rw [e9] at h3 ⊢; rw [e0]; exact b i k h1 h2 h3
  · rw [e1] at h3 ⊢; exact c i k h1 h2 h3
  · rw [e9, e0]; exact d q hq k h1 h2 h3
  · rw [e1]; exact e q hq k h1 h2 h3
theorem TI_0 {Ls : List gE} {h : m_H} (h9 : ∀ j : Nat, j < 48 → h 39 j = 0) (h1 : ∀ j : Nat, j < 48 → h 41 j = 0) : TI Ls [] h :=
  ⟨fun j hj => by rw [h9 j hj, h1 j hj]; omega, fun i k a b c => absurd (h9 _ (by omega)) c, fun i k a b c => absurd (h1 _ (by omega)) c, fun q hq => (by cases hq), fun q hq => (by cases hq)⟩
theorem TI_tie {Ls D : List gE} {h h' : m_H} {i k : Nat} {E o lo P1 Q1 P2 Q2 op : Int} (T : TI Ls D h) (hD : ∀ q ∈ D, 0 < q.2.1 ∧ 0 < q.2.2.1) (hi : i < 12) (hk : k < 4) (V : tiV (4 * i + k) E o lo h h') (m1 : ((12 + k, i), (P1, Q1, 0)) ∈ Ls) (m2 : ((i, 12 + k), (P2, Q2, op)) ∈ Ls) (hE : 0 < E ∧ E ≤ 200) (hl : 0 < lo ∧ lo ≤ 200) (pq : (0 < P1 ∧ 0 < Q1) ∧ 0 < P2 ∧ 0 < Q2) (x1 : lo * Q1 = 2 * P1) (x2 : E * P2 = 2 * Q2) (xo : o = 1 ↔ op = 1) : TI Ls (D ++ [((12 + k, i), (P1, Q1, 0)), ((i, 12 + k), (P2, Q2, op))]) h' := by
  obtain ⟨a, b, c, d, e⟩ := T
  obtain ⟨v1, v2, v3, v4⟩ := V
  have f3 : h' 39 (4 * i + k) = (lwV (h 39 (4 * i + k)) (h 40 (4 * i + k)) E o).1 := congrArg Prod.fst v3
  have f4 : h' 40 (4 * i + k) = (lwV (h 39 (4 * i + k)) (h 40 (4 * i + k)) E o).2 := congrArg Prod.snd v3
  have ap := a (4 * i + k) (by omega)
  have or_ := lwV_o (hh := h 39 (4 * i + k)) (ho := h 40 (4 * i + k)) (e := E) (o := o)
  have mx := mxI_b (x := h 41 (4 * i + k)) (y := lo)
  refine ⟨fun j hj => ?_, fun i' k' h1 h2 h3 => ?_, fun i' k' h1 h2 h3 => ?_, fun q hq k' h1 h2 h3 => ?_, fun q hq k' h1 h2 h3 => ?_⟩
  · by_cases g : j = 4 * i + k
    · subst g
      rw [f3, v4]
      rcases or_ with z | ⟨_, z⟩
      · rw [z]; exact ⟨⟨Int.le_of_lt hE.1, hE.2⟩, by omega, by omega⟩
      · rw [z]; exact ⟨ap.1, by omega, by omega⟩
    · rw [(v2 j g).1, (v2 j g).2.2]; exact a j hj
  · by_cases g : 4 * i' + k' = 4 * i + k
    · have gi : i' = i := by omega
      have gk : k' = k := by omega
      subst gi; subst gk
      rw [f3] at h3 ⊢
      rw [f4]
      rcases or_ with z | ⟨n, z⟩
      · rw [z]
        refine ⟨[((i', 12 + k'), (P2, Q2, op))], ⟨⟨m2, rfl⟩, rfl, by show 12 + k' < 16; omega⟩, ?_, fun w => Or.inl (xo.mp w)⟩
        show E * (P2 * 1) = 2 * (Q2 * 1)
        rw [Int.mul_one, Int.mul_one]; exact x2
      · rw [z]; exact b i' k' h1 h2 n
    · rw [(v2 _ g).1] at h3 ⊢; rw [(v2 _ g).2.1]; exact b i' k' h1 h2 h3
  · by_cases g : 4 * i' + k' = 4 * i + k
    · have gi : i' = i := by omega
      have gk : k' = k := by omega
      subst gi; subst gk
      rw [v4] at h3 ⊢
      rcases mx.2.2 with z | z
      · rw [z] at h3 ⊢; exact c i' k' h1 h2 h3
      · rw [z]
        refine ⟨[((12 + k', i'), (P1, Q1, 0))], ⟨⟨m1, rfl⟩, rfl, by show i' < 16; omega⟩, ?_⟩
        show lo * (Q1 * 1) = 2 * (P1 * 1)
        rw [Int.mul_one, Int.mul_one]; exact x1
    · rw [(v2 _ g).2.2] at h3 ⊢; exact c i' k' h1 h2 h3
  · rcases List.mem_append.mp hq with hq | hq
    · have z := d q hq k' h1 h2 h3
      by_cases g : 4 * q.1.1 + k' = 4 * i + k
      · rw [g] at z ⊢
        rw [f3, f4]
        exact lb_dm (lwV_2 z.1.1 hE.1) (hD q hq).1 z
      · rw [(v2 _ g).1, (v2 _ g).2.1]; exact z
    · rcases List.mem_cons.mp hq with rfl | hq
      · exact absurd h2 (by show ¬ 12 + k < 12; omega)
      · rcases List.mem_cons.mp hq with rfl | hq
        · have gk : k' = k := by have z : 12 + k = 12 + k' := h3; omega
          subst gk
          show lb (h' 39 (4 * i + k')) 2 (h' 40 (4 * i + k')) P2 Q2 (op = 1)
          rw [f3, f4]
          refine lb_dm (lwV_1 ap.1.1 hE.1) pq.2.1 ⟨⟨hE.1, by decide⟩, Or.inr ⟨x2, fun w => xo.mpr w⟩⟩
        · cases hq
  · rcases List.mem_append.mp hq with hq | hq
    · have z := e q hq k' h1 h2 h3
      by_cases g : 4 * q.1.2 + k' = 4 * i + k
      · rw [g] at z ⊢
        rw [v4]
        have m := Int.mul_le_mul_of_nonneg_right mx.1 (Int.le_of_lt (hD q hq).2)
        omega
      · rw [(v2 _ g).2.2]; exact z
    · rcases List.mem_cons.mp hq with rfl | hq
      · have gk : k' = k := by have z : 12 + k = 12 + k' := h2; omega
        subst gk
        show 2 * P1 ≤ h' 41 (4 * i + k') * Q1
        rw [v4]
        have m := Int.mul_le_mul_of_nonneg_right mx.2.1 (Int.le_of_lt pq.1.2)
        omega
      · rcases List.mem_cons.mp hq with rfl | hq
        · exact absurd h3 (by show ¬ 12 + k < 12; omega)
        · cases hq
/-- cuts -/
def cI (C : Nat → Int) (n : Nat) (h : m_H) : Prop := ∀ t k : Nat, t < n → C t ≠ -1 → k < 4 → (h 39 (4 * t + k) ≠ 0 → dm (h 39 (4 * (t + 6) + k)) (h 40 (4 * (t + 6) + k)) (h 39 (4 * t + k)) (h 40 (4 * t + k))) ∧ h 41 (4 * (t + 6) + k) ≤ h 41 (4 * t + k)
theorem cI_c {C : Nat → Int} {n : Nat} {h h' : m_H} (T : cI C n h) (e9 : h' 39 = h 39) (e0 : h' 40 = h 40) (e1 : h' 41 = h 41) : cI C n h' := fun t k a b c => by
  rw [e9, e0, e1]; exact T t k a b c
theorem cu_at {t : Nat} {h h' : m_H} (V : cuI (t : Int) 4 h h') (j : Nat) : (¬ (4 * t + 24 ≤ j ∧ j < 4 * t + 28) → h' 39 j = h 39 j ∧ h' 40 j = h 40 j) ∧ (¬ (4 * t ≤ j ∧ j < 4 * t + 4) → h' 41 j = h 41 j) := by
  obtain ⟨z1, z2⟩ := V.2 j
  refine ⟨fun g => ?_, fun g => ?_⟩
  · rw [if_neg (fun y => g (by omega))] at z1
    exact ⟨congrArg Prod.fst z1, congrArg Prod.snd z1⟩
  · rw [if_neg (fun y => g (by omega))] at z2; exact z2
theorem cu_rest {t k : Nat} {h h' : m_H} (V : cuI (t : Int) 4 h h') (hk : k < 4) : (h 39 (4 * t + k) = 0 → h' 39 (4 * (t + 6) + k) = h 39 (4 * (t + 6) + k) ∧ h' 40 (4 * (t + 6) + k) = h 40 (4 * (t + 6) + k)) ∧ (h 39 (4 * t + k) ≠ 0 → h' 39 (4 * (t + 6) + k) = (lwV (h 39 (4 * (t + 6) + k)) (h 40 (4 * (t + 6) + k)) (h 39 (4 * t + k)) (h 40 (4 * t + k))).1 ∧ h' 40 (4 * (t + 6) + k) = (lwV (h 39 (4 * (t + 6) + k)) (h 40 (4 * (t + 6) + k)) (h 39 (4 * t + k)) (h 40 (4 * t + k))).2) ∧ h' 41 (4 * t + k) = mxI (h 41 (4 * t + k)) (h 41 (4 * (t + 6) + k)) := by
  have z1 := (V.2 (4 * (t + 6) + k)).1
  have z2 := (V.2 (4 * t + k)).2
  have e : 4 * (t + 6) + k - 24 = 4 * t + k := by omega
  have e2 : 4 * t + k + 24 = 4 * (t + 6) + k := by omega
  rw [e] at z1
  rw [if_pos (by omega), e2] at z2
  refine ⟨fun g => ?_, fun g => ?_, z2⟩
  · rw [if_neg (fun y => y.2.2 g)] at z1
    exact ⟨congrArg Prod.fst z1, congrArg Prod.snd z1⟩
  · rw [if_pos ⟨by omega, by omega, g⟩] at z1
    exact ⟨congrArg Prod.fst z1, congrArg Prod.snd z1⟩
theorem cI_cut {C : Nat → Int} {t : Nat} {h h' : m_H} (I : cI C t h) (a : bkH h) (ht : t < 6) (V : cuI (t : Int) 4 h h') : cI C (t + 1) h' := fun s k hs hC hk => by
  by_cases g : s = t
  · subst g
    obtain ⟨r1, r2, r3⟩ := cu_rest V hk
    have w := (cu_at V (4 * s + k)).1 (by omega)
    have l := (cu_at V (4 * (s + 6) + k)).2 (by omega)
    refine ⟨fun n => ?_, ?_⟩
    · rw [w.1] at n ⊢
      rw [w.2, (r2 n).1, (r2 n).2]
      have a1 := a (4 * s + k) (by omega)
      have a2 := a (4 * (s + 6) + k) (by omega)
      exact lwV_1 a2.1.1 (by omega)
    · rw [l, r3]; exact mxI_b.2.1
  · have i := I s k (by omega) hC hk
    have w := (cu_at V (4 * s + k)).1 (by omega)
    have w2 := (cu_at V (4 * (s + 6) + k)).1 (by omega)
    have l := (cu_at V (4 * (s + 6) + k)).2 (by omega)
    have l2 := (cu_at V (4 * s + k)).2 (by omega)
    rw [w.1, w.2, w2.1, w2.2, l, l2]; exact i
theorem TI_cut {Ls D : List gE} {t : Nat} {h h' : m_H} (T : TI Ls D h) (hD : ∀ q ∈ D, 0 < q.2.1 ∧ 0 < q.2.2.1) (ht : t < 6) (m : ((6 + t, t), ((1 : Int), (1 : Int), (0 : Int))) ∈ Ls) (V : cuI (t : Int) 4 h h') : TI Ls D h' := by
  obtain ⟨a, b, c, d, e⟩ := T
  -- every place: as it was, or the rest's, or the whole's
  have hi : ∀ i k : Nat, i < 12 → k < 4 → (h' 39 (4 * i + k) = h 39 (4 * i + k) ∧ h' 40 (4 * i + k) = h 40 (4 * i + k)) ∨ (i = t + 6 ∧ h 39 (4 * t + k) ≠ 0 ∧ h' 39 (4 * i + k) = (lwV (h 39 (4 * i + k)) (h 40 (4 * i + k)) (h 39 (4 * t + k)) (h 40 (4 * t + k))).1 ∧ h' 40 (4 * i + k) = (lwV (h 39 (4 * i + k)) (h 40 (4 * i + k)) (h 39 (4 * t + k)) (h 40 (4 * t + k))).2) := fun i k h1 h2 => by
    by_cases g : i = t + 6
    · subst g
      obtain ⟨r1, r2, r3⟩ := cu_rest V h2
      by_cases n : h 39 (4 * t + k) = 0
      · exact Or.inl (r1 n)
      · exact Or.inr ⟨rfl, n, r2 n⟩
    · exact Or.inl ((cu_at V _).1 (by omega))
  have lo : ∀ i k : Nat, i < 12 → k < 4 → h' 41 (4 * i + k) = h 41 (4 * i + k) ∨ (i = t ∧ h' 41 (4 * i + k) = mxI (h 41 (4 * i + k)) (h 41 (4 * (i + 6) + k))) := fun i k h1 h2 => by
    by_cases g : i = t
    · subst g; exact Or.inr ⟨rfl, (cu_rest V h2).2.2⟩
    · exact Or.inl ((cu_at V _).2 (by omega))
  refine ⟨fun j hj => ?_, fun i k h1 h2 h3 => ?_, fun i k h1 h2 h3 => ?_, fun q hq k h1 h2 h3 => ?_, fun q hq k h1 h2 h3 => ?_⟩
  · obtain ⟨i, k, ei, ek, ej⟩ : ∃ i k : Nat, i < 12 ∧ k < 4 ∧ j = 4 * i + k := ⟨j / 4, j % 4, by omega, by omega, by omega⟩
    subst ej
    have aj := a (4 * i + k) hj
    constructor
    · rcases hi i k ei ek with z | ⟨g, n, z, _⟩
      · rw [z.1]; exact aj.1
      · have at_ := a (4 * t + k) (by omega)
        rw [z]
        rcases lwV_o (hh := h 39 (4 * i + k)) (ho := h 40 (4 * i + k)) (e := h 39 (4 * t + k)) (o := h 40 (4 * t + k)) with y | ⟨_, y⟩
        · rw [y]; exact at_.1
        · rw [y]; exact aj.1
    · rcases lo i k ei ek with z | ⟨g, z⟩
      · rw [z]; exact aj.2
      · have a6 := a (4 * (i + 6) + k) (by omega)
        rw [z]
        have mx := mxI_b (x := h 41 (4 * i + k)) (y := h 41 (4 * (i + 6) + k))
        omega
  · rcases hi i k h1 h2 with z | ⟨g, n, z, z2⟩
    · rw [z.1] at h3 ⊢; rw [z.2]; exact b i k h1 h2 h3
    · rw [z, z2]
      rcases lwV_o (hh := h 39 (4 * i + k)) (ho := h 40 (4 * i + k)) (e := h 39 (4 * t + k)) (o := h 40 (4 * t + k)) with y | ⟨n2, y⟩
      · rw [y]
        obtain ⟨w, w1, w2, w3⟩ := b t k (by omega) h2 n
        refine ⟨((6 + t, t), (1, 1, 0)) :: w, ⟨⟨m, by show 6 + t = i; omega⟩, w1⟩, ?_, fun o => Or.inr (w3 o)⟩
        show h 39 (4 * t + k) * (1 * wp w) = 2 * (1 * wq w)
        rw [Int.one_mul, Int.one_mul]; exact w2
      · rw [y]; exact b i k h1 h2 n2
  · rcases lo i k h1 h2 with z | ⟨g, z⟩
    · rw [z] at h3 ⊢; exact c i k h1 h2 h3
    · rw [z] at h3 ⊢
      rcases (mxI_b (x := h 41 (4 * i + k)) (y := h 41 (4 * (i + 6) + k))).2.2 with y | y
      · rw [y] at h3 ⊢; exact c i k h1 h2 h3
      · rw [y] at h3 ⊢
        obtain ⟨w, w1, w2⟩ := c (i + 6) k (by omega) h2 h3
        have w1' : wk Ls w (12 + k) (6 + t) := by rw [show 6 + t = i + 6 by omega]; exact w1
        refine ⟨w ++ [((6 + t, t), (1, 1, 0))], wk_app w _ _ _ _ w1' ⟨⟨m, rfl⟩, by show t = i; omega, by show t < 16; omega⟩, ?_⟩
        rw [wq_app, wp_app]
        show h 41 (4 * (i + 6) + k) * (wq w * (1 * 1)) = 2 * (wp w * (1 * 1))
        rw [Int.one_mul, Int.mul_one, Int.mul_one]; exact w2
  · have z := d q hq k h1 h2 h3
    rcases hi q.1.1 k h2 h1 with y | ⟨g, n, y, y2⟩
    · rw [y.1, y.2]; exact z
    · rw [y, y2]
      have at_ := a (4 * t + k) (by omega)
      exact lb_dm (lwV_2 z.1.1 (by omega)) (hD q hq).1 z
  · have z := e q hq k h1 h2 h3
    rcases lo q.1.2 k h3 h1 with y | ⟨g, y⟩
    · rw [y]; exact z
    · rw [y]
      have m := Int.mul_le_mul_of_nonneg_right (mxI_b (x := h 41 (4 * q.1.2 + k)) (y := h 41 (4 * (q.1.2 + 6) + k))).1 (Int.le_of_lt (hD q hq).2)
      omega
/-! steps over lengths: each that stands is a walk, and leaves no more than any -/
def lq (X Y : Int × Int × Int) : Prop := ∀ (P Q : Int) (s : Prop), 0 < P → 0 < Q → lb Y.1 Y.2.1 Y.2.2 P Q s → lb X.1 X.2.1 X.2.2 P Q s
theorem lq_t {X Y Z : Int × Int × Int} (h : lq X Y) (k : lq Y Z) : lq X Z := fun P Q s a b c => h P Q s a b (k P Q s a b c)
theorem lq_l {b c : Int × Int × Int} (hc : 0 < c.1 ∧ 0 < c.2.1) : lq (lsB b c) b := fun _ _ _ a d l => lsB_1 l hc ⟨a, d⟩
theorem lq_r {b c : Int × Int × Int} (hb : 0 < b.1 ∧ 0 ≤ b.2.1) : lq (lsB b c) c := fun _ _ _ a d l => lsB_2 l hb ⟨a, d⟩
def sF1 (Ls : List gE) (h : m_H) : Prop := ∀ a b : Nat, a < 4 → b < 4 → rl Ls (bd h (43 + (4 * a + b))) (12 + a) (12 + b)
def sF2 (n : Nat) (h : m_H) : Prop := ∀ i a b : Nat, i < n → a < 4 → b < 4 → h 41 (4 * i + a) ≠ 0 → h 39 (4 * i + b) ≠ 0 → lq (bd h (43 + (4 * a + b))) (h 39 (4 * i + b), h 41 (4 * i + a), h 40 (4 * i + b))
def sF3 (s : Int) (n : Nat) (h : m_H) : Prop := ∀ p : Nat, p < n → bt s p = true → lq (bd h (43 + p)) (1, 1, 1)
theorem so_at {i a b : Nat} {h h' : m_H} (V : soQ (i : Int) 16 h h') (ha : a < 4) (hb : b < 4) : bd h' (43 + (4 * a + b)) = if h 41 (4 * i + a) ≠ 0 ∧ h 39 (4 * i + b) ≠ 0 then lsB (bd h (43 + (4 * a + b))) (h 39 (4 * i + b), h 41 (4 * i + a), h 40 (4 * i + b)) else bd h (43 + (4 * a + b)) := by
  have z := V.2 (4 * a + b) (by omega)
  rw [if_pos (by omega)] at z
  unfold soW at z
  have e1 : 4 * ((i : Int)).toNat + (4 * a + b) / 4 = 4 * i + a := by omega
  have e2 : 4 * ((i : Int)).toNat + (4 * a + b) % 4 = 4 * i + b := by omega
  rw [e1, e2] at z
  exact z
theorem sF1_so {Ls D : List gE} {i : Nat} {h h' : m_H} (T : TI Ls D h) (S : sF1 Ls h) (hi : i < 12) (V : soQ (i : Int) 16 h h') : sF1 Ls h' := fun a b ha hb => by
  rw [so_at V ha hb]
  by_cases g : h 41 (4 * i + a) ≠ 0 ∧ h 39 (4 * i + b) ≠ 0
  · rw [if_pos g]
    refine rl_ls (S a b ha hb) (fun _ => ?_)
    obtain ⟨w, w1, w2⟩ := T.2.2.1 i a hi ha g.1
    obtain ⟨v, v1, v2, v3⟩ := T.2.1 i b hi hb g.2
    refine ⟨w ++ v, wk_app w v _ _ _ w1 v1, ?_, fun o => (ws_app w v).mpr (Or.inr (v3 o))⟩
    show h 39 (4 * i + b) * wp (w ++ v) = h 41 (4 * i + a) * wq (w ++ v)
    rw [wp_app, wq_app]
    have k1 : 2 * (h 39 (4 * i + b) * (wp w * wp v)) = (h 39 (4 * i + b) * wp v) * (2 * wp w) := by ac_rfl
    have k2 : 2 * (h 41 (4 * i + a) * (wq w * wq v)) = (2 * wq v) * (h 41 (4 * i + a) * wq w) := by ac_rfl
    rw [v2, ← w2] at k1
    omega
  · rw [if_neg g]; exact S a b ha hb
theorem sF2_so {i : Nat} {h h' : m_H} (a_ : bkH h) (k_ : bkS h) (S : sF2 i h) (hi : i < 12) (V : soQ (i : Int) 16 h h') : sF2 (i + 1) h' := fun j a b hj ha hb n1 n2 => by
  have e39 := V.1 39 (by omega)
  have e40 := V.1 40 (by omega)
  have e41 := V.1 41 (by omega)
  rw [e41] at n1 ⊢
  rw [e39] at n2 ⊢
  rw [e40, so_at V ha hb]
  by_cases g : h 41 (4 * i + a) ≠ 0 ∧ h 39 (4 * i + b) ≠ 0
  · rw [if_pos g]
    have y1 := a_ (4 * i + a) (by omega)
    have y2 := a_ (4 * i + b) (by omega)
    by_cases q : j = i
    · subst q
      have z := k_ (4 * a + b) (by omega)
      exact lq_r ⟨z.1.1, z.2.1⟩
    · refine lq_t (lq_l ?_) (S j a b (by omega) ha hb n1 n2)
      show 0 < h 39 (4 * i + b) ∧ 0 < h 41 (4 * i + a)
      omega
  · rw [if_neg g]
    by_cases q : j = i
    · subst q; exact absurd ⟨n1, n2⟩ g
    · exact S j a b (by omega) ha hb n1 n2
/-- a shorter one -/
theorem sF_sh {Ls D : List gE} {s : Int} {p : Nat} {h h' : m_H} (k_ : bkS h) (S1 : sF1 Ls h) (S2 : sF2 12 h) (S3 : sF3 s p h) (hp : p < 16) (hm : ((12 + p / 4, 12 + p % 4), ((1 : Int), (1 : Int), (1 : Int))) ∈ Ls) (B : bN (43 + p) (lsB (bd h (43 + p)) (1, 1, 1)) h h') : bkS h' ∧ sF1 Ls h' ∧ sF2 12 h' ∧ sF3 s (p + 1) h' := by
  have l1 : lq (lsB (bd h (43 + p)) (1, 1, 1)) (bd h (43 + p)) := lq_l ⟨by decide, by decide⟩
  have kp := k_ p hp
  refine ⟨fun q hq => ?_, fun a b ha hb => ?_, fun i a b hi ha hb n1 n2 => ?_, fun q hq hb => ?_⟩
  · by_cases g : q = p
    · subst g; rw [B.2]; exact pBb_ls kp ⟨⟨by decide, by decide⟩, by decide, by decide⟩
    · rw [bd_ne B (by omega)]; exact k_ q hq
  · by_cases g : 4 * a + b = p
    · rw [g, B.2]
      have z := S1 a b ha hb
      rw [g] at z
      refine rl_ls z (fun _ => ⟨[((12 + p / 4, 12 + p % 4), (1, 1, 1))], ⟨⟨hm, by show 12 + p / 4 = 12 + a; omega⟩, by show 12 + p % 4 = 12 + b; omega, by show 12 + p % 4 < 16; omega⟩, rfl, fun _ => Or.inl rfl⟩)
    · rw [bd_ne B (by omega)]; exact S1 a b ha hb
  · have e39 := B.1 39 (by omega)
    have e40 := B.1 40 (by omega)
    have e41 := B.1 41 (by omega)
    rw [e41] at n1 ⊢
    rw [e39] at n2 ⊢
    rw [e40]
    have z := S2 i a b hi ha hb n1 n2
    by_cases g : 4 * a + b = p
    · rw [g] at z ⊢; rw [B.2]; exact lq_t l1 z
    · rw [bd_ne B (by omega)]; exact z
  · by_cases g : q = p
    · subst g; rw [B.2]; exact lq_r ⟨kp.1.1, kp.2.1⟩
    · rw [bd_ne B (by omega)]; exact S3 q (by omega) hb
/-- what the edges are -/
def eCl (D Ls : List gE) (C : Nat → Int) (s : Int) : Prop := ∀ q ∈ Ls, (12 ≤ q.1.1 → 12 ≤ q.1.2 → (q.2.1 = 1 ∧ q.2.2.1 = 1 ∧ q.2.2.2 = 1) ∧ bt s (4 * (q.1.1 - 12) + (q.1.2 - 12)) = true) ∧ (12 ≤ q.1.1 → q.1.2 < 12 → q ∈ D ∧ q.2.2.2 ≠ 1) ∧ (q.1.1 < 12 → 12 ≤ q.1.2 → q ∈ D) ∧ (q.1.1 < 12 → q.1.2 < 12 → (q.1.1 = 6 + q.1.2 ∧ C q.1.2 ≠ -1) ∧ q.2.1 = 1 ∧ q.2.2.1 = 1 ∧ q.2.2.2 ≠ 1)
/-- low and high of one length, together -/
theorem lb_lo {hi ho lo P1 Q1 P2 Q2 : Int} {s : Prop} (l : lb hi 2 ho P2 Q2 s) (k : 2 * P1 ≤ lo * Q1) (p1 : 0 < P1 ∧ 0 < Q1) (p2 : 0 < P2 ∧ 0 < Q2) : lb hi lo ho (P1 * P2) (Q1 * Q2) s ∧ lo ≠ 0 ∧ hi ≠ 0 := by
  have lp : 0 < lo := by
    rcases Int.lt_or_le 0 lo with y | y
    · exact y
    · have := Int.mul_nonpos_of_nonpos_of_nonneg y (Int.le_of_lt p1.2)
      omega
  refine ⟨⟨⟨l.1.1, lp⟩, ?_⟩, by omega, by have := l.1.1; omega⟩
  have m1 := Int.mul_le_mul_of_nonneg_left k (Int.le_of_lt p2.2)
  have b1 : 2 * (hi * (P1 * P2)) = 2 * (hi * P2) * P1 := by ac_rfl
  have b2 : Q2 * (2 * P1) = (2 * Q2) * P1 := by ac_rfl
  have b3 : Q2 * (lo * Q1) = lo * (Q1 * Q2) := by ac_rfl
  rcases l.2 with z | ⟨z, o⟩
  · have m2 := Int.mul_lt_mul_of_pos_right z p1.1
    have b4 : hi * P2 * P1 = hi * (P1 * P2) := by ac_rfl
    left; omega
  · have b4 : hi * P2 * P1 = hi * (P1 * P2) := by ac_rfl
    rw [z] at b4
    rcases Int.lt_or_eq_of_le (show hi * (P1 * P2) ≤ lo * (Q1 * Q2) by omega) with y | y
    · exact Or.inl y
    · exact Or.inr ⟨y, o⟩
/-- the steps leave no more than any step of the edges -/
theorem step_ok {Ls D : List gE} {C : Nat → Int} {s : Int} {h : m_H} (hE : ∀ e ∈ Ls, gEo e) (cl : eCl D Ls C s) (T : TI Ls D h) (c_ : cI C 6 h) (S2 : sF2 12 h) (S3 : sF3 s 16 h) : ∀ e, MF Ls e → lb (wyH 43 h e.1.1 e.1.2).1 (wyH 43 h e.1.1 e.1.2).2.1 (wyH 43 h e.1.1 e.1.2).2.2 e.2.1 e.2.2.1 (e.2.2.2 = 1) := fun e he => by
  obtain ⟨⟨f1, f2⟩, u, ⟨u1, u2, u3⟩, u4, u5, u6⟩ := he
  have pu := wp_pos hE u _ _ u1
  obtain ⟨a, ea, ha⟩ : ∃ a : Nat, e.1.1 = 12 + a ∧ a < 4 := ⟨e.1.1 - 12, by omega, by omega⟩
  obtain ⟨b, eb, hb⟩ : ∃ b : Nat, e.1.2 = 12 + b ∧ b < 4 := ⟨e.1.2 - 12, by omega, by omega⟩
  have ew : wyH 43 h e.1.1 e.1.2 = bd h (43 + (4 * a + b)) := by
    unfold wyH
    rw [ea, eb, show (4 * (12 + a - 12) + (12 + b - 12)) % 16 = 4 * a + b by omega]
  rw [ew, u4, u5]
  refine lb_c (s := ws u) ?_ rfl rfl u6.mp
  rw [ea, eb] at u1
  rw [ea] at u3
  clear u4 u5 u6 ew f1 f2 ea eb
  -- through one length
  have mid : ∀ (q1 q2 : gE) (i : Nat), i < 12 → q1 ∈ Ls → q2 ∈ Ls → q1.1.1 = 12 + a → q1.1.2 < 12 → q2.1.1 = i → q2.1.2 = 12 + b → 2 * q1.2.1 ≤ h 41 (4 * i + a) * q1.2.2.1 → ∀ P Q : Int, ∀ s' : Prop, P = q1.2.1 * q2.2.1 → Q = q1.2.2.1 * q2.2.2.1 → (s' → q2.2.2.2 = 1) → lb (bd h (43 + (4 * a + b))).1 (bd h (43 + (4 * a + b))).2.1 (bd h (43 + (4 * a + b))).2.2 P Q s' := fun q1 q2 i hi m1 m2 x1 x2 x3 x4 k P Q s' eP eQ es => by
    have g1 := hE q1 m1
    have g2 := hE q2 m2
    unfold gEo at g1 g2
    have d2 := (cl q2 m2).2.2.1 (by omega) (by omega)
    have l2 := T.2.2.2.1 q2 d2 b hb (by omega) x4
    rw [x3] at l2
    obtain ⟨l, n1, n2⟩ := lb_lo l2 k ⟨by omega, by omega⟩ ⟨by omega, by omega⟩
    subst eP; subst eQ
    exact S2 i a b hi ha hb n1 n2 _ _ _ (Int.mul_pos (by omega) (by omega)) (Int.mul_pos (by omega) (by omega)) (lb_c l rfl rfl es)
  match u, u1, u2, u3, pu with
  | [q], u1, _, _, _ =>
    obtain ⟨⟨m, x1⟩, x2, _⟩ := u1
    obtain ⟨⟨y1, y2, y3⟩, y4⟩ := (cl q m).1 (by omega) (by omega)
    rw [show 4 * (q.1.1 - 12) + (q.1.2 - 12) = 4 * a + b by omega] at y4
    refine S3 _ (by omega) y4 _ _ _ (by show 0 < q.2.1 * 1; omega) (by show 0 < q.2.2.1 * 1; omega) ⟨⟨by decide, by decide⟩, Or.inr ⟨?_, fun _ => rfl⟩⟩
    show 1 * (q.2.1 * 1) = 1 * (q.2.2.1 * 1)
    rw [y1, y2]
  | [q1, q2], u1, _, u3, _ =>
    obtain ⟨⟨m1, x1⟩, ⟨m2, x2⟩, x3, _⟩ := u1
    have i1 : q1.1.2 < 12 := u3 q1.1.2 List.mem_cons_self
    have d1 := (cl q1 m1).2.1 (by omega) i1
    have k := T.2.2.2.2 q1 d1.1 a ha x1 i1
    refine mid q1 q2 q1.1.2 i1 m1 m2 x1 i1 x2 x3 k _ _ _ (by show q1.2.1 * (q2.2.1 * 1) = _; rw [Int.mul_one]) (by show q1.2.2.1 * (q2.2.2.1 * 1) = _; rw [Int.mul_one]) (fun z => ?_)
    rcases z with z | z | z
    · exact absurd z d1.2
    · exact z
    · exact z.elim
  | [q1, q0, q2], u1, _, u3, _ =>
    obtain ⟨⟨m1, x1⟩, ⟨m0, x0⟩, ⟨m2, x2⟩, x3, _⟩ := u1
    have i1 : q1.1.2 < 12 := u3 q1.1.2 List.mem_cons_self
    have i0 : q0.1.2 < 12 := u3 q0.1.2 (List.mem_cons_of_mem _ List.mem_cons_self)
    have d1 := (cl q1 m1).2.1 (by omega) i1
    have k := T.2.2.2.2 q1 d1.1 a ha x1 i1
    obtain ⟨⟨z1, z2⟩, z3, z4, z5⟩ := (cl q0 m0).2.2.2 (by omega) i0
    have cc := (c_ q0.1.2 a (by omega) z2 ha).2
    have g1 := hE q1 m1
    unfold gEo at g1
    have e6 : q1.1.2 = q0.1.2 + 6 := by omega
    rw [e6] at k
    have mm := Int.mul_le_mul_of_nonneg_right cc (show 0 ≤ q1.2.2.1 by omega)
    refine mid q1 q2 q0.1.2 i0 m1 m2 x1 i1 x2 x3 (by omega) _ _ _ (by show q1.2.1 * (q0.2.1 * (q2.2.1 * 1)) = _; rw [Int.mul_one, z3, Int.one_mul]) (by show q1.2.2.1 * (q0.2.2.1 * (q2.2.2.1 * 1)) = _; rw [Int.mul_one, z4, Int.one_mul]) (fun z => ?_)
    rcases z with z | z | z | z
    · exact absurd z d1.2
    · exact absurd z z5
    · exact z
    · exact z.elim
  | q1 :: q0 :: q9 :: q2 :: v, u1, _, u3, _ =>
    exfalso
    obtain ⟨⟨m1, x1⟩, ⟨m0, x0⟩, ⟨m9, x9⟩, _⟩ := u1
    have i1 : q1.1.2 < 12 := u3 q1.1.2 List.mem_cons_self
    have i0 : q0.1.2 < 12 := u3 q0.1.2 (List.mem_cons_of_mem _ List.mem_cons_self)
    have i9 : q9.1.2 < 12 := u3 q9.1.2 (List.mem_cons_of_mem _ (List.mem_cons_of_mem _ (by cases v <;> exact List.mem_cons_self)))
    have z0 := ((cl q0 m0).2.2.2 (by omega) i0).1.1
    have z9 := ((cl q9 m9).2.2.2 (by omega) i9).1.1
    omega
/-- both answers of the class -/
theorem goL_c {wy wy' st : Nat → Nat → Int × Int × Int} {a b : Nat} : ∀ (ks : List Nat) (x : Int × Int × Int), (∀ k ∈ ks, wy a k = wy' a k) → goL wy st a b ks x = goL wy' st a b ks x
  | [], _, _ => rfl
  | k :: ks, x, e => by
    show goL wy st a b ks _ = goL wy' st a b ks _
    rw [e k List.mem_cons_self]
    exact goL_c ks _ (fun j hj => e j (List.mem_cons_of_mem _ hj))
theorem pB_of {B : Int} {v : Int × Int × Int} (h : pBb B v) : pB v := ⟨h.1.1, h.2.1⟩
theorem cls_both {Ls D : List gE} {C : Nat → Int} {s : Int} {h : m_H} (hE : ∀ e ∈ Ls, gEo e) (cl : eCl D Ls C s) (T : TI Ls D h) (c_ : cI C 6 h) (k_ : bkS h) (S1 : sF1 Ls h) (S2 : sF2 12 h) (S3 : sF3 s 16 h) :
    ((∃ k : Nat, k < 4 ∧ bl1 (bd h (43 + (k * 4 + k)))) → gain Ls) ∧ ((∃ x y : Nat, y < x ∧ x < 4 ∧ ctr (goW (goW (wyH 43 h) (wyH 43 h)) (wyH 43 h) (12 + x) (12 + y)) (goW (goW (wyH 43 h) (wyH 43 h)) (wyH 43 h) (12 + y) (12 + x))) → gain Ls) ∧ ((∀ k : Nat, k < 4 → ¬ bl1 (bd h (43 + (k * 4 + k)))) → (∀ x y : Nat, y < x → x < 4 → ¬ ctr (goW (goW (wyH 43 h) (wyH 43 h)) (wyH 43 h) (12 + x) (12 + y)) (goW (goW (wyH 43 h) (wyH 43 h)) (wyH 43 h) (12 + y) (12 + x))) → ¬ gain Ls) := by
  have b1 : ∀ i j, pBb 200 (wyH 43 h i j) := wyH_b k_
  have b2 : ∀ i j, pBb 40000 (goW (wyH 43 h) (wyH 43 h) i j) := fun i j => goW_b b1 b1 (by decide) (by decide) (by decide)
  have b3 : ∀ i j, pBb 8000000 (goW (goW (wyH 43 h) (wyH 43 h)) (wyH 43 h) i j) := fun i j => goW_b b2 b1 (by decide) (by decide) (by decide)
  have at_ : ∀ a b : Nat, a < 4 → b < 4 → wyH 43 h (12 + a) (12 + b) = bd h (43 + (4 * a + b)) := fun a b ha hb => by
    unfold wyH
    rw [show (4 * (12 + a - 12) + (12 + b - 12)) % 16 = 4 * a + b by omega]
  have r1 : ∀ a b : Nat, a < 4 → b < 4 → rl Ls (wyH 43 h (12 + a) (12 + b)) (12 + a) (12 + b) := fun a b ha hb => by rw [at_ a b ha hb]; exact S1 a b ha hb
  have mem4 : ∀ k ∈ [12, 13, 14, 15], ∃ j : Nat, j < 4 ∧ k = 12 + j := fun k hk => by
    simp only [List.mem_cons, List.not_mem_nil, or_false] at hk
    exact ⟨k - 12, by omega, by omega⟩
  -- walks of ways with a step more: over the four feet alone
  have go_ : ∀ (wy : Nat → Nat → Int × Int × Int) (a b : Nat), a < 4 → b < 4 → (∀ k : Nat, k < 4 → rl Ls (wy (12 + a) (12 + k)) (12 + a) (12 + k)) → rl Ls (goL wy (wyH 43 h) (12 + a) (12 + b) [12, 13, 14, 15] (wy (12 + a) (12 + b))) (12 + a) (12 + b) := fun wy a b ha hb hw => by
    have gen : ∀ (ks : List Nat) (x : Int × Int × Int), (∀ k ∈ ks, ∃ j : Nat, j < 4 ∧ k = 12 + j) → rl Ls x (12 + a) (12 + b) → rl Ls (goL wy (wyH 43 h) (12 + a) (12 + b) ks x) (12 + a) (12 + b) := by
      intro ks
      induction ks with
      | nil => intro x _ hx; exact hx
      | cons k ks ih =>
        intro x hk hx
        refine ih _ (fun j hj => hk j (List.mem_cons_of_mem _ hj)) ?_
        obtain ⟨j, hj, ej⟩ := hk k List.mem_cons_self
        split
        · subst ej
          exact rl_ls hx (rl_ml (hw j hj) (r1 j b hj hb))
        · exact hx
    exact gen _ _ mem4 (hw b hb)
  have w0 : ∀ a : Nat, a < 4 → rl Ls (1, 1, 0) (12 + a) (12 + a) := fun a ha _ => ⟨[], ⟨rfl, by omega⟩, rfl, fun z => absurd z (by decide)⟩
  have r2 : ∀ a b : Nat, a < 4 → b < 4 → rl Ls (goW (wyH 43 h) (wyH 43 h) (12 + a) (12 + b)) (12 + a) (12 + b) := fun a b ha hb => by
    unfold goW
    by_cases g : 12 + a = 12 + b
    · rw [if_pos g]; have e : a = b := by omega
      subst e; exact w0 a ha
    · rw [if_neg g]; exact go_ _ a b ha hb (fun k hk => r1 a k ha hk)
  have r3 : ∀ a b : Nat, a < 4 → b < 4 → rl Ls (goW (goW (wyH 43 h) (wyH 43 h)) (wyH 43 h) (12 + a) (12 + b)) (12 + a) (12 + b) := fun a b ha hb => by
    by_cases g : 12 + a = 12 + b
    · have e : a = b := by omega
      subst e
      have z : goW (goW (wyH 43 h) (wyH 43 h)) (wyH 43 h) (12 + a) (12 + a) = (1, 1, 0) := if_pos rfl
      rw [z]; exact w0 a ha
    · have z : goW (goW (wyH 43 h) (wyH 43 h)) (wyH 43 h) (12 + a) (12 + b) = goL (goW (wyH 43 h) (wyH 43 h)) (wyH 43 h) (12 + a) (12 + b) [12, 13, 14, 15] (goW (wyH 43 h) (wyH 43 h) (12 + a) (12 + b)) := if_neg g
      rw [z]; exact go_ _ a b ha hb (fun k hk => r2 a k ha hk)
  refine ⟨?_, ?_, ?_⟩
  · rintro ⟨k, hk, z⟩
    have p := pB_of (k_ (k * 4 + k) (by omega))
    have y := S1 k k hk hk
    rw [show 4 * k + k = k * 4 + k by omega] at y
    exact rl_gain hE y p z.2
  · rintro ⟨x, y, h1, h2, z⟩
    exact rl_contra hE (r3 x y h2 (by omega)) (r3 y x (by omega) h2) (pB_of (b3 _ _)) (pB_of (b3 _ _)) z
  · intro h1 h2
    have sk := step_ok hE cl T c_ S2 S3
    refine cls_no hE (fun e he a b => ((cl e he).2.2.2 a b).1.1) (wyH 43 h) (goW (goW (wyH 43 h) (wyH 43 h)) (wyH 43 h)) (fun e he _ => sk e he) (fun a a1 a2 n z => ?_) ?_ (fun a b a1 a2 b1' b2' n z => ?_)
    · obtain ⟨k, rfl⟩ : ∃ k : Nat, a = 12 + k := ⟨a - 12, by omega⟩
      rw [at_ k k (by omega) (by omega), show 4 * k + k = k * 4 + k by omega] at n z
      exact h1 k (by omega) ⟨n, z⟩
    · exact reach_ok hE (t2 := goW (wyH 43 h) (wyH 43 h)) (fun i j => pB_of (b1 i j)) (fun i j => pB_of (b2 i j)) (fun e he _ => sk e he) (fun a b n => if_neg n) (fun a b n => if_neg n)
    · obtain ⟨x, rfl⟩ : ∃ k : Nat, a = 12 + k := ⟨a - 12, by omega⟩
      obtain ⟨y, rfl⟩ : ∃ k : Nat, b = 12 + k := ⟨b - 12, by omega⟩
      rcases Nat.lt_or_gt_of_ne (show x ≠ y by omega) with g | g
      · refine h2 y x g (by omega) ?_
        unfold ctr
        rw [Int.mul_comm (goW _ _ (12 + y) (12 + x)).1, Int.mul_comm (goW _ _ (12 + y) (12 + x)).2.1]
        rcases z with z | ⟨z1, z2⟩
        · exact Or.inl z
        · exact Or.inr ⟨z1, z2.symm⟩
      · exact h2 x y g (by omega) z
/-! the class's ledger against the reference's row, keepers and cuts -/
def LK (L : Nat) (h : m_H) (r K C : Nat → Int) : Prop := RB r ∧ (∀ j, j < 32 → h (L + 1) j = K j) ∧ (∀ j, j < 6 → h (L + 2) j = C j) ∧ h L 7 = r 0 ∧ LE L h r ∧ SB (h L 9) r
theorem LK_of {L : Nat} {h : m_H} {r : Nat → Int} (R : LR L h r) : LK L h r (fun j => r (10 + j)) (fun j => r (42 + j)) := by
  obtain ⟨b, k, c, w, n, q, cb, sb⟩ := R
  exact ⟨b, k, c, n, q, sb⟩
theorem csB_led : ∀ k, k < 34 → (csB ++ [39, 40, 41]).any (fun c => c == k) = false := by decide +kernel
theorem led_same {L : Nat} {h0 h : m_H} (hL : isL L) (R : FR (csB ++ [39, 40, 41]) [] h0 h) : ∀ i, i < 8 → h (L + i) = h0 (L + i) := fun i hi => by
  funext j
  refine R _ _ ?_
  unfold fr
  rw [csB_led (L + i) (by unfold isL at hL; omega)]
  rfl
theorem LK.same {L : Nat} {h0 h : m_H} {r K C : Nat → Int} (l : LK L h0 r K C) (e : ∀ i, i < 8 → h (L + i) = h0 (L + i)) : LK L h r K C := by
  obtain ⟨b, k, c, n, q, sb⟩ := l
  have e0 : h L = h0 L := e 0 (by decide)
  refine ⟨b, fun j hj => ?_, fun j hj => ?_, by rw [e0]; exact n, fun x hx => ?_, by rw [e0]; exact sb⟩
  · rw [e 1 (by decide)]; exact k j hj
  · rw [e 2 (by decide)]; exact c j hj
  · rw [e 3 (by decide), e 4 (by decide), e 5 (by decide), e 6 (by decide)]; exact q x hx
/-- entries as they can be -/
def EN (r K : Nat → Int) : Prop := ∀ e : Nat, (e : Int) < r 0 → (-1 ≤ K (r (5 * e + 81)).toNat ∧ K (r (5 * e + 81)).toNat ≤ 3) ∧ (0 ≤ r (5 * e + 80) ∧ r (5 * e + 80) ≤ 5) ∧ (1 ≤ r (5 * e + 82) ∧ r (5 * e + 82) ≤ 99) ∧ (0 ≤ r (5 * e + 83) ∧ r (5 * e + 83) ≤ 2) ∧ 0 ≤ r (5 * e + 81) ∧ r (5 * e + 81) ≤ 31
theorem eA_in {r K C : Nat → Int} {en : Int} : ∀ {n m : Nat}, n ≤ m → ∀ q ∈ eA r K C en n, q ∈ eA r K C en m := fun {n m} h => by
  induction h with
  | refl => exact fun q hq => hq
  | step _ ih => exact fun q hq => List.mem_append.mpr (Or.inl (ih q hq))
theorem eA_bL {r K C : Nat → Int} {en : Int} {n : Nat} (h : n ≤ (r 0).toNat) : ∀ q ∈ eA r K C en n, q ∈ bL r K C en := fun q hq => List.mem_append.mpr (Or.inl (List.mem_append.mpr (Or.inl (eA_in h q hq))))
def stZ (h : m_H) : Prop := ∀ p : Nat, p < 16 → bd h (43 + p) = (1, 0, 1)
theorem stZ_c {h h' : m_H} (z : stZ h) (e : ∀ c, c ≠ 39 → c ≠ 40 → c ≠ 41 → h' c = h c) : stZ h' := fun p hp => by
  have y := z p hp
  unfold bd at y ⊢
  rw [e (43 + p) (by omega) (by omega) (by omega)]; exact y
theorem eg_pos {Ls : List gE} (hE : ∀ q ∈ Ls, gEo q) : ∀ q ∈ Ls, 0 < q.2.1 ∧ 0 < q.2.2.1 := fun q hq => by
  have g := hE q hq
  unfold gEo at g
  omega
/-- an entry more -/
theorem TI_ent {r K C : Nat → Int} {a2 l : Int} {L : Nat} {h h' : m_H} (k_ : LK L h r K C) (en : EN r K) (hE : ∀ q ∈ bL r K C a2, gEo q) (l0 : 0 ≤ l) (l1 : l < r 0) (T : TI (bL r K C a2) (eA r K C a2 l.toNat) h) (Z : stZ h) (cx : m_and (m_shr a2 l) 1 = 1) (Q : tyQ L l h h') : TI (bL r K C a2) (eA r K C a2 (l + 1).toNat) h' ∧ stZ h' := by
  obtain ⟨b, k, c, n, q, sb⟩ := k_
  obtain ⟨q1, q2, q3, q4⟩ := q l.toNat (by omega)
  obtain ⟨n1, n2, n3, n4, n5⟩ := en l.toNat (by omega)
  have kk := k (r (5 * l.toNat + 81)).toNat (by omega)
  have cc := c (r (5 * l.toNat + 80)).toNat (by omega)
  have es : eA r K C a2 (l + 1).toNat = eA r K C a2 l.toNat ++ eR r K C a2 l.toNat := by
    rw [show (l + 1).toNat = l.toNat + 1 by omega]; rfl
  have ln : ((l.toNat : Nat) : Int) = l := by omega
  unfold tyQ at Q
  rw [q1, q2, q3, q4, kk, cc] at Q
  by_cases g : K (r (5 * l.toNat + 81)).toNat = -1
  · have e := Q.1 g
    have er : eR r K C a2 l.toNat = [] := if_neg (fun z => z.2 g)
    rw [es, er, List.append_nil, e]; exact ⟨T, Z⟩
  · have V := Q.2 g
    refine ⟨?_, stZ_c Z V.1⟩
    have er : eR r K C a2 l.toNat = [(((12 + K (r (5 * l.toNat + 81)).toNat).toNat, (if C (r (5 * l.toNat + 80)).toNat ≠ -1 ∧ C (r (5 * l.toNat + 80)).toNat ≤ r (5 * l.toNat + 81) then 6 + r (5 * l.toNat + 80) else r (5 * l.toNat + 80)).toNat), (if r (5 * l.toNat + 83) = 2 then 2 * r (5 * l.toNat + 82) - 1 else r (5 * l.toNat + 82), if r (5 * l.toNat + 83) = 2 then 2 else 1, 0)), (((if C (r (5 * l.toNat + 80)).toNat ≠ -1 ∧ C (r (5 * l.toNat + 80)).toNat ≤ r (5 * l.toNat + 81) then 6 + r (5 * l.toNat + 80) else r (5 * l.toNat + 80)).toNat, (12 + K (r (5 * l.toNat + 81)).toNat).toNat), (if r (5 * l.toNat + 83) = 2 then 2 else 1, if r (5 * l.toNat + 83) = 0 then r (5 * l.toNat + 82) else if r (5 * l.toNat + 83) = 1 then r (5 * l.toNat + 82) + 1 else 2 * r (5 * l.toNat + 82) + 1, if 0 < r (5 * l.toNat + 83) then 1 else 0))] := if_pos ⟨by rw [ln]; exact cx, g⟩
    have sub : ∀ q ∈ eR r K C a2 l.toNat, q ∈ bL r K C a2 := fun q hq => eA_bL (n := l.toNat + 1) (by omega) q (List.mem_append.mpr (Or.inr hq))
    rw [es, er]
    rw [er] at sub
    generalize K (r (5 * l.toNat + 81)).toNat = kp at *
    generalize C (r (5 * l.toNat + 80)).toNat = ct at *
    generalize r (5 * l.toNat + 80) = t at *
    generalize r (5 * l.toNat + 81) = w at *
    generalize r (5 * l.toNat + 82) = nu at *
    generalize r (5 * l.toNat + 83) = kd at *
    have ei : (if ct ≠ -1 ∧ ct ≤ w then 6 + t else t) = lnV ct t w := by
      unfold lnV
      by_cases y : ct = -1 ∨ w < ct
      · rw [if_pos y, if_neg (by omega)]
      · rw [if_neg y, if_pos (by omega), Int.add_comm]
    rw [ei] at sub ⊢
    have bi : 0 ≤ lnV ct t w ∧ lnV ct t w ≤ 11 := by unfold lnV; split <;> omega
    have ep : (lnV ct t w * 4 + kp).toNat = 4 * (lnV ct t w).toNat + kp.toNat := by omega
    rw [ep] at V
    have e12 : (12 + kp).toNat = 12 + kp.toNat := by omega
    rw [e12] at sub ⊢
    refine TI_tie T (fun q hq => eg_pos hE q (eA_bL (by omega) q hq)) (by omega) (by omega) V (sub _ List.mem_cons_self) (sub _ (List.mem_cons_of_mem _ List.mem_cons_self)) ?_ ?_ ⟨⟨?_, ?_⟩, ?_, ?_⟩ ?_ ?_ ?_
    · unfold hvE hvL; split <;> (try split) <;> omega
    · unfold hvL; split <;> omega
    · split <;> omega
    · split <;> omega
    · split <;> omega
    · split <;> (try split) <;> omega
    · unfold hvL
      by_cases y : kd = 2
      · rw [if_pos y, if_pos y, if_pos y]; omega
      · rw [if_neg y, if_neg y, if_neg y]; omega
    · unfold hvE hvL
      by_cases y : kd = 2
      · rw [if_neg (by omega), if_pos y, if_pos y, if_neg (by omega), if_neg (by omega)]; omega
      · by_cases y0 : kd = 0
        · rw [if_pos y0, if_neg y, if_pos y0]; omega
        · rw [if_neg y0, if_neg y, if_neg y, if_neg y0, if_pos (by omega)]; omega
    · by_cases y0 : kd = 0
      · rw [if_pos y0, if_neg (by omega)]
      · rw [if_neg y0, if_pos (by omega)]
theorem TI_no {r K C : Nat → Int} {a2 l : Int} {h : m_H} (l0 : 0 ≤ l) (T : TI (bL r K C a2) (eA r K C a2 l.toNat) h) (cx : ¬ m_and (m_shr a2 l) 1 = 1) : TI (bL r K C a2) (eA r K C a2 (l + 1).toNat) h := by
  have es : eA r K C a2 (l + 1).toNat = eA r K C a2 l.toNat ++ eR r K C a2 l.toNat := by
    rw [show (l + 1).toNat = l.toNat + 1 by omega]; rfl
  have ln : ((l.toNat : Nat) : Int) = l := by omega
  have er : eR r K C a2 l.toNat = [] := if_neg (fun z => cx (by have y := z.1; rw [ln] at y; exact y))
  rw [es, er, List.append_nil]; exact T
/-- what the reference's edges are -/
theorem cA_at {C : Nat → Int} : ∀ (n t : Nat), t < n → C t ≠ -1 → ((6 + t, t), ((1 : Int), (1 : Int), (0 : Int))) ∈ cA C n
  | n + 1, t, h, hc => by
    refine List.mem_append.mpr ?_
    by_cases g : t = n
    · subst g; right; rw [if_neg hc]; exact List.mem_cons_self
    · exact Or.inl (cA_at n t (by omega) hc)
theorem cA_is {C : Nat → Int} : ∀ (n : Nat) (q : gE), q ∈ cA C n → ∃ t : Nat, t < n ∧ C t ≠ -1 ∧ q = ((6 + t, t), (1, 1, 0))
  | n + 1, q, h => by
    rcases List.mem_append.mp h with h | h
    · obtain ⟨t, a, b, c⟩ := cA_is n q h
      exact ⟨t, by omega, b, c⟩
    · by_cases g : C n = -1
      · rw [if_pos g] at h; cases h
      · rw [if_neg g] at h
        rcases List.mem_cons.mp h with h | h
        · exact ⟨n, by omega, g, h⟩
        · cases h
theorem sA_is {r : Nat → Int} : ∀ (n : Nat) (q : gE), q ∈ sA r n → ∃ k : Nat, k < n ∧ q = (((12 + r (2 * k + 48)).toNat, (12 + r (2 * k + 49)).toNat), (1, 1, 1))
  | n + 1, q, h => by
    rcases List.mem_append.mp h with h | h
    · obtain ⟨t, a, b⟩ := sA_is n q h
      exact ⟨t, by omega, b⟩
    · rcases List.mem_cons.mp h with h | h
      · exact ⟨n, by omega, h⟩
      · cases h
theorem sA_at {r : Nat → Int} : ∀ (n k : Nat), k < n → (((12 + r (2 * k + 48)).toNat, (12 + r (2 * k + 49)).toNat), ((1 : Int), (1 : Int), (1 : Int))) ∈ sA r n
  | n + 1, k, h => by
    refine List.mem_append.mpr ?_
    by_cases g : k = n
    · subst g; right; exact List.mem_cons_self
    · exact Or.inl (sA_at n k (by omega))
theorem eA_is {r K C : Nat → Int} {en : Int} (H : EN r K) : ∀ (n : Nat), (n : Int) ≤ r 0 → ∀ q ∈ eA r K C en n, (12 ≤ q.1.1 ∧ q.1.2 < 12 ∧ q.2.2.2 = 0) ∨ (q.1.1 < 12 ∧ 12 ≤ q.1.2)
  | 0, _, q, h => by cases h
  | n + 1, hn, q, h => by
    rcases List.mem_append.mp h with h | h
    · exact eA_is H n (by omega) q h
    · obtain ⟨n1, n2, n3, n4, n5⟩ := H n (by omega)
      unfold eR eOf at h
      split at h
      · rename_i y
        have b1 : ((if C (r (5 * n + 80)).toNat ≠ -1 ∧ C (r (5 * n + 80)).toNat ≤ r (5 * n + 81) then 6 + r (5 * n + 80) else r (5 * n + 80)).toNat) < 12 := by split <;> omega
        have b2 : 12 ≤ (12 + K (r (5 * n + 81)).toNat).toNat := by omega
        rcases List.mem_cons.mp h with h | h
        · subst h; exact Or.inl ⟨b2, b1, rfl⟩
        · rcases List.mem_cons.mp h with h | h
          · subst h; exact Or.inr ⟨b1, b2⟩
          · cases h
      · cases h
/-- told ones among the shorter -/
def SH (r : Nat → Int) : Prop := ∀ k : Nat, (k : Int) < r 1 → (0 ≤ r (2 * k + 48) ∧ r (2 * k + 48) ≤ 3) ∧ 0 ≤ r (2 * k + 49) ∧ r (2 * k + 49) ≤ 3
theorem bL_cl {L : Nat} {h : m_H} {r K C : Nat → Int} {en : Int} (k_ : LK L h r K C) (H : EN r K) (sh : SH r) : eCl (eA r K C en (r 0).toNat) (bL r K C en) C (h L 9) := fun q hq => by
  obtain ⟨⟨b1, b2, b3, b4⟩, k, c, n, qq, sb⟩ := k_
  rcases List.mem_append.mp hq with hq | hq
  · rcases List.mem_append.mp hq with hq | hq
    · have z := eA_is H (r 0).toNat (by omega) q hq
      exact ⟨fun x y => by omega, fun x y => ⟨hq, by omega⟩, fun x y => hq, fun x y => by omega⟩
    · obtain ⟨j, hj, e⟩ := sA_is _ q hq
      obtain ⟨s1, s2⟩ := sh j (by omega)
      subst e
      refine ⟨fun x y => ⟨⟨rfl, rfl, rfl⟩, ?_⟩, fun x y => by simp only at y; omega, fun x y => by simp only at x; omega, fun x y => by simp only at x; omega⟩
      refine (sb.2.2.2 _ (by show 4 * ((12 + r (2 * j + 48)).toNat - 12) + ((12 + r (2 * j + 49)).toNat - 12) < 16; omega)).mpr ⟨j, by omega, ?_, ?_⟩
      · show r (2 * j + 48) = (((4 * ((12 + r (2 * j + 48)).toNat - 12) + ((12 + r (2 * j + 49)).toNat - 12)) / 4 : Nat) : Int); omega
      · show r (2 * j + 49) = (((4 * ((12 + r (2 * j + 48)).toNat - 12) + ((12 + r (2 * j + 49)).toNat - 12)) % 4 : Nat) : Int); omega
  · obtain ⟨t, ht, hc, e⟩ := cA_is _ q hq
    subst e
    exact ⟨fun x y => by simp only at x y; omega, fun x y => by simp only at x; omega, fun x y => by simp only at y; omega, fun x y => ⟨⟨rfl, hc⟩, rfl, rfl, by show (0 : Int) ≠ 1; decide⟩⟩
/-- a bit of the shorter ones is an edge -/
theorem sh_in {L : Nat} {h : m_H} {r K C : Nat → Int} {en : Int} {p : Nat} (k_ : LK L h r K C) (hp : p < 16) (hb : bt (h L 9) p = true) : ((12 + p / 4, 12 + p % 4), ((1 : Int), (1 : Int), (1 : Int))) ∈ bL r K C en := by
  obtain ⟨⟨b1, b2, b3, b4⟩, k, c, n, qq, sb⟩ := k_
  obtain ⟨j, hj, e1, e2⟩ := (sb.2.2.2 p hp).mp hb
  have m := sA_at (r := r) (r 1).toNat j (by omega)
  rw [e1, e2, show (12 + ((p / 4 : Nat) : Int)).toNat = 12 + p / 4 by omega, show (12 + ((p % 4 : Nat) : Int)).toNat = 12 + p % 4 by omega] at m
  exact List.mem_append.mpr (Or.inl (List.mem_append.mpr (Or.inr m)))
/-- nothing stepped yet -/
theorem st_0 {Ls : List gE} {s : Int} {h : m_H} (Z : stZ h) : bkS h ∧ sF1 Ls h ∧ sF2 0 h ∧ sF3 s 0 h :=
  ⟨fun p hp => by rw [Z p hp]; exact ⟨⟨by decide, by decide⟩, by decide, by decide⟩, fun a b ha hb => by rw [Z _ (by omega)]; exact fun n => absurd rfl n, fun i a b hi => absurd hi (by omega), fun p hp => absurd hp (by omega)⟩
/-- what stands when it can be -/
def TX (Ls D : List gE) (C : Nat → Int) (s : Int) (h : m_H) : Prop := TI Ls D h ∧ cI C 6 h ∧ bkS h ∧ sF1 Ls h ∧ sF2 12 h ∧ sF3 s 16 h ∧ ∀ p : Nat, p < 16 → bd h (77 + p) = goW (goW (wyH 43 h) (wyH 43 h)) (wyH 43 h) (12 + p / 4) (12 + p % 4)
/-- the loops' states -/
def c65 (Ls D : List gE) (C : Nat → Int) (n : Nat) (h : m_H) : Prop := TI Ls D h ∧ cI C 6 h ∧ bkS h ∧ sF1 Ls h ∧ sF2 n h
def c84 (Ls D : List gE) (C : Nat → Int) (s : Int) (n : Nat) (h : m_H) : Prop := TI Ls D h ∧ cI C 6 h ∧ bkS h ∧ sF1 Ls h ∧ sF2 12 h ∧ sF3 s n h
theorem c65_s {Ls D : List gE} {C : Nat → Int} {l : Int} {h h' : m_H} (I : c65 Ls D C l.toNat h) (l0 : 0 ≤ l) (l1 : l ≤ 11) (V : soQ l 16 h h') (B : bkS h') : c65 Ls D C (l + 1).toNat h' := by
  obtain ⟨i1, i2, i3, i4, i5⟩ := I
  have e39 := V.1 39 (by omega)
  have e40 := V.1 40 (by omega)
  have e41 := V.1 41 (by omega)
  have V' : soQ ((l.toNat : Nat) : Int) 16 h h' := by rw [show ((l.toNat : Nat) : Int) = l by omega]; exact V
  rw [show (l + 1).toNat = l.toNat + 1 by omega]
  exact ⟨TI_c i1 e39 e40 e41, cI_c i2 e39 e40 e41, B, sF1_so i1 i4 (by omega) V', sF2_so i1.1 i3 i5 (by omega) V'⟩
theorem c84_s {r K C : Nat → Int} {en : Int} {L : Nat} {D : List gE} {l x : Int} {h h' : m_H} (k_ : LK L h r K C) (I : c84 (bL r K C en) D C (h L 9) l.toNat h) (l0 : 0 ≤ l) (l1 : l ≤ 15) (ex : h L 9 = x) (cx : m_and (m_shr x l) 1 = 1) (B : bN (43 + l.toNat) (lsB (bd h (43 + l.toNat)) (1, 1, 1)) h h') : c84 (bL r K C en) D C (h L 9) (l + 1).toNat h' := by
  obtain ⟨i1, i2, i3, i4, i5, i6⟩ := I
  have e39 := B.1 39 (by omega)
  have e40 := B.1 40 (by omega)
  have e41 := B.1 41 (by omega)
  have hb : bt (h L 9) l.toNat = true := by
    rw [ex]; refine (hasBit_iff (by omega)).mp ?_
    rw [show ((l.toNat : Nat) : Int) = l by omega]; exact cx
  obtain ⟨j1, j2, j3, j4⟩ := sF_sh (D := D) i3 i4 i5 i6 (by omega) (sh_in k_ (by omega) hb) B
  rw [show (l + 1).toNat = l.toNat + 1 by omega]
  exact ⟨TI_c i1 e39 e40 e41, cI_c i2 e39 e40 e41, j1, j2, j3, j4⟩
theorem c84_n {Ls D : List gE} {C : Nat → Int} {s l x : Int} {h : m_H} (I : c84 Ls D C s l.toNat h) (l0 : 0 ≤ l) (l1 : l ≤ 15) (ex : s = x) (cx : ¬ m_and (m_shr x l) 1 = 1) : c84 Ls D C s (l + 1).toNat h := by
  obtain ⟨i1, i2, i3, i4, i5, i6⟩ := I
  refine ⟨i1, i2, i3, i4, i5, fun p hp hb => ?_⟩
  by_cases g : p = l.toNat
  · exfalso
    subst g
    rw [ex] at hb
    have z := (hasBit_iff (by omega)).mpr hb
    rw [show ((l.toNat : Nat) : Int) = l by omega] at z
    exact cx z
  · exact i6 p (by omega) hb
/-- the ways of up to three steps -/
theorem re_at {h h2 h3 : m_H} (A : goI 43 60 16 h h2) (B : goI 60 77 16 h2 h3) : (∀ a b : Nat, wyH 43 h3 a b = wyH 43 h a b) ∧ ∀ p : Nat, p < 16 → bd h3 (77 + p) = goW (goW (wyH 43 h) (wyH 43 h)) (wyH 43 h) (12 + p / 4) (12 + p % 4) := by
  have e2 : ∀ a b : Nat, wyH 43 h2 a b = wyH 43 h a b := fun a b => by
    unfold wyH bd
    rw [A.1 _ (by omega)]
  have e3 : ∀ a b : Nat, wyH 43 h3 a b = wyH 43 h a b := fun a b => by
    rw [← e2 a b]
    unfold wyH bd
    rw [B.1 _ (by omega)]
  have e2' : wyH 43 h2 = wyH 43 h := funext fun a => funext fun b => e2 a b
  refine ⟨e3, fun p hp => ?_⟩
  rw [B.2 p (by omega), e2']
  have w : ∀ a b : Nat, a < 4 → b < 4 → wyH 60 h2 (12 + a) (12 + b) = goW (wyH 43 h) (wyH 43 h) (12 + a) (12 + b) := fun a b ha hb => by
    have z := A.2 (4 * a + b) (by omega)
    have e : (4 * (12 + a - 12) + (12 + b - 12)) % 16 = 4 * a + b := by omega
    unfold wyH
    rw [e, z, show (4 * a + b) / 4 = a by omega, show (4 * a + b) % 4 = b by omega]
    rfl
  unfold goW
  by_cases g : 12 + p / 4 = 12 + p % 4
  · rw [if_pos g, if_pos g]
  · rw [if_neg g, if_neg g, w (p / 4) (p % 4) (by omega) (by omega)]
    refine goL_c _ _ (fun k hk => ?_)
    simp only [List.mem_cons, List.not_mem_nil, or_false] at hk
    obtain ⟨j, hj, rfl⟩ : ∃ j : Nat, j < 4 ∧ k = 12 + j := ⟨k - 12, by omega, by omega⟩
    exact w (p / 4) j (by omega) hj
theorem TX_of {Ls D : List gE} {C : Nat → Int} {s : Int} {h h2 h3 : m_H} (I : c84 Ls D C s 16 h) (A : goI 43 60 16 h h2) (B : goI 60 77 16 h2 h3) : TX Ls D C s h3 := by
  obtain ⟨i1, i2, i3, i4, i5, i6⟩ := I
  have e : ∀ c, c < 60 → h3 c = h c := fun c hc => (B.1 c (by omega)).trans (A.1 c (by omega))
  have eb : ∀ p : Nat, p < 16 → bd h3 (43 + p) = bd h (43 + p) := fun p hp => by unfold bd; rw [e (43 + p) (by omega)]
  have e39 := e 39 (by decide)
  have e40 := e 40 (by decide)
  have e41 := e 41 (by decide)
  obtain ⟨r1, r2⟩ := re_at A B
  have r1' : wyH 43 h3 = wyH 43 h := funext fun a => funext fun b => r1 a b
  refine ⟨TI_c i1 e39 e40 e41, cI_c i2 e39 e40 e41, fun p hp => by rw [eb p hp]; exact i3 p hp, fun a b ha hb => by rw [eb _ (by omega)]; exact i4 a b ha hb, fun i a b hi ha hb n1 n2 => ?_, fun p hp hb => by rw [eb p hp]; exact i6 p hp hb, fun p hp => by rw [r1']; exact r2 p hp⟩
  rw [e41] at n1 ⊢
  rw [e39] at n2 ⊢
  rw [e40, eb _ (by omega)]
  exact i5 i a b hi ha hb n1 n2
theorem bkR_of {h h2 h3 : m_H} (k : bkS h) (A : goI 43 60 16 h h2) (B : goI 60 77 16 h2 h3) : bkR h3 := fun p hp => by
  rw [(re_at A B).2 p hp]
  have b1 : ∀ i j, pBb 200 (wyH 43 h i j) := wyH_b k
  exact goW_b (fun i j => goW_b (B := 40000) b1 b1 (by decide) (by decide) (by decide)) b1 (by decide) (by decide) (by decide)
theorem bkT_of {h h2 : m_H} (k : bkS h) (A : goI 43 60 16 h h2) : (∀ p : Nat, p < 16 → pBb 200 (bd h2 (43 + p))) ∧ ∀ p : Nat, p < 16 → pBb 40000 (bd h2 (60 + p)) := by
  have b1 : ∀ i j, pBb 200 (wyH 43 h i j) := wyH_b k
  refine ⟨fun p hp => ?_, fun p hp => ?_⟩
  · have e : bd h2 (43 + p) = bd h (43 + p) := by unfold bd; rw [A.1 (43 + p) (by omega)]
    rw [e]; exact k p hp
  · rw [A.2 p (by omega)]; exact goW_b b1 b1 (by decide) (by decide) (by decide)
/-- the class's two answers -/
theorem cb_no {Ls D : List gE} {C : Nat → Int} {s : Int} {h : m_H} (hE : ∀ e ∈ Ls, gEo e) (cl : eCl D Ls C s) (I : c84 Ls D C s 16 h) (z : ¬ ∀ k : Nat, k < 4 → ¬ bl1 (bd h (43 + (k * 4 + k)))) : gain Ls := by
  obtain ⟨i1, i2, i3, i4, i5, i6⟩ := I
  refine (cls_both hE cl i1 i2 i3 i4 i5 i6).1 ?_
  refine Classical.byContradiction fun y => z (fun k hk b => y ⟨k, hk, b⟩)
theorem cb_end3 {Ls D : List gE} {C : Nat → Int} {s : Int} {h h2 h3 : m_H} (hE : ∀ e ∈ Ls, gEo e) (cl : eCl D Ls C s) (I : c84 Ls D C s 16 h) (z : ∀ k : Nat, k < 4 → ¬ bl1 (bd h (43 + (k * 4 + k)))) (A : goI 43 60 16 h h2) (B : goI 60 77 16 h2 h3) : fhN h3 4 0 ↔ ¬ gain Ls := by
  obtain ⟨i1, i2, i3, i4, i5, i6⟩ := I
  have c := cls_both hE cl i1 i2 i3 i4 i5 i6
  have re : ∀ x y : Nat, x < 4 → y < 4 → bd h3 (77 + (x * 4 + y)) = goW (goW (wyH 43 h) (wyH 43 h)) (wyH 43 h) (12 + x) (12 + y) := fun x y hx hy => by
    rw [(re_at A B).2 (x * 4 + y) (by omega), show (x * 4 + y) / 4 = x by omega, show (x * 4 + y) % 4 = y by omega]
  constructor
  · intro f
    refine c.2.2 z (fun x y h1 h2' => ?_)
    have q := f x y h1 h2' (by omega)
    rw [re x y h2' (by omega), re y x (by omega) h2'] at q
    exact q
  · intro g x y h1 h2' _ q
    rw [re x y h2' (by omega), re y x (by omega) h2'] at q
    exact g (c.2.1 ⟨x, y, h1, h2', q⟩)
abbrev P_X9_canBe2 (h0 : m_H) (L : Nat) (a2 : Int) (r : Nat → Int) (K : Nat → Int) (C : Nat → Int) : Int → m_H → Prop := fun x h' => GI h' ∧ FR (csB ++ [39, 40, 41]) [] h0 h' ∧ 0 ≤ x ∧ x ≤ 1 ∧ (x = 1 ↔ ¬ gain (bL r K C a2)) ∧ (x = 1 → TX (bL r K C a2) (eA r K C a2 (r 0).toNat) C (h0 L 9) h')
def q_X9_canBe2 (h0 : m_H) (L : Nat) (a2 : Int) (r : Nat → Int) (K : Nat → Int) (C : Nat → Int) (n : Nat) : Prop := (∀ (l3 : Int) (h : m_H), GI h → FR (csB ++ [39, 40, 41]) [] h0 h → 0 ≤ l3 → l3 ≤ 24 → (-2147483648) ≤ a2 → a2 ≤ 2147483647 → (TI (bL r K C a2) (eA r K C a2 l3.toNat) h) → (stZ h) → (l3 ≤ r 0) → 2 * (24 - l3) + (78) ≤ (n : Int) → m_Z oF M_X9_canBe 6 [some (mR 38), some (mR L), some (mI a2), some (mI l3)] [] h (m_QI (P_X9_canBe2 h0 L a2 r K C))) ∧ (∀ (l3 : Int) (h : m_H), GI h → FR (csB ++ [39, 40, 41]) [] h0 h → 0 ≤ l3 → l3 ≤ 6 → (-2147483648) ≤ a2 → a2 ≤ 2147483647 → (TI (bL r K C a2) (eA r K C a2 (r 0).toNat) h) → (stZ h) → (cI C l3.toNat h) → 2 * (6 - l3) + (63) ≤ (n : Int) → m_Z oF M_X9_canBe 36 [some (mR 38), some (mR L), none, some (mI l3)] [] h (m_QI (P_X9_canBe2 h0 L a2 r K C))) ∧ (∀ (l3 : Int) (h : m_H), GI h → FR (csB ++ [39, 40, 41]) [] h0 h → 0 ≤ l3 → l3 ≤ 12 → (-2147483648) ≤ a2 → a2 ≤ 2147483647 → (c65 (bL r K C a2) (eA r K C a2 (r 0).toNat) C l3.toNat h) → 2 * (12 - l3) + (36) ≤ (n : Int) → m_Z oF M_X9_canBe 65 [some (mR 38), some (mR L), none, some (mI l3)] [] h (m_QI (P_X9_canBe2 h0 L a2 r K C))) ∧ (∀ (l3 : Int) (h : m_H), GI h → FR (csB ++ [39, 40, 41]) [] h0 h → 0 ≤ l3 → l3 ≤ 16 → (-2147483648) ≤ a2 → a2 ≤ 2147483647 → (c84 (bL r K C a2) (eA r K C a2 (r 0).toNat) C (h0 L 9) l3.toNat h) → 2 * (16 - l3) + (1) ≤ (n : Int) → m_Z oF M_X9_canBe 84 [some (mR 38), some (mR L), none, some (mI l3)] [] h (m_QI (P_X9_canBe2 h0 L a2 r K C)))
set_option maxHeartbeats 4000000 in
set_option maxRecDepth 100000 in
theorem s_X9_canBe2_6 (h0 : m_H) (L : Nat) (a2 : Int) (r : Nat → Int) (K : Nat → Int) (C : Nat → Int) (hL : isL L) (G0 : GI h0) (hK : LK L h0 r K C) (hn : EN r K) (hsh : SH r) (hE : ∀ q ∈ bL r K C a2, gEo q) (n : Nat) (ih : q_X9_canBe2 h0 L a2 r K C n) : ∀ (l3 : Int) (h : m_H), GI h → FR (csB ++ [39, 40, 41]) [] h0 h → 0 ≤ l3 → l3 ≤ 24 → (-2147483648) ≤ a2 → a2 ≤ 2147483647 → (TI (bL r K C a2) (eA r K C a2 l3.toNat) h) → (stZ h) → (l3 ≤ r 0) → 2 * (24 - l3) + (78) ≤ ((n + 1 : Nat) : Int) → m_Z oF M_X9_canBe 6 [some (mR 38), some (mR L), some (mI a2), some (mI l3)] [] h (m_QI (P_X9_canBe2 h0 L a2 r K C)) := by
  intro l3 h G R v0 v1 v2 v3 i0 i1 i2 hr
  have ls_ := led_same hL R
  have k_ := hK.same ls_
  have n_ := k_.2.2.2.1
  refine z_iload_n (M := M_X9_canBe) 6 dX9_canBe_6 rfl ?_
  refine z_aload_n (M := M_X9_canBe) 7 dX9_canBe_7 rfl ?_
  refine z_getIG (M := M_X9_canBe) 8 dX9_canBe_8 f_X9_39 (oL hL) (by decide) (gL7 hL G) (fun x1 ex1 ax1 bx1 => ?_)
  refine z_icmp_ge (M := M_X9_canBe) 11 dX9_canBe_11 34 rfl (fun c2 => ?_) (fun c2 => ?_)
  · refine z_iconst (M := M_X9_canBe) 34 dX9_canBe_34 ?_
    refine z_istore_n (M := M_X9_canBe) 35 dX9_canBe_35 (ls' := [some (mR 38), some (mR L), some (mI a2), some (mI 0)]) (by decide) rfl ?_
    exact z_mask [true, true, false, true] rfl (ih.2.1 0 h G R (by omega) (by omega) (by omega) (by omega) ((show l3.toNat = (r 0).toNat by omega) ▸ i0) i1 (fun t k ht => absurd ht (by omega)) (by omega))
  · refine z_iload_n (M := M_X9_canBe) 14 dX9_canBe_14 rfl ?_
    refine z_iload_n (M := M_X9_canBe) 15 dX9_canBe_15 rfl ?_
    refine z_nI (M := M_X9_canBe) 16 dX9_canBe_16 t_X11_hasBit l_X9_45 (m_rr_of rfl) (rest := []) (c_X11_hasBit h a2 l3 G) rfl rfl (Nat.le_of_ble_eq_true rfl) ⟨rfl, rfl⟩ (fun x3 h1 qx3 => ?_)
    obtain ⟨rfl, ⟨rfl, cx3⟩ | ⟨rfl, cx3⟩⟩ := qx3
    · refine z_if_eq_F (M := M_X9_canBe) 19 dX9_canBe_19 28 rfl (by omega) ?_
      refine z_aload_n (M := M_X9_canBe) 22 dX9_canBe_22 rfl ?_
      refine z_aload_n (M := M_X9_canBe) 23 dX9_canBe_23 rfl ?_
      refine z_iload_n (M := M_X9_canBe) 24 dX9_canBe_24 rfl ?_
      refine z_vV (M := M_X9_canBe) 25 dX9_canBe_25 t_X9_tie l_X9_49 (m_rr_of rfl) (rest := []) (c_X9_tie2 h L l3 hL G ⟨by omega, by omega⟩) o_38 rfl rfl rfl (Nat.le_of_ble_eq_true rfl) ⟨rfl, rfl⟩ (fun h2 qx4 => ?_)
      obtain ⟨G2, S2, Q2⟩ := qx4
      have ti_ := TI_ent k_ hn hE (by omega) (by omega) i0 i1 cx3 Q2
      have R2 := R.call S2 (by decide +kernel)
      refine z_iincN (M := M_X9_canBe) 28 dX9_canBe_28 (ls' := [some (mR 38), some (mR L), some (mI a2), some (mI (l3 + 1))]) (by decide) rfl (by (unfold m_32; decide)) (by omega) (by omega) rfl ?_
      refine z_goto (M := M_X9_canBe) 31 dX9_canBe_31 6 rfl ?_
      exact z_mask [true, true, true, true] rfl (ih.1 (l3 + 1) h2 G2 R2 (by omega) (by omega) (by omega) (by omega) ti_.1 ti_.2 (by omega) (by omega))
    · refine z_if_eq_T (M := M_X9_canBe) 19 dX9_canBe_19 28 rfl (by omega) ?_
      refine z_iincN (M := M_X9_canBe) 28 dX9_canBe_28 (ls' := [some (mR 38), some (mR L), some (mI a2), some (mI (l3 + 1))]) (by decide) rfl (by (unfold m_32; decide)) (by omega) (by omega) rfl ?_
      refine z_goto (M := M_X9_canBe) 31 dX9_canBe_31 6 rfl ?_
      exact z_mask [true, true, true, true] rfl (ih.1 (l3 + 1) h G R (by omega) (by omega) (by omega) (by omega) (TI_no (by omega) i0 cx3) i1 (by omega) (by omega))
set_option maxHeartbeats 4000000 in
set_option maxRecDepth 100000 in
theorem s_X9_canBe2_36 (h0 : m_H) (L : Nat) (a2 : Int) (r : Nat → Int) (K : Nat → Int) (C : Nat → Int) (hL : isL L) (G0 : GI h0) (hK : LK L h0 r K C) (hn : EN r K) (hsh : SH r) (hE : ∀ q ∈ bL r K C a2, gEo q) (n : Nat) (ih : q_X9_canBe2 h0 L a2 r K C n) : ∀ (l3 : Int) (h : m_H), GI h → FR (csB ++ [39, 40, 41]) [] h0 h → 0 ≤ l3 → l3 ≤ 6 → (-2147483648) ≤ a2 → a2 ≤ 2147483647 → (TI (bL r K C a2) (eA r K C a2 (r 0).toNat) h) → (stZ h) → (cI C l3.toNat h) → 2 * (6 - l3) + (63) ≤ ((n + 1 : Nat) : Int) → m_Z oF M_X9_canBe 36 [some (mR 38), some (mR L), none, some (mI l3)] [] h (m_QI (P_X9_canBe2 h0 L a2 r K C)) := by
  intro l3 h G R v0 v1 v2 v3 i0 i1 i2 hr
  have ls_ := led_same hL R
  have k_ := hK.same ls_
  refine z_iload_n (M := M_X9_canBe) 36 dX9_canBe_36 rfl ?_
  refine z_bipush (M := M_X9_canBe) 37 dX9_canBe_37 ?_
  refine z_icmp_ge (M := M_X9_canBe) 39 dX9_canBe_39 63 rfl (fun c1 => ?_) (fun c1 => ?_)
  · refine z_iconst (M := M_X9_canBe) 63 dX9_canBe_63 ?_
    refine z_istore_n (M := M_X9_canBe) 64 dX9_canBe_64 (ls' := [some (mR 38), some (mR L), none, some (mI 0)]) (by decide) rfl ?_
    exact z_mask [true, true, false, true] rfl (ih.2.2.1 0 h G R (by omega) (by omega) (by omega) (by omega) ⟨i0, (show l3.toNat = 6 by omega) ▸ i2, (st_0 (Ls := bL r K C a2) (s := 0) i1).1, (st_0 (Ls := bL r K C a2) (s := 0) i1).2.1, (st_0 (Ls := bL r K C a2) (s := 0) i1).2.2.1⟩ (by omega))
  · refine z_aload_n (M := M_X9_canBe) 42 dX9_canBe_42 rfl ?_
    refine z_getR (M := M_X9_canBe) 43 dX9_canBe_43 f_X9_53 (oL hL) rfl (rL_1 hL G) ?_
    refine z_iload_n (M := M_X9_canBe) 46 dX9_canBe_46 rfl ?_
    refine z_ialdG (M := M_X9_canBe) 47 dX9_canBe_47 (oL_2 hL) (by omega) (by omega) (gL_2 hL G (by omega)) (fun x2 ex2 ax2 bx2 => ?_)
    refine z_iconst (M := M_X9_canBe) 48 dX9_canBe_48 ?_
    refine z_icmp_eq (M := M_X9_canBe) 49 dX9_canBe_49 57 rfl (fun c3 => ?_) (fun c3 => ?_)
    · refine z_iincN (M := M_X9_canBe) 57 dX9_canBe_57 (ls' := [some (mR 38), some (mR L), none, some (mI (l3 + 1))]) (by decide) rfl (by (unfold m_32; decide)) (by omega) (by omega) rfl ?_
      refine z_goto (M := M_X9_canBe) 60 dX9_canBe_60 36 rfl ?_
      exact z_mask [true, true, false, true] rfl (ih.2.1 (l3 + 1) h G R (by omega) (by omega) (by omega) (by omega) i0 i1 (fun t k ht hC hk => by
        by_cases g : t = l3.toNat
        · exact absurd (by rw [g, ← k_.2.2.1 l3.toNat (by omega), ex2]; omega) hC
        · exact i2 t k (by omega) hC hk) (by omega))
    · refine z_aload_n (M := M_X9_canBe) 52 dX9_canBe_52 rfl ?_
      refine z_iload_n (M := M_X9_canBe) 53 dX9_canBe_53 rfl ?_
      refine z_vV (M := M_X9_canBe) 54 dX9_canBe_54 t_X9_tieCut l_X9_56 (m_rr_of rfl) (rest := []) (c_X9_tieCut2 h l3 G ⟨by omega, by omega⟩) o_38 rfl rfl rfl (Nat.le_of_ble_eq_true rfl) ⟨rfl, rfl⟩ (fun h1 qx4 => ?_)
      obtain ⟨G1, S1, Q1⟩ := qx4
      have Q1' : cuI ((l3.toNat : Nat) : Int) 4 h h1 := by rw [show ((l3.toNat : Nat) : Int) = l3 by omega]; exact Q1
      have R1 := R.call S1 (by decide +kernel)
      refine z_iincN (M := M_X9_canBe) 57 dX9_canBe_57 (ls' := [some (mR 38), some (mR L), none, some (mI (l3 + 1))]) (by decide) rfl (by (unfold m_32; decide)) (by omega) (by omega) rfl ?_
      refine z_goto (M := M_X9_canBe) 60 dX9_canBe_60 36 rfl ?_
      exact z_mask [true, true, false, true] rfl (ih.2.1 (l3 + 1) h1 G1 R1 (by omega) (by omega) (by omega) (by omega) (TI_cut i0 (fun q hq => eg_pos hE q (eA_bL (Nat.le_refl _) q hq)) (by omega) (List.mem_append.mpr (Or.inr (cA_at 6 l3.toNat (by omega) (by rw [← k_.2.2.1 l3.toNat (by omega), ex2]; omega)))) Q1') (stZ_c i1 Q1.1) (by rw [show (l3 + 1).toNat = l3.toNat + 1 by omega]; exact cI_cut i2 i0.1 (by omega) Q1') (by omega))
set_option maxHeartbeats 4000000 in
set_option maxRecDepth 100000 in
theorem s_X9_canBe2_65 (h0 : m_H) (L : Nat) (a2 : Int) (r : Nat → Int) (K : Nat → Int) (C : Nat → Int) (hL : isL L) (G0 : GI h0) (hK : LK L h0 r K C) (hn : EN r K) (hsh : SH r) (hE : ∀ q ∈ bL r K C a2, gEo q) (n : Nat) (ih : q_X9_canBe2 h0 L a2 r K C n) : ∀ (l3 : Int) (h : m_H), GI h → FR (csB ++ [39, 40, 41]) [] h0 h → 0 ≤ l3 → l3 ≤ 12 → (-2147483648) ≤ a2 → a2 ≤ 2147483647 → (c65 (bL r K C a2) (eA r K C a2 (r 0).toNat) C l3.toNat h) → 2 * (12 - l3) + (36) ≤ ((n + 1 : Nat) : Int) → m_Z oF M_X9_canBe 65 [some (mR 38), some (mR L), none, some (mI l3)] [] h (m_QI (P_X9_canBe2 h0 L a2 r K C)) := by
  intro l3 h G R v0 v1 v2 v3 i0 hr
  refine z_iload_n (M := M_X9_canBe) 65 dX9_canBe_65 rfl ?_
  refine z_bipush (M := M_X9_canBe) 66 dX9_canBe_66 ?_
  refine z_icmp_ge (M := M_X9_canBe) 68 dX9_canBe_68 82 rfl (fun c1 => ?_) (fun c1 => ?_)
  · refine z_iconst (M := M_X9_canBe) 82 dX9_canBe_82 ?_
    refine z_istore_n (M := M_X9_canBe) 83 dX9_canBe_83 (ls' := [some (mR 38), some (mR L), none, some (mI 0)]) (by decide) rfl ?_
    exact z_mask [true, true, false, true] rfl (ih.2.2.2 0 h G R (by omega) (by omega) (by omega) (by omega) ⟨i0.1, i0.2.1, i0.2.2.1, i0.2.2.2.1, (show l3.toNat = 12 by omega) ▸ i0.2.2.2.2, fun p hp => absurd hp (by omega)⟩ (by omega))
  · refine z_aload_n (M := M_X9_canBe) 71 dX9_canBe_71 rfl ?_
    refine z_iload_n (M := M_X9_canBe) 72 dX9_canBe_72 rfl ?_
    refine z_vV (M := M_X9_canBe) 73 dX9_canBe_73 t_X9_stepOver l_X9_60 (m_rr_of rfl) (rest := []) (c_X9_stepOver2 h l3 G ⟨by omega, by omega⟩ i0.1.1 i0.2.2.1) o_38 rfl rfl rfl (Nat.le_of_ble_eq_true rfl) ⟨rfl, rfl⟩ (fun h1 qx2 => ?_)
    obtain ⟨G1, S1, V1, B1⟩ := qx2
    have R1 := R.call S1 (by decide +kernel)
    refine z_iincN (M := M_X9_canBe) 76 dX9_canBe_76 (ls' := [some (mR 38), some (mR L), none, some (mI (l3 + 1))]) (by decide) rfl (by (unfold m_32; decide)) (by omega) (by omega) rfl ?_
    refine z_goto (M := M_X9_canBe) 79 dX9_canBe_79 65 rfl ?_
    exact z_mask [true, true, false, true] rfl (ih.2.2.1 (l3 + 1) h1 G1 R1 (by omega) (by omega) (by omega) (by omega) (c65_s i0 (by omega) (by omega) V1 B1) (by omega))
set_option maxHeartbeats 4000000 in
set_option maxRecDepth 100000 in
theorem s_X9_canBe2_84 (h0 : m_H) (L : Nat) (a2 : Int) (r : Nat → Int) (K : Nat → Int) (C : Nat → Int) (hL : isL L) (G0 : GI h0) (hK : LK L h0 r K C) (hn : EN r K) (hsh : SH r) (hE : ∀ q ∈ bL r K C a2, gEo q) (n : Nat) (ih : q_X9_canBe2 h0 L a2 r K C n) : ∀ (l3 : Int) (h : m_H), GI h → FR (csB ++ [39, 40, 41]) [] h0 h → 0 ≤ l3 → l3 ≤ 16 → (-2147483648) ≤ a2 → a2 ≤ 2147483647 → (c84 (bL r K C a2) (eA r K C a2 (r 0).toNat) C (h0 L 9) l3.toNat h) → 2 * (16 - l3) + (1) ≤ ((n + 1 : Nat) : Int) → m_Z oF M_X9_canBe 84 [some (mR 38), some (mR L), none, some (mI l3)] [] h (m_QI (P_X9_canBe2 h0 L a2 r K C)) := by
  intro l3 h G R v0 v1 v2 v3 i0 hr
  have ls_ := led_same hL R
  have k_ := hK.same ls_
  have e9_ : h L 9 = h0 L 9 := congrFun (ls_ 0 (by decide)) 9
  have cl_ := bL_cl (en := a2) hK hn hsh
  refine z_iload_n (M := M_X9_canBe) 84 dX9_canBe_84 rfl ?_
  refine z_bipush (M := M_X9_canBe) 85 dX9_canBe_85 ?_
  refine z_icmp_ge (M := M_X9_canBe) 87 dX9_canBe_87 119 rfl (fun c1 => ?_) (fun c1 => ?_)
  · refine z_aload_n (M := M_X9_canBe) 119 dX9_canBe_119 rfl ?_
    refine z_vI (M := M_X9_canBe) 120 dX9_canBe_120 t_X9_eachFootHolds l_X9_72 (m_rr_of rfl) (rest := []) (c_X9_eachFootHolds2 h G) o_38 rfl rfl rfl (Nat.le_of_ble_eq_true rfl) ⟨rfl, rfl⟩ (fun x2 h1 qx2 => ?_)
    obtain ⟨G1, S1, ax2, bx2, fx2⟩ := qx2
    have i0 : c84 (bL r K C a2) (eA r K C a2 (r 0).toNat) C (h0 L 9) 16 h := (show l3.toNat = 16 by omega) ▸ i0
    obtain rfl : h1 = h := frE S1
    have R1 := R.call S1 (by decide +kernel)
    refine z_if_ne (M := M_X9_canBe) 123 dX9_canBe_123 128 rfl (fun c3 => ?_) (fun c3 => ?_)
    · refine z_aload_n (M := M_X9_canBe) 128 dX9_canBe_128 rfl ?_
      refine z_aload_n (M := M_X9_canBe) 129 dX9_canBe_129 rfl ?_
      refine z_getR (M := M_X9_canBe) 130 dX9_canBe_130 f_X9_26 o_38 rfl (g_38_3 G1) ?_
      refine z_aload_n (M := M_X9_canBe) 133 dX9_canBe_133 rfl ?_
      refine z_getR (M := M_X9_canBe) 134 dX9_canBe_134 f_X9_30 o_38 rfl (g_38_4 G1) ?_
      refine z_vV (M := M_X9_canBe) 137 dX9_canBe_137 t_X9_goOn l_X9_76 (m_rr_of rfl) (rest := []) (c_X9_goOn_42x h1 G1 i0.2.2.1 i0.2.2.1) o_38 rfl rfl rfl (Nat.le_of_ble_eq_true rfl) ⟨rfl, rfl⟩ (fun h2 qx4 => ?_)
      obtain ⟨G2, S2, A2⟩ := qx4
      have R2 := R1.call S2 (by decide +kernel)
      refine z_aload_n (M := M_X9_canBe) 140 dX9_canBe_140 rfl ?_
      refine z_aload_n (M := M_X9_canBe) 141 dX9_canBe_141 rfl ?_
      refine z_getR (M := M_X9_canBe) 142 dX9_canBe_142 f_X9_30 o_38 rfl (g_38_4 G2) ?_
      refine z_aload_n (M := M_X9_canBe) 145 dX9_canBe_145 rfl ?_
      refine z_getR (M := M_X9_canBe) 146 dX9_canBe_146 f_X9_33 o_38 rfl (g_38_5 G2) ?_
      refine z_vV (M := M_X9_canBe) 149 dX9_canBe_149 t_X9_goOn l_X9_76 (m_rr_of rfl) (rest := []) (c_X9_goOn_59x h2 G2 (bkT_of i0.2.2.1 A2).1 (bkT_of i0.2.2.1 A2).2) o_38 rfl rfl rfl (Nat.le_of_ble_eq_true rfl) ⟨rfl, rfl⟩ (fun h3 qx5 => ?_)
      obtain ⟨G3, S3, A3⟩ := qx5
      have R3 := R2.call S3 (by decide +kernel)
      refine z_aload_n (M := M_X9_canBe) 152 dX9_canBe_152 rfl ?_
      refine z_vI (M := M_X9_canBe) 153 dX9_canBe_153 t_X9_feetHoldTogether l_X9_80 (m_rr_of rfl) (rest := []) (c_X9_feetHoldTogether2 h3 G3 (bkR_of i0.2.2.1 A2 A3)) o_38 rfl rfl rfl (Nat.le_of_ble_eq_true rfl) ⟨rfl, rfl⟩ (fun x6 h4 qx6 => ?_)
      obtain ⟨G4, S4, ax6, bx6, fx6⟩ := qx6
      have R4 := R3.call S4 (by decide +kernel)
      exact z_retZ (M := M_X9_canBe) 156 dX9_canBe_156 rfl (by omega) ⟨G4, R4, by omega, by omega, ⟨fun z => (cb_end3 hE cl_ i0 (fx2.mp (by omega)) A2 A3).mp (fx6.mp z), fun z => fx6.mpr ((cb_end3 hE cl_ i0 (fx2.mp (by omega)) A2 A3).mpr z)⟩, fun _ => by rw [frE S4]; exact TX_of i0 A2 A3⟩
    · refine z_iconst (M := M_X9_canBe) 126 dX9_canBe_126 ?_
      exact z_retZ (M := M_X9_canBe) 127 dX9_canBe_127 rfl (by omega) ⟨G1, R1, by omega, by omega, ⟨fun z => absurd z (by decide), fun z => absurd (cb_no hE cl_ i0 (fun y => absurd (fx2.mpr y) (by omega))) z⟩, fun z => absurd z (by decide)⟩
  · refine z_aload_n (M := M_X9_canBe) 90 dX9_canBe_90 rfl ?_
    refine z_getIV (M := M_X9_canBe) 91 dX9_canBe_91 f_X9_63 (oL hL) (by decide) (fun x7 ex7 => ?_)
    refine z_ok (fun ox7 _ _ => ?_)
    have ox7 := ox7.1; unfold m_ok m_32 at ox7
    refine z_iload_n (M := M_X9_canBe) 94 dX9_canBe_94 rfl ?_
    refine z_nI (M := M_X9_canBe) 95 dX9_canBe_95 t_X11_hasBit l_X9_45 (m_rr_of rfl) (rest := []) (c_X11_hasBit h x7 l3 G) rfl rfl (Nat.le_of_ble_eq_true rfl) ⟨rfl, rfl⟩ (fun x8 h5 qx8 => ?_)
    obtain ⟨rfl, ⟨rfl, cx8⟩ | ⟨rfl, cx8⟩⟩ := qx8
    · refine z_if_eq_F (M := M_X9_canBe) 98 dX9_canBe_98 113 rfl (by omega) ?_
      refine z_aload_n (M := M_X9_canBe) 101 dX9_canBe_101 rfl ?_
      refine z_getR (M := M_X9_canBe) 102 dX9_canBe_102 f_X9_26 o_38 rfl (g_38_3 G) ?_
      refine z_iload_n (M := M_X9_canBe) 105 dX9_canBe_105 rfl ?_
      have hb9 := isB_42 (i := l3) (by omega) (by omega)
      refine z_aaldB (M := M_X9_canBe) 106 dX9_canBe_106 o_42 (by omega) (by omega) (g_42 G (by omega)) ?_
      refine z_lconst (M := M_X9_canBe) 107 dX9_canBe_107 (v := 1) ?_
      refine z_lconst (M := M_X9_canBe) 108 dX9_canBe_108 (v := 1) ?_
      refine z_iconst (M := M_X9_canBe) 109 dX9_canBe_109 ?_
      refine z_vV (M := M_X9_canBe) 110 dX9_canBe_110 t_X2_lessen l_X9_66 (m_rr_of rfl) (rest := []) (c_X2_lessen2 h (43 + (l3).toNat) 1 1 1 hb9 G ⟨by omega, by omega⟩ (bkS_at i0.2.2.1 (by omega) (by omega)).1 (bkS_at i0.2.2.1 (by omega) (by omega)).2 ⟨by omega, by omega⟩ ⟨by omega, by omega⟩) (oB hb9) rfl rfl rfl (Nat.le_of_ble_eq_true rfl) ⟨rfl, rfl⟩ (fun h6 qx10 => ?_)
      obtain ⟨G6, S6, B6⟩ := qx10
      have R6 := R.call S6 (by decide +kernel)
      refine z_iincN (M := M_X9_canBe) 113 dX9_canBe_113 (ls' := [some (mR 38), some (mR L), none, some (mI (l3 + 1))]) (by decide) rfl (by (unfold m_32; decide)) (by omega) (by omega) rfl ?_
      refine z_goto (M := M_X9_canBe) 116 dX9_canBe_116 84 rfl ?_
      exact z_mask [true, true, false, true] rfl (ih.2.2.2 (l3 + 1) h6 G6 R6 (by omega) (by omega) (by omega) (by omega) (by have z := c84_s k_ (e9_ ▸ i0) (by omega) (by omega) ex7 cx8 B6; rw [e9_] at z; exact z) (by omega))
    · refine z_if_eq_T (M := M_X9_canBe) 98 dX9_canBe_98 113 rfl (by omega) ?_
      refine z_iincN (M := M_X9_canBe) 113 dX9_canBe_113 (ls' := [some (mR 38), some (mR L), none, some (mI (l3 + 1))]) (by decide) rfl (by (unfold m_32; decide)) (by omega) (by omega) rfl ?_
      refine z_goto (M := M_X9_canBe) 116 dX9_canBe_116 84 rfl ?_
      exact z_mask [true, true, false, true] rfl (ih.2.2.2 (l3 + 1) h G R (by omega) (by omega) (by omega) (by omega) (c84_n i0 (by omega) (by omega) (e9_.symm.trans ex7) cx8) (by omega))
theorem a_X9_canBe2 (h0 : m_H) (L : Nat) (a2 : Int) (r : Nat → Int) (K : Nat → Int) (C : Nat → Int) (hL : isL L) (G0 : GI h0) (hK : LK L h0 r K C) (hn : EN r K) (hsh : SH r) (hE : ∀ q ∈ bL r K C a2, gEo q) : ∀ n, q_X9_canBe2 h0 L a2 r K C n := by
  intro n
  induction n with
  | zero => unfold q_X9_canBe2; refine ⟨?_, ?_, ?_, ?_⟩ <;> (intros; omega)
  | succ n ih => exact ⟨s_X9_canBe2_6 h0 L a2 r K C hL G0 hK hn hsh hE n ih, s_X9_canBe2_36 h0 L a2 r K C hL G0 hK hn hsh hE n ih, s_X9_canBe2_65 h0 L a2 r K C hL G0 hK hn hsh hE n ih, s_X9_canBe2_84 h0 L a2 r K C hL G0 hK hn hsh hE n ih⟩
set_option maxHeartbeats 4000000 in
set_option maxRecDepth 100000 in
theorem c_X9_canBe2 (h0 : m_H) (L : Nat) (a2 : Int) (r : Nat → Int) (K : Nat → Int) (C : Nat → Int) (hL : isL L) (G0 : GI h0) (hK : LK L h0 r K C) (hn : EN r K) (hsh : SH r) (hE : ∀ q ∈ bL r K C a2, gEo q) : m_CI M_X9_canBe [mR 38, mR L, mI a2] h0 (P_X9_canBe2 h0 L a2 r K C) := by
  refine m_CI_of ⟨by decide, rfl, by simp [m_arg, m_isL, M_X9_canBe], ⟨rfl, rfl⟩, rfl, rfl⟩ (ls := [some (mR 38), some (mR L), some (mI a2), none]) rfl ?_
  have ih := a_X9_canBe2 h0 L a2 r K C hL G0 hK hn hsh hE 133
  refine z_ok (fun _ _ ok => ?_)
  have oa2 : m_32 a2 := ok 2 _ rfl
  unfold m_32 at oa2
  refine z_aload_n (M := M_X9_canBe) 0 dX9_canBe_0 rfl ?_
  refine z_vV (M := M_X9_canBe) 1 dX9_canBe_1 t_X9_forget l_X9_36 (m_rr_of rfl) (rest := []) (c_X9_forget2 h0 G0) o_38 rfl rfl rfl (Nat.le_of_ble_eq_true rfl) ⟨rfl, rfl⟩ (fun h1 qx1 => ?_)
  obtain ⟨G1, S1, F1⟩ := qx1
  have R1 := (FR.rf (cs := (csB ++ [39, 40, 41])) (ss := []) (h := h0)).call S1 (by decide +kernel)
  refine z_iconst (M := M_X9_canBe) 4 dX9_canBe_4 ?_
  refine z_istore_n (M := M_X9_canBe) 5 dX9_canBe_5 (ls' := [some (mR 38), some (mR L), some (mI a2), some (mI 0)]) (by decide) rfl ?_
  exact z_mask [true, true, true, true] rfl (ih.1 0 h1 G1 R1 (by omega) (by omega) (by omega) (by omega) (TI_0 F1.1 F1.2.1) (fun p hp => F1.2.2 p (by omega)) hK.1.1 (by omega))
/-! which entries count: the class's bits are the reference's -/
theorem bt_00 : ∀ j : Fin 32, (Int32.ofInt 0).toBitVec.getLsbD j.1 = false := by decide
theorem bt_or0 {c : Int} {j : Nat} (hj : j < 32) : bt (m_or c 0) j = bt c j := by
  unfold bt m_or
  rw [Int32.ofInt_toInt, Int32.toBitVec_or, BitVec.getLsbD_or, bt_00 ⟨j, hj⟩, Bool.or_false]
theorem cS_bt {r : Nat → Int} : ∀ (n j : Nat), n ≤ 32 → j < 32 → (bt (cS r n) j = true ↔ (j < n ∧ r (5 * j + 84) = 1))
  | 0, j, _, hj => by
    have y : bt (cS r 0) j = false := bt_00 ⟨j, hj⟩
    rw [y]
    exact ⟨fun z => absurd z (by decide), fun z => absurd z.1 (by omega)⟩
  | n + 1, j, hn, hj => by
    have i := cS_bt (r := r) n j (by omega) hj
    show bt (m_or (cS r n) (if r (5 * n + 84) = 1 then m_shl 1 n else 0)) j = true ↔ _
    by_cases g : r (5 * n + 84) = 1
    · rw [if_pos g, bt_or (by omega) hj, Bool.or_eq_true, i, decide_eq_true_eq]
      constructor
      · rintro (z | z)
        · exact ⟨by omega, z.2⟩
        · subst z; exact ⟨by omega, g⟩
      · rintro ⟨z, y⟩
        by_cases q : j = n
        · exact Or.inr q
        · exact Or.inl ⟨by omega, y⟩
    · rw [if_neg g, bt_or0 hj, i]
      constructor
      · rintro ⟨z, y⟩; exact ⟨by omega, y⟩
      · rintro ⟨z, y⟩
        refine ⟨?_, y⟩
        by_cases q : j = n
        · subst q; exact absurd y g
        · omega
theorem eA_en {r K C : Nat → Int} {a b : Int} : ∀ (n : Nat), (∀ e : Nat, e < n → (m_and (m_shr a e) 1 = 1 ↔ m_and (m_shr b e) 1 = 1)) → eA r K C a n = eA r K C b n
  | 0, _ => rfl
  | n + 1, h => by
    show eA r K C a n ++ eR r K C a n = eA r K C b n ++ eR r K C b n
    rw [eA_en n (fun e he => h e (by omega))]
    congr 1
    unfold eR eOf
    by_cases g : m_and (m_shr a n) 1 = 1 ∧ K (r (5 * n + 81)).toNat ≠ -1
    · exact (if_pos g).trans (if_pos ⟨(h n (by omega)).mp g.1, g.2⟩).symm
    · exact (if_neg g).trans (if_neg (fun z => g ⟨(h n (by omega)).mpr z.1, z.2⟩)).symm
theorem bL_en {r K C : Nat → Int} {a b : Int} (h : ∀ e : Nat, e < (r 0).toNat → (m_and (m_shr a e) 1 = 1 ↔ m_and (m_shr b e) 1 = 1)) : bL r K C a = bL r K C b := by
  unfold bL
  rw [eA_en _ h]
theorem bL_cF {L : Nat} {h : m_H} {r K C : Nat → Int} (b : RB r) (cb : CB (h L 8) r) : bL r K C (h L 8) = bL r K C (cF r) := by
  obtain ⟨b1, b2, b3, b4⟩ := b
  refine bL_en (fun e he => ?_)
  rw [hasBit_iff (by omega), hasBit_iff (by omega), cb e (by omega)]
  unfold cF
  rw [cS_bt _ _ (by omega) (by omega)]
  constructor
  · rintro ⟨x, y⟩; exact ⟨by omega, y⟩
  · rintro ⟨x, y⟩; exact ⟨by omega, y⟩
theorem kp_of {h : m_H} (G : GI h) : ∀ j, j < 32 → -1 ≤ h 110 (10 + j) ∧ h 110 (10 + j) ≤ 3 := fun j hj => by
  have z := gw_w G (i := 10 + (j : Int)) (by omega) (by omega)
  rw [show (10 + (j : Int)).toNat = 10 + j by omega] at z
  exact z
theorem EN_k {h : m_H} {K : Nat → Int} (G : GI h) (N : NP h) (hk : ∀ j, j < 32 → -1 ≤ K j ∧ K j ≤ 3) : EN (h 110) K := fun e he => by
  have r0 := gw_0 G
  have r0' : 0 ≤ h 110 0 ∧ h 110 0 ≤ 24 := r0
  obtain ⟨a, b, c, d⟩ := gw_n G (e := e) (by omega)
  exact ⟨hk _ (by omega), a, ⟨N.1 e he, c⟩, d, b⟩
theorem EN_of {h : m_H} (G : GI h) (N : NP h) : EN (h 110) (fun j => h 110 (10 + j)) := EN_k G N (kp_of G)
theorem SH_of {h : m_H} (G : GI h) : SH (h 110) := fun k hk => by
  have r1 : 0 ≤ h 110 1 ∧ h 110 1 ≤ 6 := gw_1 G
  have b0 := gw_s G (i := 2 * (k : Int) + 48) (by omega) (by omega)
  have b1 := gw_s G (i := 2 * (k : Int) + 49) (by omega) (by omega)
  rw [show (2 * (k : Int) + 48).toNat = 2 * k + 48 by omega] at b0
  rw [show (2 * (k : Int) + 49).toNat = 2 * k + 49 by omega] at b1
  exact ⟨b0, b1⟩
/-- what stands of the class's limits -/
def TY (r : Nat → Int) (s : Int) (h : m_H) : Prop := ∃ D, eCl D (bR r) (fun j => r (42 + j)) s ∧ TX (bR r) D (fun j => r (42 + j)) s h
theorem cb_now {h h' : m_H} {x x1 : Int} (R : LR 1 h (h 110)) (G : GI h) (N : NP h) (ex : h 1 8 = x1) (f : (x = 1 ↔ ¬ gain (bL (h 110) (fun j => h 110 (10 + j)) (fun j => h 110 (42 + j)) x1)) ∧ (x = 1 → TX (bL (h 110) (fun j => h 110 (10 + j)) (fun j => h 110 (42 + j)) x1) (eA (h 110) (fun j => h 110 (10 + j)) (fun j => h 110 (42 + j)) x1 (h 110 0).toNat) (fun j => h 110 (42 + j)) (h 1 9) h')) : (x = 1 ↔ ¬ gain (bR (h 110))) ∧ (x = 1 → TY (h 110) (h 1 9) h') := by
  have e : bL (h 110) (fun j => h 110 (10 + j)) (fun j => h 110 (42 + j)) x1 = bR (h 110) := by
    rw [← ex]; exact bL_cF R.1 R.2.2.2.2.2.2.1
  have c := bL_cl (en := x1) (LK_of R) (EN_of G N) (SH_of G)
  rw [e] at f c
  exact ⟨f.1, fun z => ⟨_, c, f.2 z⟩⟩
abbrev P_X11_canBe2 (h0 : m_H) : Int → m_H → Prop := fun x h' => GI h' ∧ FR (csB ++ [39, 40, 41]) [] h0 h' ∧ 0 ≤ x ∧ x ≤ 1 ∧ (x = 1 ↔ ¬ gain (bR (h0 110))) ∧ (x = 1 → TY (h0 110) (h0 1 9) h')
set_option maxHeartbeats 4000000 in
set_option maxRecDepth 100000 in
theorem c_X11_canBe2 (h0 : m_H) (G0 : GI h0) (hR : LR 1 h0 (h0 110)) (hN : NP h0) : m_CI M_X11_canBe [mR 0] h0 (P_X11_canBe2 h0) := by
  refine m_CI_of ⟨by decide, rfl, by simp [m_arg, m_isL, M_X11_canBe], ⟨rfl, rfl⟩, rfl, rfl⟩ (ls := [some (mR 0)]) rfl ?_
  refine z_aload_n (M := M_X11_canBe) 0 dX11_canBe_0 rfl ?_
  refine z_getR (M := M_X11_canBe) 1 dX11_canBe_1 f_X11_46 o_0 rfl (g_0_6 G0) ?_
  refine z_aload_n (M := M_X11_canBe) 4 dX11_canBe_4 rfl ?_
  refine z_getR (M := M_X11_canBe) 5 dX11_canBe_5 f_X11_12 o_0 rfl (g_0_0 G0) ?_
  refine z_aload_n (M := M_X11_canBe) 8 dX11_canBe_8 rfl ?_
  refine z_getR (M := M_X11_canBe) 9 dX11_canBe_9 f_X11_12 o_0 rfl (g_0_0 G0) ?_
  refine z_getIV (M := M_X11_canBe) 12 dX11_canBe_12 f_X11_346 o_1 (by decide) (fun x1 ex1 => ?_)
  refine z_ok (fun ox1 _ _ => ?_)
  have ox1 := ox1.1; unfold m_ok m_32 at ox1
  refine z_vI (M := M_X11_canBe) 15 dX11_canBe_15 t_X9_canBe l_X11_343 (m_rr_of rfl) (rest := []) (c_X9_canBe2 h0 1 x1 (h0 110) (fun j => h0 110 (10 + j)) (fun j => h0 110 (42 + j)) (Or.inl rfl) G0 (LK_of hR) (EN_of G0 hN) (SH_of G0) (bL_ok G0 hN (kp_of G0))) o_38 rfl rfl rfl (Nat.le_of_ble_eq_true rfl) ⟨rfl, rfl⟩ (fun x2 h1 qx2 => ?_)
  obtain ⟨G1, S1, ax2, bx2, fx2⟩ := qx2
  have R1 := (FR.rf (cs := (csB ++ [39, 40, 41])) (ss := []) (h := h0)).call S1 (by decide +kernel)
  exact z_retZ (M := M_X11_canBe) 18 dX11_canBe_18 rfl (by omega) ⟨G1, R1, by omega, by omega, cb_now hR G0 hN ex1 fx2⟩
abbrev P_X11_fits3 (h0 : m_H) : Int → m_H → Prop := fun x h' => GI h' ∧ FR (csB ++ [39, 40, 41]) [] h0 h' ∧ 0 ≤ x ∧ x ≤ 1 ∧ (x = 1 ↔ ¬ gain (bR (h0 110)))
set_option maxHeartbeats 4000000 in
set_option maxRecDepth 100000 in
theorem c_X11_fits3 (h0 : m_H) (G0 : GI h0) (hR : LR 1 h0 (h0 110)) (hN : NP h0) : m_CI M_X11_fits [mR 0] h0 (P_X11_fits3 h0) := by
  refine m_CI_of ⟨by decide, rfl, by simp [m_arg, m_isL, M_X11_fits], ⟨rfl, rfl⟩, rfl, rfl⟩ (ls := [some (mR 0)]) rfl ?_
  refine z_aload_n (M := M_X11_fits) 0 dX11_fits_0 rfl ?_
  refine z_vI (M := M_X11_fits) 1 dX11_fits_1 t_X11_canBe l_X11_208 (m_rr_of rfl) (rest := []) (c_X11_canBe2 h0 G0 hR hN) o_0 rfl rfl rfl (Nat.le_of_ble_eq_true rfl) ⟨rfl, rfl⟩ (fun x1 h1 qx1 => ?_)
  obtain ⟨G1, S1, ax1, bx1, fx1⟩ := qx1
  have R1 := (FR.rf (cs := (csB ++ [39, 40, 41])) (ss := []) (h := h0)).call S1 (by decide +kernel)
  refine z_if_eq (M := M_X11_fits) 4 dX11_fits_4 11 rfl (fun c2 => ?_) (fun c2 => ?_)
  · refine z_iconst (M := M_X11_fits) 11 dX11_fits_11 ?_
    exact z_retI (M := M_X11_fits) 12 dX11_fits_12 rfl ⟨G1, R1, by omega, by omega, ⟨fun z => absurd z (by decide), fun z => absurd (fx1.1.mpr z) (by omega)⟩⟩
  · refine z_iconst (M := M_X11_fits) 7 dX11_fits_7 ?_
    refine z_goto (M := M_X11_fits) 8 dX11_fits_8 12 rfl ?_
    exact z_retI (M := M_X11_fits) 12 dX11_fits_12 rfl ⟨G1, R1, by omega, by omega, ⟨fun _ => fx1.1.mp (by omega), fun _ => rfl⟩⟩
abbrev P_X12_canBeNow2 (h0 : m_H) : Int → m_H → Prop := fun x h' => GI h' ∧ FR [115, 116, 117, 118, 119, 120, 121, 122, 123, 124, 125, 126, 127, 128, 129, 130, 131, 132, 133, 134] [(108, 21)] h0 h' ∧ 0 ≤ x ∧ x ≤ 1 ∧ cbQ x (bR (h0 110)) ∧ (x = 0 → gain (bR (h0 110)))
set_option maxHeartbeats 4000000 in
set_option maxRecDepth 100000 in
theorem c_X12_canBeNow2 (h0 : m_H) (G0 : GI h0) (hN : NP h0) : m_CI M_X12_canBeNow [mR 108] h0 (P_X12_canBeNow2 h0) := by
  refine m_CI_of ⟨by decide, rfl, by simp [m_arg, m_isL, M_X12_canBeNow], ⟨rfl, rfl⟩, rfl, rfl⟩ (ls := [some (mR 108)]) rfl ?_
  refine z_aload_n (M := M_X12_canBeNow) 0 dX12_canBeNow_0 rfl ?_
  refine z_vV (M := M_X12_canBeNow) 1 dX12_canBeNow_1 t_X12_asIs l_X12_367 (m_rr_of rfl) (rest := []) (c_X12_asIsX h0 G0) o_108 rfl rfl rfl (Nat.le_of_ble_eq_true rfl) ⟨rfl, rfl⟩ (fun h1 qx1 => ?_)
  obtain ⟨G1, S1, fx1_0⟩ := qx1
  have R1 := (FR.rf (cs := [115, 116, 117, 118, 119, 120, 121, 122, 123, 124, 125, 126, 127, 128, 129, 130, 131, 132, 133, 134]) (ss := [(108, 21)]) (h := h0)).call S1 (by decide +kernel)
  refine z_aload_n (M := M_X12_canBeNow) 4 dX12_canBeNow_4 rfl ?_
  refine z_aload_n (M := M_X12_canBeNow) 5 dX12_canBeNow_5 rfl ?_
  refine z_vI (M := M_X12_canBeNow) 6 dX12_canBeNow_6 t_X12_counting l_X12_370 (m_rr_of rfl) (rest := [mR 108]) (c_X12_countingX h1 G1) o_108 rfl rfl rfl (Nat.le_of_ble_eq_true rfl) ⟨rfl, rfl⟩ (fun x2 h2 qx2 => ?_)
  obtain ⟨G2, S2, fx2_0⟩ := qx2
  have R2 := R1.call S2 (by decide +kernel)
  refine z_ok (fun ox2 _ _ => ?_)
  have ox2 := ox2.1; unfold m_ok m_32 at ox2
  refine z_vI (M := M_X12_canBeNow) 9 dX12_canBeNow_9 t_X12_canBe l_X12_374 (m_rr_of rfl) (rest := []) (c_X12_canBe2 h2 x2 G2 (NP.call hN R2 (fun _ => rfl) (fun _ => rfl) (fun _ => rfl))) o_108 rfl rfl rfl (Nat.le_of_ble_eq_true rfl) ⟨rfl, rfl⟩ (fun x3 h3 qx3 => ?_)
  obtain ⟨G3, S3, ax3, bx3, fx3_0, fx3_1⟩ := qx3
  have R3 := R2.call S3 (by decide +kernel)
  exact z_retZ (M := M_X12_canBeNow) 12 dX12_canBeNow_12 rfl (by omega) ⟨G3, R3, by omega, by omega, by have q := fx3_0; rw [bR_eq G0 (fun j => (S2 110 j rfl).trans (S1 110 j rfl)) ⟨fun j hj => (S2 122 j rfl).trans (fx1_0.1 j hj), fun j hj => (S2 123 j rfl).trans (fx1_0.2 j hj)⟩ (fx2_0.trans (congrArg cF (FR.row S1 (fun _ => rfl))))] at q; exact q, by have q := fx3_1; rw [bR_eq G0 (fun j => (S2 110 j rfl).trans (S1 110 j rfl)) ⟨fun j hj => (S2 122 j rfl).trans (fx1_0.1 j hj), fun j hj => (S2 123 j rfl).trans (fx1_0.2 j hj)⟩ (fx2_0.trans (congrArg cF (FR.row S1 (fun _ => rfl))))] at q; exact q⟩
abbrev P_X12_fits3 (h0 : m_H) : Int → m_H → Prop := fun x h' => GI h' ∧ FR [115, 116, 117, 118, 119, 120, 121, 122, 123, 124, 125, 126, 127, 128, 129, 130, 131, 132, 133, 134] [(108, 0), (108, 21)] h0 h' ∧ 0 ≤ x ∧ x ≤ 1 ∧ (x = 1 ↔ ¬ gain (bR (h0 110)))
set_option maxHeartbeats 4000000 in
set_option maxRecDepth 100000 in
theorem c_X12_fits3 (h0 : m_H) (G0 : GI h0) (hN : NP h0) : m_CI M_X12_fits [mR 108] h0 (P_X12_fits3 h0) := by
  refine m_CI_of ⟨by decide, rfl, by simp [m_arg, m_isL, M_X12_fits], ⟨rfl, rfl⟩, rfl, rfl⟩ (ls := [some (mR 108)]) rfl ?_
  refine z_aload_n (M := M_X12_fits) 0 dX12_fits_0 rfl ?_
  refine z_iconst (M := M_X12_fits) 1 dX12_fits_1 ?_
  refine z_putIH (M := M_X12_fits) 2 dX12_fits_2 p_X12_133 o_108 rfl (u_108_0 G0) ((FR.rf (cs := [115, 116, 117, 118, 119, 120, 121, 122, 123, 124, 125, 126, 127, 128, 129, 130, 131, 132, 133, 134]) (ss := [(108, 0), (108, 21)]) (h := h0)).up rfl) (fun h1 E1 G1 R1 => ?_)
  refine z_aload_n (M := M_X12_fits) 5 dX12_fits_5 rfl ?_
  refine z_vI (M := M_X12_fits) 6 dX12_fits_6 t_X12_canBeNow l_X12_377 (m_rr_of rfl) (rest := []) (c_X12_canBeNow2 h1 G1 (NP.call hN R1 (fun _ => rfl) (fun _ => rfl) (fun _ => rfl))) o_108 rfl rfl rfl (Nat.le_of_ble_eq_true rfl) ⟨rfl, rfl⟩ (fun x1 h2 qx1 => ?_)
  obtain ⟨G2, S2, ax1, bx1, fx1_0, fx1_1⟩ := qx1
  have R2 := R1.call S2 (by decide +kernel)
  refine z_if_eq (M := M_X12_fits) 9 dX12_fits_9 16 rfl (fun c2 => ?_) (fun c2 => ?_)
  · refine z_iconst (M := M_X12_fits) 16 dX12_fits_16 ?_
    exact z_retI (M := M_X12_fits) 17 dX12_fits_17 rfl ⟨G2, R2, by omega, by omega, ⟨fun z => absurd z (by decide), fun z => absurd (by have e_ : h1 110 = h0 110 := funext fun j => R1 110 j rfl; have q := fx1_1 (by omega); rw [e_] at q; exact q) z⟩⟩
  · refine z_iconst (M := M_X12_fits) 12 dX12_fits_12 ?_
    refine z_goto (M := M_X12_fits) 13 dX12_fits_13 17 rfl ?_
    exact z_retI (M := M_X12_fits) 17 dX12_fits_17 rfl ⟨G2, R2, by omega, by omega, ⟨fun _ => by have e_ : h1 110 = h0 110 := funext fun j => R1 110 j rfl; have q := fx1_0 (by omega); rw [e_] at q; exact gG_no (bR_ok G0 hN) q, fun _ => rfl⟩⟩
theorem LX.fits {h h1 : m_H} {x y : Int} {cs : List Nat} {ss : List (Nat × Nat)} (S1 : FR cs ss h h1) (a1 : 0 ≤ x) (a2 : x ≤ 1) (A : x = 1 ↔ ¬ gain (bR (h 110))) (b1 : 0 ≤ y) (b2 : y ≤ 1) (B : y = 1 ↔ ¬ gain (bR (h1 110))) (o : out 110 110 cs ss = true) : x = y := by
  rw [rowz S1 (fr_out o (by decide) (by decide))] at B
  by_cases g : gain (bR (h 110))
  · have n1 : ¬ x = 1 := fun z => A.mp z g
    have n2 : ¬ y = 1 := fun z => B.mp z g
    omega
  · rw [A.mpr g, B.mpr g]
/-! what a search over sets of entries needs -/
def gnP (r K C : Nat → Int) (en : Int) : Prop := gain (bL r K C en)
def KX (L : Nat) (r K C : Nat → Int) (h : m_H) : Prop := LK L h r K C ∧ EN r K ∧ SH r ∧ ∀ en, ∀ q ∈ bL r K C en, gEo q
theorem KX.same {L : Nat} {r K C : Nat → Int} {h0 h : m_H} (k : KX L r K C h0) (e : ∀ i, i < 8 → h (L + i) = h0 (L + i)) : KX L r K C h := ⟨k.1.same e, k.2⟩
theorem KX_0 {h : m_H} (R : LR 1 h (h 110)) (G : GI h) (N : NP h) : KX 1 (h 110) (fun j => h 110 (10 + j)) (fun j => h 110 (42 + j)) h := ⟨LK_of R, EN_of G N, SH_of G, fun _ => bL_ok G N (kp_of G)⟩
def RX (r K C : Nat → Int) (h : m_H) : Prop := h 110 = r ∧ (∀ j, j < 32 → h 122 j = K j) ∧ ∀ j, j < 6 → h 123 j = C j
theorem RX.to {r K C : Nat → Int} {h h' : m_H} (X : RX r K C h) (e0 : h' 110 = h 110) (e1 : h' 122 = h 122) (e2 : h' 123 = h 123) : RX r K C h' := ⟨e0.trans X.1, fun j hj => by rw [e1]; exact X.2.1 j hj, fun j hj => by rw [e2]; exact X.2.2 j hj⟩
theorem RX_0 {h0 h : m_H} (e : h 110 = h0 110) (A : asQ h0 h 32 6) : RX (h0 110) (fun j => h0 110 (10 + j)) (fun j => h0 110 (42 + j)) h := ⟨e, fun j hj => A.1 j (by omega), fun j hj => A.2 j (by omega)⟩
theorem gn_iff {h : m_H} {r K C : Nat → Int} {en x : Int} (X : RX r K C h) (G : GI h) (N : NP h) (a : 0 ≤ x) (b : x ≤ 1) (f0 : cbQ x (bL (h 110) (h 122) (h 123) en)) (f1 : x = 0 → gain (bL (h 110) (h 122) (h 123) en)) : x = 1 ↔ ¬ gnP r K C en := by
  have e : bL (h 110) (h 122) (h 123) en = bL r K C en := by rw [bL_cg G X.2.1 X.2.2, X.1]
  have ok := bL_ok (en := en) (ct := h 123) G N (kp := h 122) (fun j hj => g_122 G hj)
  rw [e] at f0 f1 ok
  constructor
  · exact fun z => gG_no ok (f0 z)
  · intro z
    by_cases q : x = 0
    · exact absurd (f1 q) z
    · omega
theorem bits_eq {a b : Int} (ha : m_32 a) (hb : m_32 b) (h : ∀ j, j < 32 → bt a j = bt b j) : a = b := by
  have e : (Int32.ofInt a).toBitVec = (Int32.ofInt b).toBitVec := BitVec.eq_of_getLsbD_eq (fun j hj => h j hj)
  rw [← m_i32 ha, ← m_i32 hb]
  exact congrArg BitVec.toInt e
theorem an_ne {l : Int} {e : Nat} (he : e < 32) (hl : m_32 l) : m_and l (m_xor (m_shl 1 e) (-1)) = l ↔ bt l e = false := by
  constructor
  · intro z
    have y := bt_an (c := l) (e := e) (j := e) he he
    rw [z] at y
    rw [y]; simp
  · intro z
    refine bits_eq (m_32t _) hl (fun j hj => ?_)
    rw [bt_an he hj]
    by_cases g : j = e
    · subst g; rw [z]; rfl
    · simp [g]
theorem cS_32 {r : Nat → Int} : ∀ n, m_32 (cS r n)
  | 0 => by show m_32 0; unfold m_32; omega
  | n + 1 => m_32t _
theorem cF_eq {L : Nat} {h : m_H} {r : Nat → Int} {x : Int} (b : RB r) (cb : CB (h L 8) r) (e : h L 8 = x) (o : m_32 x) : x = cF r := by
  obtain ⟨b1, b2, b3, b4⟩ := b
  refine bits_eq o (cS_32 _) (fun j hj => ?_)
  have z := cb j hj
  rw [e] at z
  have y : bt (cF r) j = true ↔ (j < (r 0).toNat ∧ r (5 * j + 84) = 1) := cS_bt (r := r) (r 0).toNat j (by omega) hj
  rw [Bool.eq_iff_iff, z, y]
  constructor
  · rintro ⟨u, v⟩; exact ⟨by omega, v⟩
  · rintro ⟨u, v⟩; exact ⟨by omega, v⟩
/-! those that are left, when none can go any more -/
def wo (l : Int) (e : Nat) : Int := m_and l (m_xor (m_shl 1 e) (-1))
noncomputable def cSt (gn : Int → Prop) (l : Int) (e : Nat) : Int := cif (bt l e = true ∧ gn (wo l e)) (wo l e) l
noncomputable def cLo (gn : Int → Prop) (l : Int) : Nat → Int
  | 0 => l
  | n + 1 => cSt gn (cLo gn l n) n
theorem cL_s {gn : Int → Prop} {a l l' : Int} {e : Int} (h0 : 0 ≤ e) (i : l = cLo gn a e.toNat) (q : l' = cSt gn l e.toNat) : l' = cLo gn a (e + 1).toNat := by
  rw [show (e + 1).toNat = e.toNat + 1 by omega, q, i]; rfl
theorem wo_of {l e x2 x3 x4 : Int} (h0 : 0 ≤ e) (e2 : m_shl 1 e = x2) (e3 : m_xor x2 (-1) = x3) (e4 : m_and l x3 = x4) : wo l e.toNat = x4 := by
  unfold wo
  rw [show ((e.toNat : Nat) : Int) = e by omega, e2, e3, e4]
theorem cSt_n {gn : Int → Prop} {l x4 : Int} {e : Nat} (h : e < 32) (o : m_32 l) (w : wo l e = x4) (c : x4 = l) : l = cSt gn l e := by
  unfold cSt
  rw [cif_neg]
  rintro ⟨z, _⟩
  have y := (an_ne h o).mp (w.trans c)
  rw [y] at z; exact absurd z (by decide)
theorem cSt_k {gn : Int → Prop} {l x4 : Int} {e : Nat} (w : wo l e = x4) (c : ¬ gn x4) : l = cSt gn l e := by
  unfold cSt
  rw [cif_neg]
  rintro ⟨_, z⟩
  rw [w] at z; exact c z
theorem cSt_y {gn : Int → Prop} {l x4 : Int} {e : Nat} (h : e < 32) (o : m_32 l) (w : wo l e = x4) (c : x4 ≠ l) (g : gn x4) : x4 = cSt gn l e := by
  unfold cSt
  rw [cif_pos, w]
  refine ⟨?_, by rw [w]; exact g⟩
  cases hb : bt l e with
  | true => rfl
  | false => exact absurd (w.symm.trans ((an_ne h o).mpr hb)) c
theorem cSt_b {gn : Int → Prop} {l x4 : Int} {e : Nat} (w : wo l e = x4) (c : bt l e = true) (g : gn x4) : x4 = cSt gn l e := by
  unfold cSt
  rw [cif_pos ⟨c, by rw [w]; exact g⟩, w]
theorem cSt_0 {gn : Int → Prop} {l : Int} {e : Nat} (c : ¬ bt l e = true) : l = cSt gn l e := by
  unfold cSt
  rw [cif_neg (fun z => c z.1)]
theorem cLo_sub {gn : Int → Prop} {a : Int} {j : Nat} (hj : j < 32) : ∀ n, n ≤ 32 → bt (cLo gn a n) j = true → bt a j = true
  | 0, _, h => h
  | n + 1, hn, h => by
    refine cLo_sub (gn := gn) hj n (by omega) ?_
    have h' : bt (cSt gn (cLo gn a n) n) j = true := h
    unfold cSt at h'
    by_cases g : bt (cLo gn a n) n = true ∧ gn (wo (cLo gn a n) n)
    · rw [cif_pos g] at h'
      unfold wo at h'
      rw [bt_an (by omega) hj, Bool.and_eq_true] at h'
      exact h'.1
    · rw [cif_neg g] at h'; exact h'
/-- past the last entry nothing goes -/
theorem cLo_end {gn : Int → Prop} {r : Nat → Int} (b : RB r) : cLo gn (cF r) 24 = cLo gn (cF r) (r 0).toNat := by
  obtain ⟨b1, b2, b3, b4⟩ := b
  have z : ∀ k, (r 0).toNat + k ≤ 24 → cLo gn (cF r) ((r 0).toNat + k) = cLo gn (cF r) (r 0).toNat := by
    intro k
    induction k with
    | zero => intro _; rfl
    | succ k ih =>
      intro hk
      have i := ih (by omega)
      show cSt gn (cLo gn (cF r) ((r 0).toNat + k)) ((r 0).toNat + k) = _
      rw [← i]
      refine (cSt_0 ?_).symm
      intro y
      have w := cLo_sub (gn := gn) (a := cF r) (j := (r 0).toNat + k) (by omega) ((r 0).toNat + k) (by omega) y
      have v := (cS_bt (r := r) (r 0).toNat ((r 0).toNat + k) (by omega) (by omega)).mp w
      omega
  have y := z (24 - (r 0).toNat) (by omega)
  rw [show (r 0).toNat + (24 - (r 0).toNat) = 24 by omega] at y
  exact y
noncomputable def coF (gn : Int → Prop) (c : Int) (n : Nat) : Int := cif (gn c) (cif (gn 0) (-1) (cLo gn c n)) 0
theorem co_a {gn : Int → Prop} {c : Int} {n : Nat} (h : ¬ gn c) : (0 : Int) = coF gn c n := by unfold coF; rw [cif_neg h]
theorem co_b {gn : Int → Prop} {c : Int} {n : Nat} (h : gn c) (h0 : gn 0) : (-1 : Int) = coF gn c n := by unfold coF; rw [cif_pos h, cif_pos h0]
theorem co_c {gn : Int → Prop} {c x : Int} {n : Nat} (h : gn c) (h0 : ¬ gn 0) (e : x = cLo gn c n) : x = coF gn c n := by unfold coF; rw [cif_pos h, cif_neg h0]; exact e
theorem ng {x : Int} {g : Prop} (f : x = 1 ↔ ¬ g) (h : x ≠ 1) : g := Classical.byContradiction fun z => h (f.mpr z)
abbrev P_X3_leaveOut2 (h0 : m_H) (L : Nat) (a2 : Int) (r : Nat → Int) (K : Nat → Int) (C : Nat → Int) : Int → m_H → Prop := fun x h' => GI h' ∧ FR (csB ++ [39, 40, 41]) [] h0 h' ∧ x = cLo (gnP r K C) a2 24
def q_X3_leaveOut2 (h0 : m_H) (L : Nat) (a2 : Int) (r : Nat → Int) (K : Nat → Int) (C : Nat → Int) (n : Nat) : Prop := (∀ (l3 l4 : Int) (h : m_H), GI h → FR (csB ++ [39, 40, 41]) [] h0 h → 0 ≤ l4 → l4 ≤ 24 → (-2147483648) ≤ a2 → a2 ≤ 2147483647 → (l3 = cLo (gnP r K C) a2 l4.toNat) → 2 * (24 - l4) + (1) ≤ (n : Int) → m_Z oF M_X3_leaveOut 5 [some (mR 101), some (mR L), none, some (mI l3), some (mI l4), none] [] h (m_QI (P_X3_leaveOut2 h0 L a2 r K C)))
set_option maxHeartbeats 4000000 in
set_option maxRecDepth 100000 in
theorem s_X3_leaveOut2_5 (h0 : m_H) (L : Nat) (a2 : Int) (r : Nat → Int) (K : Nat → Int) (C : Nat → Int) (hL : isL L) (G0 : GI h0) (hX : KX L r K C h0) (n : Nat) (ih : q_X3_leaveOut2 h0 L a2 r K C n) : ∀ (l3 l4 : Int) (h : m_H), GI h → FR (csB ++ [39, 40, 41]) [] h0 h → 0 ≤ l4 → l4 ≤ 24 → (-2147483648) ≤ a2 → a2 ≤ 2147483647 → (l3 = cLo (gnP r K C) a2 l4.toNat) → 2 * (24 - l4) + (1) ≤ ((n + 1 : Nat) : Int) → m_Z oF M_X3_leaveOut 5 [some (mR 101), some (mR L), none, some (mI l3), some (mI l4), none] [] h (m_QI (P_X3_leaveOut2 h0 L a2 r K C)) := by
  intro l3 l4 h G R v0 v1 v2 v3 i0 hr
  have kx_ := hX.same (led_same hL R)
  refine z_ok (fun ostk _ olocs => ?_)
  have ol3 : m_32 l3 := olocs 3 _ rfl
  unfold m_32 at ol3
  refine z_iload (M := M_X3_leaveOut) 5 dX3_leaveOut_5 rfl ?_
  refine z_bipush (M := M_X3_leaveOut) 7 dX3_leaveOut_7 ?_
  refine z_icmp_ge (M := M_X3_leaveOut) 9 dX3_leaveOut_9 50 rfl (fun c1 => ?_) (fun c1 => ?_)
  · refine z_iload_n (M := M_X3_leaveOut) 50 dX3_leaveOut_50 rfl ?_
    exact z_retI (M := M_X3_leaveOut) 51 dX3_leaveOut_51 rfl ⟨G, R, (show l4.toNat = 24 by omega) ▸ i0⟩
  · refine z_iload_n (M := M_X3_leaveOut) 12 dX3_leaveOut_12 rfl ?_
    refine z_iconst (M := M_X3_leaveOut) 13 dX3_leaveOut_13 ?_
    refine z_iload (M := M_X3_leaveOut) 14 dX3_leaveOut_14 rfl ?_
    refine z_ishl (M := M_X3_leaveOut) 16 dX3_leaveOut_16 ?_
    refine z_topm (fun x2 ex2 ox2 => ?_)
    unfold m_32 at ox2
    refine z_iconst (M := M_X3_leaveOut) 17 dX3_leaveOut_17 ?_
    refine z_ixor (M := M_X3_leaveOut) 18 dX3_leaveOut_18 ?_
    refine z_topm (fun x3 ex3 ox3 => ?_)
    unfold m_32 at ox3
    refine z_iand (M := M_X3_leaveOut) 19 dX3_leaveOut_19 ?_
    refine z_topm (fun x4 ex4 ox4 => ?_)
    unfold m_32 at ox4
    have w_ := wo_of (by omega) ex2 ex3 ex4
    refine z_istore (M := M_X3_leaveOut) 20 dX3_leaveOut_20 (ls' := [some (mR 101), some (mR L), none, some (mI l3), some (mI l4), some (mI x4)]) (by decide) rfl ?_
    refine z_iload (M := M_X3_leaveOut) 22 dX3_leaveOut_22 rfl ?_
    refine z_iload_n (M := M_X3_leaveOut) 24 dX3_leaveOut_24 rfl ?_
    refine z_icmp_eq (M := M_X3_leaveOut) 25 dX3_leaveOut_25 44 rfl (fun c5 => ?_) (fun c5 => ?_)
    · refine z_iincN (M := M_X3_leaveOut) 44 dX3_leaveOut_44 (ls' := [some (mR 101), some (mR L), none, some (mI l3), some (mI (l4 + 1)), some (mI x4)]) (by decide) rfl (by (unfold m_32; decide)) (by omega) (by omega) rfl ?_
      refine z_goto (M := M_X3_leaveOut) 47 dX3_leaveOut_47 5 rfl ?_
      exact z_mask [true, true, false, true, true, false] rfl (ih l3 (l4 + 1) h G R (by omega) (by omega) (by omega) (by omega) (cL_s (by omega) i0 (cSt_n (by omega) ol3 w_ c5)) (by omega))
    · refine z_aload_n (M := M_X3_leaveOut) 28 dX3_leaveOut_28 rfl ?_
      refine z_getR (M := M_X3_leaveOut) 29 dX3_leaveOut_29 f_X3_9 o_101 rfl (g_101_0 G) ?_
      refine z_aload_n (M := M_X3_leaveOut) 32 dX3_leaveOut_32 rfl ?_
      refine z_iload (M := M_X3_leaveOut) 33 dX3_leaveOut_33 rfl ?_
      refine z_vI (M := M_X3_leaveOut) 35 dX3_leaveOut_35 t_X9_canBe l_X3_15 (m_rr_of rfl) (rest := []) (c_X9_canBe2 h L x4 r K C hL G kx_.1 kx_.2.1 kx_.2.2.1 (kx_.2.2.2 x4)) o_38 rfl rfl rfl (Nat.le_of_ble_eq_true rfl) ⟨rfl, rfl⟩ (fun x6 h1 qx6 => ?_)
      obtain ⟨G1, S1, ax6, bx6, fx6⟩ := qx6
      have R1 := R.call S1 (by decide +kernel)
      refine z_if_ne (M := M_X3_leaveOut) 38 dX3_leaveOut_38 44 rfl (fun c7 => ?_) (fun c7 => ?_)
      · refine z_iincN (M := M_X3_leaveOut) 44 dX3_leaveOut_44 (ls' := [some (mR 101), some (mR L), none, some (mI l3), some (mI (l4 + 1)), some (mI x4)]) (by decide) rfl (by (unfold m_32; decide)) (by omega) (by omega) rfl ?_
        refine z_goto (M := M_X3_leaveOut) 47 dX3_leaveOut_47 5 rfl ?_
        exact z_mask [true, true, false, true, true, false] rfl (ih l3 (l4 + 1) h1 G1 R1 (by omega) (by omega) (by omega) (by omega) (cL_s (by omega) i0 (cSt_k w_ (fx6.1.mp (by omega)))) (by omega))
      · refine z_iload (M := M_X3_leaveOut) 41 dX3_leaveOut_41 rfl ?_
        refine z_istore_n (M := M_X3_leaveOut) 43 dX3_leaveOut_43 (ls' := [some (mR 101), some (mR L), none, some (mI x4), some (mI l4), some (mI x4)]) (by decide) rfl ?_
        refine z_iincN (M := M_X3_leaveOut) 44 dX3_leaveOut_44 (ls' := [some (mR 101), some (mR L), none, some (mI x4), some (mI (l4 + 1)), some (mI x4)]) (by decide) rfl (by (unfold m_32; decide)) (by omega) (by omega) rfl ?_
        refine z_goto (M := M_X3_leaveOut) 47 dX3_leaveOut_47 5 rfl ?_
        exact z_mask [true, true, false, true, true, false] rfl (ih x4 (l4 + 1) h1 G1 R1 (by omega) (by omega) (by omega) (by omega) (cL_s (by omega) i0 (cSt_y (by omega) ol3 w_ c5 (ng fx6.1 (by omega)))) (by omega))
theorem a_X3_leaveOut2 (h0 : m_H) (L : Nat) (a2 : Int) (r : Nat → Int) (K : Nat → Int) (C : Nat → Int) (hL : isL L) (G0 : GI h0) (hX : KX L r K C h0) : ∀ n, q_X3_leaveOut2 h0 L a2 r K C n := by
  intro n
  induction n with
  | zero => unfold q_X3_leaveOut2; intros; omega
  | succ n ih => exact s_X3_leaveOut2_5 h0 L a2 r K C hL G0 hX n ih
set_option maxHeartbeats 4000000 in
set_option maxRecDepth 100000 in
theorem c_X3_leaveOut2 (h0 : m_H) (L : Nat) (a2 : Int) (r : Nat → Int) (K : Nat → Int) (C : Nat → Int) (hL : isL L) (G0 : GI h0) (hX : KX L r K C h0) : m_CI M_X3_leaveOut [mR 101, mR L, mI a2] h0 (P_X3_leaveOut2 h0 L a2 r K C) := by
  refine m_CI_of ⟨by decide, rfl, by simp [m_arg, m_isL, M_X3_leaveOut], ⟨rfl, rfl⟩, rfl, rfl⟩ (ls := [some (mR 101), some (mR L), some (mI a2), none, none, none]) rfl ?_
  have ih := a_X3_leaveOut2 h0 L a2 r K C hL G0 hX 56
  refine z_ok (fun _ _ ok => ?_)
  have oa2 : m_32 a2 := ok 2 _ rfl
  unfold m_32 at oa2
  refine z_iload_n (M := M_X3_leaveOut) 0 dX3_leaveOut_0 rfl ?_
  refine z_istore_n (M := M_X3_leaveOut) 1 dX3_leaveOut_1 (ls' := [some (mR 101), some (mR L), some (mI a2), some (mI a2), none, none]) (by decide) rfl ?_
  refine z_iconst (M := M_X3_leaveOut) 2 dX3_leaveOut_2 ?_
  refine z_istore (M := M_X3_leaveOut) 3 dX3_leaveOut_3 (ls' := [some (mR 101), some (mR L), some (mI a2), some (mI a2), some (mI 0), none]) (by decide) rfl ?_
  exact z_mask [true, true, false, true, true, false] rfl (ih a2 0 h0 G0 (FR.rf (cs := (csB ++ [39, 40, 41])) (ss := []) (h := h0)) (by omega) (by omega) (by omega) (by omega) rfl (by omega))
abbrev P_X11_core3 (h0 : m_H) : Int → m_H → Prop := fun x h' => GI h' ∧ FR (csB ++ [39, 40, 41]) [] h0 h' ∧ x = coF (gnP (h0 110) (fun j => h0 110 (10 + j)) (fun j => h0 110 (42 + j))) (cF (h0 110)) 24
set_option maxHeartbeats 4000000 in
set_option maxRecDepth 100000 in
theorem c_X11_core3 (h0 : m_H) (G0 : GI h0) (hR : LR 1 h0 (h0 110)) (hN : NP h0) : m_CI M_X11_core [mR 0] h0 (P_X11_core3 h0) := by
  refine m_CI_of ⟨by decide, rfl, by simp [m_arg, m_isL, M_X11_core], ⟨rfl, rfl⟩, rfl, rfl⟩ (ls := [some (mR 0)]) rfl ?_
  refine z_aload_n (M := M_X11_core) 0 dX11_core_0 rfl ?_
  refine z_vI (M := M_X11_core) 1 dX11_core_1 t_X11_canBe l_X11_208 (m_rr_of rfl) (rest := []) (c_X11_canBe2 h0 G0 hR hN) o_0 rfl rfl rfl (Nat.le_of_ble_eq_true rfl) ⟨rfl, rfl⟩ (fun x1 h1 qx1 => ?_)
  obtain ⟨G1, S1, ax1, bx1, fx1⟩ := qx1
  have R1 := (FR.rf (cs := (csB ++ [39, 40, 41])) (ss := []) (h := h0)).call S1 (by decide +kernel)
  have kx1_ := (KX_0 hR G0 hN).same (led_same (Or.inl rfl) R1)
  refine z_if_eq (M := M_X11_core) 4 dX11_core_4 9 rfl (fun c2 => ?_) (fun c2 => ?_)
  · refine z_aload_n (M := M_X11_core) 9 dX11_core_9 rfl ?_
    refine z_getR (M := M_X11_core) 10 dX11_core_10 f_X11_46 o_0 rfl (g_0_6 G1) ?_
    refine z_aload_n (M := M_X11_core) 13 dX11_core_13 rfl ?_
    refine z_getR (M := M_X11_core) 14 dX11_core_14 f_X11_12 o_0 rfl (g_0_0 G1) ?_
    refine z_iconst (M := M_X11_core) 17 dX11_core_17 ?_
    refine z_vI (M := M_X11_core) 18 dX11_core_18 t_X9_canBe l_X11_343 (m_rr_of rfl) (rest := []) (c_X9_canBe2 h1 1 0 (h0 110) (fun j => h0 110 (10 + j)) (fun j => h0 110 (42 + j)) (Or.inl rfl) G1 kx1_.1 kx1_.2.1 kx1_.2.2.1 (kx1_.2.2.2 0)) o_38 rfl rfl rfl (Nat.le_of_ble_eq_true rfl) ⟨rfl, rfl⟩ (fun x3 h2 qx3 => ?_)
    obtain ⟨G2, S2, ax3, bx3, fx3⟩ := qx3
    have R2 := R1.call S2 (by decide +kernel)
    refine z_if_ne (M := M_X11_core) 21 dX11_core_21 26 rfl (fun c4 => ?_) (fun c4 => ?_)
    · refine z_aload_n (M := M_X11_core) 26 dX11_core_26 rfl ?_
      refine z_getR (M := M_X11_core) 27 dX11_core_27 f_X11_76 o_0 rfl (g_0_10 G2) ?_
      refine z_aload_n (M := M_X11_core) 30 dX11_core_30 rfl ?_
      refine z_getR (M := M_X11_core) 31 dX11_core_31 f_X11_12 o_0 rfl (g_0_0 G2) ?_
      refine z_aload_n (M := M_X11_core) 34 dX11_core_34 rfl ?_
      refine z_getR (M := M_X11_core) 35 dX11_core_35 f_X11_12 o_0 rfl (g_0_0 G2) ?_
      refine z_getIV (M := M_X11_core) 38 dX11_core_38 f_X11_346 o_1 (by decide) (fun x5 ex5 => ?_)
      refine z_ok (fun ox5 _ _ => ?_)
      have ox5 := ox5.1; unfold m_ok m_32 at ox5
      refine z_vI (M := M_X11_core) 41 dX11_core_41 t_X3_leaveOut l_X11_349 (m_rr_of rfl) (rest := []) (c_X3_leaveOut2 h2 1 x5 (h0 110) (fun j => h0 110 (10 + j)) (fun j => h0 110 (42 + j)) (Or.inl rfl) G2 ((KX_0 hR G0 hN).same (led_same (Or.inl rfl) R2))) o_101 rfl rfl rfl (Nat.le_of_ble_eq_true rfl) ⟨rfl, rfl⟩ (fun x6 h3 qx6 => ?_)
      obtain ⟨G3, S3, fx6⟩ := qx6
      have R3 := R2.call S3 (by decide +kernel)
      refine z_ok (fun ox6 _ _ => ?_)
      have ox6 := ox6.1; unfold m_ok m_32 at ox6
      exact z_retI (M := M_X11_core) 44 dX11_core_44 rfl ⟨G3, R3, co_c (ng fx1.1 (by omega)) (fx3.1.mp (by omega)) (by have q := fx6; rw [(cF_eq (L := 1) hR.1 hR.2.2.2.2.2.2.1 ((congrFun (led_same (L := 1) (Or.inl rfl) R2 0 (by decide)) 8).symm.trans ex5) ox5)] at q; exact q)⟩
    · refine z_iconst (M := M_X11_core) 24 dX11_core_24 ?_
      exact z_retI (M := M_X11_core) 25 dX11_core_25 rfl ⟨G2, R2, co_b (ng fx1.1 (by omega)) (ng fx3.1 (by omega))⟩
  · refine z_iconst (M := M_X11_core) 7 dX11_core_7 ?_
    exact z_retI (M := M_X11_core) 8 dX11_core_8 rfl ⟨G1, R1, co_a (fx1.1.mp (by omega))⟩
abbrev P_X12_core3 (h0 : m_H) : Int → m_H → Prop := fun x h' => GI h' ∧ FR [115, 116, 117, 118, 119, 120, 121, 122, 123, 124, 125, 126, 127, 128, 129, 130, 131, 132, 133, 134] [(108, 0), (108, 21)] h0 h' ∧ x = coF (gnP (h0 110) (fun j => h0 110 (10 + j)) (fun j => h0 110 (42 + j))) (cF (h0 110)) (h0 110 0).toNat
def q_X12_core3 (h0 : m_H) (n : Nat) : Prop := (∀ (l1 l2 : Int) (h : m_H), GI h → FR [115, 116, 117, 118, 119, 120, 121, 122, 123, 124, 125, 126, 127, 128, 129, 130, 131, 132, 133, 134] [(108, 0), (108, 21)] h0 h → 0 ≤ l2 → l2 ≤ 24 → (RX (h0 110) (fun j => h0 110 (10 + j)) (fun j => h0 110 (42 + j)) h) → (l1 = cLo (gnP (h0 110) (fun j => h0 110 (10 + j)) (fun j => h0 110 (42 + j))) (cF (h0 110)) l2.toNat) → (l2 ≤ h0 110 0) → ((gnP (h0 110) (fun j => h0 110 (10 + j)) (fun j => h0 110 (42 + j))) (cF (h0 110)) ∧ ¬ (gnP (h0 110) (fun j => h0 110 (10 + j)) (fun j => h0 110 (42 + j))) 0) → 2 * (24 - l2) + (1) ≤ (n : Int) → m_Z oF M_X12_core 36 [some (mR 108), some (mI l1), some (mI l2)] [] h (m_QI (P_X12_core3 h0)))
set_option maxHeartbeats 4000000 in
set_option maxRecDepth 100000 in
theorem s_X12_core3_36 (h0 : m_H) (G0 : GI h0) (hN : NP h0) (n : Nat) (ih : q_X12_core3 h0 n) : ∀ (l1 l2 : Int) (h : m_H), GI h → FR [115, 116, 117, 118, 119, 120, 121, 122, 123, 124, 125, 126, 127, 128, 129, 130, 131, 132, 133, 134] [(108, 0), (108, 21)] h0 h → 0 ≤ l2 → l2 ≤ 24 → (RX (h0 110) (fun j => h0 110 (10 + j)) (fun j => h0 110 (42 + j)) h) → (l1 = cLo (gnP (h0 110) (fun j => h0 110 (10 + j)) (fun j => h0 110 (42 + j))) (cF (h0 110)) l2.toNat) → (l2 ≤ h0 110 0) → ((gnP (h0 110) (fun j => h0 110 (10 + j)) (fun j => h0 110 (42 + j))) (cF (h0 110)) ∧ ¬ (gnP (h0 110) (fun j => h0 110 (10 + j)) (fun j => h0 110 (42 + j))) 0) → 2 * (24 - l2) + (1) ≤ ((n + 1 : Nat) : Int) → m_Z oF M_X12_core 36 [some (mR 108), some (mI l1), some (mI l2)] [] h (m_QI (P_X12_core3 h0)) := by
  intro l1 l2 h G R v0 v1 i0 i1 i2 i3 hr
  have n_ := (NP.call hN R (fun _ => rfl) (fun _ => rfl) (fun _ => rfl))
  have r0_ : h 110 (0 : Int).toNat = h0 110 0 := congrFun i0.1 0
  refine z_ok (fun ostk _ olocs => ?_)
  have ol1 : m_32 l1 := olocs 1 _ rfl
  unfold m_32 at ol1
  refine z_iload_n (M := M_X12_core) 36 dX12_core_36 rfl ?_
  refine z_aload_n (M := M_X12_core) 37 dX12_core_37 rfl ?_
  refine z_getR (M := M_X12_core) 38 dX12_core_38 f_X12_13 o_108 rfl (g_108_3 G) ?_
  refine z_iconst (M := M_X12_core) 41 dX12_core_41 ?_
  refine z_ialdG (M := M_X12_core) 42 dX12_core_42 o_110 (by omega) (by omega) (gw_0 G) (fun x1 ex1 ax1 bx1 => ?_)
  refine z_icmp_ge (M := M_X12_core) 43 dX12_core_43 82 rfl (fun c2 => ?_) (fun c2 => ?_)
  · refine z_iload_n (M := M_X12_core) 82 dX12_core_82 rfl ?_
    exact z_retI (M := M_X12_core) 83 dX12_core_83 rfl ⟨G, R, co_c i3.1 i3.2 (by rw [show (h0 110 0).toNat = l2.toNat by omega]; exact i1)⟩
  · refine z_iload_n (M := M_X12_core) 46 dX12_core_46 rfl ?_
    refine z_iload_n (M := M_X12_core) 47 dX12_core_47 rfl ?_
    refine z_sI (M := M_X12_core) 48 dX12_core_48 t_X12_is l_X12_336 (m_rr_of rfl) (rest := []) (c_X12_is h l1 l2 G) rfl rfl (Nat.le_of_ble_eq_true rfl) ⟨rfl, rfl⟩ (fun x3 h1 qx3 => ?_)
    obtain ⟨rfl, ⟨rfl, cx3⟩ | ⟨rfl, cx3⟩⟩ := qx3
    · refine z_if_eq_F (M := M_X12_core) 51 dX12_core_51 76 rfl (by omega) ?_
      refine z_aload_n (M := M_X12_core) 54 dX12_core_54 rfl ?_
      refine z_iload_n (M := M_X12_core) 55 dX12_core_55 rfl ?_
      refine z_iconst (M := M_X12_core) 56 dX12_core_56 ?_
      refine z_iload_n (M := M_X12_core) 57 dX12_core_57 rfl ?_
      refine z_ishl (M := M_X12_core) 58 dX12_core_58 ?_
      refine z_topm (fun x4 ex4 ox4 => ?_)
      unfold m_32 at ox4
      refine z_iconst (M := M_X12_core) 59 dX12_core_59 ?_
      refine z_ixor (M := M_X12_core) 60 dX12_core_60 ?_
      refine z_topm (fun x5 ex5 ox5 => ?_)
      unfold m_32 at ox5
      refine z_iand (M := M_X12_core) 61 dX12_core_61 ?_
      refine z_topm (fun x6 ex6 ox6 => ?_)
      unfold m_32 at ox6
      refine z_vI (M := M_X12_core) 62 dX12_core_62 t_X12_canBe l_X12_374 (m_rr_of rfl) (rest := []) (c_X12_canBe2 h x6 G (NP.call hN R (fun _ => rfl) (fun _ => rfl) (fun _ => rfl))) o_108 rfl rfl rfl (Nat.le_of_ble_eq_true rfl) ⟨rfl, rfl⟩ (fun x7 h2 qx7 => ?_)
      obtain ⟨G2, S2, ax7, bx7, fx7_0, fx7_1⟩ := qx7
      have R2 := R.call S2 (by decide +kernel)
      have X2_ := i0.to (FR.row S2 (fun _ => rfl)) (FR.row S2 (fun _ => rfl)) (FR.row S2 (fun _ => rfl))
      have g7_ := gn_iff i0 G n_ ax7 bx7 fx7_0 fx7_1
      have w_ := wo_of (by omega) ex4 ex5 ex6
      refine z_if_ne (M := M_X12_core) 65 dX12_core_65 76 rfl (fun c8 => ?_) (fun c8 => ?_)
      · refine z_iincN (M := M_X12_core) 76 dX12_core_76 (ls' := [some (mR 108), some (mI l1), some (mI (l2 + 1))]) (by decide) rfl (by (unfold m_32; decide)) (by omega) (by omega) rfl ?_
        refine z_goto (M := M_X12_core) 79 dX12_core_79 36 rfl ?_
        exact z_mask [true, true, true] rfl (ih l1 (l2 + 1) h2 G2 R2 (by omega) (by omega) X2_ (cL_s (by omega) i1 (cSt_k w_ (g7_.mp (by omega)))) (by omega) i3 (by omega))
      · refine z_iload_n (M := M_X12_core) 68 dX12_core_68 rfl ?_
        refine z_iconst (M := M_X12_core) 69 dX12_core_69 ?_
        refine z_iload_n (M := M_X12_core) 70 dX12_core_70 rfl ?_
        refine z_ishl (M := M_X12_core) 71 dX12_core_71 ?_
        refine z_topm (fun x9 ex9 ox9 => ?_)
        unfold m_32 at ox9
        refine z_iconst (M := M_X12_core) 72 dX12_core_72 ?_
        refine z_ixor (M := M_X12_core) 73 dX12_core_73 ?_
        refine z_topm (fun x10 ex10 ox10 => ?_)
        unfold m_32 at ox10
        refine z_iand (M := M_X12_core) 74 dX12_core_74 ?_
        refine z_topm (fun x11 ex11 ox11 => ?_)
        unfold m_32 at ox11
        refine z_istore_n (M := M_X12_core) 75 dX12_core_75 (ls' := [some (mR 108), some (mI x11), some (mI l2)]) (by decide) rfl ?_
        refine z_iincN (M := M_X12_core) 76 dX12_core_76 (ls' := [some (mR 108), some (mI x11), some (mI (l2 + 1))]) (by decide) rfl (by (unfold m_32; decide)) (by omega) (by omega) rfl ?_
        refine z_goto (M := M_X12_core) 79 dX12_core_79 36 rfl ?_
        exact z_mask [true, true, true] rfl (ih x11 (l2 + 1) h2 G2 R2 (by omega) (by omega) X2_ (cL_s (by omega) i1 (by rw [show x11 = x6 from (wo_of (by omega) ex9 ex10 ex11).symm.trans w_]; exact cSt_b w_ ((hasBit_iff (by omega)).mp (by rw [show ((l2.toNat : Nat) : Int) = l2 by omega]; exact cx3)) (ng g7_ (by omega)))) (by omega) i3 (by omega))
    · refine z_if_eq_T (M := M_X12_core) 51 dX12_core_51 76 rfl (by omega) ?_
      refine z_iincN (M := M_X12_core) 76 dX12_core_76 (ls' := [some (mR 108), some (mI l1), some (mI (l2 + 1))]) (by decide) rfl (by (unfold m_32; decide)) (by omega) (by omega) rfl ?_
      refine z_goto (M := M_X12_core) 79 dX12_core_79 36 rfl ?_
      exact z_mask [true, true, true] rfl (ih l1 (l2 + 1) h G R (by omega) (by omega) i0 (cL_s (by omega) i1 (cSt_0 (fun z => cx3 (by have y := (hasBit_iff (by omega)).mpr z; rw [show ((l2.toNat : Nat) : Int) = l2 by omega] at y; exact y)))) (by omega) i3 (by omega))
theorem a_X12_core3 (h0 : m_H) (G0 : GI h0) (hN : NP h0) : ∀ n, q_X12_core3 h0 n := by
  intro n
  induction n with
  | zero => unfold q_X12_core3; intros; omega
  | succ n ih => exact s_X12_core3_36 h0 G0 hN n ih
set_option maxHeartbeats 4000000 in
set_option maxRecDepth 100000 in
theorem c_X12_core3 (h0 : m_H) (G0 : GI h0) (hN : NP h0) : m_CI M_X12_core [mR 108] h0 (P_X12_core3 h0) := by
  refine m_CI_of ⟨by decide, rfl, by simp [m_arg, m_isL, M_X12_core], ⟨rfl, rfl⟩, rfl, rfl⟩ (ls := [some (mR 108), none, none]) rfl ?_
  have ih := a_X12_core3 h0 G0 hN 56
  refine z_aload_n (M := M_X12_core) 0 dX12_core_0 rfl ?_
  refine z_iconst (M := M_X12_core) 1 dX12_core_1 ?_
  refine z_putIH (M := M_X12_core) 2 dX12_core_2 p_X12_133 o_108 rfl (u_108_0 G0) ((FR.rf (cs := [115, 116, 117, 118, 119, 120, 121, 122, 123, 124, 125, 126, 127, 128, 129, 130, 131, 132, 133, 134]) (ss := [(108, 0), (108, 21)]) (h := h0)).up rfl) (fun h1 E1 G1 R1 => ?_)
  refine z_aload_n (M := M_X12_core) 5 dX12_core_5 rfl ?_
  refine z_vV (M := M_X12_core) 6 dX12_core_6 t_X12_asIs l_X12_367 (m_rr_of rfl) (rest := []) (c_X12_asIsX h1 G1) o_108 rfl rfl rfl (Nat.le_of_ble_eq_true rfl) ⟨rfl, rfl⟩ (fun h2 qx1 => ?_)
  obtain ⟨G2, S2, fx1_0⟩ := qx1
  have R2 := R1.call S2 (by decide +kernel)
  refine z_aload_n (M := M_X12_core) 9 dX12_core_9 rfl ?_
  refine z_vI (M := M_X12_core) 10 dX12_core_10 t_X12_counting l_X12_370 (m_rr_of rfl) (rest := []) (c_X12_countingX h2 G2) o_108 rfl rfl rfl (Nat.le_of_ble_eq_true rfl) ⟨rfl, rfl⟩ (fun x2 h3 qx2 => ?_)
  obtain ⟨G3, S3, fx2_0⟩ := qx2
  have R3 := R2.call S3 (by decide +kernel)
  refine z_ok (fun ox2 _ _ => ?_)
  have ox2 := ox2.1; unfold m_ok m_32 at ox2
  refine z_istore_n (M := M_X12_core) 13 dX12_core_13 (ls' := [some (mR 108), some (mI x2), none]) (by decide) rfl ?_
  refine z_aload_n (M := M_X12_core) 14 dX12_core_14 rfl ?_
  refine z_iload_n (M := M_X12_core) 15 dX12_core_15 rfl ?_
  refine z_vI (M := M_X12_core) 16 dX12_core_16 t_X12_canBe l_X12_374 (m_rr_of rfl) (rest := []) (c_X12_canBe2 h3 x2 G3 (NP.call hN R3 (fun _ => rfl) (fun _ => rfl) (fun _ => rfl))) o_108 rfl rfl rfl (Nat.le_of_ble_eq_true rfl) ⟨rfl, rfl⟩ (fun x3 h4 qx3 => ?_)
  obtain ⟨G4, S4, ax3, bx3, fx3_0, fx3_1⟩ := qx3
  have R4 := R3.call S4 (by decide +kernel)
  have X3_ : RX (h0 110) (fun j => h0 110 (10 + j)) (fun j => h0 110 (42 + j)) h3 := (by have z := RX_0 (h0 := h1) (h := h2) (FR.row S2 (fun _ => rfl)) fx1_0; rw [FR.row (c := 110) R1 (fun _ => rfl)] at z; exact z.to (FR.row S3 (fun _ => rfl)) (FR.row S3 (fun _ => rfl)) (FR.row S3 (fun _ => rfl)))
  have c_ : x2 = cF (h0 110) := fx2_0.trans (congrArg cF (FR.row R2 (fun _ => rfl)))
  have X4_ := X3_.to (FR.row S4 (fun _ => rfl)) (FR.row S4 (fun _ => rfl)) (FR.row S4 (fun _ => rfl))
  have g3_ := gn_iff X3_ G3 (NP.call hN R3 (fun _ => rfl) (fun _ => rfl) (fun _ => rfl)) ax3 bx3 fx3_0 fx3_1
  rw [c_] at g3_
  refine z_if_eq (M := M_X12_core) 19 dX12_core_19 24 rfl (fun c4 => ?_) (fun c4 => ?_)
  · refine z_aload_n (M := M_X12_core) 24 dX12_core_24 rfl ?_
    refine z_iconst (M := M_X12_core) 25 dX12_core_25 ?_
    refine z_vI (M := M_X12_core) 26 dX12_core_26 t_X12_canBe l_X12_374 (m_rr_of rfl) (rest := []) (c_X12_canBe2 h4 0 G4 (NP.call hN R4 (fun _ => rfl) (fun _ => rfl) (fun _ => rfl))) o_108 rfl rfl rfl (Nat.le_of_ble_eq_true rfl) ⟨rfl, rfl⟩ (fun x5 h5 qx5 => ?_)
    obtain ⟨G5, S5, ax5, bx5, fx5_0, fx5_1⟩ := qx5
    have R5 := R4.call S5 (by decide +kernel)
    have X5_ := X4_.to (FR.row S5 (fun _ => rfl)) (FR.row S5 (fun _ => rfl)) (FR.row S5 (fun _ => rfl))
    have g5_ := gn_iff X4_ G4 (NP.call hN R4 (fun _ => rfl) (fun _ => rfl) (fun _ => rfl)) ax5 bx5 fx5_0 fx5_1
    refine z_if_ne (M := M_X12_core) 29 dX12_core_29 34 rfl (fun c6 => ?_) (fun c6 => ?_)
    · refine z_iconst (M := M_X12_core) 34 dX12_core_34 ?_
      refine z_istore_n (M := M_X12_core) 35 dX12_core_35 (ls' := [some (mR 108), some (mI x2), some (mI 0)]) (by decide) rfl ?_
      exact z_mask [true, true, true] rfl (ih x2 0 h5 G5 R5 (by omega) (by omega) X5_ c_ (gw_0 G0).1 ⟨ng g3_ (by omega), g5_.mp (by omega)⟩ (by omega))
    · refine z_iconst (M := M_X12_core) 32 dX12_core_32 ?_
      exact z_retI (M := M_X12_core) 33 dX12_core_33 rfl ⟨G5, R5, co_b (ng g3_ (by omega)) (ng g5_ (by omega))⟩
  · refine z_iconst (M := M_X12_core) 22 dX12_core_22 ?_
    exact z_retI (M := M_X12_core) 23 dX12_core_23 rfl ⟨G4, R4, co_a (g3_.mp (by omega))⟩
theorem LX.core {h h1 : m_H} {x y : Int} {cs : List Nat} {ss : List (Nat × Nat)} (R : LX h) (S1 : FR cs ss h h1) (A : x = coF (gnP (h 110) (fun j => h 110 (10 + j)) (fun j => h 110 (42 + j))) (cF (h 110)) 24) (B : y = coF (gnP (h1 110) (fun j => h1 110 (10 + j)) (fun j => h1 110 (42 + j))) (cF (h1 110)) (h1 110 0).toNat) (o : out 110 110 cs ss = true) : x = y := by
  rw [rowz S1 (fr_out o (by decide) (by decide))] at B
  rw [A, B]
  unfold coF
  rw [cLo_end R.2.1.1]
/-! the most that one length can be through another, as the class finds it -/
def hiV (h : m_H) (i k : Int) : Int := if i < 12 then h 39 (i * 4 + k).toNat else if i - 12 = k then 1 else 0
def loV (h : m_H) (i k : Int) : Int := if i < 12 then h 41 (i * 4 + k).toNat else if i - 12 = k then 1 else 0
def hvI (f l : Int) : Int := if f < 12 then 1 else if 12 ≤ l then 1 else 2
def cnd (h : m_H) (a b p : Int) : Int × Int × Int := (hiV h a (p / 4) * (h (77 + p.toNat) 0 * hvI a b), loV h b (p % 4) * (h (77 + p.toNat) 1 * hvI b a), if h (77 + p.toNat) 2 = 1 ∨ (a < 12 ∧ h 40 (a * 4 + p / 4).toNat = 1) then 1 else 0)
def lmS (h : m_H) (a b p : Int) (X : Int × Int × Int) : Int × Int × Int := if hiV h a (p / 4) = 0 ∨ loV h b (p % 4) = 0 ∨ h (77 + p.toNat) 1 = 0 then X else lsB X (cnd h a b p)
theorem hv_b {f l : Int} : 1 ≤ hvI f l ∧ hvI f l ≤ 2 := by unfold hvI; split <;> (try split) <;> omega
theorem hi_b {h : m_H} {i k : Int} (b : bkH h) (i0 : 0 ≤ i) (k0 : 0 ≤ k) (k3 : k ≤ 3) : (0 ≤ hiV h i k ∧ hiV h i k ≤ 200) ∧ (12 ≤ i → hiV h i k ≤ 1) := by
  unfold hiV
  by_cases g : i < 12
  · rw [if_pos g]
    have z := b (i * 4 + k).toNat (by omega)
    exact ⟨z.1, fun y => by omega⟩
  · rw [if_neg g]
    split <;> exact ⟨by omega, fun _ => by omega⟩
theorem lo_b {h : m_H} {i k : Int} (b : bkH h) (i0 : 0 ≤ i) (k0 : 0 ≤ k) (k3 : k ≤ 3) : (0 ≤ loV h i k ∧ loV h i k ≤ 200) ∧ (12 ≤ i → loV h i k ≤ 1) := by
  unfold loV
  by_cases g : i < 12
  · rw [if_pos g]
    have z := b (i * 4 + k).toNat (by omega)
    exact ⟨z.2, fun y => by omega⟩
  · rw [if_neg g]
    split <;> exact ⟨by omega, fun _ => by omega⟩
theorem lim_b {x4 x12 x13 x14 x15 i l : Int} (h4 : 0 ≤ x4 ∧ x4 ≤ 200) (h12 : 0 ≤ x12 ∧ x12 ≤ 8000000) (c : 12 ≤ i → x4 ≤ 1) (e13 : hvI i l = x13) (e14 : x12 * x13 = x14) (e15 : x4 * x14 = x15) : 0 ≤ x15 ∧ x15 ≤ 1600000000 := by
  by_cases g : i < 12
  · unfold hvI at e13
    rw [if_pos g] at e13
    subst e13
    rw [Int.mul_one] at e14
    subst e14
    have m := mul_bd h4.1 h4.2 h12.1 h12.2
    omega
  · have h13 : 1 ≤ x13 ∧ x13 ≤ 2 := e13 ▸ hv_b
    have m := mul_bd (x := x12) (y := x13) (X := 8000000) (Y := 2) h12.1 h12.2 (by omega) (by omega)
    have m2 := mul_bd (x := x4) (y := x14) (X := 1) (Y := 16000000) h4.1 (c (by omega)) (by omega) (by omega)
    omega
theorem lm_no {h : m_H} {a b p : Int} {X : Int × Int × Int} {c : Nat} (q : hiV h a (p / 4) = 0 ∨ loV h b (p % 4) = 0 ∨ h (77 + p.toNat) 1 = 0) (e : bd h c = X) : bN c (lmS h a b p X) h h := by
  unfold lmS
  rw [if_pos q, ← e]
  exact ⟨fun _ _ => rfl, rfl⟩
theorem lm_ls {h h' : m_H} {a b p x2 x3 x4 x5 x8 x10 x12 x13 x14 x15 x17 x18 x19 o : Int} {c : Nat} (e2 : p / 4 = x2) (e3 : p % 4 = x3) (e4 : hiV h a x2 = x4) (e5 : loV h b x3 = x5) (c4 : x4 ≠ 0) (c5 : x5 ≠ 0) (e8 : h (77 + p.toNat) 1 = x8) (c8 : x8 ≠ 0) (e12 : h (77 + p.toNat) 0 = x12) (e13 : hvI a b = x13) (e14 : x12 * x13 = x14) (e15 : x4 * x14 = x15) (e17 : hvI b a = x17) (e18 : x8 * x17 = x18) (e19 : x5 * x18 = x19) (e10 : h (77 + p.toNat) 2 = x10) (eo : (if x10 = 1 ∨ (a < 12 ∧ h 40 (a * 4 + x2).toNat = 1) then (1 : Int) else 0) = o) (B : bN c (lsB (bd h c) (x15, x19, o)) h h') : bN c (lmS h a b p (bd h c)) h h' := by
  have k : cnd h a b p = (x15, x19, o) := by
    unfold cnd
    rw [e2, e3, e4, e5, e12, e8, e10, e13, e14, e15, e17, e18, e19, eo]
  unfold lmS
  rw [e2, e3, e4, e5, e8, if_neg (by omega), k]
  exact B
def lmI (a b : Int) : Int × Int × Int := if a = b ∨ (b < 6 ∧ a = b + 6) then (1, 1, 0) else (1, 0, 1)
def lmN (h : m_H) (a b : Int) : Nat → Int × Int × Int
  | 0 => lmI a b
  | p + 1 => lmS h a b (p : Int) (lmN h a b p)
theorem lmI_b {a b : Int} : pBb 1600000000 (lmI a b) := by
  unfold lmI; split <;> exact ⟨⟨by decide, by decide⟩, by decide, by decide⟩
theorem cnd_b {h : m_H} {a b p : Int} (k : bkH h) (r : bkR h) (a0 : 0 ≤ a) (b0 : 0 ≤ b) (p0 : 0 ≤ p) (p1 : p ≤ 15) : (0 ≤ (cnd h a b p).1 ∧ (cnd h a b p).1 ≤ 1600000000) ∧ 0 ≤ (cnd h a b p).2.1 ∧ (cnd h a b p).2.1 ≤ 1600000000 := by
  have z := r p.toNat (by omega)
  unfold pBb bd at z
  simp only at z
  have y1 := hi_b (i := a) (k := p / 4) k a0 (by omega) (by omega)
  have y2 := lo_b (i := b) (k := p % 4) k b0 (by omega) (by omega)
  exact ⟨lim_b y1.1 ⟨by omega, z.1.2⟩ y1.2 rfl rfl rfl, lim_b y2.1 ⟨z.2.1, z.2.2⟩ y2.2 rfl rfl rfl⟩
theorem cnd_p {h : m_H} {a b p : Int} (k : bkH h) (r : bkR h) (a0 : 0 ≤ a) (b0 : 0 ≤ b) (p0 : 0 ≤ p) (p1 : p ≤ 15) (q : ¬ (hiV h a (p / 4) = 0 ∨ loV h b (p % 4) = 0 ∨ h (77 + p.toNat) 1 = 0)) : 0 < (cnd h a b p).1 ∧ 0 < (cnd h a b p).2.1 := by
  have z := r p.toNat (by omega)
  unfold pBb bd at z
  simp only at z
  have y1 := hi_b (i := a) (k := p / 4) k a0 (by omega) (by omega)
  have y2 := lo_b (i := b) (k := p % 4) k b0 (by omega) (by omega)
  have v1 := hv_b (f := a) (l := b)
  have v2 := hv_b (f := b) (l := a)
  exact ⟨Int.mul_pos (by omega) (Int.mul_pos (by omega) (by omega)), Int.mul_pos (by omega) (Int.mul_pos (by omega) (by omega))⟩
theorem lmS_b {h : m_H} {a b p : Int} {X : Int × Int × Int} (k : bkH h) (r : bkR h) (a0 : 0 ≤ a) (b0 : 0 ≤ b) (p0 : 0 ≤ p) (p1 : p ≤ 15) (x : pBb 1600000000 X) : pBb 1600000000 (lmS h a b p X) := by
  unfold lmS
  by_cases q : hiV h a (p / 4) = 0 ∨ loV h b (p % 4) = 0 ∨ h (77 + p.toNat) 1 = 0
  · rw [if_pos q]; exact x
  · rw [if_neg q]
    have c := cnd_b (a := a) (b := b) (p := p) k r a0 b0 p0 p1
    exact pBb_ls x ⟨⟨(cnd_p k r a0 b0 p0 p1 q).1, c.1.2⟩, c.2⟩
theorem lmN_b {h : m_H} {a b : Int} (k : bkH h) (r : bkR h) (a0 : 0 ≤ a) (b0 : 0 ≤ b) : ∀ n, n ≤ 16 → pBb 1600000000 (lmN h a b n)
  | 0, _ => lmI_b
  | n + 1, hn => lmS_b k r a0 b0 (by omega) (by omega) (lmN_b k r a0 b0 n (by omega))
/-- other cells than the result's: the same values -/
theorem cnd_c {h h' : m_H} {a b p : Int} {c : Nat} (e : ∀ d, d ≠ c → h' d = h d) (hc : 93 < c) (p0 : 0 ≤ p) (p1 : p ≤ 15) (X : Int × Int × Int) : lmS h' a b p X = lmS h a b p X := by
  unfold lmS cnd hiV loV
  rw [e 39 (by omega), e 40 (by omega), e 41 (by omega), e (77 + p.toNat) (by omega)]
theorem bkc {h h' : m_H} {c : Nat} (e : ∀ d, d ≠ c → h' d = h d) (hc : 93 < c) : (bkH h → bkH h') ∧ (bkR h → bkR h') := by
  refine ⟨fun k j hj => ?_, fun k p hp => ?_⟩
  · rw [e 39 (by omega), e 41 (by omega)]; exact k j hj
  · have z := k p hp
    unfold bd at z ⊢
    rw [e (77 + p) (by omega)]; exact z
abbrev P_X9_highOf2 (h0 : m_H) (a1 a2 : Int) : Int → m_H → Prop := fun x h' => GI h' ∧ FR [] [] h0 h' ∧ hiV h0 a1 a2 = x
set_option maxHeartbeats 4000000 in
set_option maxRecDepth 100000 in
theorem c_X9_highOf2 (h0 : m_H) (a1 a2 : Int) (G0 : GI h0) (pa1 : 0 ≤ a1 ∧ a1 ≤ 15) (pa2 : 0 ≤ a2 ∧ a2 ≤ 3) : m_CI M_X9_highOf [mR 38, mI a1, mI a2] h0 (P_X9_highOf2 h0 a1 a2) := by
  refine m_CI_of ⟨by decide, rfl, by simp [m_arg, m_isL, M_X9_highOf], ⟨rfl, rfl⟩, rfl, rfl⟩ (ls := [some (mR 38), some (mI a1), some (mI a2)]) rfl ?_
  refine z_iload_n (M := M_X9_highOf) 0 dX9_highOf_0 rfl ?_
  refine z_bipush (M := M_X9_highOf) 1 dX9_highOf_1 ?_
  refine z_icmp_lt (M := M_X9_highOf) 3 dX9_highOf_3 20 rfl (fun c1 => ?_) (fun c1 => ?_)
  · refine z_aload_n (M := M_X9_highOf) 20 dX9_highOf_20 rfl ?_
    refine z_getR (M := M_X9_highOf) 21 dX9_highOf_21 f_X9_9 o_38 rfl (g_38_0 G0) ?_
    refine z_iload_n (M := M_X9_highOf) 24 dX9_highOf_24 rfl ?_
    refine z_iconst (M := M_X9_highOf) 25 dX9_highOf_25 ?_
    refine z_imulN (M := M_X9_highOf) 26 dX9_highOf_26 (by omega) (by omega) ?_
    refine z_iload_n (M := M_X9_highOf) 27 dX9_highOf_27 rfl ?_
    refine z_iaddN (M := M_X9_highOf) 28 dX9_highOf_28 (by omega) (by omega) ?_
    refine z_ialdV (M := M_X9_highOf) 29 dX9_highOf_29 o_39 (by omega) (by omega) (fun x2 ex2 => ?_)
    refine z_ok (fun ox2 _ _ => ?_)
    have ox2 := ox2.1; unfold m_ok m_32 at ox2
    exact z_retI (M := M_X9_highOf) 30 dX9_highOf_30 rfl ⟨G0, (FR.rf (cs := []) (ss := []) (h := h0)), by unfold hiV; rw [if_pos c1]; exact ex2⟩
  · refine z_iload_n (M := M_X9_highOf) 6 dX9_highOf_6 rfl ?_
    refine z_bipush (M := M_X9_highOf) 7 dX9_highOf_7 ?_
    refine z_isubN (M := M_X9_highOf) 9 dX9_highOf_9 (by omega) (by omega) ?_
    refine z_iload_n (M := M_X9_highOf) 10 dX9_highOf_10 rfl ?_
    refine z_icmp_ne (M := M_X9_highOf) 11 dX9_highOf_11 18 rfl (fun c3 => ?_) (fun c3 => ?_)
    · refine z_iconst (M := M_X9_highOf) 18 dX9_highOf_18 ?_
      exact z_retI (M := M_X9_highOf) 19 dX9_highOf_19 rfl ⟨G0, (FR.rf (cs := []) (ss := []) (h := h0)), by unfold hiV; rw [if_neg c1, if_neg c3]⟩
    · refine z_iconst (M := M_X9_highOf) 14 dX9_highOf_14 ?_
      refine z_goto (M := M_X9_highOf) 15 dX9_highOf_15 19 rfl ?_
      exact z_retI (M := M_X9_highOf) 19 dX9_highOf_19 rfl ⟨G0, (FR.rf (cs := []) (ss := []) (h := h0)), by unfold hiV; rw [if_neg c1, if_pos (by omega)]⟩
abbrev P_X9_lowOf2 (h0 : m_H) (a1 a2 : Int) : Int → m_H → Prop := fun x h' => GI h' ∧ FR [] [] h0 h' ∧ loV h0 a1 a2 = x
set_option maxHeartbeats 4000000 in
set_option maxRecDepth 100000 in
theorem c_X9_lowOf2 (h0 : m_H) (a1 a2 : Int) (G0 : GI h0) (pa1 : 0 ≤ a1 ∧ a1 ≤ 15) (pa2 : 0 ≤ a2 ∧ a2 ≤ 3) : m_CI M_X9_lowOf [mR 38, mI a1, mI a2] h0 (P_X9_lowOf2 h0 a1 a2) := by
  refine m_CI_of ⟨by decide, rfl, by simp [m_arg, m_isL, M_X9_lowOf], ⟨rfl, rfl⟩, rfl, rfl⟩ (ls := [some (mR 38), some (mI a1), some (mI a2)]) rfl ?_
  refine z_iload_n (M := M_X9_lowOf) 0 dX9_lowOf_0 rfl ?_
  refine z_bipush (M := M_X9_lowOf) 1 dX9_lowOf_1 ?_
  refine z_icmp_lt (M := M_X9_lowOf) 3 dX9_lowOf_3 20 rfl (fun c1 => ?_) (fun c1 => ?_)
  · refine z_aload_n (M := M_X9_lowOf) 20 dX9_lowOf_20 rfl ?_
    refine z_getR (M := M_X9_lowOf) 21 dX9_lowOf_21 f_X9_19 o_38 rfl (g_38_2 G0) ?_
    refine z_iload_n (M := M_X9_lowOf) 24 dX9_lowOf_24 rfl ?_
    refine z_iconst (M := M_X9_lowOf) 25 dX9_lowOf_25 ?_
    refine z_imulN (M := M_X9_lowOf) 26 dX9_lowOf_26 (by omega) (by omega) ?_
    refine z_iload_n (M := M_X9_lowOf) 27 dX9_lowOf_27 rfl ?_
    refine z_iaddN (M := M_X9_lowOf) 28 dX9_lowOf_28 (by omega) (by omega) ?_
    refine z_ialdV (M := M_X9_lowOf) 29 dX9_lowOf_29 o_41 (by omega) (by omega) (fun x2 ex2 => ?_)
    refine z_ok (fun ox2 _ _ => ?_)
    have ox2 := ox2.1; unfold m_ok m_32 at ox2
    exact z_retI (M := M_X9_lowOf) 30 dX9_lowOf_30 rfl ⟨G0, (FR.rf (cs := []) (ss := []) (h := h0)), by unfold loV; rw [if_pos c1]; exact ex2⟩
  · refine z_iload_n (M := M_X9_lowOf) 6 dX9_lowOf_6 rfl ?_
    refine z_bipush (M := M_X9_lowOf) 7 dX9_lowOf_7 ?_
    refine z_isubN (M := M_X9_lowOf) 9 dX9_lowOf_9 (by omega) (by omega) ?_
    refine z_iload_n (M := M_X9_lowOf) 10 dX9_lowOf_10 rfl ?_
    refine z_icmp_ne (M := M_X9_lowOf) 11 dX9_lowOf_11 18 rfl (fun c3 => ?_) (fun c3 => ?_)
    · refine z_iconst (M := M_X9_lowOf) 18 dX9_lowOf_18 ?_
      exact z_retI (M := M_X9_lowOf) 19 dX9_lowOf_19 rfl ⟨G0, (FR.rf (cs := []) (ss := []) (h := h0)), by unfold loV; rw [if_neg c1, if_neg c3]⟩
    · refine z_iconst (M := M_X9_lowOf) 14 dX9_lowOf_14 ?_
      refine z_goto (M := M_X9_lowOf) 15 dX9_lowOf_15 19 rfl ?_
      exact z_retI (M := M_X9_lowOf) 19 dX9_lowOf_19 rfl ⟨G0, (FR.rf (cs := []) (ss := []) (h := h0)), by unfold loV; rw [if_neg c1, if_pos (by omega)]⟩
abbrev P_X9_halvesIn2 (h0 : m_H) (a0 a1 : Int) : Int → m_H → Prop := fun x h' => GI h' ∧ FR [] [] h0 h' ∧ 1 ≤ x ∧ x ≤ 2 ∧ hvI a0 a1 = x
set_option maxHeartbeats 4000000 in
set_option maxRecDepth 100000 in
theorem c_X9_halvesIn2 (h0 : m_H) (a0 a1 : Int) (G0 : GI h0) : m_CI M_X9_halvesIn [mI a0, mI a1] h0 (P_X9_halvesIn2 h0 a0 a1) := by
  refine m_CI_of ⟨by decide, rfl, by simp [m_arg, m_isL, M_X9_halvesIn], ⟨rfl, rfl⟩, rfl, rfl⟩ (ls := [some (mI a0), some (mI a1)]) rfl ?_
  refine z_ok (fun _ _ ok => ?_)
  have oa0 : m_32 a0 := ok 0 _ rfl
  unfold m_32 at oa0
  have oa1 : m_32 a1 := ok 1 _ rfl
  unfold m_32 at oa1
  refine z_iload_n (M := M_X9_halvesIn) 0 dX9_halvesIn_0 rfl ?_
  refine z_bipush (M := M_X9_halvesIn) 1 dX9_halvesIn_1 ?_
  refine z_icmp_lt (M := M_X9_halvesIn) 3 dX9_halvesIn_3 16 rfl (fun c1 => ?_) (fun c1 => ?_)
  · refine z_iconst (M := M_X9_halvesIn) 16 dX9_halvesIn_16 ?_
    exact z_retI (M := M_X9_halvesIn) 17 dX9_halvesIn_17 rfl ⟨G0, (FR.rf (cs := []) (ss := []) (h := h0)), by omega, by omega, by unfold hvI; rw [if_pos c1]⟩
  · refine z_iload_n (M := M_X9_halvesIn) 6 dX9_halvesIn_6 rfl ?_
    refine z_bipush (M := M_X9_halvesIn) 7 dX9_halvesIn_7 ?_
    refine z_icmp_ge (M := M_X9_halvesIn) 9 dX9_halvesIn_9 16 rfl (fun c2 => ?_) (fun c2 => ?_)
    · refine z_iconst (M := M_X9_halvesIn) 16 dX9_halvesIn_16 ?_
      exact z_retI (M := M_X9_halvesIn) 17 dX9_halvesIn_17 rfl ⟨G0, (FR.rf (cs := []) (ss := []) (h := h0)), by omega, by omega, by unfold hvI; rw [if_neg c1, if_pos c2]⟩
    · refine z_iconst (M := M_X9_halvesIn) 12 dX9_halvesIn_12 ?_
      refine z_goto (M := M_X9_halvesIn) 13 dX9_halvesIn_13 17 rfl ?_
      exact z_retI (M := M_X9_halvesIn) 17 dX9_halvesIn_17 rfl ⟨G0, (FR.rf (cs := []) (ss := []) (h := h0)), by omega, by omega, by unfold hvI; rw [if_neg c1, if_neg c2]⟩
abbrev P_X9_limitBy2 (h0 : m_H) (b : Nat) (a1 a2 a3 : Int) : m_H → Prop := fun h' => GI h' ∧ FR (csB ++ []) [] h0 h' ∧ bN b (lmS h0 a1 a2 a3 (bd h0 b)) h0 h'
set_option maxHeartbeats 4000000 in
set_option maxRecDepth 100000 in
theorem c_X9_limitBy2 (h0 : m_H) (b : Nat) (a1 a2 a3 : Int) (hb : isB b) (G0 : GI h0) (pa1 : 0 ≤ a1 ∧ a1 ≤ 15) (pa2 : 0 ≤ a2 ∧ a2 ≤ 15) (pa3 : 0 ≤ a3 ∧ a3 ≤ 15) (hH : bkH h0) (hr : bkR h0) (hX : pBb 1600000000 (bd h0 b)) : m_CV M_X9_limitBy [mR 38, mI a1, mI a2, mI a3, mR b] h0 (P_X9_limitBy2 h0 b a1 a2 a3) := by
  refine m_CV_of ⟨by decide, rfl, by simp [m_arg, m_isL, M_X9_limitBy], ⟨rfl, rfl⟩, rfl, rfl⟩ (ls := [some (mR 38), some (mI a1), some (mI a2), some (mI a3), some (mR b), none, none, none, none, none, none, none, none]) rfl ?_
  refine z_aload_n (M := M_X9_limitBy) 0 dX9_limitBy_0 rfl ?_
  refine z_getR (M := M_X9_limitBy) 1 dX9_limitBy_1 f_X9_33 o_38 rfl (g_38_5 G0) ?_
  refine z_iload_n (M := M_X9_limitBy) 4 dX9_limitBy_4 rfl ?_
  have hb1 := isB_76 (i := a3) (by omega) (by omega)
  refine z_aaldB (M := M_X9_limitBy) 5 dX9_limitBy_5 o_76 (by omega) (by omega) (g_76 G0 (by omega)) ?_
  refine z_astore (M := M_X9_limitBy) 6 dX9_limitBy_6 (ls' := [some (mR 38), some (mI a1), some (mI a2), some (mI a3), some (mR b), some (mR (77 + (a3).toNat)), none, none, none, none, none, none, none]) (by decide) rfl ?_
  refine z_iload_n (M := M_X9_limitBy) 8 dX9_limitBy_8 rfl ?_
  refine z_iconst (M := M_X9_limitBy) 9 dX9_limitBy_9 ?_
  refine z_idivN (M := M_X9_limitBy) 10 dX9_limitBy_10 (by omega) (by omega) ?_
  refine z_topBI (lo := 0) (hi := 3) ⟨by omega, by omega⟩ (fun x2 ex2 ax2 bx2 => ?_)
  refine z_istore (M := M_X9_limitBy) 11 dX9_limitBy_11 (ls' := [some (mR 38), some (mI a1), some (mI a2), some (mI a3), some (mR b), some (mR (77 + (a3).toNat)), some (mI x2), none, none, none, none, none, none]) (by decide) rfl ?_
  refine z_iload_n (M := M_X9_limitBy) 13 dX9_limitBy_13 rfl ?_
  refine z_iconst (M := M_X9_limitBy) 14 dX9_limitBy_14 ?_
  refine z_iremN (M := M_X9_limitBy) 15 dX9_limitBy_15 (by omega) (by omega) ?_
  refine z_topBI (lo := 0) (hi := 3) ⟨by omega, by omega⟩ (fun x3 ex3 ax3 bx3 => ?_)
  refine z_istore (M := M_X9_limitBy) 16 dX9_limitBy_16 (ls' := [some (mR 38), some (mI a1), some (mI a2), some (mI a3), some (mR b), some (mR (77 + (a3).toNat)), some (mI x2), some (mI x3), none, none, none, none, none]) (by decide) rfl ?_
  refine z_aload_n (M := M_X9_limitBy) 18 dX9_limitBy_18 rfl ?_
  refine z_iload_n (M := M_X9_limitBy) 19 dX9_limitBy_19 rfl ?_
  refine z_iload (M := M_X9_limitBy) 20 dX9_limitBy_20 rfl ?_
  refine z_vI (M := M_X9_limitBy) 22 dX9_limitBy_22 t_X9_highOf l_X9_142 (m_rr_of rfl) (rest := []) (c_X9_highOf2 h0 a1 x2 G0 ⟨by omega, by omega⟩ ⟨by omega, by omega⟩) o_38 rfl rfl rfl (Nat.le_of_ble_eq_true rfl) ⟨rfl, rfl⟩ (fun x4 h1 qx4 => ?_)
  obtain ⟨G1, S1, fx4⟩ := qx4
  have R1 := (FR.rf (cs := (csB ++ [])) (ss := []) (h := h0)).call S1 (by decide +kernel)
  refine z_ok (fun ox4 _ _ => ?_)
  have ox4 := ox4.1; unfold m_ok m_32 at ox4
  refine z_i2l (M := M_X9_limitBy) 25 dX9_limitBy_25 ?_
  refine z_lstore (M := M_X9_limitBy) 26 dX9_limitBy_26 (ls' := [some (mR 38), some (mI a1), some (mI a2), some (mI a3), some (mR b), some (mR (77 + (a3).toNat)), some (mI x2), some (mI x3), some (mJ x4), none, none, none, none]) (by decide) rfl ?_
  refine z_aload_n (M := M_X9_limitBy) 28 dX9_limitBy_28 rfl ?_
  refine z_iload_n (M := M_X9_limitBy) 29 dX9_limitBy_29 rfl ?_
  refine z_iload (M := M_X9_limitBy) 30 dX9_limitBy_30 rfl ?_
  refine z_vI (M := M_X9_limitBy) 32 dX9_limitBy_32 t_X9_lowOf l_X9_145 (m_rr_of rfl) (rest := []) (c_X9_lowOf2 h1 a2 x3 G1 ⟨by omega, by omega⟩ ⟨by omega, by omega⟩) o_38 rfl rfl rfl (Nat.le_of_ble_eq_true rfl) ⟨rfl, rfl⟩ (fun x5 h2 qx5 => ?_)
  obtain ⟨G2, S2, fx5⟩ := qx5
  have e1_ := frE S1
  have e2_ : h2 = h0 := (frE S2).trans e1_
  rw [e1_] at fx5
  have y4_ := hi_b (i := a1) (k := x2) hH (by omega) (by omega) (by omega)
  have y5_ := lo_b (i := a2) (k := x3) hH (by omega) (by omega) (by omega)
  rw [fx4] at y4_
  rw [fx5] at y5_
  have z_ := hr a3.toNat (by omega)
  unfold pBb bd at z_
  simp only at z_
  have q_ := pBb_at hX (by decide)
  have R2 := R1.call S2 (by decide +kernel)
  refine z_ok (fun ox5 _ _ => ?_)
  have ox5 := ox5.1; unfold m_ok m_32 at ox5
  refine z_i2l (M := M_X9_limitBy) 35 dX9_limitBy_35 ?_
  refine z_lstore (M := M_X9_limitBy) 36 dX9_limitBy_36 (ls' := [some (mR 38), some (mI a1), some (mI a2), some (mI a3), some (mR b), some (mR (77 + (a3).toNat)), some (mI x2), some (mI x3), some (mJ x4), none, some (mJ x5), none, none]) (by decide) rfl ?_
  refine z_lload (M := M_X9_limitBy) 38 dX9_limitBy_38 rfl ?_
  refine z_lconst (M := M_X9_limitBy) 40 dX9_limitBy_40 (v := 0) ?_
  refine z_lcmp (M := M_X9_limitBy) 41 dX9_limitBy_41 ?_
  refine z_if_eq (M := M_X9_limitBy) 42 dX9_limitBy_42 62 rfl (fun c6 => ?_) (fun c6 => ?_)
  · rw [m_cmp_eq] at c6
    exact z_retV (M := M_X9_limitBy) 62 dX9_limitBy_62 rfl ⟨G2, R2, by rw [e2_]; exact lm_no (Or.inl (by rw [ex2, fx4]; exact c6)) rfl⟩
  · rw [m_cmp_eq] at c6
    refine z_lload (M := M_X9_limitBy) 45 dX9_limitBy_45 rfl ?_
    refine z_lconst (M := M_X9_limitBy) 47 dX9_limitBy_47 (v := 0) ?_
    refine z_lcmp (M := M_X9_limitBy) 48 dX9_limitBy_48 ?_
    refine z_if_eq (M := M_X9_limitBy) 49 dX9_limitBy_49 62 rfl (fun c7 => ?_) (fun c7 => ?_)
    · rw [m_cmp_eq] at c7
      exact z_retV (M := M_X9_limitBy) 62 dX9_limitBy_62 rfl ⟨G2, R2, by rw [e2_]; exact lm_no (Or.inr (Or.inl (by rw [ex3, fx5]; exact c7))) rfl⟩
    · rw [m_cmp_eq] at c7
      refine z_aload (M := M_X9_limitBy) 52 dX9_limitBy_52 rfl ?_
      refine z_getJV (M := M_X9_limitBy) 54 dX9_limitBy_54 f_X9_132 (oB hb1) rfl (fun x8 ex8 => ?_)
      rw [e2_] at ex8
      rw [ex8] at z_
      refine z_lconst (M := M_X9_limitBy) 57 dX9_limitBy_57 (v := 0) ?_
      refine z_lcmp (M := M_X9_limitBy) 58 dX9_limitBy_58 ?_
      refine z_if_ne (M := M_X9_limitBy) 59 dX9_limitBy_59 63 rfl (fun c9 => ?_) (fun c9 => ?_)
      · rw [m_cmp_eq] at c9
        refine z_aload (M := M_X9_limitBy) 63 dX9_limitBy_63 rfl ?_
        refine z_getIG (M := M_X9_limitBy) 65 dX9_limitBy_65 f_X9_134 (oB hb1) (by decide) (gB hb1 G2) (fun x10 ex10 ax10 bx10 => ?_)
        rw [e2_] at ex10
        refine z_if_ne (M := M_X9_limitBy) 68 dX9_limitBy_68 91 rfl (fun c11 => ?_) (fun c11 => ?_)
        · refine z_iconst (M := M_X9_limitBy) 91 dX9_limitBy_91 ?_
          refine z_goto (M := M_X9_limitBy) 92 dX9_limitBy_92 96 rfl ?_
          refine z_istore (M := M_X9_limitBy) 96 dX9_limitBy_96 (ls' := [some (mR 38), some (mI a1), some (mI a2), some (mI a3), some (mR b), some (mR (77 + (a3).toNat)), some (mI x2), some (mI x3), some (mJ x4), none, some (mJ x5), none, some (mI 1)]) (by decide) rfl ?_
          refine z_lload (M := M_X9_limitBy) 98 dX9_limitBy_98 rfl ?_
          refine z_aload (M := M_X9_limitBy) 100 dX9_limitBy_100 rfl ?_
          refine z_getJV (M := M_X9_limitBy) 102 dX9_limitBy_102 f_X9_128 (oB hb1) rfl (fun x12 ex12 => ?_)
          rw [e2_] at ex12
          rw [ex12] at z_
          refine z_iload_n (M := M_X9_limitBy) 105 dX9_limitBy_105 rfl ?_
          refine z_iload_n (M := M_X9_limitBy) 106 dX9_limitBy_106 rfl ?_
          refine z_sI (M := M_X9_limitBy) 107 dX9_limitBy_107 t_X9_halvesIn l_X9_148 (m_rr_of rfl) (rest := [mJ x12, mJ x4]) (c_X9_halvesIn2 h2 a1 a2 G2) rfl rfl (Nat.le_of_ble_eq_true rfl) ⟨rfl, rfl⟩ (fun x13 h3 qx13 => ?_)
          obtain ⟨G3, S3, ax13, bx13, fx13⟩ := qx13
          have e3_ := (frE S3).trans e2_
          have R3 := R2.call S3 (by decide +kernel)
          refine z_i2l (M := M_X9_limitBy) 110 dX9_limitBy_110 ?_
          have mx14 := mul_bd (x := x12) (y := x13) (X := 8000000) (Y := 2) (by omega) (by omega) (by omega) (by omega)
          refine z_lmulN (M := M_X9_limitBy) 111 dX9_limitBy_111 (by omega) (by omega) ?_
          refine z_topBJ (lo := 0) (hi := 16000000) ⟨by omega, by omega⟩ (fun x14 ex14 ax14 bx14 => ?_)
          have mx15 := mul_bd (x := x4) (y := x14) (X := 200) (Y := 16000000) (by omega) (by omega) (by omega) (by omega)
          refine z_lmulN (M := M_X9_limitBy) 112 dX9_limitBy_112 (by omega) (by omega) ?_
          refine z_topBJ (lo := 0) (hi := 3200000000) ⟨by omega, by omega⟩ (fun x15 ex15 ax15 bx15 => ?_)
          have lx15 := lim_b (i := a1) (l := a2) y4_.1 ⟨by omega, by omega⟩ y4_.2 fx13 ex14 ex15
          refine z_lstore (M := M_X9_limitBy) 113 dX9_limitBy_113 (ls' := [some (mR 38), some (mI a1), some (mI a2), some (mI a3), some (mR b), some (mR (77 + (a3).toNat)), some (mI x2), some (mI x3), some (mJ x15), none, some (mJ x5), none, some (mI 1)]) (by decide) rfl ?_
          refine z_lload (M := M_X9_limitBy) 115 dX9_limitBy_115 rfl ?_
          refine z_aload (M := M_X9_limitBy) 117 dX9_limitBy_117 rfl ?_
          refine z_getJV (M := M_X9_limitBy) 119 dX9_limitBy_119 f_X9_132 (oB hb1) rfl (fun x16 ex16 => ?_)
          rw [(frE S3).trans e2_] at ex16
          obtain rfl : x16 = x8 := ex16.symm.trans ex8
          refine z_iload_n (M := M_X9_limitBy) 122 dX9_limitBy_122 rfl ?_
          refine z_iload_n (M := M_X9_limitBy) 123 dX9_limitBy_123 rfl ?_
          refine z_sI (M := M_X9_limitBy) 124 dX9_limitBy_124 t_X9_halvesIn l_X9_148 (m_rr_of rfl) (rest := [mJ x16, mJ x5]) (c_X9_halvesIn2 h3 a2 a1 G3) rfl rfl (Nat.le_of_ble_eq_true rfl) ⟨rfl, rfl⟩ (fun x17 h4 qx17 => ?_)
          obtain ⟨G4, S4, ax17, bx17, fx17⟩ := qx17
          have e4_ := (frE S4).trans e3_
          have R4 := R3.call S4 (by decide +kernel)
          refine z_i2l (M := M_X9_limitBy) 127 dX9_limitBy_127 ?_
          have mx18 := mul_bd (x := x16) (y := x17) (X := 8000000) (Y := 2) (by omega) (by omega) (by omega) (by omega)
          refine z_lmulN (M := M_X9_limitBy) 128 dX9_limitBy_128 (by omega) (by omega) ?_
          refine z_topBJ (lo := 0) (hi := 16000000) ⟨by omega, by omega⟩ (fun x18 ex18 ax18 bx18 => ?_)
          have mx19 := mul_bd (x := x5) (y := x18) (X := 200) (Y := 16000000) (by omega) (by omega) (by omega) (by omega)
          refine z_lmulN (M := M_X9_limitBy) 129 dX9_limitBy_129 (by omega) (by omega) ?_
          refine z_topBJ (lo := 0) (hi := 3200000000) ⟨by omega, by omega⟩ (fun x19 ex19 ax19 bx19 => ?_)
          have lx19 := lim_b (i := a2) (l := a1) y5_.1 ⟨by omega, by omega⟩ y5_.2 fx17 ex18 ex19
          refine z_lstore (M := M_X9_limitBy) 130 dX9_limitBy_130 (ls' := [some (mR 38), some (mI a1), some (mI a2), some (mI a3), some (mR b), some (mR (77 + (a3).toNat)), some (mI x2), some (mI x3), some (mJ x15), none, some (mJ x19), none, some (mI 1)]) (by decide) rfl ?_
          refine z_aload (M := M_X9_limitBy) 132 dX9_limitBy_132 rfl ?_
          refine z_lload (M := M_X9_limitBy) 134 dX9_limitBy_134 rfl ?_
          refine z_lload (M := M_X9_limitBy) 136 dX9_limitBy_136 rfl ?_
          refine z_iload (M := M_X9_limitBy) 138 dX9_limitBy_138 rfl ?_
          refine z_vV (M := M_X9_limitBy) 140 dX9_limitBy_140 t_X2_lessen l_X9_66 (m_rr_of rfl) (rest := []) (c_X2_lessen2 h4 b x15 x19 1 hb G4 ⟨by omega, by omega⟩ (by rw [e4_]; exact q_.1) (by rw [e4_]; exact q_.2) ⟨by omega, by omega⟩ ⟨by omega, by omega⟩) (oB hb) rfl rfl rfl (Nat.le_of_ble_eq_true rfl) ⟨rfl, rfl⟩ (fun h5 qx20 => ?_)
          obtain ⟨G5, S5, B5⟩ := qx20
          have R5 := R4.call S5 (by decide +kernel)
          exact z_retV (M := M_X9_limitBy) 143 dX9_limitBy_143 rfl ⟨G5, R5, lm_ls ex2 ex3 fx4 fx5 c6 c7 ex8 c9 ex12 fx13 ex14 ex15 fx17 ex18 ex19 ex10 (if_pos (Or.inl (by omega))) (by have q := B5; rw [e4_] at q; exact q)⟩
        · refine z_iload_n (M := M_X9_limitBy) 71 dX9_limitBy_71 rfl ?_
          refine z_bipush (M := M_X9_limitBy) 72 dX9_limitBy_72 ?_
          refine z_icmp_ge (M := M_X9_limitBy) 74 dX9_limitBy_74 95 rfl (fun c21 => ?_) (fun c21 => ?_)
          · refine z_iconst (M := M_X9_limitBy) 95 dX9_limitBy_95 ?_
            refine z_istore (M := M_X9_limitBy) 96 dX9_limitBy_96 (ls' := [some (mR 38), some (mI a1), some (mI a2), some (mI a3), some (mR b), some (mR (77 + (a3).toNat)), some (mI x2), some (mI x3), some (mJ x4), none, some (mJ x5), none, some (mI 0)]) (by decide) rfl ?_
            refine z_lload (M := M_X9_limitBy) 98 dX9_limitBy_98 rfl ?_
            refine z_aload (M := M_X9_limitBy) 100 dX9_limitBy_100 rfl ?_
            refine z_getJV (M := M_X9_limitBy) 102 dX9_limitBy_102 f_X9_128 (oB hb1) rfl (fun x22 ex22 => ?_)
            rw [e2_] at ex22
            rw [ex22] at z_
            refine z_iload_n (M := M_X9_limitBy) 105 dX9_limitBy_105 rfl ?_
            refine z_iload_n (M := M_X9_limitBy) 106 dX9_limitBy_106 rfl ?_
            refine z_sI (M := M_X9_limitBy) 107 dX9_limitBy_107 t_X9_halvesIn l_X9_148 (m_rr_of rfl) (rest := [mJ x22, mJ x4]) (c_X9_halvesIn2 h2 a1 a2 G2) rfl rfl (Nat.le_of_ble_eq_true rfl) ⟨rfl, rfl⟩ (fun x23 h6 qx23 => ?_)
            obtain ⟨G6, S6, ax23, bx23, fx23⟩ := qx23
            have e6_ := (frE S6).trans e2_
            have R6 := R2.call S6 (by decide +kernel)
            refine z_i2l (M := M_X9_limitBy) 110 dX9_limitBy_110 ?_
            have mx24 := mul_bd (x := x22) (y := x23) (X := 8000000) (Y := 2) (by omega) (by omega) (by omega) (by omega)
            refine z_lmulN (M := M_X9_limitBy) 111 dX9_limitBy_111 (by omega) (by omega) ?_
            refine z_topBJ (lo := 0) (hi := 16000000) ⟨by omega, by omega⟩ (fun x24 ex24 ax24 bx24 => ?_)
            have mx25 := mul_bd (x := x4) (y := x24) (X := 200) (Y := 16000000) (by omega) (by omega) (by omega) (by omega)
            refine z_lmulN (M := M_X9_limitBy) 112 dX9_limitBy_112 (by omega) (by omega) ?_
            refine z_topBJ (lo := 0) (hi := 3200000000) ⟨by omega, by omega⟩ (fun x25 ex25 ax25 bx25 => ?_)
            have lx25 := lim_b (i := a1) (l := a2) y4_.1 ⟨by omega, by omega⟩ y4_.2 fx23 ex24 ex25
            refine z_lstore (M := M_X9_limitBy) 113 dX9_limitBy_113 (ls' := [some (mR 38), some (mI a1), some (mI a2), some (mI a3), some (mR b), some (mR (77 + (a3).toNat)), some (mI x2), some (mI x3), some (mJ x25), none, some (mJ x5), none, some (mI 0)]) (by decide) rfl ?_
            refine z_lload (M := M_X9_limitBy) 115 dX9_limitBy_115 rfl ?_
            refine z_aload (M := M_X9_limitBy) 117 dX9_limitBy_117 rfl ?_
            refine z_getJV (M := M_X9_limitBy) 119 dX9_limitBy_119 f_X9_132 (oB hb1) rfl (fun x26 ex26 => ?_)
            rw [(frE S6).trans e2_] at ex26
            obtain rfl : x26 = x8 := ex26.symm.trans ex8
            refine z_iload_n (M := M_X9_limitBy) 122 dX9_limitBy_122 rfl ?_
            refine z_iload_n (M := M_X9_limitBy) 123 dX9_limitBy_123 rfl ?_
            refine z_sI (M := M_X9_limitBy) 124 dX9_limitBy_124 t_X9_halvesIn l_X9_148 (m_rr_of rfl) (rest := [mJ x26, mJ x5]) (c_X9_halvesIn2 h6 a2 a1 G6) rfl rfl (Nat.le_of_ble_eq_true rfl) ⟨rfl, rfl⟩ (fun x27 h7 qx27 => ?_)
            obtain ⟨G7, S7, ax27, bx27, fx27⟩ := qx27
            have e7_ := (frE S7).trans e6_
            have R7 := R6.call S7 (by decide +kernel)
            refine z_i2l (M := M_X9_limitBy) 127 dX9_limitBy_127 ?_
            have mx28 := mul_bd (x := x26) (y := x27) (X := 8000000) (Y := 2) (by omega) (by omega) (by omega) (by omega)
            refine z_lmulN (M := M_X9_limitBy) 128 dX9_limitBy_128 (by omega) (by omega) ?_
            refine z_topBJ (lo := 0) (hi := 16000000) ⟨by omega, by omega⟩ (fun x28 ex28 ax28 bx28 => ?_)
            have mx29 := mul_bd (x := x5) (y := x28) (X := 200) (Y := 16000000) (by omega) (by omega) (by omega) (by omega)
            refine z_lmulN (M := M_X9_limitBy) 129 dX9_limitBy_129 (by omega) (by omega) ?_
            refine z_topBJ (lo := 0) (hi := 3200000000) ⟨by omega, by omega⟩ (fun x29 ex29 ax29 bx29 => ?_)
            have lx29 := lim_b (i := a2) (l := a1) y5_.1 ⟨by omega, by omega⟩ y5_.2 fx27 ex28 ex29
            refine z_lstore (M := M_X9_limitBy) 130 dX9_limitBy_130 (ls' := [some (mR 38), some (mI a1), some (mI a2), some (mI a3), some (mR b), some (mR (77 + (a3).toNat)), some (mI x2), some (mI x3), some (mJ x25), none, some (mJ x29), none, some (mI 0)]) (by decide) rfl ?_
            refine z_aload (M := M_X9_limitBy) 132 dX9_limitBy_132 rfl ?_
            refine z_lload (M := M_X9_limitBy) 134 dX9_limitBy_134 rfl ?_
            refine z_lload (M := M_X9_limitBy) 136 dX9_limitBy_136 rfl ?_
            refine z_iload (M := M_X9_limitBy) 138 dX9_limitBy_138 rfl ?_
            refine z_vV (M := M_X9_limitBy) 140 dX9_limitBy_140 t_X2_lessen l_X9_66 (m_rr_of rfl) (rest := []) (c_X2_lessen2 h7 b x25 x29 0 hb G7 ⟨by omega, by omega⟩ (by rw [e7_]; exact q_.1) (by rw [e7_]; exact q_.2) ⟨by omega, by omega⟩ ⟨by omega, by omega⟩) (oB hb) rfl rfl rfl (Nat.le_of_ble_eq_true rfl) ⟨rfl, rfl⟩ (fun h8 qx30 => ?_)
            obtain ⟨G8, S8, B8⟩ := qx30
            have R8 := R7.call S8 (by decide +kernel)
            exact z_retV (M := M_X9_limitBy) 143 dX9_limitBy_143 rfl ⟨G8, R8, lm_ls ex2 ex3 fx4 fx5 c6 c7 ex8 c9 ex22 fx23 ex24 ex25 fx27 ex28 ex29 ex10 (if_neg (fun z => by omega)) (by have q := B8; rw [e7_] at q; exact q)⟩
          · refine z_aload_n (M := M_X9_limitBy) 77 dX9_limitBy_77 rfl ?_
            refine z_getR (M := M_X9_limitBy) 78 dX9_limitBy_78 f_X9_15 o_38 rfl (g_38_1 G2) ?_
            refine z_iload_n (M := M_X9_limitBy) 81 dX9_limitBy_81 rfl ?_
            refine z_iconst (M := M_X9_limitBy) 82 dX9_limitBy_82 ?_
            refine z_imulN (M := M_X9_limitBy) 83 dX9_limitBy_83 (by omega) (by omega) ?_
            refine z_iload (M := M_X9_limitBy) 84 dX9_limitBy_84 rfl ?_
            refine z_iaddN (M := M_X9_limitBy) 86 dX9_limitBy_86 (by omega) (by omega) ?_
            refine z_zaldG (M := M_X9_limitBy) 87 dX9_limitBy_87 o_40 (by omega) (by omega) (g_40 G2 (by omega)) (fun x31 ex31 ax31 bx31 => ?_)
            rw [e2_] at ex31
            refine z_if_eq (M := M_X9_limitBy) 88 dX9_limitBy_88 95 rfl (fun c32 => ?_) (fun c32 => ?_)
            · refine z_iconst (M := M_X9_limitBy) 95 dX9_limitBy_95 ?_
              refine z_istore (M := M_X9_limitBy) 96 dX9_limitBy_96 (ls' := [some (mR 38), some (mI a1), some (mI a2), some (mI a3), some (mR b), some (mR (77 + (a3).toNat)), some (mI x2), some (mI x3), some (mJ x4), none, some (mJ x5), none, some (mI 0)]) (by decide) rfl ?_
              refine z_lload (M := M_X9_limitBy) 98 dX9_limitBy_98 rfl ?_
              refine z_aload (M := M_X9_limitBy) 100 dX9_limitBy_100 rfl ?_
              refine z_getJV (M := M_X9_limitBy) 102 dX9_limitBy_102 f_X9_128 (oB hb1) rfl (fun x33 ex33 => ?_)
              rw [e2_] at ex33
              rw [ex33] at z_
              refine z_iload_n (M := M_X9_limitBy) 105 dX9_limitBy_105 rfl ?_
              refine z_iload_n (M := M_X9_limitBy) 106 dX9_limitBy_106 rfl ?_
              refine z_sI (M := M_X9_limitBy) 107 dX9_limitBy_107 t_X9_halvesIn l_X9_148 (m_rr_of rfl) (rest := [mJ x33, mJ x4]) (c_X9_halvesIn2 h2 a1 a2 G2) rfl rfl (Nat.le_of_ble_eq_true rfl) ⟨rfl, rfl⟩ (fun x34 h9 qx34 => ?_)
              obtain ⟨G9, S9, ax34, bx34, fx34⟩ := qx34
              have e9_ := (frE S9).trans e2_
              have R9 := R2.call S9 (by decide +kernel)
              refine z_i2l (M := M_X9_limitBy) 110 dX9_limitBy_110 ?_
              have mx35 := mul_bd (x := x33) (y := x34) (X := 8000000) (Y := 2) (by omega) (by omega) (by omega) (by omega)
              refine z_lmulN (M := M_X9_limitBy) 111 dX9_limitBy_111 (by omega) (by omega) ?_
              refine z_topBJ (lo := 0) (hi := 16000000) ⟨by omega, by omega⟩ (fun x35 ex35 ax35 bx35 => ?_)
              have mx36 := mul_bd (x := x4) (y := x35) (X := 200) (Y := 16000000) (by omega) (by omega) (by omega) (by omega)
              refine z_lmulN (M := M_X9_limitBy) 112 dX9_limitBy_112 (by omega) (by omega) ?_
              refine z_topBJ (lo := 0) (hi := 3200000000) ⟨by omega, by omega⟩ (fun x36 ex36 ax36 bx36 => ?_)
              have lx36 := lim_b (i := a1) (l := a2) y4_.1 ⟨by omega, by omega⟩ y4_.2 fx34 ex35 ex36
              refine z_lstore (M := M_X9_limitBy) 113 dX9_limitBy_113 (ls' := [some (mR 38), some (mI a1), some (mI a2), some (mI a3), some (mR b), some (mR (77 + (a3).toNat)), some (mI x2), some (mI x3), some (mJ x36), none, some (mJ x5), none, some (mI 0)]) (by decide) rfl ?_
              refine z_lload (M := M_X9_limitBy) 115 dX9_limitBy_115 rfl ?_
              refine z_aload (M := M_X9_limitBy) 117 dX9_limitBy_117 rfl ?_
              refine z_getJV (M := M_X9_limitBy) 119 dX9_limitBy_119 f_X9_132 (oB hb1) rfl (fun x37 ex37 => ?_)
              rw [(frE S9).trans e2_] at ex37
              obtain rfl : x37 = x8 := ex37.symm.trans ex8
              refine z_iload_n (M := M_X9_limitBy) 122 dX9_limitBy_122 rfl ?_
              refine z_iload_n (M := M_X9_limitBy) 123 dX9_limitBy_123 rfl ?_
              refine z_sI (M := M_X9_limitBy) 124 dX9_limitBy_124 t_X9_halvesIn l_X9_148 (m_rr_of rfl) (rest := [mJ x37, mJ x5]) (c_X9_halvesIn2 h9 a2 a1 G9) rfl rfl (Nat.le_of_ble_eq_true rfl) ⟨rfl, rfl⟩ (fun x38 h10 qx38 => ?_)
              obtain ⟨G10, S10, ax38, bx38, fx38⟩ := qx38
              have e10_ := (frE S10).trans e9_
              have R10 := R9.call S10 (by decide +kernel)
              refine z_i2l (M := M_X9_limitBy) 127 dX9_limitBy_127 ?_
              have mx39 := mul_bd (x := x37) (y := x38) (X := 8000000) (Y := 2) (by omega) (by omega) (by omega) (by omega)
              refine z_lmulN (M := M_X9_limitBy) 128 dX9_limitBy_128 (by omega) (by omega) ?_
              refine z_topBJ (lo := 0) (hi := 16000000) ⟨by omega, by omega⟩ (fun x39 ex39 ax39 bx39 => ?_)
              have mx40 := mul_bd (x := x5) (y := x39) (X := 200) (Y := 16000000) (by omega) (by omega) (by omega) (by omega)
              refine z_lmulN (M := M_X9_limitBy) 129 dX9_limitBy_129 (by omega) (by omega) ?_
              refine z_topBJ (lo := 0) (hi := 3200000000) ⟨by omega, by omega⟩ (fun x40 ex40 ax40 bx40 => ?_)
              have lx40 := lim_b (i := a2) (l := a1) y5_.1 ⟨by omega, by omega⟩ y5_.2 fx38 ex39 ex40
              refine z_lstore (M := M_X9_limitBy) 130 dX9_limitBy_130 (ls' := [some (mR 38), some (mI a1), some (mI a2), some (mI a3), some (mR b), some (mR (77 + (a3).toNat)), some (mI x2), some (mI x3), some (mJ x36), none, some (mJ x40), none, some (mI 0)]) (by decide) rfl ?_
              refine z_aload (M := M_X9_limitBy) 132 dX9_limitBy_132 rfl ?_
              refine z_lload (M := M_X9_limitBy) 134 dX9_limitBy_134 rfl ?_
              refine z_lload (M := M_X9_limitBy) 136 dX9_limitBy_136 rfl ?_
              refine z_iload (M := M_X9_limitBy) 138 dX9_limitBy_138 rfl ?_
              refine z_vV (M := M_X9_limitBy) 140 dX9_limitBy_140 t_X2_lessen l_X9_66 (m_rr_of rfl) (rest := []) (c_X2_lessen2 h10 b x36 x40 0 hb G10 ⟨by omega, by omega⟩ (by rw [e10_]; exact q_.1) (by rw [e10_]; exact q_.2) ⟨by omega, by omega⟩ ⟨by omega, by omega⟩) (oB hb) rfl rfl rfl (Nat.le_of_ble_eq_true rfl) ⟨rfl, rfl⟩ (fun h11 qx41 => ?_)
              obtain ⟨G11, S11, B11⟩ := qx41
              have R11 := R10.call S11 (by decide +kernel)
              exact z_retV (M := M_X9_limitBy) 143 dX9_limitBy_143 rfl ⟨G11, R11, lm_ls ex2 ex3 fx4 fx5 c6 c7 ex8 c9 ex33 fx34 ex35 ex36 fx38 ex39 ex40 ex10 (if_neg (fun z => by rw [ex31] at z; omega)) (by have q := B11; rw [e10_] at q; exact q)⟩
            · refine z_iconst (M := M_X9_limitBy) 91 dX9_limitBy_91 ?_
              refine z_goto (M := M_X9_limitBy) 92 dX9_limitBy_92 96 rfl ?_
              refine z_istore (M := M_X9_limitBy) 96 dX9_limitBy_96 (ls' := [some (mR 38), some (mI a1), some (mI a2), some (mI a3), some (mR b), some (mR (77 + (a3).toNat)), some (mI x2), some (mI x3), some (mJ x4), none, some (mJ x5), none, some (mI 1)]) (by decide) rfl ?_
              refine z_lload (M := M_X9_limitBy) 98 dX9_limitBy_98 rfl ?_
              refine z_aload (M := M_X9_limitBy) 100 dX9_limitBy_100 rfl ?_
              refine z_getJV (M := M_X9_limitBy) 102 dX9_limitBy_102 f_X9_128 (oB hb1) rfl (fun x42 ex42 => ?_)
              rw [e2_] at ex42
              rw [ex42] at z_
              refine z_iload_n (M := M_X9_limitBy) 105 dX9_limitBy_105 rfl ?_
              refine z_iload_n (M := M_X9_limitBy) 106 dX9_limitBy_106 rfl ?_
              refine z_sI (M := M_X9_limitBy) 107 dX9_limitBy_107 t_X9_halvesIn l_X9_148 (m_rr_of rfl) (rest := [mJ x42, mJ x4]) (c_X9_halvesIn2 h2 a1 a2 G2) rfl rfl (Nat.le_of_ble_eq_true rfl) ⟨rfl, rfl⟩ (fun x43 h12 qx43 => ?_)
              obtain ⟨G12, S12, ax43, bx43, fx43⟩ := qx43
              have e12_ := (frE S12).trans e2_
              have R12 := R2.call S12 (by decide +kernel)
              refine z_i2l (M := M_X9_limitBy) 110 dX9_limitBy_110 ?_
              have mx44 := mul_bd (x := x42) (y := x43) (X := 8000000) (Y := 2) (by omega) (by omega) (by omega) (by omega)
              refine z_lmulN (M := M_X9_limitBy) 111 dX9_limitBy_111 (by omega) (by omega) ?_
              refine z_topBJ (lo := 0) (hi := 16000000) ⟨by omega, by omega⟩ (fun x44 ex44 ax44 bx44 => ?_)
              have mx45 := mul_bd (x := x4) (y := x44) (X := 200) (Y := 16000000) (by omega) (by omega) (by omega) (by omega)
              refine z_lmulN (M := M_X9_limitBy) 112 dX9_limitBy_112 (by omega) (by omega) ?_
              refine z_topBJ (lo := 0) (hi := 3200000000) ⟨by omega, by omega⟩ (fun x45 ex45 ax45 bx45 => ?_)
              have lx45 := lim_b (i := a1) (l := a2) y4_.1 ⟨by omega, by omega⟩ y4_.2 fx43 ex44 ex45
              refine z_lstore (M := M_X9_limitBy) 113 dX9_limitBy_113 (ls' := [some (mR 38), some (mI a1), some (mI a2), some (mI a3), some (mR b), some (mR (77 + (a3).toNat)), some (mI x2), some (mI x3), some (mJ x45), none, some (mJ x5), none, some (mI 1)]) (by decide) rfl ?_
              refine z_lload (M := M_X9_limitBy) 115 dX9_limitBy_115 rfl ?_
              refine z_aload (M := M_X9_limitBy) 117 dX9_limitBy_117 rfl ?_
              refine z_getJV (M := M_X9_limitBy) 119 dX9_limitBy_119 f_X9_132 (oB hb1) rfl (fun x46 ex46 => ?_)
              rw [(frE S12).trans e2_] at ex46
              obtain rfl : x46 = x8 := ex46.symm.trans ex8
              refine z_iload_n (M := M_X9_limitBy) 122 dX9_limitBy_122 rfl ?_
              refine z_iload_n (M := M_X9_limitBy) 123 dX9_limitBy_123 rfl ?_
              refine z_sI (M := M_X9_limitBy) 124 dX9_limitBy_124 t_X9_halvesIn l_X9_148 (m_rr_of rfl) (rest := [mJ x46, mJ x5]) (c_X9_halvesIn2 h12 a2 a1 G12) rfl rfl (Nat.le_of_ble_eq_true rfl) ⟨rfl, rfl⟩ (fun x47 h13 qx47 => ?_)
              obtain ⟨G13, S13, ax47, bx47, fx47⟩ := qx47
              have e13_ := (frE S13).trans e12_
              have R13 := R12.call S13 (by decide +kernel)
              refine z_i2l (M := M_X9_limitBy) 127 dX9_limitBy_127 ?_
              have mx48 := mul_bd (x := x46) (y := x47) (X := 8000000) (Y := 2) (by omega) (by omega) (by omega) (by omega)
              refine z_lmulN (M := M_X9_limitBy) 128 dX9_limitBy_128 (by omega) (by omega) ?_
              refine z_topBJ (lo := 0) (hi := 16000000) ⟨by omega, by omega⟩ (fun x48 ex48 ax48 bx48 => ?_)
              have mx49 := mul_bd (x := x5) (y := x48) (X := 200) (Y := 16000000) (by omega) (by omega) (by omega) (by omega)
              refine z_lmulN (M := M_X9_limitBy) 129 dX9_limitBy_129 (by omega) (by omega) ?_
              refine z_topBJ (lo := 0) (hi := 3200000000) ⟨by omega, by omega⟩ (fun x49 ex49 ax49 bx49 => ?_)
              have lx49 := lim_b (i := a2) (l := a1) y5_.1 ⟨by omega, by omega⟩ y5_.2 fx47 ex48 ex49
              refine z_lstore (M := M_X9_limitBy) 130 dX9_limitBy_130 (ls' := [some (mR 38), some (mI a1), some (mI a2), some (mI a3), some (mR b), some (mR (77 + (a3).toNat)), some (mI x2), some (mI x3), some (mJ x45), none, some (mJ x49), none, some (mI 1)]) (by decide) rfl ?_
              refine z_aload (M := M_X9_limitBy) 132 dX9_limitBy_132 rfl ?_
              refine z_lload (M := M_X9_limitBy) 134 dX9_limitBy_134 rfl ?_
              refine z_lload (M := M_X9_limitBy) 136 dX9_limitBy_136 rfl ?_
              refine z_iload (M := M_X9_limitBy) 138 dX9_limitBy_138 rfl ?_
              refine z_vV (M := M_X9_limitBy) 140 dX9_limitBy_140 t_X2_lessen l_X9_66 (m_rr_of rfl) (rest := []) (c_X2_lessen2 h13 b x45 x49 1 hb G13 ⟨by omega, by omega⟩ (by rw [e13_]; exact q_.1) (by rw [e13_]; exact q_.2) ⟨by omega, by omega⟩ ⟨by omega, by omega⟩) (oB hb) rfl rfl rfl (Nat.le_of_ble_eq_true rfl) ⟨rfl, rfl⟩ (fun h14 qx50 => ?_)
              obtain ⟨G14, S14, B14⟩ := qx50
              have R14 := R13.call S14 (by decide +kernel)
              exact z_retV (M := M_X9_limitBy) 143 dX9_limitBy_143 rfl ⟨G14, R14, lm_ls ex2 ex3 fx4 fx5 c6 c7 ex8 c9 ex42 fx43 ex44 ex45 fx47 ex48 ex49 ex10 (if_pos (Or.inr ⟨by omega, by rw [ex31]; omega⟩)) (by have q := B14; rw [e13_] at q; exact q)⟩
      · rw [m_cmp_eq] at c9
        exact z_retV (M := M_X9_limitBy) 62 dX9_limitBy_62 rfl ⟨G2, R2, by rw [e2_]; exact lm_no (Or.inr (Or.inr (by rw [ex8]; omega))) rfl⟩
abbrev P_X9_limit2 (h0 : m_H) (b : Nat) (a1 a2 : Int) : m_H → Prop := fun h' => GI h' ∧ FR (csB ++ []) [] h0 h' ∧ (∀ c, c ≠ b → h' c = h0 c) ∧ bd h' b = if a1 = a2 then (1, 1, 0) else lmN h0 a1 a2 16
def q_X9_limit2 (h0 : m_H) (b : Nat) (a1 a2 : Int) (n : Nat) : Prop := (∀ (h : m_H), GI h → FR (csB ++ []) [] h0 h → ((∀ c, c ≠ b → h c = h0 c) ∧ bd h b = lmI a1 a2) → (36) ≤ (n : Int) → m_Z oF M_X9_limit 45 [some (mR 38), some (mI a1), some (mI a2), some (mR b), none, none] [] h (m_QV (P_X9_limit2 h0 b a1 a2))) ∧ (∀ (l5 : Int) (h : m_H), GI h → FR (csB ++ []) [] h0 h → 0 ≤ l5 → l5 ≤ 16 → ((∀ c, c ≠ b → h c = h0 c) ∧ bd h b = lmN h0 a1 a2 l5.toNat) → (a1 ≠ a2) → 2 * (16 - l5) + (1) ≤ (n : Int) → m_Z oF M_X9_limit 54 [some (mR 38), some (mI a1), some (mI a2), some (mR b), none, some (mI l5)] [] h (m_QV (P_X9_limit2 h0 b a1 a2)))
set_option maxHeartbeats 4000000 in
set_option maxRecDepth 100000 in
theorem s_X9_limit2_45 (h0 : m_H) (b : Nat) (a1 a2 : Int) (hb : isB b) (G0 : GI h0) (pa1 : 0 ≤ a1 ∧ a1 ≤ 15) (pa2 : 0 ≤ a2 ∧ a2 ≤ 15) (hH : bkH h0) (hR : bkR h0) (h9 : 93 < b) (n : Nat) (ih : q_X9_limit2 h0 b a1 a2 n) : ∀ (h : m_H), GI h → FR (csB ++ []) [] h0 h → ((∀ c, c ≠ b → h c = h0 c) ∧ bd h b = lmI a1 a2) → (36) ≤ ((n + 1 : Nat) : Int) → m_Z oF M_X9_limit 45 [some (mR 38), some (mI a1), some (mI a2), some (mR b), none, none] [] h (m_QV (P_X9_limit2 h0 b a1 a2)) := by
  intro h G R i0 hr
  refine z_iload_n (M := M_X9_limit) 45 dX9_limit_45 rfl ?_
  refine z_iload_n (M := M_X9_limit) 46 dX9_limit_46 rfl ?_
  refine z_icmp_ne (M := M_X9_limit) 47 dX9_limit_47 51 rfl (fun c1 => ?_) (fun c1 => ?_)
  · refine z_iconst (M := M_X9_limit) 51 dX9_limit_51 ?_
    refine z_istore (M := M_X9_limit) 52 dX9_limit_52 (ls' := [some (mR 38), some (mI a1), some (mI a2), some (mR b), none, some (mI 0)]) (by decide) rfl ?_
    exact z_mask [true, true, true, true, false, true] rfl (ih.2 0 h G R (by omega) (by omega) i0 c1 (by omega))
  · exact z_retV (M := M_X9_limit) 50 dX9_limit_50 rfl ⟨G, R, i0.1, by rw [i0.2, if_pos (by omega)]; unfold lmI; rw [if_pos (by omega)]⟩
set_option maxHeartbeats 4000000 in
set_option maxRecDepth 100000 in
theorem s_X9_limit2_54 (h0 : m_H) (b : Nat) (a1 a2 : Int) (hb : isB b) (G0 : GI h0) (pa1 : 0 ≤ a1 ∧ a1 ≤ 15) (pa2 : 0 ≤ a2 ∧ a2 ≤ 15) (hH : bkH h0) (hR : bkR h0) (h9 : 93 < b) (n : Nat) (ih : q_X9_limit2 h0 b a1 a2 n) : ∀ (l5 : Int) (h : m_H), GI h → FR (csB ++ []) [] h0 h → 0 ≤ l5 → l5 ≤ 16 → ((∀ c, c ≠ b → h c = h0 c) ∧ bd h b = lmN h0 a1 a2 l5.toNat) → (a1 ≠ a2) → 2 * (16 - l5) + (1) ≤ ((n + 1 : Nat) : Int) → m_Z oF M_X9_limit 54 [some (mR 38), some (mI a1), some (mI a2), some (mR b), none, some (mI l5)] [] h (m_QV (P_X9_limit2 h0 b a1 a2)) := by
  intro l5 h G R v0 v1 i0 i1 hr
  refine z_iload (M := M_X9_limit) 54 dX9_limit_54 rfl ?_
  refine z_bipush (M := M_X9_limit) 56 dX9_limit_56 ?_
  refine z_icmp_ge (M := M_X9_limit) 58 dX9_limit_58 76 rfl (fun c1 => ?_) (fun c1 => ?_)
  · exact z_retV (M := M_X9_limit) 76 dX9_limit_76 rfl ⟨G, R, i0.1, by rw [i0.2, if_neg i1, show l5.toNat = 16 by omega]⟩
  · refine z_aload_n (M := M_X9_limit) 61 dX9_limit_61 rfl ?_
    refine z_iload_n (M := M_X9_limit) 62 dX9_limit_62 rfl ?_
    refine z_iload_n (M := M_X9_limit) 63 dX9_limit_63 rfl ?_
    refine z_iload (M := M_X9_limit) 64 dX9_limit_64 rfl ?_
    refine z_aload_n (M := M_X9_limit) 66 dX9_limit_66 rfl ?_
    refine z_vV (M := M_X9_limit) 67 dX9_limit_67 t_X9_limitBy l_X9_138 (m_rr_of rfl) (rest := []) (c_X9_limitBy2 h b a1 a2 l5 hb G ⟨by omega, by omega⟩ ⟨by omega, by omega⟩ ⟨by omega, by omega⟩ ((bkc i0.1 h9).1 hH) ((bkc i0.1 h9).2 hR) (by rw [i0.2]; exact lmN_b hH hR (by omega) (by omega) _ (by omega))) o_38 rfl rfl rfl (Nat.le_of_ble_eq_true rfl) ⟨rfl, rfl⟩ (fun h1 qx2 => ?_)
    obtain ⟨G1, S1, B1⟩ := qx2
    have R1 := R.call S1 (by decide +kernel)
    refine z_iincN (M := M_X9_limit) 70 dX9_limit_70 (ls' := [some (mR 38), some (mI a1), some (mI a2), some (mR b), none, some (mI (l5 + 1))]) (by decide) rfl (by (unfold m_32; decide)) (by omega) (by omega) rfl ?_
    refine z_goto (M := M_X9_limit) 73 dX9_limit_73 54 rfl ?_
    exact z_mask [true, true, true, true, false, true] rfl (ih.2 (l5 + 1) h1 G1 R1 (by omega) (by omega) ⟨fun c hc => (B1.1 c hc).trans (i0.1 c hc), by rw [B1.2, cnd_c i0.1 h9 (by omega) (by omega), i0.2, show (l5 + 1).toNat = l5.toNat + 1 by omega]; show lmS h0 a1 a2 l5 _ = lmS h0 a1 a2 ((l5.toNat : Nat) : Int) _; rw [show ((l5.toNat : Nat) : Int) = l5 by omega]⟩ i1 (by omega))
theorem a_X9_limit2 (h0 : m_H) (b : Nat) (a1 a2 : Int) (hb : isB b) (G0 : GI h0) (pa1 : 0 ≤ a1 ∧ a1 ≤ 15) (pa2 : 0 ≤ a2 ∧ a2 ≤ 15) (hH : bkH h0) (hR : bkR h0) (h9 : 93 < b) : ∀ n, q_X9_limit2 h0 b a1 a2 n := by
  intro n
  induction n with
  | zero => unfold q_X9_limit2; refine ⟨?_, ?_⟩ <;> (intros; omega)
  | succ n ih => exact ⟨s_X9_limit2_45 h0 b a1 a2 hb G0 pa1 pa2 hH hR h9 n ih, s_X9_limit2_54 h0 b a1 a2 hb G0 pa1 pa2 hH hR h9 n ih⟩
set_option maxHeartbeats 4000000 in
set_option maxRecDepth 100000 in
theorem c_X9_limit2 (h0 : m_H) (b : Nat) (a1 a2 : Int) (hb : isB b) (G0 : GI h0) (pa1 : 0 ≤ a1 ∧ a1 ≤ 15) (pa2 : 0 ≤ a2 ∧ a2 ≤ 15) (hH : bkH h0) (hR : bkR h0) (h9 : 93 < b) : m_CV M_X9_limit [mR 38, mI a1, mI a2, mR b] h0 (P_X9_limit2 h0 b a1 a2) := by
  refine m_CV_of ⟨by decide, rfl, by simp [m_arg, m_isL, M_X9_limit], ⟨rfl, rfl⟩, rfl, rfl⟩ (ls := [some (mR 38), some (mI a1), some (mI a2), some (mR b), none, none]) rfl ?_
  have ih := a_X9_limit2 h0 b a1 a2 hb G0 pa1 pa2 hH hR h9 41
  refine z_iload_n (M := M_X9_limit) 0 dX9_limit_0 rfl ?_
  refine z_bipush (M := M_X9_limit) 1 dX9_limit_1 ?_
  refine z_icmp_ge (M := M_X9_limit) 3 dX9_limit_3 18 rfl (fun c1 => ?_) (fun c1 => ?_)
  · refine z_iconst (M := M_X9_limit) 18 dX9_limit_18 ?_
    refine z_istore (M := M_X9_limit) 19 dX9_limit_19 (ls' := [some (mR 38), some (mI a1), some (mI a2), some (mR b), some (mI 0), none]) (by decide) rfl ?_
    refine z_iload_n (M := M_X9_limit) 21 dX9_limit_21 rfl ?_
    refine z_iload_n (M := M_X9_limit) 22 dX9_limit_22 rfl ?_
    refine z_icmp_eq (M := M_X9_limit) 23 dX9_limit_23 31 rfl (fun c2 => ?_) (fun c2 => ?_)
    · refine z_aload_n (M := M_X9_limit) 31 dX9_limit_31 rfl ?_
      refine z_lconst (M := M_X9_limit) 32 dX9_limit_32 (v := 1) ?_
      refine z_lconst (M := M_X9_limit) 33 dX9_limit_33 (v := 1) ?_
      refine z_iconst (M := M_X9_limit) 34 dX9_limit_34 ?_
      refine z_vV (M := M_X9_limit) 35 dX9_limit_35 t_X2_put l_X9_125 (m_rr_of rfl) (rest := []) (c_X2_put2 h0 b 1 1 0 hb G0 ⟨by omega, by omega⟩) (oB hb) rfl rfl rfl (Nat.le_of_ble_eq_true rfl) ⟨rfl, rfl⟩ (fun h1 qx3 => ?_)
      obtain ⟨G1, S1, B1⟩ := qx3
      have R1 := (FR.rf (cs := (csB ++ [])) (ss := []) (h := h0)).call S1 (by decide +kernel)
      refine z_goto (M := M_X9_limit) 38 dX9_limit_38 45 rfl ?_
      exact z_mask [true, true, true, true, false, false] rfl (ih.1 h1 G1 R1 ⟨B1.1, by rw [B1.2]; unfold lmI; rw [if_pos (by omega)]⟩ (by omega))
    · refine z_iload (M := M_X9_limit) 26 dX9_limit_26 rfl ?_
      refine z_if_eq_T (M := M_X9_limit) 28 dX9_limit_28 41 rfl (by omega) ?_
      refine z_aload_n (M := M_X9_limit) 41 dX9_limit_41 rfl ?_
      refine z_vV (M := M_X9_limit) 42 dX9_limit_42 t_X2_clear l_X9_89 (m_rr_of rfl) (rest := []) (c_X2_clear2 h0 b hb G0) (oB hb) rfl rfl rfl (Nat.le_of_ble_eq_true rfl) ⟨rfl, rfl⟩ (fun h2 qx4 => ?_)
      obtain ⟨G2, S2, B2⟩ := qx4
      have R2 := (FR.rf (cs := (csB ++ [])) (ss := []) (h := h0)).call S2 (by decide +kernel)
      exact z_mask [true, true, true, true, false, false] rfl (ih.1 h2 G2 R2 ⟨B2.1, by rw [B2.2]; unfold lmI; rw [if_neg (by omega)]⟩ (by omega))
  · refine z_iload_n (M := M_X9_limit) 6 dX9_limit_6 rfl ?_
    refine z_iload_n (M := M_X9_limit) 7 dX9_limit_7 rfl ?_
    refine z_bipush (M := M_X9_limit) 8 dX9_limit_8 ?_
    refine z_iaddN (M := M_X9_limit) 10 dX9_limit_10 (by omega) (by omega) ?_
    refine z_icmp_ne (M := M_X9_limit) 11 dX9_limit_11 18 rfl (fun c5 => ?_) (fun c5 => ?_)
    · refine z_iconst (M := M_X9_limit) 18 dX9_limit_18 ?_
      refine z_istore (M := M_X9_limit) 19 dX9_limit_19 (ls' := [some (mR 38), some (mI a1), some (mI a2), some (mR b), some (mI 0), none]) (by decide) rfl ?_
      refine z_iload_n (M := M_X9_limit) 21 dX9_limit_21 rfl ?_
      refine z_iload_n (M := M_X9_limit) 22 dX9_limit_22 rfl ?_
      refine z_icmp_eq (M := M_X9_limit) 23 dX9_limit_23 31 rfl (fun c6 => ?_) (fun c6 => ?_)
      · refine z_aload_n (M := M_X9_limit) 31 dX9_limit_31 rfl ?_
        refine z_lconst (M := M_X9_limit) 32 dX9_limit_32 (v := 1) ?_
        refine z_lconst (M := M_X9_limit) 33 dX9_limit_33 (v := 1) ?_
        refine z_iconst (M := M_X9_limit) 34 dX9_limit_34 ?_
        refine z_vV (M := M_X9_limit) 35 dX9_limit_35 t_X2_put l_X9_125 (m_rr_of rfl) (rest := []) (c_X2_put2 h0 b 1 1 0 hb G0 ⟨by omega, by omega⟩) (oB hb) rfl rfl rfl (Nat.le_of_ble_eq_true rfl) ⟨rfl, rfl⟩ (fun h3 qx7 => ?_)
        obtain ⟨G3, S3, B3⟩ := qx7
        have R3 := (FR.rf (cs := (csB ++ [])) (ss := []) (h := h0)).call S3 (by decide +kernel)
        refine z_goto (M := M_X9_limit) 38 dX9_limit_38 45 rfl ?_
        exact z_mask [true, true, true, true, false, false] rfl (ih.1 h3 G3 R3 ⟨B3.1, by rw [B3.2]; unfold lmI; rw [if_pos (by omega)]⟩ (by omega))
      · refine z_iload (M := M_X9_limit) 26 dX9_limit_26 rfl ?_
        refine z_if_eq_T (M := M_X9_limit) 28 dX9_limit_28 41 rfl (by omega) ?_
        refine z_aload_n (M := M_X9_limit) 41 dX9_limit_41 rfl ?_
        refine z_vV (M := M_X9_limit) 42 dX9_limit_42 t_X2_clear l_X9_89 (m_rr_of rfl) (rest := []) (c_X2_clear2 h0 b hb G0) (oB hb) rfl rfl rfl (Nat.le_of_ble_eq_true rfl) ⟨rfl, rfl⟩ (fun h4 qx8 => ?_)
        obtain ⟨G4, S4, B4⟩ := qx8
        have R4 := (FR.rf (cs := (csB ++ [])) (ss := []) (h := h0)).call S4 (by decide +kernel)
        exact z_mask [true, true, true, true, false, false] rfl (ih.1 h4 G4 R4 ⟨B4.1, by rw [B4.2]; unfold lmI; rw [if_neg (by omega)]⟩ (by omega))
    · refine z_iconst (M := M_X9_limit) 14 dX9_limit_14 ?_
      refine z_goto (M := M_X9_limit) 15 dX9_limit_15 19 rfl ?_
      refine z_istore (M := M_X9_limit) 19 dX9_limit_19 (ls' := [some (mR 38), some (mI a1), some (mI a2), some (mR b), some (mI 1), none]) (by decide) rfl ?_
      refine z_iload_n (M := M_X9_limit) 21 dX9_limit_21 rfl ?_
      refine z_iload_n (M := M_X9_limit) 22 dX9_limit_22 rfl ?_
      refine z_icmp_eq_F (M := M_X9_limit) 23 dX9_limit_23 31 rfl (by omega) ?_
      refine z_iload (M := M_X9_limit) 26 dX9_limit_26 rfl ?_
      refine z_if_eq_F (M := M_X9_limit) 28 dX9_limit_28 41 rfl (by omega) ?_
      refine z_aload_n (M := M_X9_limit) 31 dX9_limit_31 rfl ?_
      refine z_lconst (M := M_X9_limit) 32 dX9_limit_32 (v := 1) ?_
      refine z_lconst (M := M_X9_limit) 33 dX9_limit_33 (v := 1) ?_
      refine z_iconst (M := M_X9_limit) 34 dX9_limit_34 ?_
      refine z_vV (M := M_X9_limit) 35 dX9_limit_35 t_X2_put l_X9_125 (m_rr_of rfl) (rest := []) (c_X2_put2 h0 b 1 1 0 hb G0 ⟨by omega, by omega⟩) (oB hb) rfl rfl rfl (Nat.le_of_ble_eq_true rfl) ⟨rfl, rfl⟩ (fun h5 qx9 => ?_)
      obtain ⟨G5, S5, B5⟩ := qx9
      have R5 := (FR.rf (cs := (csB ++ [])) (ss := []) (h := h0)).call S5 (by decide +kernel)
      refine z_goto (M := M_X9_limit) 38 dX9_limit_38 45 rfl ?_
      exact z_mask [true, true, true, true, false, false] rfl (ih.1 h5 G5 R5 ⟨B5.1, by rw [B5.2]; unfold lmI; rw [if_pos (by omega)]⟩ (by omega))
theorem lmN_c {h h' : m_H} {a b : Int} {c : Nat} (e : ∀ d, d ≠ c → h' d = h d) (hc : 93 < c) : ∀ n, n ≤ 16 → lmN h' a b n = lmN h a b n
  | 0, _ => rfl
  | n + 1, hn => by
    show lmS h' a b (n : Int) (lmN h' a b n) = lmS h a b (n : Int) (lmN h a b n)
    rw [lmN_c e hc n (by omega), cnd_c e hc (by omega) (by omega)]
abbrev P_X7_measure2 (h0 : m_H) (a2 a3 : Int) : m_H → Prop := fun h' => GI h' ∧ FR (csB ++ []) [] h0 h' ∧ (∀ c, c ≠ 94 → c ≠ 95 → h' c = h0 c) ∧ (bd h' 95 = if a2 = a3 then (1, 1, 0) else lmN h0 a2 a3 16) ∧ (bd h' 94 = if a3 = a2 then (1, 1, 0) else lmN h0 a3 a2 16)
set_option maxHeartbeats 4000000 in
set_option maxRecDepth 100000 in
theorem c_X7_measure2 (h0 : m_H) (a2 a3 : Int) (G0 : GI h0) (pa2 : 0 ≤ a2 ∧ a2 ≤ 15) (pa3 : 0 ≤ a3 ∧ a3 ≤ 15) (hH : bkH h0) (hR : bkR h0) : m_CV M_X7_measure [mR 93, mR 38, mI a2, mI a3] h0 (P_X7_measure2 h0 a2 a3) := by
  refine m_CV_of ⟨by decide, rfl, by simp [m_arg, m_isL, M_X7_measure], ⟨rfl, rfl⟩, rfl, rfl⟩ (ls := [some (mR 93), some (mR 38), some (mI a2), some (mI a3)]) rfl ?_
  refine z_aload_n (M := M_X7_measure) 0 dX7_measure_0 rfl ?_
  refine z_iload_n (M := M_X7_measure) 1 dX7_measure_1 rfl ?_
  refine z_iload_n (M := M_X7_measure) 2 dX7_measure_2 rfl ?_
  refine z_aload_n (M := M_X7_measure) 3 dX7_measure_3 rfl ?_
  refine z_getR (M := M_X7_measure) 4 dX7_measure_4 f_X7_18 o_93 rfl (g_93_1 G0) ?_
  refine z_vV (M := M_X7_measure) 7 dX7_measure_7 t_X9_limit l_X7_21 (m_rr_of rfl) (rest := []) (c_X9_limit2 h0 95 a2 a3 (rfl : isBb 95 = true) G0 ⟨by omega, by omega⟩ ⟨by omega, by omega⟩ hH hR (by decide)) o_38 rfl rfl rfl (Nat.le_of_ble_eq_true rfl) ⟨rfl, rfl⟩ (fun h1 qx1 => ?_)
  obtain ⟨G1, S1, A1⟩ := qx1
  have R1 := (FR.rf (cs := (csB ++ [])) (ss := []) (h := h0)).call S1 (by decide +kernel)
  refine z_aload_n (M := M_X7_measure) 10 dX7_measure_10 rfl ?_
  refine z_iload_n (M := M_X7_measure) 11 dX7_measure_11 rfl ?_
  refine z_iload_n (M := M_X7_measure) 12 dX7_measure_12 rfl ?_
  refine z_aload_n (M := M_X7_measure) 13 dX7_measure_13 rfl ?_
  refine z_getR (M := M_X7_measure) 14 dX7_measure_14 f_X7_12 o_93 rfl (g_93_0 G1) ?_
  refine z_vV (M := M_X7_measure) 17 dX7_measure_17 t_X9_limit l_X7_21 (m_rr_of rfl) (rest := []) (c_X9_limit2 h1 94 a3 a2 (rfl : isBb 94 = true) G1 ⟨by omega, by omega⟩ ⟨by omega, by omega⟩ ((bkc A1.1 (by decide)).1 hH) ((bkc A1.1 (by decide)).2 hR) (by decide)) o_38 rfl rfl rfl (Nat.le_of_ble_eq_true rfl) ⟨rfl, rfl⟩ (fun h2 qx2 => ?_)
  obtain ⟨G2, S2, A2⟩ := qx2
  have R2 := R1.call S2 (by decide +kernel)
  exact z_retV (M := M_X7_measure) 20 dX7_measure_20 rfl ⟨G2, R2, fun c n4 n5 => (A2.1 c n4).trans (A1.1 c n5), by unfold bd; rw [A2.1 95 (by decide)]; exact A1.2, by rw [A2.2, lmN_c A1.1 (by decide) 16 (Nat.le_refl _)]⟩
/-! the best of all walks from one length to another -/
def BW (Ls : List gE) (a b : Nat) (B : Int × Int × Int) : Prop := pB B ∧ rl Ls B a b ∧ ∀ w, wk Ls w a b → lb B.1 B.2.1 B.2.2 (wp w) (wq w) (ws w)
theorem BW_le {Ls : List gE} (hE : ∀ e ∈ Ls, gEo e) {a b : Nat} {B B' : Int × Int × Int} (h : BW Ls a b B) (h' : BW Ls a b B') (n : B.2.1 ≠ 0) : B'.2.1 ≠ 0 ∧ B'.1 * B.2.1 ≤ B.1 * B'.2.1 ∧ (B'.1 * B.2.1 = B.1 * B'.2.1 → B.2.2 = 1 → B'.2.2 = 1) := by
  obtain ⟨w, w1, w2, w3⟩ := h.2.1 n
  have p := wp_pos hE w a b w1
  have l := h'.2.2 w w1
  have ln : 0 < B.2.1 := by have := h.1.2; omega
  have k1 : B.2.1 * (B'.1 * wp w) = (B'.1 * B.2.1) * wp w := by ac_rfl
  have k2 : B.2.1 * (B'.2.1 * wq w) = B'.2.1 * (B.2.1 * wq w) := by ac_rfl
  have k3 : B'.2.1 * (B.1 * wp w) = (B.1 * B'.2.1) * wp w := by ac_rfl
  rw [← w2, k3] at k2
  refine ⟨by have := l.1.2; omega, ?_, fun e o => ?_⟩
  · have m := Int.mul_le_mul_of_nonneg_left (lb_le l) (Int.le_of_lt ln)
    rw [k1, k2] at m
    exact Int.le_of_mul_le_mul_right m p.1.1
  · rcases l.2 with z | z
    · exfalso
      have m := Int.mul_lt_mul_of_pos_left z ln
      rw [k1, k2, e] at m
      omega
    · exact z.2 (w3 o)
theorem BW_eq {Ls : List gE} (hE : ∀ e ∈ Ls, gEo e) {a b : Nat} {B B' : Int × Int × Int} (h : BW Ls a b B) (h' : BW Ls a b B') : (B.2.1 = 0 ↔ B'.2.1 = 0) ∧ B.1 * B'.2.1 = B'.1 * B.2.1 ∧ (B.2.1 ≠ 0 → (B.2.2 = 1 ↔ B'.2.2 = 1)) := by
  by_cases n : B.2.1 = 0
  · have n' : B'.2.1 = 0 := Classical.byContradiction fun z => (BW_le hE h' h z).1 n
    exact ⟨⟨fun _ => n', fun _ => n⟩, by rw [n, n', Int.mul_zero, Int.mul_zero], fun z => absurd n z⟩
  · have x := BW_le hE h h' n
    have y := BW_le hE h' h x.1
    have e : B.1 * B'.2.1 = B'.1 * B.2.1 := by omega
    exact ⟨⟨fun z => absurd z n, fun z => absurd z x.1⟩, e, fun _ => ⟨fun o => x.2.2 e.symm o, fun o => y.2.2 e o⟩⟩
/-- steps expand to walks -/
theorem mf_wk {L : List gE} : ∀ (f : List gE) (a b : Nat), wm (MF L) f a b → ∃ w, wk L w a b ∧ wp w = wp f ∧ wq w = wq f ∧ (ws w ↔ ws f)
  | [], a, b, h => ⟨[], h, rfl, rfl, Iff.rfl⟩
  | e :: f, a, b, h => by
    obtain ⟨⟨⟨_, u, ⟨u1, _, _⟩, u4, u5, u6⟩, ea⟩, h2⟩ := h
    subst ea
    obtain ⟨w, w1, w2, w3, w4⟩ := mf_wk f _ b h2
    refine ⟨u ++ w, wk_app u w _ _ _ u1 w1, ?_, ?_, ?_⟩
    · rw [wp_app, w2, ← u4]; rfl
    · rw [wq_app, w3, ← u5]; rfl
    · rw [ws_app, w4, ← u6]; exact Iff.rfl
theorem ng_wk {L : List gE} (ng : ¬ gain L) {y : List gE} {c : Nat} (h : wk L y c c) : wp y ≤ wq y ∧ (wp y = wq y → ¬ ws y) := by
  refine ⟨?_, fun e s => ng ⟨c, y, h, Or.inr ⟨e.symm, s⟩⟩⟩
  rcases Int.lt_or_le (wq y) (wp y) with g | g
  · exact absurd ⟨c, y, h, Or.inl g⟩ ng
  · exact g
theorem mf_ng {L : List gE} (ng : ¬ gain L) {y : List gE} {c : Nat} (h : wm (MF L) y c c) : wp y ≤ wq y ∧ (wp y = wq y → ¬ ws y) := by
  obtain ⟨w, w1, w2, w3, w4⟩ := mf_wk y c c h
  have z := ng_wk ng w1
  rw [w2, w3, w4] at z
  exact z
/-- a round taken out -/
theorem lb_rm {t l o : Int} {x y z : List gE} (px : 0 < wp x ∧ 0 < wq x) (py : 0 < wp y ∧ 0 < wq y) (pz : 0 < wp z ∧ 0 < wq z) (ly : wp y ≤ wq y) (sy : wp y = wq y → ¬ ws y) (h : lb t l o (wp (x ++ z)) (wq (x ++ z)) (ws (x ++ z))) : lb t l o (wp (x ++ (y ++ z))) (wq (x ++ (y ++ z))) (ws (x ++ (y ++ z))) := by
  refine ⟨h.1, ?_⟩
  have k1 : t * wp (x ++ (y ++ z)) = (t * wp (x ++ z)) * wp y := by rw [wp_app, wp_app, wp_app]; ac_rfl
  have k2 : l * wq (x ++ (y ++ z)) = (l * wq (x ++ z)) * wq y := by rw [wq_app, wq_app, wq_app]; ac_rfl
  have q : 0 < l * wq (x ++ z) := by rw [wq_app]; exact Int.mul_pos h.1.2 (Int.mul_pos px.2 pz.2)
  rw [k1, k2]
  have m := Int.mul_le_mul_of_nonneg_left ly (Int.le_of_lt q)
  rcases h.2 with g | ⟨g, s⟩
  · exact Or.inl (Int.lt_of_lt_of_le (Int.mul_lt_mul_of_pos_right g py.1) m)
  · rw [g]
    rcases Int.lt_or_eq_of_le ly with e | e
    · exact Or.inl (Int.mul_lt_mul_of_pos_left e q)
    · refine Or.inr ⟨by rw [e], fun w => s ?_⟩
      rw [ws_app, ws_app] at w
      rw [ws_app]
      rcases w with w | w | w
      · exact Or.inl w
      · exact absurd w (sy e)
      · exact Or.inr w
theorem nd_ft {L : List gE} : ∀ (v : List gE) (a b : Nat), 12 ≤ a → wm (MF L) v a b → ∀ d ∈ nd v a, 12 ≤ d
  | [], a, b, ha, _, d, hd => by
    rcases List.mem_cons.mp hd with rfl | z
    · exact ha
    · cases z
  | e :: v, a, b, ha, h, d, hd => by
    rcases List.mem_cons.mp hd with rfl | z
    · exact ha
    · exact nd_ft v _ b h.1.1.1.2 h.2 d z
/-- every way from foot to foot -/
theorem re_all {L : List gE} (hE : ∀ e ∈ L, gEo e) (ng : ¬ gain L) {re : Nat → Nat → Int × Int × Int} (hs : ∀ (v : List gE) (a b : Nat), v ≠ [] → v.length ≤ 3 → wm (MF L) v a b → (nd v a).Nodup → lb (re a b).1 (re a b).2.1 (re a b).2.2 (wp v) (wq v) (ws v)) : ∀ (n : Nat) (v : List gE) (a b : Nat), v.length ≤ n → 12 ≤ a → a ≠ b → wm (MF L) v a b → lb (re a b).1 (re a b).2.1 (re a b).2.2 (wp v) (wq v) (ws v)
  | n, v, a, b, hn, ha, hab, h => by
    have vn : v ≠ [] := fun z => by subst z; exact hab h.1
    by_cases c : (nd v a).Nodup
    · have lt := nm_lt (MF_k hE) v a b h
      have k := gk_le c lt
      have fl : (nd v a).filter (fun u => decide (12 ≤ u)) = nd v a := List.filter_eq_self.mpr (fun d hd => decide_eq_true (nd_ft v a b ha h d hd))
      unfold gk at k
      rw [fl, nd_len] at k
      exact hs v a b vn (by omega) h c
    · obtain ⟨x, y, z, d, e1, e2, e3, e4, e5⟩ := nm_split (MF_k hE) v a b h c
      have ly : 0 < y.length := List.length_pos_iff.mpr e2
      have lv : v.length = x.length + (y.length + z.length) := by rw [e1, List.length_append, List.length_append]
      match n, hn with
      | 0, hn => omega
      | n + 1, hn =>
        have i := re_all hE ng hs n (x ++ z) a b (by rw [List.length_append]; omega) ha hab (wm_app x z a d b e3 e5)
        have g := mf_ng ng e4
        rw [e1]
        exact lb_rm (wm_pos (MF_k hE) _ _ _ e3).1 (wm_pos (MF_k hE) _ _ _ e4).1 (wm_pos (MF_k hE) _ _ _ e5).1 g.1 g.2 i
/-- the first and the last foot on a walk -/
theorem wk_fst {L : List gE} (hE : ∀ e ∈ L, gEo e) : ∀ (w : List gE) (a b : Nat), wk L w a b → (∃ d ∈ nd w a, 12 ≤ d) → ∃ (u v : List gE) (c : Nat), w = u ++ v ∧ wk L u a c ∧ 12 ≤ c ∧ wk L v c b ∧ ∀ d ∈ (nd u a).dropLast, d < 12
  | [], a, b, h, hd => by
    obtain ⟨d, hd, g⟩ := hd
    rcases List.mem_cons.mp hd with rfl | z
    · exact ⟨[], [], d, rfl, ⟨rfl, h.2⟩, g, h, fun e he => by cases he⟩
    · cases z
  | e :: w, a, b, h, hd => by
    by_cases g : 12 ≤ a
    · exact ⟨[], e :: w, a, rfl, ⟨rfl, nd_lt hE (e :: w) a b h a List.mem_cons_self⟩, g, h, fun e he => by cases he⟩
    · obtain ⟨d, hd, gd⟩ := hd
      have hd' : d ∈ nd w e.1.2 := by
        rcases List.mem_cons.mp hd with rfl | z
        · exact absurd gd g
        · exact z
      obtain ⟨u, v, c, e1, e2, e3, e4, e5⟩ := wk_fst hE w _ b h.2 ⟨d, hd', gd⟩
      refine ⟨e :: u, v, c, by rw [e1]; rfl, ⟨h.1, e2⟩, e3, e4, fun f hf => ?_⟩
      have nn : nd u e.1.2 ≠ [] := by cases u <;> simp [nd]
      have t : nd (e :: u) a = a :: nd u e.1.2 := rfl
      rw [t, List.dropLast_cons_of_ne_nil nn] at hf
      rcases List.mem_cons.mp hf with rfl | z
      · omega
      · exact e5 f z
theorem wk_lst {L : List gE} (hE : ∀ e ∈ L, gEo e) : ∀ (w : List gE) (a b : Nat), wk L w a b → (∃ d ∈ nd w a, 12 ≤ d) → ∃ (x u : List gE) (c : Nat), w = x ++ u ∧ wk L x a c ∧ 12 ≤ c ∧ wk L u c b ∧ ∀ d ∈ (nd u c).tail, d < 12
  | [], a, b, h, hd => by
    obtain ⟨d, hd, g⟩ := hd
    rcases List.mem_cons.mp hd with rfl | z
    · exact ⟨[], [], d, rfl, ⟨rfl, h.2⟩, g, h, fun e he => by cases he⟩
    · cases z
  | e :: w, a, b, h, hd => by
    by_cases g : ∃ d ∈ nd w e.1.2, 12 ≤ d
    · obtain ⟨x, u, c, e1, e2, e3, e4, e5⟩ := wk_lst hE w _ b h.2 g
      exact ⟨e :: x, u, c, by rw [e1]; rfl, ⟨h.1, e2⟩, e3, e4, e5⟩
    · obtain ⟨d, hd, gd⟩ := hd
      rcases List.mem_cons.mp hd with rfl | z
      · refine ⟨[], e :: w, d, rfl, ⟨rfl, nd_lt hE (e :: w) d b h d List.mem_cons_self⟩, gd, h, fun f hf => ?_⟩
        have z : f ∈ nd w e.1.2 := hf
        rcases Nat.lt_or_ge f 12 with y | y
        · exact y
        · exact absurd ⟨f, z, y⟩ g
      · exact absurd ⟨d, z, gd⟩ g
theorem pos_r {f t : Int} (hf : 0 < f) (h : 0 < f * t) : 0 < t := by
  rcases Int.lt_or_le 0 t with y | y
  · exact y
  · have z := Int.mul_nonpos_of_nonpos_of_nonneg y (Int.le_of_lt hf)
    rw [Int.mul_comm] at z
    omega
theorem lb_sc {f t l o P Q : Int} {s : Prop} (hf : 0 < f) (h : lb (f * t) (f * l) o P Q s) : lb t l o P Q s := by
  refine ⟨⟨pos_r hf h.1.1, pos_r hf h.1.2⟩, ?_⟩
  have k1 : f * t * P = f * (t * P) := Int.mul_assoc _ _ _
  have k2 : f * l * Q = f * (l * Q) := Int.mul_assoc _ _ _
  have z := h.2
  rw [k1, k2] at z
  rcases z with z | ⟨z, y⟩
  · exact Or.inl (Int.lt_of_mul_lt_mul_left z (Int.le_of_lt hf))
  · exact Or.inr ⟨Int.eq_of_mul_eq_mul_left (Int.ne_of_gt hf) z, y⟩
theorem lb_3 {hA hB ho rt rw_ ro lA lB P1 Q1 P2 Q2 P3 Q3 o : Int} {s1 s2 s3 : Prop} (a : lb hA hB ho P1 Q1 s1) (b : lb rt rw_ ro P2 Q2 s2) (c : lB * P3 ≤ lA * Q3) (hl : 0 < lB) (n3 : ¬ s3) (p1 : 0 < P1 ∧ 0 < Q1) (p2 : 0 < P2 ∧ 0 < Q2) (p3 : 0 < P3 ∧ 0 < Q3) (hO : ho = 1 ∨ ro = 1 → o = 1) : lb (hA * rt * lB) (hB * rw_ * lA) o (P1 * (P2 * P3)) (Q1 * (Q2 * Q3)) (s1 ∨ s2 ∨ s3) ∧ 0 < lA := by
  have ab := lb_mul (o2 := o) a b p1 p2 hO
  have zp : 0 < lB * P3 := Int.mul_pos hl p3.1
  have lp : 0 < lA := by
    rcases Int.lt_or_le 0 lA with y | y
    · exact y
    · have := Int.mul_nonpos_of_nonpos_of_nonneg y (Int.le_of_lt p3.2)
      omega
  refine ⟨⟨⟨Int.mul_pos ab.1.1 hl, Int.mul_pos ab.1.2 lp⟩, ?_⟩, lp⟩
  have k1 : hA * rt * lB * (P1 * (P2 * P3)) = (hA * rt * (P1 * P2)) * (lB * P3) := by ac_rfl
  have k2 : hB * rw_ * lA * (Q1 * (Q2 * Q3)) = (hB * rw_ * (Q1 * Q2)) * (lA * Q3) := by ac_rfl
  have yp : 0 < hB * rw_ * (Q1 * Q2) := Int.mul_pos ab.1.2 (Int.mul_pos p1.2 p2.2)
  rw [k1, k2]
  have m := Int.mul_le_mul_of_nonneg_left c (Int.le_of_lt yp)
  rcases ab.2 with g | ⟨g, s⟩
  · exact Or.inl (Int.lt_of_lt_of_le (Int.mul_lt_mul_of_pos_right g zp) m)
  · rw [g]
    rcases Int.lt_or_eq_of_le m with e | e
    · exact Or.inl e
    · refine Or.inr ⟨e, fun w => s ?_⟩
      rcases w with w | w | w
      · exact Or.inl w
      · exact Or.inr w
      · exact absurd w n3
/-- the way out of a length, up to the first foot -/
theorem hi_ok {Ls D : List gE} {C : Nat → Int} {s : Int} {h : m_H} (hE : ∀ e ∈ Ls, gEo e) (cl : eCl D Ls C s) (T : TI Ls D h) (c_ : cI C 6 h) {u : List gE} {a k : Nat} (ha : a < 12) (hk : k < 4) (hu : wk Ls u a (12 + k)) (hd : ∀ d ∈ (nd u a).dropLast, d < 12) : lb (h 39 (4 * a + k)) 2 (h 40 (4 * a + k)) (wp u) (wq u) (ws u) := by
  match u, hu, hd with
  | [], hu, _ => exact absurd hu.1 (by omega)
  | [q], hu, _ =>
    obtain ⟨⟨m, x1⟩, x2, _⟩ := hu
    have d := (cl q m).2.2.1 (by omega) (by omega)
    have l := T.2.2.2.1 q d k hk (by omega) x2
    rw [x1] at l
    exact lb_c l (by show q.2.1 * 1 = _; rw [Int.mul_one]) (by show q.2.2.1 * 1 = _; rw [Int.mul_one]) (fun z => z.elim id (fun y => y.elim))
  | [q0, q], hu, hd =>
    obtain ⟨⟨m0, x0⟩, ⟨m, x1⟩, x2, _⟩ := hu
    have i0 : q0.1.2 < 12 := hd q0.1.2 (List.mem_cons_of_mem _ List.mem_cons_self)
    obtain ⟨⟨z1, z2⟩, z3, z4, z5⟩ := (cl q0 m0).2.2.2 (by omega) i0
    have d := (cl q m).2.2.1 (by omega) (by omega)
    have l := T.2.2.2.1 q d k hk (by omega) x2
    rw [x1] at l
    have cc := (c_ q0.1.2 k (by omega) z2 hk).1 (by have := l.1.1; omega)
    have g := hE q m
    unfold gEo at g
    have l2 := lb_dm cc (by omega) l
    have e6 : q0.1.2 + 6 = a := by omega
    rw [e6] at l2
    refine lb_c l2 (by show q0.2.1 * (q.2.1 * 1) = _; rw [Int.mul_one, z3, Int.one_mul]) (by show q0.2.2.1 * (q.2.2.1 * 1) = _; rw [Int.mul_one, z4, Int.one_mul]) (fun z => ?_)
    rcases z with z | z | z
    · exact absurd z z5
    · exact z
    · exact z.elim
  | q0 :: q9 :: q :: v, hu, hd =>
    exfalso
    obtain ⟨⟨m0, x0⟩, ⟨m9, x9⟩, ⟨m, x1⟩, _⟩ := hu
    have i0 : q0.1.2 < 12 := hd q0.1.2 (List.mem_cons_of_mem _ List.mem_cons_self)
    have i9 : q9.1.2 < 12 := hd q9.1.2 (List.mem_cons_of_mem _ (List.mem_cons_of_mem _ (by cases v <;> exact List.mem_cons_self)))
    have z0 := ((cl q0 m0).2.2.2 (by omega) i0).1.1
    have z9 := ((cl q9 m9).2.2.2 (by omega) i9).1.1
    omega
/-- the way into a length, from the last foot -/
theorem lo_ok {Ls D : List gE} {C : Nat → Int} {s : Int} {h : m_H} (hE : ∀ e ∈ Ls, gEo e) (cl : eCl D Ls C s) (T : TI Ls D h) (c_ : cI C 6 h) {u : List gE} {b k : Nat} (hb : b < 12) (hk : k < 4) (hu : wk Ls u (12 + k) b) (hd : ∀ d ∈ (nd u (12 + k)).tail, d < 12) : 2 * wp u ≤ h 41 (4 * b + k) * wq u ∧ ¬ ws u := by
  match u, hu, hd with
  | [], hu, _ => exact absurd hu.1 (by omega)
  | [q], hu, _ =>
    obtain ⟨⟨m, x1⟩, x2, _⟩ := hu
    have d := (cl q m).2.1 (by omega) (by omega)
    have l := T.2.2.2.2 q d.1 k hk x1 (by omega)
    rw [x2] at l
    refine ⟨?_, fun z => z.elim (fun y => absurd y d.2) (fun y => y.elim)⟩
    show 2 * (q.2.1 * 1) ≤ h 41 (4 * b + k) * (q.2.2.1 * 1)
    rw [Int.mul_one, Int.mul_one]; exact l
  | [q, q0], hu, hd =>
    obtain ⟨⟨m, x1⟩, ⟨m0, x0⟩, x2, _⟩ := hu
    have i1 : q.1.2 < 12 := hd q.1.2 List.mem_cons_self
    have d := (cl q m).2.1 (by omega) i1
    have l := T.2.2.2.2 q d.1 k hk x1 i1
    obtain ⟨⟨z1, z2⟩, z3, z4, z5⟩ := (cl q0 m0).2.2.2 (by omega) (by omega)
    have cc := (c_ q0.1.2 k (by omega) z2 hk).2
    have g := hE q m
    unfold gEo at g
    rw [show q.1.2 = q0.1.2 + 6 by omega] at l
    have mm := Int.mul_le_mul_of_nonneg_right cc (show 0 ≤ q.2.2.1 by omega)
    rw [x2] at mm
    refine ⟨?_, fun z => z.elim (fun y => absurd y d.2) (fun y => y.elim (fun w => absurd w z5) (fun w => w.elim))⟩
    show 2 * (q.2.1 * (q0.2.1 * 1)) ≤ h 41 (4 * b + k) * (q.2.2.1 * (q0.2.2.1 * 1))
    rw [z3, z4, Int.mul_one, Int.mul_one, Int.mul_one]
    rw [x2] at l
    omega
  | q :: q0 :: q9 :: v, hu, hd =>
    exfalso
    obtain ⟨⟨m, x1⟩, ⟨m0, x0⟩, ⟨m9, x9⟩, _⟩ := hu
    have i1 : q.1.2 < 12 := hd q.1.2 List.mem_cons_self
    have i0 : q0.1.2 < 12 := hd q0.1.2 (List.mem_cons_of_mem _ List.mem_cons_self)
    have i9 : q9.1.2 < 12 := hd q9.1.2 (List.mem_cons_of_mem _ (List.mem_cons_of_mem _ (by cases v <;> exact List.mem_cons_self)))
    have z0 := ((cl q0 m0).2.2.2 (by omega) i0).1.1
    have z9 := ((cl q9 m9).2.2.2 (by omega) i9).1.1
    omega
/-! the class's limit is the best of all walks -/
theorem nd_end {L : List gE} : ∀ (w : List gE) (a b : Nat), wk L w a b → b ∈ nd w a
  | [], a, b, h => by obtain ⟨rfl, _⟩ := h; exact List.mem_cons_self
  | e :: w, a, b, h => List.mem_cons_of_mem _ (nd_end w _ b h.2)
theorem re_rl {Ls : List gE} {h : m_H} (S1 : sF1 Ls h) : ∀ x y : Nat, x < 4 → y < 4 → rl Ls (goW (goW (wyH 43 h) (wyH 43 h)) (wyH 43 h) (12 + x) (12 + y)) (12 + x) (12 + y) := by
  have at_ : ∀ a b : Nat, a < 4 → b < 4 → wyH 43 h (12 + a) (12 + b) = bd h (43 + (4 * a + b)) := fun a b ha hb => by
    unfold wyH
    rw [show (4 * (12 + a - 12) + (12 + b - 12)) % 16 = 4 * a + b by omega]
  have r1 : ∀ a b : Nat, a < 4 → b < 4 → rl Ls (wyH 43 h (12 + a) (12 + b)) (12 + a) (12 + b) := fun a b ha hb => by rw [at_ a b ha hb]; exact S1 a b ha hb
  have go_ : ∀ (wy : Nat → Nat → Int × Int × Int) (a b : Nat), a < 4 → b < 4 → (∀ k : Nat, k < 4 → rl Ls (wy (12 + a) (12 + k)) (12 + a) (12 + k)) → rl Ls (goL wy (wyH 43 h) (12 + a) (12 + b) [12, 13, 14, 15] (wy (12 + a) (12 + b))) (12 + a) (12 + b) := fun wy a b ha hb hw => by
    have gen : ∀ (ks : List Nat) (x : Int × Int × Int), (∀ k ∈ ks, ∃ j : Nat, j < 4 ∧ k = 12 + j) → rl Ls x (12 + a) (12 + b) → rl Ls (goL wy (wyH 43 h) (12 + a) (12 + b) ks x) (12 + a) (12 + b) := by
      intro ks
      induction ks with
      | nil => intro x _ hx; exact hx
      | cons k ks ih =>
        intro x hk hx
        refine ih _ (fun j hj => hk j (List.mem_cons_of_mem _ hj)) ?_
        obtain ⟨j, hj, ej⟩ := hk k List.mem_cons_self
        split
        · subst ej
          exact rl_ls hx (rl_ml (hw j hj) (r1 j b hj hb))
        · exact hx
    refine gen _ _ (fun k hk => ?_) (hw b hb)
    simp only [List.mem_cons, List.not_mem_nil, or_false] at hk
    exact ⟨k - 12, by omega, by omega⟩
  have w0 : ∀ a : Nat, a < 4 → rl Ls (1, 1, 0) (12 + a) (12 + a) := fun a ha _ => ⟨[], ⟨rfl, by omega⟩, rfl, fun z => absurd z (by decide)⟩
  have st : ∀ (wy : Nat → Nat → Int × Int × Int), (∀ a b : Nat, a < 4 → b < 4 → rl Ls (wy (12 + a) (12 + b)) (12 + a) (12 + b)) → ∀ a b : Nat, a < 4 → b < 4 → rl Ls (goW wy (wyH 43 h) (12 + a) (12 + b)) (12 + a) (12 + b) := fun wy hw a b ha hb => by
    unfold goW
    by_cases g : 12 + a = 12 + b
    · rw [if_pos g]; have e : a = b := by omega
      subst e; exact w0 a ha
    · rw [if_neg g]; exact go_ _ a b ha hb (fun k hk => hw a k ha hk)
  exact st _ (st _ r1)
/-- all that stands, in one -/
theorem way_ok {Ls D : List gE} {C : Nat → Int} {s : Int} {h : m_H} (hE : ∀ e ∈ Ls, gEo e) (cl : eCl D Ls C s) (X : TX Ls D C s h) (ng : ¬ gain Ls) {x y : Nat} (hx : x < 4) (hy : y < 4) : (∀ m, wk Ls m (12 + x) (12 + y) → lb (bd h (77 + (4 * x + y))).1 (bd h (77 + (4 * x + y))).2.1 (bd h (77 + (4 * x + y))).2.2 (wp m) (wq m) (ws m)) ∧ rl Ls (bd h (77 + (4 * x + y))) (12 + x) (12 + y) ∧ pBb 8000000 (bd h (77 + (4 * x + y))) := by
  obtain ⟨T, c_, k_, S1, S2, S3, re⟩ := X
  have e := re (4 * x + y) (by omega)
  rw [show (4 * x + y) / 4 = x by omega, show (4 * x + y) % 4 = y by omega] at e
  have b1 : ∀ i j, pBb 200 (wyH 43 h i j) := wyH_b k_
  have b2 : ∀ i j, pBb 40000 (goW (wyH 43 h) (wyH 43 h) i j) := fun i j => goW_b b1 b1 (by decide) (by decide) (by decide)
  rw [e]
  refine ⟨fun m hm => ?_, re_rl S1 x y hx hy, goW_b b2 b1 (by decide) (by decide) (by decide)⟩
  by_cases g : x = y
  · subst g
    have z : goW (goW (wyH 43 h) (wyH 43 h)) (wyH 43 h) (12 + x) (12 + x) = (1, 1, 0) := if_pos rfl
    rw [z]
    have n := ng_wk ng hm
    refine ⟨⟨by decide, by decide⟩, ?_⟩
    show 1 * wp m < 1 * wq m ∨ (1 * wp m = 1 * wq m ∧ (ws m → (0 : Int) = 1))
    rw [Int.one_mul, Int.one_mul]
    rcases Int.lt_or_eq_of_le n.1 with q | q
    · exact Or.inl q
    · exact Or.inr ⟨q, fun w => absurd w (n.2 q)⟩
  · obtain ⟨f, f1, f2, f3, f4⟩ := toF hE m.length m _ _ (Nat.le_refl _) hm (by omega) (by omega)
    have sk := step_ok hE cl T c_ S2 S3
    have hs := reach_ok hE (t2 := goW (wyH 43 h) (wyH 43 h)) (re := goW (goW (wyH 43 h) (wyH 43 h)) (wyH 43 h)) (fun i j => pB_of (b1 i j)) (fun i j => pB_of (b2 i j)) (fun e he _ => sk e he) (fun a b n => if_neg n) (fun a b n => if_neg n)
    have l := re_all hE ng hs f.length f _ _ (Nat.le_refl _) (by omega) (by omega) f1
    exact lb_c l f2.symm f3.symm f4.mpr
def hBf (a : Int) : Int := if a < 12 then 2 else 1
def scf (a b : Int) : Int := if a < 12 ∧ b < 12 then 2 else 1
theorem cnd_sc {a b hi lo rt rw_ : Int} : hi * rt * hBf b = scf a b * (hi * (rt * hvI a b)) ∧ hBf a * rw_ * lo = scf a b * (lo * (rw_ * hvI b a)) := by
  unfold hBf scf hvI
  by_cases ga : a < 12
  · by_cases gb : b < 12
    · rw [if_pos gb, if_pos ⟨ga, gb⟩, if_pos ga, if_pos ga, if_pos gb, Int.mul_one, Int.mul_one]
      exact ⟨by ac_rfl, by ac_rfl⟩
    · rw [if_neg gb, if_neg (fun z => gb z.2), if_pos ga, if_pos ga, if_neg gb, if_neg (by omega), Int.mul_one, Int.mul_one, Int.one_mul, Int.one_mul]
      exact ⟨rfl, by ac_rfl⟩
  · by_cases gb : b < 12
    · rw [if_pos gb, if_neg (fun z => ga z.1), if_neg ga, if_neg ga, if_neg (by omega), if_pos gb, Int.mul_one, Int.one_mul, Int.one_mul, Int.one_mul]
      exact ⟨by ac_rfl, by ac_rfl⟩
    · rw [if_neg gb, if_neg (fun z => ga z.1), if_neg ga, if_neg ga, if_pos (by omega), if_neg gb, if_pos (by omega), Int.mul_one, Int.mul_one, Int.mul_one, Int.one_mul, Int.one_mul, Int.one_mul]
      exact ⟨rfl, by ac_rfl⟩
theorem scf_p {a b : Int} : 0 < scf a b := by unfold scf; split <;> omega
theorem cnd_at {h : m_H} {a b x y : Nat} (hx : x < 4) (hy : y < 4) : cnd h a b ((4 * x + y : Nat) : Int) = (hiV h a x * ((bd h (77 + (4 * x + y))).1 * hvI a b), loV h b y * ((bd h (77 + (4 * x + y))).2.1 * hvI b a), if (bd h (77 + (4 * x + y))).2.2 = 1 ∨ ((a : Int) < 12 ∧ h 40 (4 * a + x) = 1) then 1 else 0) := by
  unfold cnd bd
  rw [show ((4 * x + y : Nat) : Int) / 4 = (x : Int) by omega, show ((4 * x + y : Nat) : Int) % 4 = (y : Int) by omega, Int.toNat_natCast, show ((a : Int) * 4 + (x : Int)).toNat = 4 * a + x by omega]
theorem hi_at {h : m_H} {a x : Nat} (ha : a < 12) : hiV h a x = h 39 (4 * a + x) := by
  unfold hiV; rw [if_pos (by omega), show ((a : Int) * 4 + (x : Int)).toNat = 4 * a + x by omega]
theorem lo_at {h : m_H} {a x : Nat} (ha : a < 12) : loV h a x = h 41 (4 * a + x) := by
  unfold loV; rw [if_pos (by omega), show ((a : Int) * 4 + (x : Int)).toNat = 4 * a + x by omega]
theorem hB_1 {a : Nat} (g : a < 12) : hBf a = 2 := by unfold hBf; rw [if_pos (by omega)]
theorem hB_2 {a : Nat} (g : ¬ a < 12) : hBf a = 1 := by unfold hBf; rw [if_neg (by omega)]
theorem hi_ft {h : m_H} {a x : Nat} (e : a = 12 + x) : hiV h a x = 1 := by
  unfold hiV
  rw [if_neg (show ¬ (a : Int) < 12 by omega), if_pos (show (a : Int) - 12 = (x : Int) by omega)]
theorem lo_ft {h : m_H} {a x : Nat} (e : 12 + x = a) : loV h a x = 1 := by
  unfold loV
  rw [if_neg (show ¬ (a : Int) < 12 by omega), if_pos (show (a : Int) - 12 = (x : Int) by omega)]
theorem hi_nz {h : m_H} {a x : Nat} (g : ¬ a < 12) (n : hiV h a x ≠ 0) : a = 12 + x := by
  unfold hiV at n
  rw [if_neg (show ¬ (a : Int) < 12 by omega)] at n
  by_cases q : (a : Int) - 12 = x
  · omega
  · rw [if_neg q] at n; exact absurd rfl n
theorem lo_nz {h : m_H} {a x : Nat} (g : ¬ a < 12) (n : loV h a x ≠ 0) : 12 + x = a := by
  unfold loV at n
  rw [if_neg (show ¬ (a : Int) < 12 by omega)] at n
  by_cases q : (a : Int) - 12 = x
  · omega
  · rw [if_neg q] at n; exact absurd rfl n
theorem zc_at {h : m_H} {a b x y : Nat} (hx : x < 4) (hy : y < 4) : (hiV h a (((4 * x + y : Nat) : Int) / 4) = 0 ∨ loV h b (((4 * x + y : Nat) : Int) % 4) = 0 ∨ h (77 + ((4 * x + y : Nat) : Int).toNat) 1 = 0) ↔ (hiV h a x = 0 ∨ loV h b y = 0 ∨ (bd h (77 + (4 * x + y))).2.1 = 0) := by
  rw [show ((4 * x + y : Nat) : Int) / 4 = (x : Int) by omega, show ((4 * x + y : Nat) : Int) % 4 = (y : Int) by omega, Int.toNat_natCast]
  exact Iff.rfl
/-- a candidate that stands is a walk -/
theorem cnd_rl {Ls D : List gE} {C : Nat → Int} {s : Int} {h : m_H} (hE : ∀ e ∈ Ls, gEo e) (cl : eCl D Ls C s) (X : TX Ls D C s h) (ng : ¬ gain Ls) {a b x y : Nat} (ha : a < 16) (hb : b < 16) (hx : x < 4) (hy : y < 4) (nz : ¬ (hiV h a x = 0 ∨ loV h b y = 0 ∨ (bd h (77 + (4 * x + y))).2.1 = 0)) : rl Ls (cnd h a b ((4 * x + y : Nat) : Int)) a b := by
  obtain ⟨_, r2, r3⟩ := way_ok hE cl X ng hx hy
  obtain ⟨T, c_, k_, S1, S2, S3, re⟩ := X
  have n1 : hiV h a x ≠ 0 := fun z => nz (Or.inl z)
  have n2 : loV h b y ≠ 0 := fun z => nz (Or.inr (Or.inl z))
  have n3 : (bd h (77 + (4 * x + y))).2.1 ≠ 0 := fun z => nz (Or.inr (Or.inr z))
  obtain ⟨m, m1, m2, m3⟩ := r2 n3
  have H : ∃ w, wk Ls w a (12 + x) ∧ hiV h a x * wp w = hBf a * wq w ∧ ((a : Int) < 12 ∧ h 40 (4 * a + x) = 1 → ws w) := by
    by_cases g : a < 12
    · rw [hi_at g] at n1 ⊢
      obtain ⟨w, w1, w2, w3⟩ := T.2.1 a x g hx n1
      exact ⟨w, w1, by rw [hB_1 g]; exact w2, fun z => w3 z.2⟩
    · have e := hi_nz g n1
      exact ⟨[], ⟨e, ha⟩, by rw [hi_ft e, hB_2 g]; rfl, fun z => absurd z.1 (by omega)⟩
  have Lw : ∃ w, wk Ls w (12 + y) b ∧ loV h b y * wq w = hBf b * wp w := by
    by_cases g : b < 12
    · rw [lo_at g] at n2 ⊢
      obtain ⟨w, w1, w2⟩ := T.2.2.1 b y g hy n2
      exact ⟨w, w1, by rw [hB_1 g]; exact w2⟩
    · have e := lo_nz g n2
      exact ⟨[], ⟨e, by omega⟩, by rw [lo_ft e, hB_2 g]; rfl⟩
  obtain ⟨u, u1, u2, u3⟩ := H
  obtain ⟨v, v1, v2⟩ := Lw
  rw [cnd_at hx hy]
  intro _
  refine ⟨u ++ (m ++ v), wk_app _ _ _ _ _ u1 (wk_app _ _ _ _ _ m1 v1), ?_, fun o => ?_⟩
  · show hiV h a x * ((bd h (77 + (4 * x + y))).1 * hvI a b) * wp (u ++ (m ++ v)) = loV h b y * ((bd h (77 + (4 * x + y))).2.1 * hvI b a) * wq (u ++ (m ++ v))
    have sc := cnd_sc (a := (a : Int)) (b := (b : Int)) (hi := hiV h a x) (lo := loV h b y) (rt := (bd h (77 + (4 * x + y))).1) (rw_ := (bd h (77 + (4 * x + y))).2.1)
    refine Int.eq_of_mul_eq_mul_left (Int.ne_of_gt (scf_p (a := (a : Int)) (b := (b : Int)))) ?_
    have j1 : scf (a : Int) (b : Int) * (hiV h a x * ((bd h (77 + (4 * x + y))).1 * hvI a b) * wp (u ++ (m ++ v))) = scf (a : Int) (b : Int) * (hiV h a x * ((bd h (77 + (4 * x + y))).1 * hvI a b)) * wp (u ++ (m ++ v)) := (Int.mul_assoc _ _ _).symm
    have j2 : scf (a : Int) (b : Int) * (loV h b y * ((bd h (77 + (4 * x + y))).2.1 * hvI b a) * wq (u ++ (m ++ v))) = scf (a : Int) (b : Int) * (loV h b y * ((bd h (77 + (4 * x + y))).2.1 * hvI b a)) * wq (u ++ (m ++ v)) := (Int.mul_assoc _ _ _).symm
    rw [j1, j2, ← sc.1, ← sc.2, wp_app, wp_app, wq_app, wq_app]
    have k1 : hiV h a x * (bd h (77 + (4 * x + y))).1 * hBf b * (wp u * (wp m * wp v)) = (hiV h a x * wp u) * ((bd h (77 + (4 * x + y))).1 * wp m) * (hBf b * wp v) := by ac_rfl
    have k2 : hBf a * (bd h (77 + (4 * x + y))).2.1 * loV h b y * (wq u * (wq m * wq v)) = (hBf a * wq u) * ((bd h (77 + (4 * x + y))).2.1 * wq m) * (loV h b y * wq v) := by ac_rfl
    rw [k1, k2, u2, m2, v2]
  · have o' : (if (bd h (77 + (4 * x + y))).2.2 = 1 ∨ ((a : Int) < 12 ∧ h 40 (4 * a + x) = 1) then (1 : Int) else 0) = 1 := o
    by_cases q : (bd h (77 + (4 * x + y))).2.2 = 1 ∨ ((a : Int) < 12 ∧ h 40 (4 * a + x) = 1)
    · rw [ws_app, ws_app]
      rcases q with q | q
      · exact Or.inr (Or.inl (m3 q))
      · exact Or.inl (u3 q)
    · rw [if_neg q] at o'; exact absurd o' (by decide)
/-- every walk by a foot is under a candidate that stands -/
theorem cnd_ok {Ls D : List gE} {C : Nat → Int} {s : Int} {h : m_H} (hE : ∀ e ∈ Ls, gEo e) (cl : eCl D Ls C s) (X : TX Ls D C s h) (ng : ¬ gain Ls) {a b : Nat} {w : List gE} (hw : wk Ls w a b) (hf : ∃ d ∈ nd w a, 12 ≤ d) : ∃ x y : Nat, x < 4 ∧ y < 4 ∧ ¬ (hiV h a x = 0 ∨ loV h b y = 0 ∨ (bd h (77 + (4 * x + y))).2.1 = 0) ∧ lb (cnd h a b ((4 * x + y : Nat) : Int)).1 (cnd h a b ((4 * x + y : Nat) : Int)).2.1 (cnd h a b ((4 * x + y : Nat) : Int)).2.2 (wp w) (wq w) (ws w) := by
  obtain ⟨u, v, c, e1, e2, e3, e4, e5⟩ := wk_fst hE w a b hw hf
  obtain ⟨m, u', c', f1, f2, f3, f4, f5⟩ := wk_lst hE v c b e4 ⟨c, by cases v <;> exact List.mem_cons_self, e3⟩
  have pu := wp_pos hE u a c e2
  have pm := wp_pos hE m c c' f2
  have pv := wp_pos hE u' c' b f4
  obtain ⟨x, hx, rfl⟩ : ∃ x : Nat, x < 4 ∧ c = 12 + x := ⟨c - 12, by omega, by omega⟩
  obtain ⟨y, hy, rfl⟩ : ∃ y : Nat, y < 4 ∧ c' = 12 + y := ⟨c' - 12, by omega, by omega⟩
  obtain ⟨r1, _, r3⟩ := way_ok hE cl X ng hx hy
  obtain ⟨T, c_, k_, S1, S2, S3, re⟩ := X
  have lm := r1 m f2
  have H : lb (hiV h a x) (hBf a) (if (a : Int) < 12 then h 40 (4 * a + x) else 0) (wp u) (wq u) (ws u) := by
    by_cases g : a < 12
    · have l := hi_ok hE cl T c_ g hx e2 e5
      rw [hi_at g, hB_1 g, if_pos (show (a : Int) < 12 by omega)]
      exact l
    · have eu : u = [] := by
        cases u with
        | nil => rfl
        | cons q u =>
          have nn : nd u q.1.2 ≠ [] := by cases u <;> simp [nd]
          have t : nd (q :: u) a = a :: nd u q.1.2 := rfl
          rw [t, List.dropLast_cons_of_ne_nil nn] at e5
          exact absurd (e5 a List.mem_cons_self) g
      subst eu
      have ea : a = 12 + x := e2.1
      rw [hi_ft ea, hB_2 g, if_neg (show ¬ (a : Int) < 12 by omega)]
      exact ⟨⟨by decide, by decide⟩, Or.inr ⟨rfl, fun z => z.elim⟩⟩
  have Lw : hBf b * wp u' ≤ loV h b y * wq u' ∧ ¬ ws u' := by
    by_cases g : b < 12
    · have l := lo_ok hE cl T c_ g hy f4 f5
      rw [lo_at g, hB_1 g]
      exact l
    · have eu : u' = [] := by
        cases u' with
        | nil => rfl
        | cons q u =>
          have z : b ∈ (nd (q :: u) (12 + y)).tail := nd_end u _ b f4.2
          exact absurd (f5 b z) g
      subst eu
      have eb : 12 + y = b := f4.1
      rw [lo_ft eb, hB_2 g]
      exact ⟨Int.le_refl _, fun z => z⟩
  have hbp : 0 < hBf b := by unfold hBf; split <;> omega
  obtain ⟨l, lp⟩ := lb_3 (o := if (bd h (77 + (4 * x + y))).2.2 = 1 ∨ ((a : Int) < 12 ∧ h 40 (4 * a + x) = 1) then 1 else 0) H lm Lw.1 hbp Lw.2 pu.1 pm.1 pv.1 (fun z => by
    rcases z with z | z
    · by_cases g : (a : Int) < 12
      · rw [if_pos g] at z; exact if_pos (Or.inr ⟨g, z⟩)
      · rw [if_neg g] at z; exact absurd z (by decide)
    · exact if_pos (Or.inl z))
  refine ⟨x, y, hx, hy, ?_, ?_⟩
  · have h1 := H.1.1
    have h2 := lm.1.2
    omega
  · rw [cnd_at hx hy]
    have sc := cnd_sc (a := (a : Int)) (b := (b : Int)) (hi := hiV h a x) (lo := loV h b y) (rt := (bd h (77 + (4 * x + y))).1) (rw_ := (bd h (77 + (4 * x + y))).2.1)
    rw [sc.1, sc.2] at l
    refine lb_c (lb_sc scf_p l) ?_ ?_ ?_
    · rw [e1, f1, wp_app, wp_app]
    · rw [e1, f1, wq_app, wq_app]
    · rw [e1, f1, ws_app, ws_app]; exact id
/-- .. and one by lengths alone is a cut -/
theorem cut_ok {Ls D : List gE} {C : Nat → Int} {s : Int} (cl : eCl D Ls C s) {a b : Nat} {w : List gE} (hw : wk Ls w a b) (hab : a ≠ b) (hf : ¬ ∃ d ∈ nd w a, 12 ≤ d) : (b < 6 ∧ a = b + 6) ∧ wp w = 1 ∧ wq w = 1 ∧ ¬ ws w := by
  have all : ∀ d ∈ nd w a, d < 12 := fun d hd => by
    rcases Nat.lt_or_ge d 12 with y | y
    · exact y
    · exact absurd ⟨d, hd, y⟩ hf
  match w, hw, all with
  | [], hw, _ => exact absurd hw.1 hab
  | [q], hw, all =>
    obtain ⟨⟨m, x1⟩, x2, _⟩ := hw
    have i1 : a < 12 := all a List.mem_cons_self
    have i2 : q.1.2 < 12 := all q.1.2 (List.mem_cons_of_mem _ List.mem_cons_self)
    obtain ⟨⟨z1, z2⟩, z3, z4, z5⟩ := (cl q m).2.2.2 (by omega) i2
    refine ⟨by omega, ?_, ?_, fun z => z.elim (fun y => absurd y z5) (fun y => y.elim)⟩
    · show q.2.1 * 1 = 1; rw [z3]; rfl
    · show q.2.2.1 * 1 = 1; rw [z4]; rfl
  | q :: q' :: v, hw, all =>
    exfalso
    obtain ⟨⟨m, x1⟩, ⟨m', x2⟩, _⟩ := hw
    have i1 : a < 12 := all a List.mem_cons_self
    have i2 : q.1.2 < 12 := all q.1.2 (List.mem_cons_of_mem _ List.mem_cons_self)
    have i3 : q'.1.2 < 12 := all q'.1.2 (List.mem_cons_of_mem _ (List.mem_cons_of_mem _ (by cases v <;> exact List.mem_cons_self)))
    have z1 := ((cl q m).2.2.2 (by omega) i2).1.1
    have z2 := ((cl q' m').2.2.2 (by omega) i3).1.1
    omega
theorem lm_lq {Ls D : List gE} {C : Nat → Int} {s : Int} {h : m_H} (hH : bkH h) (hR : bkR h) {a b : Nat} : ∀ n, n ≤ 16 → lq (lmN h a b n) (lmI a b) ∧ ∀ p : Nat, p < n → ¬ (hiV h a ((p : Int) / 4) = 0 ∨ loV h b ((p : Int) % 4) = 0 ∨ h (77 + (p : Int).toNat) 1 = 0) → lq (lmN h a b n) (cnd h a b p)
  | 0, _ => ⟨fun _ _ _ _ _ l => l, fun p hp => absurd hp (by omega)⟩
  | n + 1, hn => by
    obtain ⟨i1, i2⟩ := lm_lq (Ls := Ls) (D := D) (C := C) (s := s) (a := a) (b := b) hH hR n (by omega)
    have st : lmN h a b (n + 1) = lmS h a b (n : Int) (lmN h a b n) := rfl
    rw [st]
    unfold lmS
    by_cases q : hiV h a ((n : Int) / 4) = 0 ∨ loV h b ((n : Int) % 4) = 0 ∨ h (77 + (n : Int).toNat) 1 = 0
    · rw [if_pos q]
      refine ⟨i1, fun p hp nz => ?_⟩
      by_cases g : p = n
      · subst g; exact absurd q nz
      · exact i2 p (by omega) nz
    · rw [if_neg q]
      have cp := cnd_p (a := (a : Int)) (b := (b : Int)) (p := (n : Int)) hH hR (by omega) (by omega) (by omega) (by omega) q
      have xb := lmN_b (a := (a : Int)) (b := (b : Int)) hH hR (by omega) (by omega) n (by omega)
      refine ⟨lq_t (lq_l cp) i1, fun p hp nz => ?_⟩
      by_cases g : p = n
      · subst g; exact lq_r ⟨xb.1.1, xb.2.1⟩
      · exact lq_t (lq_l cp) (i2 p (by omega) nz)
theorem bkR_X {Ls D : List gE} {C : Nat → Int} {s : Int} {h : m_H} (X : TX Ls D C s h) : bkR h := fun p hp => by
  obtain ⟨T, c_, k_, S1, S2, S3, re⟩ := X
  have b1 : ∀ i j, pBb 200 (wyH 43 h i j) := wyH_b k_
  rw [re p hp]
  exact goW_b (fun i j => goW_b (B := 40000) b1 b1 (by decide) (by decide) (by decide)) b1 (by decide) (by decide) (by decide)
theorem lm_BW {Ls D : List gE} {C : Nat → Int} {s : Int} {h : m_H} (hE : ∀ e ∈ Ls, gEo e) (cl : eCl D Ls C s) (X : TX Ls D C s h) (ng : ¬ gain Ls) {a b : Nat} (ha : a < 16) (hb : b < 16) (hab : a ≠ b) (hcut : b < 6 → a = b + 6 → ((6 + b, b), ((1 : Int), (1 : Int), (0 : Int))) ∈ Ls) : BW Ls a b (lmN h a b 16) := by
  have hH := X.1.1
  have hR := bkR_X X
  refine ⟨pB_of (lmN_b hH hR (by omega) (by omega) 16 (Nat.le_refl _)), ?_, fun w hw => ?_⟩
  · have gen : ∀ n, n ≤ 16 → rl Ls (lmN h a b n) a b := by
      intro n
      induction n with
      | zero =>
        intro _
        show rl Ls (lmI a b) a b
        unfold lmI
        by_cases g : (a : Int) = b ∨ ((b : Int) < 6 ∧ (a : Int) = b + 6)
        · rw [if_pos g]
          intro _
          have g2 : b < 6 ∧ a = b + 6 := by omega
          exact ⟨[((6 + b, b), (1, 1, 0))], ⟨⟨hcut g2.1 g2.2, by show 6 + b = a; omega⟩, rfl, by show b < 16; exact hb⟩, rfl, fun z => absurd z (by decide)⟩
        · rw [if_neg g]; exact fun z => absurd rfl z
      | succ n ih =>
        intro hn
        have i := ih (by omega)
        have st : lmN h a b (n + 1) = lmS h a b (n : Int) (lmN h a b n) := rfl
        rw [st]
        unfold lmS
        split
        · exact i
        · rename_i q
          obtain ⟨x, y, hx, hy, e⟩ : ∃ x y : Nat, x < 4 ∧ y < 4 ∧ n = 4 * x + y := ⟨n / 4, n % 4, by omega, by omega, by omega⟩
          subst e
          exact rl_ls i (cnd_rl hE cl X ng ha hb hx hy (fun z => q ((zc_at hx hy).mpr z)))
    exact gen 16 (Nat.le_refl _)
  · have l := lm_lq (Ls := Ls) (D := D) (C := C) (s := s) (a := a) (b := b) hH hR 16 (Nat.le_refl _)
    have p := wp_pos hE w a b hw
    by_cases g : ∃ d ∈ nd w a, 12 ≤ d
    · obtain ⟨x, y, hx, hy, nz, c⟩ := cnd_ok hE cl X ng hw g
      exact l.2 (4 * x + y) (by omega) (fun z => nz ((zc_at hx hy).mp z)) _ _ _ p.1.1 p.1.2 c
    · obtain ⟨c1, c2, c3, c4⟩ := cut_ok cl hw hab g
      have e : lmI (a : Int) (b : Int) = (1, 1, 0) := by unfold lmI; rw [if_pos (by omega)]
      refine l.1 _ _ _ p.1.1 p.1.2 ?_
      rw [e, c2, c3]
      exact ⟨⟨by decide, by decide⟩, Or.inr ⟨rfl, fun z => absurd z c4⟩⟩
/-- one with itself -/
theorem one_BW {Ls : List gE} (ng : ¬ gain Ls) {a : Nat} (ha : a < 16) : BW Ls a a (1, 1, 0) := by
  refine ⟨⟨by decide, by decide⟩, fun _ => ⟨[], ⟨rfl, ha⟩, rfl, fun z => absurd z (by decide)⟩, fun w hw => ?_⟩
  have n := ng_wk ng hw
  refine ⟨⟨by decide, by decide⟩, ?_⟩
  show 1 * wp w < 1 * wq w ∨ (1 * wp w = 1 * wq w ∧ (ws w → (0 : Int) = 1))
  rw [Int.one_mul, Int.one_mul]
  rcases Int.lt_or_eq_of_le n.1 with q | q
  · exact Or.inl q
  · exact Or.inr ⟨q, fun z => absurd z (n.2 q)⟩
/-! the reference's rounds from one length on: the best of all walks -/
def grI (L : List gE) (a : Nat) (S : gS) (m : Int) : Prop := (∀ l, l < 16 → (S l).2.2 = 1 → ∃ w, wk L w a l ∧ (S l).1.1 = wp w ∧ (S l).1.2 = wq w ∧ ((S l).2.1 = 1 ↔ ws w)) ∧ ((S a).2.2 = 1 ∧ (S a).1.2 ≤ (S a).1.1) ∧ (m = 0 → ∀ e ∈ L, (S e.1.1).2.2 = 1 → ¬ gb (gc 1 S e) (S e.1.2))
theorem gr_cg {L : List gE} {a : Nat} {S S' : gS} {m : Int} (hE : ∀ q ∈ L, gEo q) (ha : a < 16) (e : ∀ l, l < 16 → S' l = S l) (I : grI L a S m) : grI L a S' m := by
  obtain ⟨A, B, C⟩ := I
  refine ⟨fun l hl t => ?_, by rw [e a ha]; exact B, fun hm q hq t => ?_⟩
  · rw [e l hl] at t ⊢; exact A l hl t
  · have o := (hE q hq).1
    rw [e _ o.1] at t
    have g : gc 1 S' q = gc 1 S q := by unfold gc; rw [e _ o.1]
    rw [g, e _ o.2]; exact C hm q hq t
theorem grI_0 {L : List gE} {a : Int} {S : gS} (ha : 0 ≤ a) (ha15 : a ≤ 15) (s : ∀ l, l < 16 → S l = ((1, 1), (0, if a = -1 ∨ (l : Int) = a then 1 else 0))) : grI L a.toNat S 1 := by
  refine ⟨fun l hl t => ?_, ?_, fun z => absurd z (by decide)⟩
  · rw [s l hl] at t ⊢
    have e : (l : Int) = a := by
      by_cases g : a = -1 ∨ (l : Int) = a
      · omega
      · exfalso
        have t' : (if a = -1 ∨ (l : Int) = a then (1 : Int) else 0) = 1 := t
        rw [if_neg g] at t'; exact absurd t' (by decide)
    exact ⟨[], ⟨by omega, by omega⟩, rfl, rfl, ⟨fun z => absurd (show (0 : Int) = 1 from z) (by decide), fun z => z.elim⟩⟩
  · rw [s a.toNat (by omega)]
    refine ⟨?_, Int.le_refl _⟩
    show (if a = -1 ∨ ((a.toNat : Nat) : Int) = a then (1 : Int) else 0) = 1
    rw [if_pos (by omega)]
theorem gr_step {L : List gE} {a : Nat} {S : gS} {m : Int} (hE : ∀ q ∈ L, gEo q) (ha : a < 16) (hg : ∀ l, l < 16 → ga (S l)) (I : grI L a S m) : grI L a (gi 1 S L L.length).1 (gi 1 S L L.length).2 := by
  obtain ⟨A, B, C⟩ := I
  have hcx := fun (e : gE) (he : e ∈ L) (t : (S e.1.1).2.2 = 1) => gc_ex (S := S) (z := 1) (M := 25091827216) (by decide) (hE e he) ((hg _ (hE e he).1.1).2.2 t).1 ((hg _ (hE e he).1.1).2.2 t).2
  have hR := gi_ok (z := 1) (S := S) (L := L) (fun e he => (hE e he).1) (fun e he t => by have := (hcx e he t).2.2.1; omega) (fun l hl t => by have := ((hg l hl).2.2 t).2.1; omega) L.length
  generalize gi 1 S L L.length = p at hR ⊢
  obtain ⟨r1, r2, r3⟩ := hR
  refine ⟨fun l hl t => ?_, ?_, fun hm e he t => ?_⟩
  · rcases r1 l with q | ⟨⟨e, he, x1, x2, q⟩, _⟩
    · rw [q] at t ⊢; exact A l hl t
    · obtain ⟨w, w1, w2, w3, w4⟩ := A e.1.1 (hE e he).1.1 x2
      have cx := hcx e he x2
      refine ⟨w ++ [e], wk_app w [e] a _ l w1 ⟨⟨he, rfl⟩, x1, x1 ▸ (hE e he).1.2⟩, ?_, ?_, ?_⟩
      · rw [q, wp_app, ← w2, cx.1.1]; show _ = _ * (e.2.1 * 1); rw [Int.mul_one]
      · rw [q, wq_app, ← w3, cx.1.2]; show _ = _ * (e.2.2.1 * 1); rw [Int.mul_one]
      · rw [q, ws_app, ← w4]
        show (if (1 : Int) = 1 ∧ ((S e.1.1).2.1 = 1 ∨ e.2.2.2 = 1) then (1 : Int) else 0) = 1 ↔ ((S e.1.1).2.1 = 1 ∨ (e.2.2.2 = 1 ∨ False))
        by_cases g : (S e.1.1).2.1 = 1 ∨ e.2.2.2 = 1
        · rw [if_pos ⟨rfl, g⟩]
          exact ⟨fun _ => g.elim Or.inl (fun y => Or.inr (Or.inl y)), fun _ => rfl⟩
        · rw [if_neg (fun z => g z.2)]
          exact ⟨fun z => absurd z (by decide), fun z => absurd (z.elim Or.inl (fun y => y.elim Or.inr (fun w => w.elim))) g⟩
  · rcases r1 a with q | ⟨⟨e, he, x1, x2, q⟩, g⟩
    · rw [q]; exact B
    · have cx := hcx e he x2
      rw [q] at g ⊢
      refine ⟨rfl, ?_⟩
      have ga_ := (hg a ha).2.2 B.1
      have le : (S a).1.1 * (gc 1 S e).1.2 ≤ (gc 1 S e).1.1 * (S a).1.2 := by
        rcases g with g | g | g
        · exact absurd B.1 g
        · exact Int.le_of_lt g
        · exact Int.le_of_eq g.1.symm
      have m1 := Int.mul_le_mul_of_nonneg_left B.2 (show 0 ≤ (gc 1 S e).1.1 by omega)
      have k : (gc 1 S e).1.1 * (S a).1.1 = (S a).1.1 * (gc 1 S e).1.1 := Int.mul_comm _ _
      exact Int.le_of_mul_le_mul_left (show (S a).1.1 * (gc 1 S e).1.2 ≤ (S a).1.1 * (gc 1 S e).1.1 by omega) (by omega)
  · rcases r3 with ⟨_, z⟩ | ⟨z, _⟩
    · have ep : p.1 = S := funext z
      rw [ep] at r2 t ⊢
      obtain ⟨j, hj⟩ := List.getElem?_of_mem he
      exact r2 j e (List.getElem?_eq_some_iff.mp hj).1 hj t
    · omega
def bOf (n : gN) : Int × Int × Int := if n.2.2 = 1 then (n.1.2, n.1.1, n.2.1) else (1, 0, 1)
/-- nothing is left to better: no walk is better -/
theorem gr_walk {L : List gE} {S : gS} (hE : ∀ q ∈ L, gEo q) (hg : ∀ l, l < 16 → ga (S l)) (C : ∀ e ∈ L, (S e.1.1).2.2 = 1 → ¬ gb (gc 1 S e) (S e.1.2)) : ∀ (w : List gE) (c l : Nat), wk L w c l → (S c).2.2 = 1 → (S l).2.2 = 1 ∧ (S c).1.1 * wp w * (S l).1.2 ≤ (S l).1.1 * ((S c).1.2 * wq w) ∧ ((S c).1.1 * wp w * (S l).1.2 = (S l).1.1 * ((S c).1.2 * wq w) → ((S c).2.1 = 1 ∨ ws w) → (S l).2.1 = 1)
  | [], c, l, h, t => by
    obtain ⟨rfl, _⟩ := h
    refine ⟨t, ?_, fun _ z => z.elim id (fun y => y.elim)⟩
    show (S c).1.1 * 1 * (S c).1.2 ≤ (S c).1.1 * ((S c).1.2 * 1)
    rw [Int.mul_one, Int.mul_one]; exact Int.le_refl _
  | e :: w, c, l, h, t => by
    obtain ⟨⟨he, ec⟩, h2⟩ := h
    subst ec
    have o := hE e he
    have cx := gc_ex (S := S) (z := 1) (M := 25091827216) (by decide) o ((hg _ o.1.1).2.2 t).1 ((hg _ o.1.1).2.2 t).2
    have nb := C e he t
    have t2 : (S e.1.2).2.2 = 1 := Classical.byContradiction fun z => nb (Or.inl z)
    have le : (gc 1 S e).1.1 * (S e.1.2).1.2 ≤ (S e.1.2).1.1 * (gc 1 S e).1.2 := by
      rcases Int.lt_or_le ((S e.1.2).1.1 * (gc 1 S e).1.2) ((gc 1 S e).1.1 * (S e.1.2).1.2) with g | g
      · exact absurd (Or.inr (Or.inl g)) nb
      · exact g
    have eqo : (gc 1 S e).1.1 * (S e.1.2).1.2 = (S e.1.2).1.1 * (gc 1 S e).1.2 → ((S e.1.1).2.1 = 1 ∨ e.2.2.2 = 1) → (S e.1.2).2.1 = 1 := fun q z => Classical.byContradiction fun y => nb (Or.inr (Or.inr ⟨q, if_pos ⟨rfl, z⟩, y⟩))
    rw [cx.1.1, cx.1.2] at le eqo
    obtain ⟨t3, i1, i2⟩ := gr_walk hE hg C w _ l h2 t2
    have pw := wp_pos hE w _ l h2
    have gd := (hg _ o.1.2).2.2 t2
    have gc_ := (hg _ o.1.1).2.2 t
    have gl := (hg l pw.2.2).2.2 t3
    unfold gEo at o
    have m1 : (S e.1.1).1.1 * e.2.1 * wp w * (S e.1.2).1.2 ≤ (S e.1.2).1.1 * wp w * ((S e.1.1).1.2 * e.2.2.1) := by
      have z := Int.mul_le_mul_of_nonneg_left le (Int.le_of_lt pw.1.1)
      have a1 : wp w * ((S e.1.1).1.1 * e.2.1 * (S e.1.2).1.2) = (S e.1.1).1.1 * e.2.1 * wp w * (S e.1.2).1.2 := by ac_rfl
      have a2 : wp w * ((S e.1.2).1.1 * ((S e.1.1).1.2 * e.2.2.1)) = (S e.1.2).1.1 * wp w * ((S e.1.1).1.2 * e.2.2.1) := by ac_rfl
      omega
    have px : 0 < (S e.1.1).1.2 * e.2.2.1 := Int.mul_pos (by omega) (by omega)
    have i1' : (S e.1.2).1.1 * wp w * (S l).1.2 ≤ (S l).1.1 * wq w * (S e.1.2).1.2 := by
      have a1 : (S l).1.1 * ((S e.1.2).1.2 * wq w) = (S l).1.1 * wq w * (S e.1.2).1.2 := by ac_rfl
      omega
    have g1 : (S e.1.1).1.1 * (e.2.1 * wp w) * (S l).1.2 = (S e.1.1).1.1 * e.2.1 * wp w * (S l).1.2 := by ac_rfl
    have g2 : (S l).1.1 * ((S e.1.1).1.2 * (e.2.2.1 * wq w)) = (S l).1.1 * wq w * ((S e.1.1).1.2 * e.2.2.1) := by ac_rfl
    refine ⟨t3, ?_, ?_⟩
    · show (S e.1.1).1.1 * (e.2.1 * wp w) * (S l).1.2 ≤ (S l).1.1 * ((S e.1.1).1.2 * (e.2.2.1 * wq w))
      rw [g1, g2]
      exact fr_tr (Int.le_of_lt px) (show 0 < (S e.1.2).1.2 by omega) (by omega) m1 i1'
    · show (S e.1.1).1.1 * (e.2.1 * wp w) * (S l).1.2 = (S l).1.1 * ((S e.1.1).1.2 * (e.2.2.1 * wq w)) → ((S e.1.1).2.1 = 1 ∨ (e.2.2.2 = 1 ∨ ws w)) → (S l).2.1 = 1
      rw [g1, g2]
      intro eq st
      have q1 : (S e.1.1).1.1 * e.2.1 * wp w * (S e.1.2).1.2 = (S e.1.2).1.1 * wp w * ((S e.1.1).1.2 * e.2.2.1) := by
        rcases Int.lt_or_eq_of_le m1 with z | z
        · exact absurd eq (Int.ne_of_lt (fr_trl (Int.le_of_lt px) (show 0 < (S e.1.2).1.2 by omega) (by omega) z i1'))
        · exact z
      have q2 : (S e.1.2).1.1 * wp w * (S l).1.2 = (S l).1.1 * wq w * (S e.1.2).1.2 := by
        rcases Int.lt_or_eq_of_le i1' with z | z
        · exact absurd eq (Int.ne_of_lt (fr_ltr px (show 0 < (S e.1.2).1.2 by omega) (by omega) m1 z))
        · exact z
      have q3 : (S e.1.1).1.1 * e.2.1 * (S e.1.2).1.2 = (S e.1.2).1.1 * ((S e.1.1).1.2 * e.2.2.1) := by
        have a1 : wp w * ((S e.1.1).1.1 * e.2.1 * (S e.1.2).1.2) = (S e.1.1).1.1 * e.2.1 * wp w * (S e.1.2).1.2 := by ac_rfl
        have a2 : wp w * ((S e.1.2).1.1 * ((S e.1.1).1.2 * e.2.2.1)) = (S e.1.2).1.1 * wp w * ((S e.1.1).1.2 * e.2.2.1) := by ac_rfl
        exact Int.eq_of_mul_eq_mul_left (Int.ne_of_gt pw.1.1) (by omega)
      have a3 : (S l).1.1 * ((S e.1.2).1.2 * wq w) = (S l).1.1 * wq w * (S e.1.2).1.2 := by ac_rfl
      refine i2 (by omega) ?_
      rcases st with st | st | st
      · exact Or.inl (eqo q3 (Or.inl st))
      · exact Or.inl (eqo q3 (Or.inr st))
      · exact Or.inr st
theorem gr_end {L : List gE} {a : Nat} {S : gS} (hE : ∀ q ∈ L, gEo q) (ha : a < 16) (hg : ∀ l, l < 16 → ga (S l)) (I : grI L a S 0) : ∀ l, l < 16 → BW L a l (bOf (S l)) := fun l hl => by
  obtain ⟨A, B, C⟩ := I
  have W := fun w (hw : wk L w a l) => gr_walk hE hg (C rfl) w a l hw B.1
  have gA := (hg a ha).2.2 B.1
  unfold bOf
  by_cases t : (S l).2.2 = 1
  · rw [if_pos t]
    have gl := (hg l hl).2.2 t
    refine ⟨⟨by show 0 < (S l).1.2; omega, by show 0 ≤ (S l).1.1; omega⟩, fun _ => ?_, fun w hw => ?_⟩
    · obtain ⟨w, w1, w2, w3, w4⟩ := A l hl t
      refine ⟨w, w1, ?_, fun o => w4.mp o⟩
      show (S l).1.2 * wp w = (S l).1.1 * wq w
      rw [w2, w3, Int.mul_comm]
    · obtain ⟨_, i1, i2⟩ := W w hw
      have pw := wp_pos hE w a l hw
      refine ⟨⟨by show 0 < (S l).1.2; omega, by show 0 < (S l).1.1; omega⟩, ?_⟩
      show (S l).1.2 * wp w < (S l).1.1 * wq w ∨ ((S l).1.2 * wp w = (S l).1.1 * wq w ∧ (ws w → (S l).2.1 = 1))
      have qp : 0 < (S l).1.1 * wq w := Int.mul_pos (by omega) pw.1.2
      have k1 : (S a).1.1 * wp w * (S l).1.2 = (S a).1.1 * ((S l).1.2 * wp w) := by ac_rfl
      have k2 : (S l).1.1 * ((S a).1.2 * wq w) = (S a).1.2 * ((S l).1.1 * wq w) := by ac_rfl
      rw [k1, k2] at i1 i2
      have m := Int.mul_le_mul_of_nonneg_right B.2 (Int.le_of_lt qp)
      have le : (S l).1.2 * wp w ≤ (S l).1.1 * wq w := Int.le_of_mul_le_mul_left (show (S a).1.1 * ((S l).1.2 * wp w) ≤ (S a).1.1 * ((S l).1.1 * wq w) by omega) (by omega)
      rcases Int.lt_or_eq_of_le le with z | z
      · exact Or.inl z
      · refine Or.inr ⟨z, fun st => i2 ?_ (Or.inr st)⟩
        rw [z] at i1 ⊢
        omega
  · rw [if_neg t]
    exact ⟨⟨by decide, by decide⟩, fun n => absurd rfl n, fun w hw => absurd (W w hw).1 t⟩
abbrev P_X12_goFrom2 (h0 : m_H) (a1 : Int) : m_H → Prop := fun h' => GI h' ∧ FR [115, 116, 117, 118, 119, 120, 121, 122, 123, 124, 125, 126, 127, 128, 129, 130, 131, 132, 133] [(108, 21)] h0 h' ∧ goQ h' ∧ (∀ l, l < 16 → BW (bR (h0 110)) a1.toNat l (bOf (aS h' l)))
def q_X12_goFrom2 (h0 : m_H) (a1 : Int) (n : Nat) : Prop := (∀ (l2 kk : Int) (h : m_H), GI h → FR [115, 116, 117, 118, 119, 120, 121, 122, 123, 124, 125, 126, 127, 128, 129, 130, 131, 132, 133] [(108, 21)] h0 h → 0 ≤ l2 → l2 ≤ 1 → (gfI h (bR (h0 110)) kk l2) → (0 ≤ kk ∧ kk ≤ 16) → (grI (bR (h0 110)) a1.toNat (aS h) l2) → 2 * (16 - kk) + (1) ≤ (n : Int) → m_Z oF M_X12_goFrom 19 [some (mR 108), none, some (mI l2)] [] h (m_QV (P_X12_goFrom2 h0 a1)))
set_option maxHeartbeats 4000000 in
set_option maxRecDepth 100000 in
theorem s_X12_goFrom2_19 (h0 : m_H) (a1 : Int) (G0 : GI h0) (pa1 : 0 ≤ a1 ∧ a1 ≤ 15) (hN : NP h0) (hG : gG (bR (h0 110))) (n : Nat) (ih : q_X12_goFrom2 h0 a1 n) : ∀ (l2 kk : Int) (h : m_H), GI h → FR [115, 116, 117, 118, 119, 120, 121, 122, 123, 124, 125, 126, 127, 128, 129, 130, 131, 132, 133] [(108, 21)] h0 h → 0 ≤ l2 → l2 ≤ 1 → (gfI h (bR (h0 110)) kk l2) → (0 ≤ kk ∧ kk ≤ 16) → (grI (bR (h0 110)) a1.toNat (aS h) l2) → 2 * (16 - kk) + (1) ≤ ((n + 1 : Nat) : Int) → m_Z oF M_X12_goFrom 19 [some (mR 108), none, some (mI l2)] [] h (m_QV (P_X12_goFrom2 h0 a1)) := by
  intro l2 kk h G R v0 v1 i0 i1 i2 hr
  refine z_iload_n (M := M_X12_goFrom) 19 dX12_goFrom_19 rfl ?_
  refine z_if_eq (M := M_X12_goFrom) 20 dX12_goFrom_20 32 rfl (fun c1 => ?_) (fun c1 => ?_)
  · exact z_retV (M := M_X12_goFrom) 32 dX12_goFrom_32 rfl ⟨G, R, gf_end i0, gr_end (bR_ok G0 hN) (by omega) (gf_end i0) ((show l2 = 0 by omega) ▸ i2)⟩
  · have k15 := gf_k i0 (by omega)
    refine z_aload_n (M := M_X12_goFrom) 23 dX12_goFrom_23 rfl ?_
    refine z_iconst (M := M_X12_goFrom) 24 dX12_goFrom_24 ?_
    refine z_vI (M := M_X12_goFrom) 25 dX12_goFrom_25 t_X12_round l_X12_360 (m_rr_of rfl) (rest := []) (c_X12_round h 1 (bR (h0 110)) G ⟨by omega, by omega⟩ i0.1 (bR_ok G0 hN)) o_108 rfl rfl rfl (Nat.le_of_ble_eq_true rfl) ⟨rfl, rfl⟩ (fun x2 h1 qx2 => ?_)
    obtain ⟨G1, S1, ax2, bx2, fx2_0, fx2_1⟩ := qx2
    have R1 := R.call S1 (by decide +kernel)
    refine z_istore_n (M := M_X12_goFrom) 28 dX12_goFrom_28 (ls' := [some (mR 108), none, some (mI x2)]) (by decide) rfl ?_
    refine z_goto (M := M_X12_goFrom) 29 dX12_goFrom_29 19 rfl ?_
    exact z_mask [true, false, true] rfl (ih x2 (kk + 1) h1 G1 R1 (by omega) (by omega) (gf_step (bR_ok G0 hN) (by omega) i0 (AR.call i0.1 S1 rfl (fun _ => rfl) (fun _ => rfl) (fun _ => rfl) (fun _ => rfl) (fun _ => rfl)) fx2_0 fx2_1) (by omega) (by rw [fx2_1]; exact gr_cg (bR_ok G0 hN) (by omega) fx2_0 (gr_step (bR_ok G0 hN) (by omega) (gf_end i0) i2)) (by omega))
theorem a_X12_goFrom2 (h0 : m_H) (a1 : Int) (G0 : GI h0) (pa1 : 0 ≤ a1 ∧ a1 ≤ 15) (hN : NP h0) (hG : gG (bR (h0 110))) : ∀ n, q_X12_goFrom2 h0 a1 n := by
  intro n
  induction n with
  | zero => unfold q_X12_goFrom2; intros; omega
  | succ n ih => exact s_X12_goFrom2_19 h0 a1 G0 pa1 hN hG n ih
set_option maxHeartbeats 4000000 in
set_option maxRecDepth 100000 in
theorem c_X12_goFrom2 (h0 : m_H) (a1 : Int) (G0 : GI h0) (pa1 : 0 ≤ a1 ∧ a1 ≤ 15) (hN : NP h0) (hG : gG (bR (h0 110))) : m_CV M_X12_goFrom [mR 108, mI a1] h0 (P_X12_goFrom2 h0 a1) := by
  refine m_CV_of ⟨by decide, rfl, by simp [m_arg, m_isL, M_X12_goFrom], ⟨rfl, rfl⟩, rfl, rfl⟩ (ls := [some (mR 108), some (mI a1), none]) rfl ?_
  have ih := a_X12_goFrom2 h0 a1 G0 pa1 hN hG 40
  refine z_aload_n (M := M_X12_goFrom) 0 dX12_goFrom_0 rfl ?_
  refine z_vV (M := M_X12_goFrom) 1 dX12_goFrom_1 t_X12_asIs l_X12_367 (m_rr_of rfl) (rest := []) (c_X12_asIsX h0 G0) o_108 rfl rfl rfl (Nat.le_of_ble_eq_true rfl) ⟨rfl, rfl⟩ (fun h1 qx1 => ?_)
  obtain ⟨G1, S1, fx1_0⟩ := qx1
  have R1 := (FR.rf (cs := [115, 116, 117, 118, 119, 120, 121, 122, 123, 124, 125, 126, 127, 128, 129, 130, 131, 132, 133]) (ss := [(108, 21)]) (h := h0)).call S1 (by decide +kernel)
  refine z_aload_n (M := M_X12_goFrom) 4 dX12_goFrom_4 rfl ?_
  refine z_aload_n (M := M_X12_goFrom) 5 dX12_goFrom_5 rfl ?_
  refine z_vI (M := M_X12_goFrom) 6 dX12_goFrom_6 t_X12_counting l_X12_370 (m_rr_of rfl) (rest := [mR 108]) (c_X12_countingX h1 G1) o_108 rfl rfl rfl (Nat.le_of_ble_eq_true rfl) ⟨rfl, rfl⟩ (fun x2 h2 qx2 => ?_)
  obtain ⟨G2, S2, fx2_0⟩ := qx2
  have R2 := R1.call S2 (by decide +kernel)
  refine z_ok (fun ox2 _ _ => ?_)
  have ox2 := ox2.1; unfold m_ok m_32 at ox2
  refine z_vV (M := M_X12_goFrom) 9 dX12_goFrom_9 t_X12_build l_X12_354 (m_rr_of rfl) (rest := []) (c_X12_build h2 x2 G2 (NP.call hN R2 (fun _ => rfl) (fun _ => rfl) (fun _ => rfl))) o_108 rfl rfl rfl (Nat.le_of_ble_eq_true rfl) ⟨rfl, rfl⟩ (fun h3 qx3 => ?_)
  obtain ⟨G3, S3, fx3_0⟩ := qx3
  have R3 := R2.call S3 (by decide +kernel)
  refine z_aload_n (M := M_X12_goFrom) 12 dX12_goFrom_12 rfl ?_
  refine z_iload_n (M := M_X12_goFrom) 13 dX12_goFrom_13 rfl ?_
  refine z_vV (M := M_X12_goFrom) 14 dX12_goFrom_14 t_X12_startAt l_X12_357 (m_rr_of rfl) (rest := []) (c_X12_startAtX h3 a1 G3) o_108 rfl rfl rfl (Nat.le_of_ble_eq_true rfl) ⟨rfl, rfl⟩ (fun h4 qx4 => ?_)
  obtain ⟨G4, S4, fx4_0⟩ := qx4
  have R4 := R3.call S4 (by decide +kernel)
  refine z_iconst (M := M_X12_goFrom) 17 dX12_goFrom_17 ?_
  refine z_istore_n (M := M_X12_goFrom) 18 dX12_goFrom_18 (ls' := [some (mR 108), some (mI a1), some (mI 1)]) (by decide) rfl ?_
  exact z_mask [true, false, true] rfl (ih 1 0 h4 G4 R4 (by omega) (by omega) (gf_0 (bR_ok G0 hN) hG (AR.call (bR_of G0 (fun j => (S2 110 j rfl).trans (S1 110 j rfl)) ⟨fun j hj => (S2 122 j rfl).trans (fx1_0.1 j hj), fun j hj => (S2 123 j rfl).trans (fx1_0.2 j hj)⟩ (fx2_0.trans (congrArg cF (FR.row S1 (fun _ => rfl)))) fx3_0) S4 rfl (fun _ => rfl) (fun _ => rfl) (fun _ => rfl) (fun _ => rfl) (fun _ => rfl)) (by omega) (by omega) fx4_0) (by omega) (grI_0 (by omega) (by omega) fx4_0) (by omega))
/-! which lengths are there; two compared -/
def thr (r : Nat → Int) (a : Int) : Prop := 0 ≤ a ∧ a ≤ 15 ∧ (a < 6 ∨ 12 ≤ a ∨ r (42 + (a - 6).toNat) ≠ -1)
theorem thr_c {h : m_H} {a : Int} (R : LR 1 h (h 110)) : (0 ≤ a ∧ a ≤ 15 ∧ (a < 6 ∨ 12 ≤ a ∨ h (1 + 2) (a - 6).toNat ≠ -1)) ↔ thr (h 110) a := by
  unfold thr
  by_cases g : 6 ≤ a ∧ a < 12
  · rw [R.2.2.1 (a - 6).toNat (by omega)]
  · constructor
    · rintro ⟨x, y, z⟩; exact ⟨x, y, by omega⟩
    · rintro ⟨x, y, z⟩; exact ⟨x, y, by omega⟩
theorem lm_op {h : m_H} {a b : Int} (hH : bkH h) (hR : bkR h) (a0 : 0 ≤ a) (b0 : 0 ≤ b) : ∀ n, n ≤ 16 → (lmN h a b n).2.1 = 0 → (lmN h a b n).2.2 = 1
  | 0, _ => by
    show (lmI a b).2.1 = 0 → (lmI a b).2.2 = 1
    unfold lmI
    split
    · intro z; exact absurd z (by decide)
    · intro _; rfl
  | n + 1, hn => by
    have i := lm_op hH hR a0 b0 n (by omega)
    show (lmS h a b (n : Int) (lmN h a b n)).2.1 = 0 → (lmS h a b (n : Int) (lmN h a b n)).2.2 = 1
    unfold lmS
    by_cases q : hiV h a ((n : Int) / 4) = 0 ∨ loV h b ((n : Int) % 4) = 0 ∨ h (77 + (n : Int).toNat) 1 = 0
    · rw [if_pos q]; exact i
    · rw [if_neg q]
      have c := cnd_p hH hR a0 b0 (by omega) (by omega) q
      unfold lsB
      split
      · intro z; omega
      · exact i
/-- what a comparison leaves -/
def cpB (r : Nat → Int) (a b : Int) (B : Int × Int × Int) : Prop := BW (bR r) a.toNat b.toNat B ∧ pBb 1600000000 B ∧ (B.2.1 = 0 → B.2.2 = 1) ∧ (B.2.2 = 0 ∨ B.2.2 = 1)
theorem cp_of {h h3 : m_H} {a b s : Int} {B : Int × Int × Int} (G : GI h) (N : NP h) (Y : TY (h 110) s h3) (ng : ¬ gain (bR (h 110))) (ta : thr (h 110) a) (tb : thr (h 110) b) (e : B = if a = b then (1, 1, 0) else lmN h3 a b 16) (o : B.2.2 = 0 ∨ B.2.2 = 1) : cpB (h 110) a b B := by
  obtain ⟨D, cl, X⟩ := Y
  obtain ⟨a0, a1, a2⟩ := ta
  obtain ⟨b0, b1, b2⟩ := tb
  have hE := bR_ok G N
  by_cases g : a = b
  · subst g
    rw [if_pos rfl] at e
    subst e
    exact ⟨one_BW ng (by omega), ⟨⟨by decide, by decide⟩, by decide, by decide⟩, fun z => absurd z (by decide), o⟩
  · rw [if_neg g] at e
    have ea : ((a.toNat : Nat) : Int) = a := by omega
    have eb : ((b.toNat : Nat) : Int) = b := by omega
    have w := lm_BW hE cl X ng (a := a.toNat) (b := b.toNat) (by omega) (by omega) (by omega) (fun h1 h2 => by
      refine List.mem_append.mpr (Or.inr (cA_at 6 b.toNat h1 ?_))
      rcases a2 with q | q | q
      · omega
      · omega
      · rw [show (a - 6).toNat = b.toNat by omega] at q; exact q)
    rw [ea, eb, ← e] at w
    refine ⟨w, ?_, ?_, o⟩
    · rw [e]; exact lmN_b X.1.1 (bkR_X X) a0 b0 16 (Nat.le_refl _)
    · rw [e]; exact lm_op X.1.1 (bkR_X X) a0 b0 16 (Nat.le_refl _)
abbrev P_X11_compare2 (h0 : m_H) (a1 a2 : Int) : Int → m_H → Prop := fun x h' => GI h' ∧ FR (csB ++ [39, 40, 41]) [] h0 h' ∧ 0 ≤ x ∧ x ≤ 1 ∧ (x = 1 ↔ (thr (h0 110) a1 ∧ thr (h0 110) a2 ∧ ¬ gain (bR (h0 110)))) ∧ (x = 1 → cpB (h0 110) a1 a2 (bd h' 95) ∧ cpB (h0 110) a2 a1 (bd h' 94))
set_option maxHeartbeats 4000000 in
set_option maxRecDepth 100000 in
theorem c_X11_compare2 (h0 : m_H) (a1 a2 : Int) (G0 : GI h0) (hR : LR 1 h0 (h0 110)) (hN : NP h0) : m_CI M_X11_compare [mR 0, mI a1, mI a2] h0 (P_X11_compare2 h0 a1 a2) := by
  refine m_CI_of ⟨by decide, rfl, by simp [m_arg, m_isL, M_X11_compare], ⟨rfl, rfl⟩, rfl, rfl⟩ (ls := [some (mR 0), some (mI a1), some (mI a2)]) rfl ?_
  refine z_ok (fun _ _ ok => ?_)
  have oa1 : m_32 a1 := ok 1 _ rfl
  unfold m_32 at oa1
  have oa2 : m_32 a2 := ok 2 _ rfl
  unfold m_32 at oa2
  refine z_aload_n (M := M_X11_compare) 0 dX11_compare_0 rfl ?_
  refine z_getR (M := M_X11_compare) 1 dX11_compare_1 f_X11_12 o_0 rfl (g_0_0 G0) ?_
  refine z_iload_n (M := M_X11_compare) 4 dX11_compare_4 rfl ?_
  refine z_vI (M := M_X11_compare) 5 dX11_compare_5 t_X4_isThere l_X11_329 (m_rr_of rfl) (rest := []) (c_X4_isThere h0 1 a1 (Or.inl rfl) G0) o_1 rfl rfl rfl (Nat.le_of_ble_eq_true rfl) ⟨rfl, rfl⟩ (fun x1 h1 qx1 => ?_)
  obtain ⟨rfl, ⟨rfl, cx1⟩ | ⟨rfl, cx1⟩⟩ := qx1
  · refine z_if_eq_F (M := M_X11_compare) 8 dX11_compare_8 29 rfl (by omega) ?_
    refine z_aload_n (M := M_X11_compare) 11 dX11_compare_11 rfl ?_
    refine z_getR (M := M_X11_compare) 12 dX11_compare_12 f_X11_12 o_0 rfl (g_0_0 G0) ?_
    refine z_iload_n (M := M_X11_compare) 15 dX11_compare_15 rfl ?_
    refine z_vI (M := M_X11_compare) 16 dX11_compare_16 t_X4_isThere l_X11_329 (m_rr_of rfl) (rest := []) (c_X4_isThere h0 1 a2 (Or.inl rfl) G0) o_1 rfl rfl rfl (Nat.le_of_ble_eq_true rfl) ⟨rfl, rfl⟩ (fun x2 h2 qx2 => ?_)
    obtain ⟨rfl, ⟨rfl, cx2⟩ | ⟨rfl, cx2⟩⟩ := qx2
    · refine z_if_eq_F (M := M_X11_compare) 19 dX11_compare_19 29 rfl (by omega) ?_
      refine z_aload_n (M := M_X11_compare) 22 dX11_compare_22 rfl ?_
      refine z_vI (M := M_X11_compare) 23 dX11_compare_23 t_X11_canBe l_X11_208 (m_rr_of rfl) (rest := []) (c_X11_canBe2 h0 G0 hR hN) o_0 rfl rfl rfl (Nat.le_of_ble_eq_true rfl) ⟨rfl, rfl⟩ (fun x3 h3 qx3 => ?_)
      obtain ⟨G3, S3, ax3, bx3, fx3⟩ := qx3
      have R3 := (FR.rf (cs := (csB ++ [39, 40, 41])) (ss := []) (h := h0)).call S3 (by decide +kernel)
      refine z_if_ne (M := M_X11_compare) 26 dX11_compare_26 31 rfl (fun c4 => ?_) (fun c4 => ?_)
      · refine z_aload_n (M := M_X11_compare) 31 dX11_compare_31 rfl ?_
        refine z_getR (M := M_X11_compare) 32 dX11_compare_32 f_X11_53 o_0 rfl (g_0_7 G3) ?_
        refine z_aload_n (M := M_X11_compare) 35 dX11_compare_35 rfl ?_
        refine z_getR (M := M_X11_compare) 36 dX11_compare_36 f_X11_46 o_0 rfl (g_0_6 G3) ?_
        refine z_iload_n (M := M_X11_compare) 39 dX11_compare_39 rfl ?_
        refine z_iload_n (M := M_X11_compare) 40 dX11_compare_40 rfl ?_
        refine z_vV (M := M_X11_compare) 41 dX11_compare_41 t_X7_measure l_X11_427 (m_rr_of rfl) (rest := []) (c_X7_measure2 h3 a1 a2 G3 ⟨by omega, by omega⟩ ⟨by omega, by omega⟩ (by obtain ⟨D, _, X⟩ := fx3.2 (by omega); exact X.1.1) (by obtain ⟨D, _, X⟩ := fx3.2 (by omega); exact bkR_X X)) o_93 rfl rfl rfl (Nat.le_of_ble_eq_true rfl) ⟨rfl, rfl⟩ (fun h4 qx5 => ?_)
        obtain ⟨G4, S4, M4⟩ := qx5
        have t1_ := (thr_c hR).mp cx1
        have t2_ := (thr_c hR).mp cx2
        have y_ := fx3.2 (by omega)
        have n_ := fx3.1.mp (by omega)
        have R4 := R3.call S4 (by decide +kernel)
        refine z_iconst (M := M_X11_compare) 44 dX11_compare_44 ?_
        exact z_retZ (M := M_X11_compare) 45 dX11_compare_45 rfl (by omega) ⟨G4, R4, by omega, by omega, ⟨fun _ => ⟨t1_, t2_, n_⟩, fun _ => rfl⟩, fun _ => ⟨cp_of G0 hN y_ n_ t1_ t2_ M4.2.1 (by have z := g_95_2 G4; show h4 95 2 = 0 ∨ h4 95 2 = 1; omega), cp_of G0 hN y_ n_ t2_ t1_ M4.2.2 (by have z := g_94_2 G4; show h4 94 2 = 0 ∨ h4 94 2 = 1; omega)⟩⟩
      · refine z_iconst (M := M_X11_compare) 29 dX11_compare_29 ?_
        exact z_retZ (M := M_X11_compare) 30 dX11_compare_30 rfl (by omega) ⟨G3, R3, by omega, by omega, ⟨fun z => absurd z (by decide), fun z => absurd (fx3.1.mpr z.2.2) (by omega)⟩, fun z => absurd z (by decide)⟩
    · refine z_if_eq_T (M := M_X11_compare) 19 dX11_compare_19 29 rfl (by omega) ?_
      refine z_iconst (M := M_X11_compare) 29 dX11_compare_29 ?_
      exact z_retZ (M := M_X11_compare) 30 dX11_compare_30 rfl (by omega) ⟨G0, (FR.rf (cs := (csB ++ [39, 40, 41])) (ss := []) (h := h0)), by omega, by omega, ⟨fun z => absurd z (by decide), fun z => absurd ((thr_c hR).mpr z.2.1) cx2⟩, fun z => absurd z (by decide)⟩
  · refine z_if_eq_T (M := M_X11_compare) 8 dX11_compare_8 29 rfl (by omega) ?_
    refine z_iconst (M := M_X11_compare) 29 dX11_compare_29 ?_
    exact z_retZ (M := M_X11_compare) 30 dX11_compare_30 rfl (by omega) ⟨G0, (FR.rf (cs := (csB ++ [39, 40, 41])) (ss := []) (h := h0)), by omega, by omega, ⟨fun z => absurd z (by decide), fun z => absurd ((thr_c hR).mpr z.1) cx1⟩, fun z => absurd z (by decide)⟩
abbrev P_X12_isLength2 (h0 : m_H) (a1 : Int) : Int → m_H → Prop := fun x h' => GI h' ∧ FR [] [] h0 h' ∧ 0 ≤ x ∧ x ≤ 1 ∧ lnQ x a1 ∧ (x = 1 ↔ thr (h0 110) a1)
set_option maxHeartbeats 4000000 in
set_option maxRecDepth 100000 in
theorem c_X12_isLength2 (h0 : m_H) (a1 : Int) (G0 : GI h0) : m_CI M_X12_isLength [mR 108, mI a1] h0 (P_X12_isLength2 h0 a1) := by
  refine m_CI_of ⟨by decide, rfl, by simp [m_arg, m_isL, M_X12_isLength], ⟨rfl, rfl⟩, rfl, rfl⟩ (ls := [some (mR 108), some (mI a1)]) rfl ?_
  refine z_ok (fun _ _ ok => ?_)
  have oa1 : m_32 a1 := ok 1 _ rfl
  unfold m_32 at oa1
  refine z_iload_n (M := M_X12_isLength) 0 dX12_isLength_0 rfl ?_
  refine z_i2l (M := M_X12_isLength) 1 dX12_isLength_1 ?_
  refine z_lconst (M := M_X12_isLength) 2 dX12_isLength_2 (v := 0) ?_
  refine z_ldc2 (M := M_X12_isLength) 3 dX12_isLength_3 k_X12_381 ?_
  refine z_sI (M := M_X12_isLength) 6 dX12_isLength_6 t_X12_in l_X12_143 (m_rr_of rfl) (rest := []) (c_X12_in h0 a1 0 15 G0) rfl rfl (Nat.le_of_ble_eq_true rfl) ⟨rfl, rfl⟩ (fun x1 h1 qx1 => ?_)
  obtain ⟨rfl, ⟨rfl, cx1⟩ | ⟨rfl, cx1⟩⟩ := qx1
  · refine z_if_eq_F (M := M_X12_isLength) 9 dX12_isLength_9 62 rfl (by omega) ?_
    refine z_iload_n (M := M_X12_isLength) 12 dX12_isLength_12 rfl ?_
    refine z_bipush (M := M_X12_isLength) 13 dX12_isLength_13 ?_
    refine z_icmp_lt (M := M_X12_isLength) 15 dX12_isLength_15 58 rfl (fun c2 => ?_) (fun c2 => ?_)
    · refine z_iconst (M := M_X12_isLength) 58 dX12_isLength_58 ?_
      refine z_goto (M := M_X12_isLength) 59 dX12_isLength_59 63 rfl ?_
      exact z_retZ (M := M_X12_isLength) 63 dX12_isLength_63 rfl (by omega) ⟨G0, (FR.rf (cs := []) (ss := []) (h := h0)), by omega, by omega, fun _ => ⟨by omega, by omega⟩, ⟨fun _ => ⟨by omega, by omega, Or.inl c2⟩, fun _ => rfl⟩⟩
    · refine z_iload_n (M := M_X12_isLength) 18 dX12_isLength_18 rfl ?_
      refine z_bipush (M := M_X12_isLength) 19 dX12_isLength_19 ?_
      refine z_icmp_gt (M := M_X12_isLength) 21 dX12_isLength_21 58 rfl (fun c3 => ?_) (fun c3 => ?_)
      · refine z_iconst (M := M_X12_isLength) 58 dX12_isLength_58 ?_
        refine z_goto (M := M_X12_isLength) 59 dX12_isLength_59 63 rfl ?_
        exact z_retZ (M := M_X12_isLength) 63 dX12_isLength_63 rfl (by omega) ⟨G0, (FR.rf (cs := []) (ss := []) (h := h0)), by omega, by omega, fun _ => ⟨by omega, by omega⟩, ⟨fun _ => ⟨by omega, by omega, Or.inr (Or.inl (by omega))⟩, fun _ => rfl⟩⟩
      · refine z_aload_n (M := M_X12_isLength) 24 dX12_isLength_24 rfl ?_
        refine z_getR (M := M_X12_isLength) 25 dX12_isLength_25 f_X12_13 o_108 rfl (g_108_3 G0) ?_
        refine z_bipush (M := M_X12_isLength) 28 dX12_isLength_28 ?_
        refine z_iload_n (M := M_X12_isLength) 30 dX12_isLength_30 rfl ?_
        refine z_i2l (M := M_X12_isLength) 31 dX12_isLength_31 ?_
        refine z_ldc2 (M := M_X12_isLength) 32 dX12_isLength_32 k_X12_383 ?_
        refine z_ldc2 (M := M_X12_isLength) 35 dX12_isLength_35 k_X12_385 ?_
        refine z_sI (M := M_X12_isLength) 38 dX12_isLength_38 t_X12_in l_X12_143 (m_rr_of rfl) (rest := [mI 42, mR 110]) (c_X12_in h0 a1 6 11 G0) rfl rfl (Nat.le_of_ble_eq_true rfl) ⟨rfl, rfl⟩ (fun x4 h2 qx4 => ?_)
        obtain ⟨rfl, ⟨rfl, cx4⟩ | ⟨rfl, cx4⟩⟩ := qx4
        · refine z_if_eq_F (M := M_X12_isLength) 41 dX12_isLength_41 51 rfl (by omega) ?_
          refine z_iload_n (M := M_X12_isLength) 44 dX12_isLength_44 rfl ?_
          refine z_bipush (M := M_X12_isLength) 45 dX12_isLength_45 ?_
          refine z_isubN (M := M_X12_isLength) 47 dX12_isLength_47 (by omega) (by omega) ?_
          refine z_goto (M := M_X12_isLength) 48 dX12_isLength_48 52 rfl ?_
          refine z_iaddN (M := M_X12_isLength) 52 dX12_isLength_52 (by omega) (by omega) ?_
          refine z_ialdG (M := M_X12_isLength) 53 dX12_isLength_53 o_110 (by omega) (by omega) (gw_c G0 (by omega) (by omega)) (fun x5 ex5 ax5 bx5 => ?_)
          refine z_iconst (M := M_X12_isLength) 54 dX12_isLength_54 ?_
          refine z_icmp_eq (M := M_X12_isLength) 55 dX12_isLength_55 62 rfl (fun c6 => ?_) (fun c6 => ?_)
          · refine z_iconst (M := M_X12_isLength) 62 dX12_isLength_62 ?_
            exact z_retZ (M := M_X12_isLength) 63 dX12_isLength_63 rfl (by omega) ⟨G0, (FR.rf (cs := []) (ss := []) (h := h0)), by omega, by omega, lnQ_0, ⟨fun z => absurd z (by decide), fun z => by have q := z.2.2; rw [show (42 + (a1 - 6)).toNat = 42 + (a1 - 6).toNat by omega] at ex5; rw [ex5] at q; omega⟩⟩
          · refine z_iconst (M := M_X12_isLength) 58 dX12_isLength_58 ?_
            refine z_goto (M := M_X12_isLength) 59 dX12_isLength_59 63 rfl ?_
            exact z_retZ (M := M_X12_isLength) 63 dX12_isLength_63 rfl (by omega) ⟨G0, (FR.rf (cs := []) (ss := []) (h := h0)), by omega, by omega, fun _ => ⟨by omega, by omega⟩, ⟨fun _ => ⟨by omega, by omega, Or.inr (Or.inr (by rw [show (42 + (a1 - 6)).toNat = 42 + (a1 - 6).toNat by omega] at ex5; rw [ex5]; exact c6))⟩, fun _ => rfl⟩⟩
        · refine z_if_eq_T (M := M_X12_isLength) 41 dX12_isLength_41 51 rfl (by omega) ?_
          refine z_iconst (M := M_X12_isLength) 51 dX12_isLength_51 ?_
          refine z_iaddN (M := M_X12_isLength) 52 dX12_isLength_52 (by omega) (by omega) ?_
          refine z_ialdG (M := M_X12_isLength) 53 dX12_isLength_53 o_110 (by omega) (by omega) (gw_c G0 (by omega) (by omega)) (fun x7 ex7 ax7 bx7 => ?_)
          refine z_iconst (M := M_X12_isLength) 54 dX12_isLength_54 ?_
          refine z_icmp_eq (M := M_X12_isLength) 55 dX12_isLength_55 62 rfl (fun c8 => ?_) (fun c8 => ?_)
          · refine z_iconst (M := M_X12_isLength) 62 dX12_isLength_62 ?_
            exact z_retZ (M := M_X12_isLength) 63 dX12_isLength_63 rfl (by omega) ⟨G0, (FR.rf (cs := []) (ss := []) (h := h0)), by omega, by omega, lnQ_0, ⟨fun z => absurd z (by decide), fun z => by omega⟩⟩
          · refine z_iconst (M := M_X12_isLength) 58 dX12_isLength_58 ?_
            refine z_goto (M := M_X12_isLength) 59 dX12_isLength_59 63 rfl ?_
            exact z_retZ (M := M_X12_isLength) 63 dX12_isLength_63 rfl (by omega) ⟨G0, (FR.rf (cs := []) (ss := []) (h := h0)), by omega, by omega, fun _ => ⟨by omega, by omega⟩, ⟨fun _ => by omega, fun _ => rfl⟩⟩
  · refine z_if_eq_T (M := M_X12_isLength) 9 dX12_isLength_9 62 rfl (by omega) ?_
    refine z_iconst (M := M_X12_isLength) 62 dX12_isLength_62 ?_
    exact z_retZ (M := M_X12_isLength) 63 dX12_isLength_63 rfl (by omega) ⟨G0, (FR.rf (cs := []) (ss := []) (h := h0)), by omega, by omega, lnQ_0, ⟨fun z => absurd z (by decide), fun z => (cx1 ⟨z.1, z.2.1⟩).elim⟩⟩
abbrev P_X12_isAnswered2 (h0 : m_H) (a1 a2 : Int) : Int → m_H → Prop := fun x h' => GI h' ∧ FR [115, 116, 117, 118, 119, 120, 121, 122, 123, 124, 125, 126, 127, 128, 129, 130, 131, 132, 133, 134] [(108, 21)] h0 h' ∧ 0 ≤ x ∧ x ≤ 1 ∧ anQ x a1 a2 (bR (h0 110)) ∧ (x = 1 ↔ (thr (h0 110) a1 ∧ thr (h0 110) a2 ∧ ¬ gain (bR (h0 110))))
set_option maxHeartbeats 4000000 in
set_option maxRecDepth 100000 in
theorem c_X12_isAnswered2 (h0 : m_H) (a1 a2 : Int) (G0 : GI h0) (hN : NP h0) : m_CI M_X12_isAnswered [mR 108, mI a1, mI a2] h0 (P_X12_isAnswered2 h0 a1 a2) := by
  refine m_CI_of ⟨by decide, rfl, by simp [m_arg, m_isL, M_X12_isAnswered], ⟨rfl, rfl⟩, rfl, rfl⟩ (ls := [some (mR 108), some (mI a1), some (mI a2)]) rfl ?_
  refine z_ok (fun _ _ ok => ?_)
  have oa1 : m_32 a1 := ok 1 _ rfl
  unfold m_32 at oa1
  have oa2 : m_32 a2 := ok 2 _ rfl
  unfold m_32 at oa2
  refine z_aload_n (M := M_X12_isAnswered) 0 dX12_isAnswered_0 rfl ?_
  refine z_iload_n (M := M_X12_isAnswered) 1 dX12_isAnswered_1 rfl ?_
  refine z_vI (M := M_X12_isAnswered) 2 dX12_isAnswered_2 t_X12_isLength l_X12_391 (m_rr_of rfl) (rest := []) (c_X12_isLength2 h0 a1 G0) o_108 rfl rfl rfl (Nat.le_of_ble_eq_true rfl) ⟨rfl, rfl⟩ (fun x1 h1 qx1 => ?_)
  obtain ⟨G1, S1, ax1, bx1, fx1_0, fx1_1⟩ := qx1
  have R1 := (FR.rf (cs := [115, 116, 117, 118, 119, 120, 121, 122, 123, 124, 125, 126, 127, 128, 129, 130, 131, 132, 133, 134]) (ss := [(108, 21)]) (h := h0)).call S1 (by decide +kernel)
  refine z_if_eq (M := M_X12_isAnswered) 5 dX12_isAnswered_5 27 rfl (fun c2 => ?_) (fun c2 => ?_)
  · refine z_iconst (M := M_X12_isAnswered) 27 dX12_isAnswered_27 ?_
    exact z_retZ (M := M_X12_isAnswered) 28 dX12_isAnswered_28 rfl (by omega) ⟨G1, R1, by omega, by omega, anQ_0, ⟨fun z => absurd z (by decide), fun z => absurd (fx1_1.mpr z.1) (by omega)⟩⟩
  · refine z_aload_n (M := M_X12_isAnswered) 8 dX12_isAnswered_8 rfl ?_
    refine z_iload_n (M := M_X12_isAnswered) 9 dX12_isAnswered_9 rfl ?_
    refine z_vI (M := M_X12_isAnswered) 10 dX12_isAnswered_10 t_X12_isLength l_X12_391 (m_rr_of rfl) (rest := []) (c_X12_isLength2 h1 a2 G1) o_108 rfl rfl rfl (Nat.le_of_ble_eq_true rfl) ⟨rfl, rfl⟩ (fun x3 h2 qx3 => ?_)
    obtain ⟨G2, S2, ax3, bx3, fx3_0, fx3_1⟩ := qx3
    rw [frE S1] at fx3_1
    have R2 := R1.call S2 (by decide +kernel)
    refine z_if_eq (M := M_X12_isAnswered) 13 dX12_isAnswered_13 27 rfl (fun c4 => ?_) (fun c4 => ?_)
    · refine z_iconst (M := M_X12_isAnswered) 27 dX12_isAnswered_27 ?_
      exact z_retZ (M := M_X12_isAnswered) 28 dX12_isAnswered_28 rfl (by omega) ⟨G2, R2, by omega, by omega, anQ_0, ⟨fun z => absurd z (by decide), fun z => absurd (fx3_1.mpr z.2.1) (by omega)⟩⟩
    · refine z_aload_n (M := M_X12_isAnswered) 16 dX12_isAnswered_16 rfl ?_
      refine z_vI (M := M_X12_isAnswered) 17 dX12_isAnswered_17 t_X12_canBeNow l_X12_377 (m_rr_of rfl) (rest := []) (c_X12_canBeNow2 h2 G2 (NP.call hN R2 (fun _ => rfl) (fun _ => rfl) (fun _ => rfl))) o_108 rfl rfl rfl (Nat.le_of_ble_eq_true rfl) ⟨rfl, rfl⟩ (fun x5 h3 qx5 => ?_)
      obtain ⟨G3, S3, ax5, bx5, fx5_0, fx5_1⟩ := qx5
      have e_ : h2 110 = h0 110 := FR.row R2 (fun _ => rfl)
      rw [e_] at fx5_1
      have R3 := R2.call S3 (by decide +kernel)
      refine z_if_eq (M := M_X12_isAnswered) 20 dX12_isAnswered_20 27 rfl (fun c6 => ?_) (fun c6 => ?_)
      · refine z_iconst (M := M_X12_isAnswered) 27 dX12_isAnswered_27 ?_
        exact z_retZ (M := M_X12_isAnswered) 28 dX12_isAnswered_28 rfl (by omega) ⟨G3, R3, by omega, by omega, anQ_0, ⟨fun z => absurd z (by decide), fun z => absurd (fx5_1 (by omega)) z.2.2⟩⟩
      · refine z_iconst (M := M_X12_isAnswered) 23 dX12_isAnswered_23 ?_
        refine z_goto (M := M_X12_isAnswered) 24 dX12_isAnswered_24 28 rfl ?_
        exact z_retZ (M := M_X12_isAnswered) 28 dX12_isAnswered_28 rfl (by omega) ⟨G3, R3, by omega, by omega, fun _ => ⟨fx1_0 (by omega), fx3_0 (by omega), gG_b (fx5_0 (by omega)) R2 (fun _ => rfl)⟩, ⟨fun _ => ⟨fx1_1.mp (by omega), fx3_1.mp (by omega), gG_no (bR_ok G0 hN) (gG_b (fx5_0 (by omega)) R2 (fun _ => rfl))⟩, fun _ => rfl⟩⟩
