/-! the best of all walks from one length to another -/
def BW (Ls : List gE) (a b : Nat) (B : Int × Int × Int) : Prop := pB B ∧ rl Ls B a b ∧ ∀ w, wk Ls w a b → lb B.1 B.2.1 B.2.2 (wp w) (wq w) (ws w)
theorem BW_le {Ls : List gE} (hE : ∀ e ∈ Ls, gEo e) {a b : Nat} {B B' : Int × Int × Int} (h : BW Ls a b B) (h' : BW Ls a b B') (n : B.2.1 ≠ 0) : B'.2.1 ≠ 0 ∧ B'.1 * B.2.1 ≤ B.1 * B'.2.1 ∧ (B'.1 * B.2.1 = B.1 * B'.2.1 → B.2.2 = 1 → B'.2.2 = 1) := by
  obtain ⟨w, w1, w2, w3⟩ := h.2.1 n
  have p := wp_pos hE w a b w1
  have l := h'.2.2 w w1
  have ln : 0 < B.2.1 := by have := h.1.2; omega
  have k1 : B.2.1 * (B'.1 * wp w) = (B'.1 * B.2.1) * wp w := by ac_rfl
  have k2 : B.2.1 * (B'.2.1 * wq w) = B'.2.1 * (B.2.1 * wq w) := by ac_rfl
  have k3 : B'.2.1 * (B.1 * wp w) = (B.1 * B'.2.1) * wp w := by ac_rfl
  rw [← w2, k3] at k2
  refine ⟨by have := l.1.2; omega, ?_, fun e o => ?_⟩
  · have m := Int.mul_le_mul_of_nonneg_left (lb_le l) (Int.le_of_lt ln)
    rw [k1, k2] at m
    exact Int.le_of_mul_le_mul_right m p.1.1
  · rcases l.2 with z | z
    · exfalso
      have m := Int.mul_lt_mul_of_pos_left z ln
      rw [k1, k2, e] at m
      omega
    · exact z.2 (w3 o)
theorem BW_eq {Ls : List gE} (hE : ∀ e ∈ Ls, gEo e) {a b : Nat} {B B' : Int × Int × Int} (h : BW Ls a b B) (h' : BW Ls a b B') : (B.2.1 = 0 ↔ B'.2.1 = 0) ∧ B.1 * B'.2.1 = B'.1 * B.2.1 ∧ (B.2.1 ≠ 0 → (B.2.2 = 1 ↔ B'.2.2 = 1)) := by
  by_cases n : B.2.1 = 0
  · have n' : B'.2.1 = 0 := Classical.byContradiction fun z => (BW_le hE h' h z).1 n
    exact ⟨⟨fun _ => n', fun _ => n⟩, by rw [n, n', Int.mul_zero, Int.mul_zero], fun z => absurd n z⟩
  · have x := BW_le hE h h' n
    have y := BW_le hE h' h x.1
    have e : B.1 * B'.2.1 = B'.1 * B.2.1 := by omega
    exact ⟨⟨fun z => absurd z n, fun z => absurd z x.1⟩, e, fun _ => ⟨fun o => x.2.2 e.symm o, fun o => y.2.2 e o⟩⟩
/-- steps expand to walks -/
theorem mf_wk {L : List gE} : ∀ (f : List gE) (a b : Nat), wm (MF L) f a b → ∃ w, wk L w a b ∧ wp w = wp f ∧ wq w = wq f ∧ (ws w ↔ ws f)
  | [], a, b, h => ⟨[], h, rfl, rfl, Iff.rfl⟩
  | e :: f, a, b, h => by
    obtain ⟨⟨⟨_, u, ⟨u1, _, _⟩, u4, u5, u6⟩, ea⟩, h2⟩ := h
    subst ea
    obtain ⟨w, w1, w2, w3, w4⟩ := mf_wk f _ b h2
    refine ⟨u ++ w, wk_app u w _ _ _ u1 w1, ?_, ?_, ?_⟩
    · rw [wp_app, w2, ← u4]; rfl
    · rw [wq_app, w3, ← u5]; rfl
    · rw [ws_app, w4, ← u6]; exact Iff.rfl
theorem ng_wk {L : List gE} (ng : ¬ gain L) {y : List gE} {c : Nat} (h : wk L y c c) : wp y ≤ wq y ∧ (wp y = wq y → ¬ ws y) := by
  refine ⟨?_, fun e s => ng ⟨c, y, h, Or.inr ⟨e.symm, s⟩⟩⟩
  rcases Int.lt_or_le (wq y) (wp y) with g | g
  · exact absurd ⟨c, y, h, Or.inl g⟩ ng
  · exact g
theorem mf_ng {L : List gE} (ng : ¬ gain L) {y : List gE} {c : Nat} (h : wm (MF L) y c c) : wp y ≤ wq y ∧ (wp y = wq y → ¬ ws y) := by
  obtain ⟨w, w1, w2, w3, w4⟩ := mf_wk y c c h
  have z := ng_wk ng w1
  rw [w2, w3, w4] at z
  exact z
/-- a round taken out -/
theorem lb_rm {t l o : Int} {x y z : List gE} (px : 0 < wp x ∧ 0 < wq x) (py : 0 < wp y ∧ 0 < wq y) (pz : 0 < wp z ∧ 0 < wq z) (ly : wp y ≤ wq y) (sy : wp y = wq y → ¬ ws y) (h : lb t l o (wp (x ++ z)) (wq (x ++ z)) (ws (x ++ z))) : lb t l o (wp (x ++ (y ++ z))) (wq (x ++ (y ++ z))) (ws (x ++ (y ++ z))) := by
  refine ⟨h.1, ?_⟩
  have k1 : t * wp (x ++ (y ++ z)) = (t * wp (x ++ z)) * wp y := by rw [wp_app, wp_app, wp_app]; ac_rfl
  have k2 : l * wq (x ++ (y ++ z)) = (l * wq (x ++ z)) * wq y := by rw [wq_app, wq_app, wq_app]; ac_rfl
  have q : 0 < l * wq (x ++ z) := by rw [wq_app]; exact Int.mul_pos h.1.2 (Int.mul_pos px.2 pz.2)
  rw [k1, k2]
  have m := Int.mul_le_mul_of_nonneg_left ly (Int.le_of_lt q)
  rcases h.2 with g | ⟨g, s⟩
  · exact Or.inl (Int.lt_of_lt_of_le (Int.mul_lt_mul_of_pos_right g py.1) m)
  · rw [g]
    rcases Int.lt_or_eq_of_le ly with e | e
    · exact Or.inl (Int.mul_lt_mul_of_pos_left e q)
    · refine Or.inr ⟨by rw [e], fun w => s ?_⟩
      rw [ws_app, ws_app] at w
      rw [ws_app]
      rcases w with w | w | w
      · exact Or.inl w
      · exact absurd w (sy e)
      · exact Or.inr w
theorem nd_ft {L : List gE} : ∀ (v : List gE) (a b : Nat), 12 ≤ a → wm (MF L) v a b → ∀ d ∈ nd v a, 12 ≤ d
  | [], a, b, ha, _, d, hd => by
    rcases List.mem_cons.mp hd with rfl | z
    · exact ha
    · cases z
  | e :: v, a, b, ha, h, d, hd => by
    rcases List.mem_cons.mp hd with rfl | z
    · exact ha
    · exact nd_ft v _ b h.1.1.1.2 h.2 d z
/-- every way from foot to foot -/
theorem re_all {L : List gE} (hE : ∀ e ∈ L, gEo e) (ng : ¬ gain L) {re : Nat → Nat → Int × Int × Int} (hs : ∀ (v : List gE) (a b : Nat), v ≠ [] → v.length ≤ 3 → wm (MF L) v a b → (nd v a).Nodup → lb (re a b).1 (re a b).2.1 (re a b).2.2 (wp v) (wq v) (ws v)) : ∀ (n : Nat) (v : List gE) (a b : Nat), v.length ≤ n → 12 ≤ a → a ≠ b → wm (MF L) v a b → lb (re a b).1 (re a b).2.1 (re a b).2.2 (wp v) (wq v) (ws v)
  | n, v, a, b, hn, ha, hab, h => by
    have vn : v ≠ [] := fun z => by subst z; exact hab h.1
    by_cases c : (nd v a).Nodup
    · have lt := nm_lt (MF_k hE) v a b h
      have k := gk_le c lt
      have fl : (nd v a).filter (fun u => decide (12 ≤ u)) = nd v a := List.filter_eq_self.mpr (fun d hd => decide_eq_true (nd_ft v a b ha h d hd))
      unfold gk at k
      rw [fl, nd_len] at k
      exact hs v a b vn (by omega) h c
    · obtain ⟨x, y, z, d, e1, e2, e3, e4, e5⟩ := nm_split (MF_k hE) v a b h c
      have ly : 0 < y.length := List.length_pos_iff.mpr e2
      have lv : v.length = x.length + (y.length + z.length) := by rw [e1, List.length_append, List.length_append]
      match n, hn with
      | 0, hn => omega
      | n + 1, hn =>
        have i := re_all hE ng hs n (x ++ z) a b (by rw [List.length_append]; omega) ha hab (wm_app x z a d b e3 e5)
        have g := mf_ng ng e4
        rw [e1]
        exact lb_rm (wm_pos (MF_k hE) _ _ _ e3).1 (wm_pos (MF_k hE) _ _ _ e4).1 (wm_pos (MF_k hE) _ _ _ e5).1 g.1 g.2 i
/-- the first and the last foot on a walk -/
theorem wk_fst {L : List gE} (hE : ∀ e ∈ L, gEo e) : ∀ (w : List gE) (a b : Nat), wk L w a b → (∃ d ∈ nd w a, 12 ≤ d) → ∃ (u v : List gE) (c : Nat), w = u ++ v ∧ wk L u a c ∧ 12 ≤ c ∧ wk L v c b ∧ ∀ d ∈ (nd u a).dropLast, d < 12
  | [], a, b, h, hd => by
    obtain ⟨d, hd, g⟩ := hd
    rcases List.mem_cons.mp hd with rfl | z
    · exact ⟨[], [], d, rfl, ⟨rfl, h.2⟩, g, h, fun e he => by cases he⟩
    · cases z
  | e :: w, a, b, h, hd => by
    by_cases g : 12 ≤ a
    · exact ⟨[], e :: w, a, rfl, ⟨rfl, nd_lt hE (e :: w) a b h a List.mem_cons_self⟩, g, h, fun e he => by cases he⟩
    · obtain ⟨d, hd, gd⟩ := hd
      have hd' : d ∈ nd w e.1.2 := by
        rcases List.mem_cons.mp hd with rfl | z
        · exact absurd gd g
        · exact z
      obtain ⟨u, v, c, e1, e2, e3, e4, e5⟩ := wk_fst hE w _ b h.2 ⟨d, hd', gd⟩
      refine ⟨e :: u, v, c, by rw [e1]; rfl, ⟨h.1, e2⟩, e3, e4, fun f hf => ?_⟩
      have nn : nd u e.1.2 ≠ [] := by cases u <;> simp [nd]
      have t : nd (e :: u) a = a :: nd u e.1.2 := rfl
      rw [t, List.dropLast_cons_of_ne_nil nn] at hf
      rcases List.mem_cons.mp hf with rfl | z
      · omega
      · exact e5 f z
theorem wk_lst {L : List gE} (hE : ∀ e ∈ L, gEo e) : ∀ (w : List gE) (a b : Nat), wk L w a b → (∃ d ∈ nd w a, 12 ≤ d) → ∃ (x u : List gE) (c : Nat), w = x ++ u ∧ wk L x a c ∧ 12 ≤ c ∧ wk L u c b ∧ ∀ d ∈ (nd u c).tail, d < 12
  | [], a, b, h, hd => by
    obtain ⟨d, hd, g⟩ := hd
    rcases List.mem_cons.mp hd with rfl | z
    · exact ⟨[], [], d, rfl, ⟨rfl, h.2⟩, g, h, fun e he => by cases he⟩
    · cases z
  | e :: w, a, b, h, hd => by
    by_cases g : ∃ d ∈ nd w e.1.2, 12 ≤ d
    · obtain ⟨x, u, c, e1, e2, e3, e4, e5⟩ := wk_lst hE w _ b h.2 g
      exact ⟨e :: x, u, c, by rw [e1]; rfl, ⟨h.1, e2⟩, e3, e4, e5⟩
    · obtain ⟨d, hd, gd⟩ := hd
      rcases List.mem_cons.mp hd with rfl | z
      · refine ⟨[], e :: w, d, rfl, ⟨rfl, nd_lt hE (e :: w) d b h d List.mem_cons_self⟩, gd, h, fun f hf => ?_⟩
        have z : f ∈ nd w e.1.2 := hf
        rcases Nat.lt_or_ge f 12 with y | y
        · exact y
        · exact absurd ⟨f, z, y⟩ g
      · exact absurd ⟨d, z, gd⟩ g
theorem pos_r {f t : Int} (hf : 0 < f) (h : 0 < f * t) : 0 < t := by
  rcases Int.lt_or_le 0 t with y | y
  · exact y
  · have z := Int.mul_nonpos_of_nonpos_of_nonneg y (Int.le_of_lt hf)
    rw [Int.mul_comm] at z
    omega
theorem lb_sc {f t l o P Q : Int} {s : Prop} (hf : 0 < f) (h : lb (f * t) (f * l) o P Q s) : lb t l o P Q s := by
  refine ⟨⟨pos_r hf h.1.1, pos_r hf h.1.2⟩, ?_⟩
  have k1 : f * t * P = f * (t * P) := Int.mul_assoc _ _ _
  have k2 : f * l * Q = f * (l * Q) := Int.mul_assoc _ _ _
  have z := h.2
  rw [k1, k2] at z
  rcases z with z | ⟨z, y⟩
  · exact Or.inl (Int.lt_of_mul_lt_mul_left z (Int.le_of_lt hf))
  · exact Or.inr ⟨Int.eq_of_mul_eq_mul_left (Int.ne_of_gt hf) z, y⟩
theorem lb_3 {hA hB ho rt rw_ ro lA lB P1 Q1 P2 Q2 P3 Q3 o : Int} {s1 s2 s3 : Prop} (a : lb hA hB ho P1 Q1 s1) (b : lb rt rw_ ro P2 Q2 s2) (c : lB * P3 ≤ lA * Q3) (hl : 0 < lB) (n3 : ¬ s3) (p1 : 0 < P1 ∧ 0 < Q1) (p2 : 0 < P2 ∧ 0 < Q2) (p3 : 0 < P3 ∧ 0 < Q3) (hO : ho = 1 ∨ ro = 1 → o = 1) : lb (hA * rt * lB) (hB * rw_ * lA) o (P1 * (P2 * P3)) (Q1 * (Q2 * Q3)) (s1 ∨ s2 ∨ s3) ∧ 0 < lA := by
  have ab := lb_mul (o2 := o) a b p1 p2 hO
  have zp : 0 < lB * P3 := Int.mul_pos hl p3.1
  have lp : 0 < lA := by
    rcases Int.lt_or_le 0 lA with y | y
    · exact y
    · have := Int.mul_nonpos_of_nonpos_of_nonneg y (Int.le_of_lt p3.2)
      omega
  refine ⟨⟨⟨Int.mul_pos ab.1.1 hl, Int.mul_pos ab.1.2 lp⟩, ?_⟩, lp⟩
  have k1 : hA * rt * lB * (P1 * (P2 * P3)) = (hA * rt * (P1 * P2)) * (lB * P3) := by ac_rfl
  have k2 : hB * rw_ * lA * (Q1 * (Q2 * Q3)) = (hB * rw_ * (Q1 * Q2)) * (lA * Q3) := by ac_rfl
  have yp : 0 < hB * rw_ * (Q1 * Q2) := Int.mul_pos ab.1.2 (Int.mul_pos p1.2 p2.2)
  rw [k1, k2]
  have m := Int.mul_le_mul_of_nonneg_left c (Int.le_of_lt yp)
  rcases ab.2 with g | ⟨g, s⟩
  · exact Or.inl (Int.lt_of_lt_of_le (Int.mul_lt_mul_of_pos_right g zp) m)
  · rw [g]
    rcases Int.lt_or_eq_of_le m with e | e
    · exact Or.inl e
    · refine Or.inr ⟨e, fun w => s ?_⟩
      rcases w with w | w | w
      · exact Or.inl w
      · exact Or.inr w
      · exact absurd w n3
/-- the way out of a length, up to the first foot -/
theorem hi_ok {Ls D : List gE} {C : Nat → Int} {s : Int} {h : m_H} (hE : ∀ e ∈ Ls, gEo e) (cl : eCl D Ls C s) (T : TI Ls D h) (c_ : cI C 6 h) {u : List gE} {a k : Nat} (ha : a < 12) (hk : k < 4) (hu : wk Ls u a (12 + k)) (hd : ∀ d ∈ (nd u a).dropLast, d < 12) : lb (h 39 (4 * a + k)) 2 (h 40 (4 * a + k)) (wp u) (wq u) (ws u) := by
  match u, hu, hd with
  | [], hu, _ => exact absurd hu.1 (by omega)
  | [q], hu, _ =>
    obtain ⟨⟨m, x1⟩, x2, _⟩ := hu
    have d := (cl q m).2.2.1 (by omega) (by omega)
    have l := T.2.2.2.1 q d k hk (by omega) x2
    rw [x1] at l
    exact lb_c l (by show q.2.1 * 1 = _; rw [Int.mul_one]) (by show q.2.2.1 * 1 = _; rw [Int.mul_one]) (fun z => z.elim id (fun y => y.elim))
  | [q0, q], hu, hd =>
    obtain ⟨⟨m0, x0⟩, ⟨m, x1⟩, x2, _⟩ := hu
    have i0 : q0.1.2 < 12 := hd q0.1.2 (List.mem_cons_of_mem _ List.mem_cons_self)
    obtain ⟨⟨z1, z2⟩, z3, z4, z5⟩ := (cl q0 m0).2.2.2 (by omega) i0
    have d := (cl q m).2.2.1 (by omega) (by omega)
    have l := T.2.2.2.1 q d k hk (by omega) x2
    rw [x1] at l
    have cc := (c_ q0.1.2 k (by omega) z2 hk).1 (by have := l.1.1; omega)
    have g := hE q m
    unfold gEo at g
    have l2 := lb_dm cc (by omega) l
    have e6 : q0.1.2 + 6 = a := by omega
    rw [e6] at l2
    refine lb_c l2 (by show q0.2.1 * (q.2.1 * 1) = _; rw [Int.mul_one, z3, Int.one_mul]) (by show q0.2.2.1 * (q.2.2.1 * 1) = _; rw [Int.mul_one, z4, Int.one_mul]) (fun z => ?_)
    rcases z with z | z | z
    · exact absurd z z5
    · exact z
    · exact z.elim
  | q0 :: q9 :: q :: v, hu, hd =>
    exfalso
    obtain ⟨⟨m0, x0⟩, ⟨m9, x9⟩, ⟨m, x1⟩, _⟩ := hu
    have i0 : q0.1.2 < 12 := hd q0.1.2 (List.mem_cons_of_mem _ List.mem_cons_self)
    have i9 : q9.1.2 < 12 := hd q9.1.2 (List.mem_cons_of_mem _ (List.mem_cons_of_mem _ (by cases v <;> exact List.mem_cons_self)))
    have z0 := ((cl q0 m0).2.2.2 (by omega) i0).1.1
    have z9 := ((cl q9 m9).2.2.2 (by omega) i9).1.1
    omega
/-- the way into a length, from the last foot -/
theorem lo_ok {Ls D : List gE} {C : Nat → Int} {s : Int} {h : m_H} (hE : ∀ e ∈ Ls, gEo e) (cl : eCl D Ls C s) (T : TI Ls D h) (c_ : cI C 6 h) {u : List gE} {b k : Nat} (hb : b < 12) (hk : k < 4) (hu : wk Ls u (12 + k) b) (hd : ∀ d ∈ (nd u (12 + k)).tail, d < 12) : 2 * wp u ≤ h 41 (4 * b + k) * wq u ∧ ¬ ws u := by
  match u, hu, hd with
  | [], hu, _ => exact absurd hu.1 (by omega)
  | [q], hu, _ =>
    obtain ⟨⟨m, x1⟩, x2, _⟩ := hu
    have d := (cl q m).2.1 (by omega) (by omega)
    have l := T.2.2.2.2 q d.1 k hk x1 (by omega)
    rw [x2] at l
    refine ⟨?_, fun z => z.elim (fun y => absurd y d.2) (fun y => y.elim)⟩
    show 2 * (q.2.1 * 1) ≤ h 41 (4 * b + k) * (q.2.2.1 * 1)
    rw [Int.mul_one, Int.mul_one]; exact l
  | [q, q0], hu, hd =>
    obtain ⟨⟨m, x1⟩, ⟨m0, x0⟩, x2, _⟩ := hu
    have i1 : q.1.2 < 12 := hd q.1.2 List.mem_cons_self
    have d := (cl q m).2.1 (by omega) i1
    have l := T.2.2.2.2 q d.1 k hk x1 i1
    obtain ⟨⟨z1, z2⟩, z3, z4, z5⟩ := (cl q0 m0).2.2.2 (by omega) (by omega)
    have cc := (c_ q0.1.2 k (by omega) z2 hk).2
    have g := hE q m
    unfold gEo at g
    rw [show q.1.2 = q0.1.2 + 6 by omega] at l
    have mm := Int.mul_le_mul_of_nonneg_right cc (show 0 ≤ q.2.2.1 by omega)
    rw [x2] at mm
    refine ⟨?_, fun z => z.elim (fun y => absurd y d.2) (fun y => y.elim (fun w => absurd w z5) (fun w => w.elim))⟩
    show 2 * (q.2.1 * (q0.2.1 * 1)) ≤ h 41 (4 * b + k) * (q.2.2.1 * (q0.2.2.1 * 1))
    rw [z3, z4, Int.mul_one, Int.mul_one, Int.mul_one]
    rw [x2] at l
    omega
  | q :: q0 :: q9 :: v, hu, hd =>
    exfalso
    obtain ⟨⟨m, x1⟩, ⟨m0, x0⟩, ⟨m9, x9⟩, _⟩ := hu
    have i1 : q.1.2 < 12 := hd q.1.2 List.mem_cons_self
    have i0 : q0.1.2 < 12 := hd q0.1.2 (List.mem_cons_of_mem _ List.mem_cons_self)
    have i9 : q9.1.2 < 12 := hd q9.1.2 (List.mem_cons_of_mem _ (List.mem_cons_of_mem _ (by cases v <;> exact List.mem_cons_self)))
    have z0 := ((cl q0 m0).2.2.2 (by omega) i0).1.1
    have z9 := ((cl q9 m9).2.2.2 (by omega) i9).1.1
    omega
