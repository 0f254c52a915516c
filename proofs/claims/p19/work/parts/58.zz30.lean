/-! the class's limit is the best of all walks -/
theorem nd_end {L : List gE} : ∀ (w : List gE) (a b : Nat), wk L w a b → b ∈ nd w a
  | [], a, b, h => by obtain ⟨rfl, _⟩ := h; exact List.mem_cons_self
  | e :: w, a, b, h => List.mem_cons_of_mem _ (nd_end w _ b h.2)
theorem re_rl {Ls : List gE} {h : m_H} (S1 : sF1 Ls h) : ∀ x y : Nat, x < 4 → y < 4 → rl Ls (goW (goW (wyH 43 h) (wyH 43 h)) (wyH 43 h) (12 + x) (12 + y)) (12 + x) (12 + y) := by
  have at_ : ∀ a b : Nat, a < 4 → b < 4 → wyH 43 h (12 + a) (12 + b) = bd h (43 + (4 * a + b)) := fun a b ha hb => by
    unfold wyH
    rw [show (4 * (12 + a - 12) + (12 + b - 12)) % 16 = 4 * a + b by omega]
  have r1 : ∀ a b : Nat, a < 4 → b < 4 → rl Ls (wyH 43 h (12 + a) (12 + b)) (12 + a) (12 + b) := fun a b ha hb => by rw [at_ a b ha hb]; exact S1 a b ha hb
  have go_ : ∀ (wy : Nat → Nat → Int × Int × Int) (a b : Nat), a < 4 → b < 4 → (∀ k : Nat, k < 4 → rl Ls (wy (12 + a) (12 + k)) (12 + a) (12 + k)) → rl Ls (goL wy (wyH 43 h) (12 + a) (12 + b) [12, 13, 14, 15] (wy (12 + a) (12 + b))) (12 + a) (12 + b) := fun wy a b ha hb hw => by
    have gen : ∀ (ks : List Nat) (x : Int × Int × Int), (∀ k ∈ ks, ∃ j : Nat, j < 4 ∧ k = 12 + j) → rl Ls x (12 + a) (12 + b) → rl Ls (goL wy (wyH 43 h) (12 + a) (12 + b) ks x) (12 + a) (12 + b) := by
      intro ks
      induction ks with
      | nil => intro x _ hx; exact hx
      | cons k ks ih =>
        intro x hk hx
        refine ih _ (fun j hj => hk j (List.mem_cons_of_mem _ hj)) ?_
        obtain ⟨j, hj, ej⟩ := hk k List.mem_cons_self
        split
        · subst ej
          exact rl_ls hx (rl_ml (hw j hj) (r1 j b hj hb))
        · exact hx
    refine gen _ _ (fun k hk => ?_) (hw b hb)
    simp only [List.mem_cons, List.not_mem_nil, or_false] at hk
    exact ⟨k - 12, by omega, by omega⟩
  have w0 : ∀ a : Nat, a < 4 → rl Ls (1, 1, 0) (12 + a) (12 + a) := fun a ha _ => ⟨[], ⟨rfl, by omega⟩, rfl, fun z => absurd z (by decide)⟩
  have st : ∀ (wy : Nat → Nat → Int × Int × Int), (∀ a b : Nat, a < 4 → b < 4 → rl Ls (wy (12 + a) (12 + b)) (12 + a) (12 + b)) → ∀ a b : Nat, a < 4 → b < 4 → rl Ls (goW wy (wyH 43 h) (12 + a) (12 + b)) (12 + a) (12 + b) := fun wy hw a b ha hb => by
    unfold goW
    by_cases g : 12 + a = 12 + b
    · rw [if_pos g]; have e : a = b := by omega
      subst e; exact w0 a ha
    · rw [if_neg g]; exact go_ _ a b ha hb (fun k hk => hw a k ha hk)
  exact st _ (st _ r1)
/-- all that stands, in one -/
theorem way_ok {Ls D : List gE} {C : Nat → Int} {s : Int} {h : m_H} (hE : ∀ e ∈ Ls, gEo e) (cl : eCl D Ls C s) (X : TX Ls D C s h) (ng : ¬ gain Ls) {x y : Nat} (hx : x < 4) (hy : y < 4) : (∀ m, wk Ls m (12 + x) (12 + y) → lb (bd h (77 + (4 * x + y))).1 (bd h (77 + (4 * x + y))).2.1 (bd h (77 + (4 * x + y))).2.2 (wp m) (wq m) (ws m)) ∧ rl Ls (bd h (77 + (4 * x + y))) (12 + x) (12 + y) ∧ pBb 8000000 (bd h (77 + (4 * x + y))) := by
  obtain ⟨T, c_, k_, S1, S2, S3, re⟩ := X
  have e := re (4 * x + y) (by omega)
  rw [show (4 * x + y) / 4 = x by omega, show (4 * x + y) % 4 = y by omega] at e
  have b1 : ∀ i j, pBb 200 (wyH 43 h i j) := wyH_b k_
  have b2 : ∀ i j, pBb 40000 (goW (wyH 43 h) (wyH 43 h) i j) := fun i j => goW_b b1 b1 (by decide) (by decide) (by decide)
  rw [e]
  refine ⟨fun m hm => ?_, re_rl S1 x y hx hy, goW_b b2 b1 (by decide) (by decide) (by decide)⟩
  by_cases g : x = y
  · subst g
    have z : goW (goW (wyH 43 h) (wyH 43 h)) (wyH 43 h) (12 + x) (12 + x) = (1, 1, 0) := if_pos rfl
    rw [z]
    have n := ng_wk ng hm
    refine ⟨⟨by decide, by decide⟩, ?_⟩
    show 1 * wp m < 1 * wq m ∨ (1 * wp m = 1 * wq m ∧ (ws m → (0 : Int) = 1))
    rw [Int.one_mul, Int.one_mul]
    rcases Int.lt_or_eq_of_le n.1 with q | q
    · exact Or.inl q
    · exact Or.inr ⟨q, fun w => absurd w (n.2 q)⟩
  · obtain ⟨f, f1, f2, f3, f4⟩ := toF hE m.length m _ _ (Nat.le_refl _) hm (by omega) (by omega)
    have sk := step_ok hE cl T c_ S2 S3
    have hs := reach_ok hE (t2 := goW (wyH 43 h) (wyH 43 h)) (re := goW (goW (wyH 43 h) (wyH 43 h)) (wyH 43 h)) (fun i j => pB_of (b1 i j)) (fun i j => pB_of (b2 i j)) (fun e he _ => sk e he) (fun a b n => if_neg n) (fun a b n => if_neg n)
    have l := re_all hE ng hs f.length f _ _ (Nat.le_refl _) (by omega) (by omega) f1
    exact lb_c l f2.symm f3.symm f4.mpr
def hBf (a : Int) : Int := if a < 12 then 2 else 1
def scf (a b : Int) : Int := if a < 12 ∧ b < 12 then 2 else 1
theorem cnd_sc {a b hi lo rt rw_ : Int} : hi * rt * hBf b = scf a b * (hi * (rt * hvI a b)) ∧ hBf a * rw_ * lo = scf a b * (lo * (rw_ * hvI b a)) := by
  unfold hBf scf hvI
  by_cases ga : a < 12
  · by_cases gb : b < 12
    · rw [if_pos gb, if_pos ⟨ga, gb⟩, if_pos ga, if_pos ga, if_pos gb, Int.mul_one, Int.mul_one]
      exact ⟨by ac_rfl, by ac_rfl⟩
    · rw [if_neg gb, if_neg (fun z => gb z.2), if_pos ga, if_pos ga, if_neg gb, if_neg (by omega), Int.mul_one, Int.mul_one, Int.one_mul, Int.one_mul]
      exact ⟨rfl, by ac_rfl⟩
  · by_cases gb : b < 12
    · rw [if_pos gb, if_neg (fun z => ga z.1), if_neg ga, if_neg ga, if_neg (by omega), if_pos gb, Int.mul_one, Int.one_mul, Int.one_mul, Int.one_mul]
      exact ⟨by ac_rfl, by ac_rfl⟩
    · rw [if_neg gb, if_neg (fun z => ga z.1), if_neg ga, if_neg ga, if_pos (by omega), if_neg gb, if_pos (by omega), Int.mul_one, Int.mul_one, Int.mul_one, Int.one_mul, Int.one_mul, Int.one_mul]
      exact ⟨rfl, by ac_rfl⟩
theorem scf_p {a b : Int} : 0 < scf a b := by unfold scf; split <;> omega
theorem cnd_at {h : m_H} {a b x y : Nat} (hx : x < 4) (hy : y < 4) : cnd h a b ((4 * x + y : Nat) : Int) = (hiV h a x * ((bd h (77 + (4 * x + y))).1 * hvI a b), loV h b y * ((bd h (77 + (4 * x + y))).2.1 * hvI b a), if (bd h (77 + (4 * x + y))).2.2 = 1 ∨ ((a : Int) < 12 ∧ h 40 (4 * a + x) = 1) then 1 else 0) := by
  unfold cnd bd
  rw [show ((4 * x + y : Nat) : Int) / 4 = (x : Int) by omega, show ((4 * x + y : Nat) : Int) % 4 = (y : Int) by omega, Int.toNat_natCast, show ((a : Int) * 4 + (x : Int)).toNat = 4 * a + x by omega]
theorem hi_at {h : m_H} {a x : Nat} (ha : a < 12) : hiV h a x = h 39 (4 * a + x) := by
  unfold hiV; rw [if_pos (by omega), show ((a : Int) * 4 + (x : Int)).toNat = 4 * a + x by omega]
theorem lo_at {h : m_H} {a x : Nat} (ha : a < 12) : loV h a x = h 41 (4 * a + x) := by
  unfold loV; rw [if_pos (by omega), show ((a : Int) * 4 + (x : Int)).toNat = 4 * a + x by omega]
theorem hB_1 {a : Nat} (g : a < 12) : hBf a = 2 := by unfold hBf; rw [if_pos (by omega)]
theorem hB_2 {a : Nat} (g : ¬ a < 12) : hBf a = 1 := by unfold hBf; rw [if_neg (by omega)]
theorem hi_ft {h : m_H} {a x : Nat} (e : a = 12 + x) : hiV h a x = 1 := by
  unfold hiV
  rw [if_neg (show ¬ (a : Int) < 12 by omega), if_pos (show (a : Int) - 12 = (x : Int) by omega)]
theorem lo_ft {h : m_H} {a x : Nat} (e : 12 + x = a) : loV h a x = 1 := by
  unfold loV
  rw [if_neg (show ¬ (a : Int) < 12 by omega), if_pos (show (a : Int) - 12 = (x : Int) by omega)]
theorem hi_nz {h : m_H} {a x : Nat} (g : ¬ a < 12) (n : hiV h a x ≠ 0) : a = 12 + x := by
  unfold hiV at n
  rw [if_neg (show ¬ (a : Int) < 12 by omega)] at n
  by_cases q : (a : Int) - 12 = x
  · omega
  · rw [if_neg q] at n; exact absurd rfl n
theorem lo_nz {h : m_H} {a x : Nat} (g : ¬ a < 12) (n : loV h a x ≠ 0) : 12 + x = a := by
  unfold loV at n
  rw [if_neg (show ¬ (a : Int) < 12 by omega)] at n
  by_cases q : (a : Int) - 12 = x
  · omega
  · rw [if_neg q] at n; exact absurd rfl n
theorem zc_at {h : m_H} {a b x y : Nat} (hx : x < 4) (hy : y < 4) : (hiV h a (((4 * x + y : Nat) : Int) / 4) = 0 ∨ loV h b (((4 * x + y : Nat) : Int) % 4) = 0 ∨ h (77 + ((4 * x + y : Nat) : Int).toNat) 1 = 0) ↔ (hiV h a x = 0 ∨ loV h b y = 0 ∨ (bd h (77 + (4 * x + y))).2.1 = 0) := by
  rw [show ((4 * x + y : Nat) : Int) / 4 = (x : Int) by omega, show ((4 * x + y : Nat) : Int) % 4 = (y : Int) by omega, Int.toNat_natCast]
  exact Iff.rfl
/-- a candidate that stands is a walk -/
theorem cnd_rl {Ls D : List gE} {C : Nat → Int} {s : Int} {h : m_H} (hE : ∀ e ∈ Ls, gEo e) (cl : eCl D Ls C s) (X : TX Ls D C s h) (ng : ¬ gain Ls) {a b x y : Nat} (ha : a < 16) (hb : b < 16) (hx : x < 4) (hy : y < 4) (nz : ¬ (hiV h a x = 0 ∨ loV h b y = 0 ∨ (bd h (77 + (4 * x + y))).2.1 = 0)) : rl Ls (cnd h a b ((4 * x + y : Nat) : Int)) a b := by
  obtain ⟨_, r2, r3⟩ := way_ok hE cl X ng hx hy
  obtain ⟨T, c_, k_, S1, S2, S3, re⟩ := X
  have n1 : hiV h a x ≠ 0 := fun z => nz (Or.inl z)
  have n2 : loV h b y ≠ 0 := fun z => nz (Or.inr (Or.inl z))
  have n3 : (bd h (77 + (4 * x + y))).2.1 ≠ 0 := fun z => nz (Or.inr (Or.inr z))
  obtain ⟨m, m1, m2, m3⟩ := r2 n3
  have H : ∃ w, wk Ls w a (12 + x) ∧ hiV h a x * wp w = hBf a * wq w ∧ ((a : Int) < 12 ∧ h 40 (4 * a + x) = 1 → ws w) := by
    by_cases g : a < 12
    · rw [hi_at g] at n1 ⊢
      obtain ⟨w, w1, w2, w3⟩ := T.2.1 a x g hx n1
      exact ⟨w, w1, by rw [hB_1 g]; exact w2, fun z => w3 z.2⟩
    · have e := hi_nz g n1
      exact ⟨[], ⟨e, ha⟩, by rw [hi_ft e, hB_2 g]; rfl, fun z => absurd z.1 (by omega)⟩
  have Lw : ∃ w, wk Ls w (12 + y) b ∧ loV h b y * wq w = hBf b * wp w := by
    by_cases g : b < 12
    · rw [lo_at g] at n2 ⊢
      obtain ⟨w, w1, w2⟩ := T.2.2.1 b y g hy n2
      exact ⟨w, w1, by rw [hB_1 g]; exact w2⟩
    · have e := lo_nz g n2
      exact ⟨[], ⟨e, by omega⟩, by rw [lo_ft e, hB_2 g]; rfl⟩
  obtain ⟨u, u1, u2, u3⟩ := H
  obtain ⟨v, v1, v2⟩ := Lw
  rw [cnd_at hx hy]
  intro _
  refine ⟨u ++ (m ++ v), wk_app _ _ _ _ _ u1 (wk_app _ _ _ _ _ m1 v1), ?_, fun o => ?_⟩
  · show hiV h a x * ((bd h (77 + (4 * x + y))).1 * hvI a b) * wp (u ++ (m ++ v)) = loV h b y * ((bd h (77 + (4 * x + y))).2.1 * hvI b a) * wq (u ++ (m ++ v))
    have sc := cnd_sc (a := (a : Int)) (b := (b : Int)) (hi := hiV h a x) (lo := loV h b y) (rt := (bd h (77 + (4 * x + y))).1) (rw_ := (bd h (77 + (4 * x + y))).2.1)
    refine Int.eq_of_mul_eq_mul_left (Int.ne_of_gt (scf_p (a := (a : Int)) (b := (b : Int)))) ?_
    have j1 : scf (a : Int) (b : Int) * (hiV h a x * ((bd h (77 + (4 * x + y))).1 * hvI a b) * wp (u ++ (m ++ v))) = scf (a : Int) (b : Int) * (hiV h a x * ((bd h (77 + (4 * x + y))).1 * hvI a b)) * wp (u ++ (m ++ v)) := (Int.mul_assoc _ _ _).symm
    have j2 : scf (a : Int) (b : Int) * (loV h b y * ((bd h (77 + (4 * x + y))).2.1 * hvI b a) * wq (u ++ (m ++ v))) = scf (a : Int) (b : Int) * (loV h b y * ((bd h (77 + (4 * x + y))).2.1 * hvI b a)) * wq (u ++ (m ++ v)) := (Int.mul_assoc _ _ _).symm
    rw [j1, j2, ← sc.1, ← sc.2, wp_app, wp_app, wq_app, wq_app]
    have k1 : hiV h a x * (bd h (77 + (4 * x + y))).1 * hBf b * (wp u * (wp m * wp v)) = (hiV h a x * wp u) * ((bd h (77 + (4 * x + y))).1 * wp m) * (hBf b * wp v) := by ac_rfl
    have k2 : hBf a * (bd h (77 + (4 * x + y))).2.1 * loV h b y * (wq u * (wq m * wq v)) = (hBf a * wq u) * ((bd h (77 + (4 * x + y))).2.1 * wq m) * (loV h b y * wq v) := by ac_rfl
    rw [k1, k2, u2, m2, v2]
  · have o' : (if (bd h (77 + (4 * x + y))).2.2 = 1 ∨ ((a : Int) < 12 ∧ h 40 (4 * a + x) = 1) then (1 : Int) else 0) = 1 := o
    by_cases q : (bd h (77 + (4 * x + y))).2.2 = 1 ∨ ((a : Int) < 12 ∧ h 40 (4 * a + x) = 1)
    · rw [ws_app, ws_app]
      rcases q with q | q
      · exact Or.inr (Or.inl (m3 q))
      · exact Or.inl (u3 q)
    · rw [if_neg q] at o'; exact absurd o' (by decide)
/-- every walk by a foot is under a candidate that stands -/
theorem cnd_ok {Ls D : List gE} {C : Nat → Int} {s : Int} {h : m_H} (hE : ∀ e ∈ Ls, gEo e) (cl : eCl D Ls C s) (X : TX Ls D C s h) (ng : ¬ gain Ls) {a b : Nat} {w : List gE} (hw : wk Ls w a b) (hf : ∃ d ∈ nd w a, 12 ≤ d) : ∃ x y : Nat, x < 4 ∧ y < 4 ∧ ¬ (hiV h a x = 0 ∨ loV h b y = 0 ∨ (bd h (77 + (4 * x + y))).2.1 = 0) ∧ lb (cnd h a b ((4 * x + y : Nat) : Int)).1 (cnd h a b ((4 * x + y : Nat) : Int)).2.1 (cnd h a b ((4 * x + y : Nat) : Int)).2.2 (wp w) (wq w) (ws w) := by
  obtain ⟨u, v, c, e1, e2, e3, e4, e5⟩ := wk_fst hE w a b hw hf
  obtain ⟨m, u', c', f1, f2, f3, f4, f5⟩ := wk_lst hE v c b e4 ⟨c, by cases v <;> exact List.mem_cons_self, e3⟩
  have pu := wp_pos hE u a c e2
  have pm := wp_pos hE m c c' f2
  have pv := wp_pos hE u' c' b f4
  obtain ⟨x, hx, rfl⟩ : ∃ x : Nat, x < 4 ∧ c = 12 + x := ⟨c - 12, by omega, by omega⟩
  obtain ⟨y, hy, rfl⟩ : ∃ y : Nat, y < 4 ∧ c' = 12 + y := ⟨c' - 12, by omega, by omega⟩
  obtain ⟨r1, _, r3⟩ := way_ok hE cl X ng hx hy
  obtain ⟨T, c_, k_, S1, S2, S3, re⟩ := X
  have lm := r1 m f2
  have H : lb (hiV h a x) (hBf a) (if (a : Int) < 12 then h 40 (4 * a + x) else 0) (wp u) (wq u) (ws u) := by
    by_cases g : a < 12
    · have l := hi_ok hE cl T c_ g hx e2 e5
      rw [hi_at g, hB_1 g, if_pos (show (a : Int) < 12 by omega)]
      exact l
    · have eu : u = [] := by
        cases u with
        | nil => rfl
        | cons q u =>
          have nn : nd u q.1.2 ≠ [] := by cases u <;> simp [nd]
          have t : nd (q :: u) a = a :: nd u q.1.2 := rfl
          rw [t, List.dropLast_cons_of_ne_nil nn] at e5
          exact absurd (e5 a List.mem_cons_self) g
      subst eu
      have ea : a = 12 + x := e2.1
      rw [hi_ft ea, hB_2 g, if_neg (show ¬ (a : Int) < 12 by omega)]
      exact ⟨⟨by decide, by decide⟩, Or.inr ⟨rfl, fun z => z.elim⟩⟩
  have Lw : hBf b * wp u' ≤ loV h b y * wq u' ∧ ¬ ws u' := by
    by_cases g : b < 12
    · have l := lo_ok hE cl T c_ g hy f4 f5
      rw [lo_at g, hB_1 g]
      exact l
    · have eu : u' = [] := by
        cases u' with
        | nil => rfl
        | cons q u =>
          have z : b ∈ (nd (q :: u) (12 + y)).tail := nd_end u _ b f4.2
          exact absurd (f5 b z) g
      subst eu
      have eb : 12 + y = b := f4.1
      rw [lo_ft eb, hB_2 g]
      exact ⟨Int.le_refl _, fun z => z⟩
  have hbp : 0 < hBf b := by unfold hBf; split <;> omega
  obtain ⟨l, lp⟩ := lb_3 (o := if (bd h (77 + (4 * x + y))).2.2 = 1 ∨ ((a : Int) < 12 ∧ h 40 (4 * a + x) = 1) then 1 else 0) H lm Lw.1 hbp Lw.2 pu.1 pm.1 pv.1 (fun z => by
    rcases z with z | z
    · by_cases g : (a : Int) < 12
      · rw [if_pos g] at z; exact if_pos (Or.inr ⟨g, z⟩)
      · rw [if_neg g] at z; exact absurd z (by decide)
    · exact if_pos (Or.inl z))
  refine ⟨x, y, hx, hy, ?_, ?_⟩
  · have h1 := H.1.1
    have h2 := lm.1.2
    omega
  · rw [cnd_at hx hy]
    have sc := cnd_sc (a := (a : Int)) (b := (b : Int)) (hi := hiV h a x) (lo := loV h b y) (rt := (bd h (77 + (4 * x + y))).1) (rw_ := (bd h (77 + (4 * x + y))).2.1)
    rw [sc.1, sc.2] at l
    refine lb_c (lb_sc scf_p l) ?_ ?_ ?_
    · rw [e1, f1, wp_app, wp_app]
    · rw [e1, f1, wq_app, wq_app]
    · rw [e1, f1, ws_app, ws_app]; exact id
/-- .. and one by lengths alone is a cut -/
theorem cut_ok {Ls D : List gE} {C : Nat → Int} {s : Int} (cl : eCl D Ls C s) {a b : Nat} {w : List gE} (hw : wk Ls w a b) (hab : a ≠ b) (hf : ¬ ∃ d ∈ nd w a, 12 ≤ d) : (b < 6 ∧ a = b + 6) ∧ wp w = 1 ∧ wq w = 1 ∧ ¬ ws w := by
  have all : ∀ d ∈ nd w a, d < 12 := fun d hd => by
    rcases Nat.lt_or_ge d 12 with y | y
    · exact y
    · exact absurd ⟨d, hd, y⟩ hf
  match w, hw, all with
  | [], hw, _ => exact absurd hw.1 hab
  | [q], hw, all =>
    obtain ⟨⟨m, x1⟩, x2, _⟩ := hw
    have i1 : a < 12 := all a List.mem_cons_self
    have i2 : q.1.2 < 12 := all q.1.2 (List.mem_cons_of_mem _ List.mem_cons_self)
    obtain ⟨⟨z1, z2⟩, z3, z4, z5⟩ := (cl q m).2.2.2 (by omega) i2
    refine ⟨by omega, ?_, ?_, fun z => z.elim (fun y => absurd y z5) (fun y => y.elim)⟩
    · show q.2.1 * 1 = 1; rw [z3]; rfl
    · show q.2.2.1 * 1 = 1; rw [z4]; rfl
  | q :: q' :: v, hw, all =>
    exfalso
    obtain ⟨⟨m, x1⟩, ⟨m', x2⟩, _⟩ := hw
    have i1 : a < 12 := all a List.mem_cons_self
    have i2 : q.1.2 < 12 := all q.1.2 (List.mem_cons_of_mem _ List.mem_cons_self)
    have i3 : q'.1.2 < 12 := all q'.1.2 (List.mem_cons_of_mem _ (List.mem_cons_of_mem _ (by cases v <;> exact List.mem_cons_self)))
    have z1 := ((cl q m).2.2.2 (by omega) i2).1.1
    have z2 := ((cl q' m').2.2.2 (by omega) i3).1.1
    omega
theorem lm_lq {Ls D : List gE} {C : Nat → Int} {s : Int} {h : m_H} (hH : bkH h) (hR : bkR h) {a b : Nat} : ∀ n, n ≤ 16 → lq (lmN h a b n) (lmI a b) ∧ ∀ p : Nat, p < n → ¬ (hiV h a ((p : Int) / 4) = 0 ∨ loV h b ((p : Int) % 4) = 0 ∨ h (77 + (p : Int).toNat) 1 = 0) → lq (lmN h a b n) (cnd h a b p)
  | 0, _ => ⟨fun _ _ _ _ _ l => l, fun p hp => absurd hp (by omega)⟩
  | n + 1, hn => by
    obtain ⟨i1, i2⟩ := lm_lq (Ls := Ls) (D := D) (C := C) (s := s) (a := a) (b := b) hH hR n (by omega)
    have st : lmN h a b (n + 1) = lmS h a b (n : Int) (lmN h a b n) := rfl
    rw [st]
    unfold lmS
    by_cases q : hiV h a ((n : Int) / 4) = 0 ∨ loV h b ((n : Int) % 4) = 0 ∨ h (77 + (n : Int).toNat) 1 = 0
    · rw [if_pos q]
      refine ⟨i1, fun p hp nz => ?_⟩
      by_cases g : p = n
      · subst g; exact absurd q nz
      · exact i2 p (by omega) nz
    · rw [if_neg q]
      have cp := cnd_p (a := (a : Int)) (b := (b : Int)) (p := (n : Int)) hH hR (by omega) (by omega) (by omega) (by omega) q
      have xb := lmN_b (a := (a : Int)) (b := (b : Int)) hH hR (by omega) (by omega) n (by omega)
      refine ⟨lq_t (lq_l cp) i1, fun p hp nz => ?_⟩
      by_cases g : p = n
      · subst g; exact lq_r ⟨xb.1.1, xb.2.1⟩
      · exact lq_t (lq_l cp) (i2 p (by omega) nz)
theorem bkR_X {Ls D : List gE} {C : Nat → Int} {s : Int} {h : m_H} (X : TX Ls D C s h) : bkR h := fun p hp => by
  obtain ⟨T, c_, k_, S1, S2, S3, re⟩ := X
  have b1 : ∀ i j, pBb 200 (wyH 43 h i j) := wyH_b k_
  rw [re p hp]
  exact goW_b (fun i j => goW_b (B := 40000) b1 b1 (by decide) (by decide) (by decide)) b1 (by decide) (by decide) (by decide)
theorem lm_BW {Ls D : List gE} {C : Nat → Int} {s : Int} {h : m_H} (hE : ∀ e ∈ Ls, gEo e) (cl : eCl D Ls C s) (X : TX Ls D C s h) (ng : ¬ gain Ls) {a b : Nat} (ha : a < 16) (hb : b < 16) (hab : a ≠ b) (hcut : b < 6 → a = b + 6 → ((6 + b, b), ((1 : Int), (1 : Int), (0 : Int))) ∈ Ls) : BW Ls a b (lmN h a b 16) := by
  have hH := X.1.1
  have hR := bkR_X X
  refine ⟨pB_of (lmN_b hH hR (by omega) (by omega) 16 (Nat.le_refl _)), ?_, fun w hw => ?_⟩
  · have gen : ∀ n, n ≤ 16 → rl Ls (lmN h a b n) a b := by
      intro n
      induction n with
      | zero =>
        intro _
        show rl Ls (lmI a b) a b
        unfold lmI
        by_cases g : (a : Int) = b ∨ ((b : Int) < 6 ∧ (a : Int) = b + 6)
        · rw [if_pos g]
          intro _
          have g2 : b < 6 ∧ a = b + 6 := by omega
          exact ⟨[((6 + b, b), (1, 1, 0))], ⟨⟨hcut g2.1 g2.2, by show 6 + b = a; omega⟩, rfl, by show b < 16; exact hb⟩, rfl, fun z => absurd z (by decide)⟩
        · rw [if_neg g]; exact fun z => absurd rfl z
      | succ n ih =>
        intro hn
        have i := ih (by omega)
        have st : lmN h a b (n + 1) = lmS h a b (n : Int) (lmN h a b n) := rfl
        rw [st]
        unfold lmS
        split
        · exact i
        · rename_i q
          obtain ⟨x, y, hx, hy, e⟩ : ∃ x y : Nat, x < 4 ∧ y < 4 ∧ n = 4 * x + y := ⟨n / 4, n % 4, by omega, by omega, by omega⟩
          subst e
          exact rl_ls i (cnd_rl hE cl X ng ha hb hx hy (fun z => q ((zc_at hx hy).mpr z)))
    exact gen 16 (Nat.le_refl _)
  · have l := lm_lq (Ls := Ls) (D := D) (C := C) (s := s) (a := a) (b := b) hH hR 16 (Nat.le_refl _)
    have p := wp_pos hE w a b hw
    by_cases g : ∃ d ∈ nd w a, 12 ≤ d
    · obtain ⟨x, y, hx, hy, nz, c⟩ := cnd_ok hE cl X ng hw g
      exact l.2 (4 * x + y) (by omega) (fun z => nz ((zc_at hx hy).mp z)) _ _ _ p.1.1 p.1.2 c
    · obtain ⟨c1, c2, c3, c4⟩ := cut_ok cl hw hab g
      have e : lmI (a : Int) (b : Int) = (1, 1, 0) := by unfold lmI; rw [if_pos (by omega)]
      refine l.1 _ _ _ p.1.1 p.1.2 ?_
      rw [e, c2, c3]
      exact ⟨⟨by decide, by decide⟩, Or.inr ⟨rfl, fun z => absurd z c4⟩⟩
/-- one with itself -/
theorem one_BW {Ls : List gE} (ng : ¬ gain Ls) {a : Nat} (ha : a < 16) : BW Ls a a (1, 1, 0) := by
  refine ⟨⟨by decide, by decide⟩, fun _ => ⟨[], ⟨rfl, ha⟩, rfl, fun z => absurd z (by decide)⟩, fun w hw => ?_⟩
  have n := ng_wk ng hw
  refine ⟨⟨by decide, by decide⟩, ?_⟩
  show 1 * wp w < 1 * wq w ∨ (1 * wp w = 1 * wq w ∧ (ws w → (0 : Int) = 1))
  rw [Int.one_mul, Int.one_mul]
  rcases Int.lt_or_eq_of_le n.1 with q | q
  · exact Or.inl q
  · exact Or.inr ⟨q, fun z => absurd z (n.2 q)⟩
