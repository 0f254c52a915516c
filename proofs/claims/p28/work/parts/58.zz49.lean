/-! wrong, the class's side -/
theorem wgled {L : Nat} (hL : isL L) {cs : List Nat} {ss : List (Nat × Nat)} {h h' : m_H} (S : FR cs ss h h') (o : out 1 33 cs ss = true) : ∀ i, i < 8 → h' (L + i) = h (L + i) := fun i hi => rowz S (fr_out o (by unfold isL at hL; omega) (by unfold isL at hL; omega))
theorem cb_bt {c : Int} {r : Nat → Int} (b : RB r) (cb : CB c r) {j : Nat} (hj : j < 32) : bt c j = true ↔ bt (cF r) j = true := by
  obtain ⟨b1, b2, b3, b4⟩ := b
  have z := cb j hj
  have y : bt (cF r) j = true ↔ (j < (r 0).toNat ∧ r (5 * j + 84) = 1) := cS_bt (r := r) (r 0).toNat j (by omega) hj
  rw [z, y]
  exact ⟨fun q => ⟨by omega, q.2⟩, fun q => ⟨by omega, q.2⟩⟩
def wgT (r : Nat → Int) (e : Int) (h0 h' : m_H) : Prop := (¬ wgF r (sx (cF r) e) ∧ h' 101 2 = h0 101 2 + 1 ∧ h' 101 3 = (if h0 101 3 = 0 then e else if e < h0 101 3 then e else h0 101 3)) ∨ (wgF r (sx (cF r) e) ∧ h' 101 2 = h0 101 2 ∧ h' 101 3 = h0 101 3)
abbrev P_X3_strike3 (h0 : m_H) (L : Nat) (a2 : Int) (r : Nat → Int) : m_H → Prop := fun h' => GI h' ∧ FR (csB ++ [39, 40, 41]) [(101, 2), (101, 3)] h0 h' ∧ wgT r a2 h0 h'
set_option maxHeartbeats 4000000 in
set_option maxRecDepth 100000 in
theorem c_X3_strike3 (h0 : m_H) (L : Nat) (a2 : Int) (r : Nat → Int) (hL : isL L) (G0 : GI h0) (hX : KX L r (fun j => r (10 + j)) (fun j => r (42 + j)) h0) (hC : CB (h0 L 8) r) (hb : 0 ≤ h0 101 2 ∧ h0 101 2 ≤ 1000) : m_CV M_X3_strike [mR 101, mR L, mI a2] h0 (P_X3_strike3 h0 L a2 r) := by
  refine m_CV_of ⟨by decide, rfl, by simp [m_arg, m_isL, M_X3_strike], ⟨rfl, rfl⟩, rfl, rfl⟩ (ls := [some (mR 101), some (mR L), some (mI a2)]) rfl ?_
  refine z_ok (fun _ _ ok => ?_)
  have oa2 : m_32 a2 := ok 2 _ rfl
  unfold m_32 at oa2
  refine z_aload_n (M := M_X3_strike) 0 dX3_strike_0 rfl ?_
  refine z_getR (M := M_X3_strike) 1 dX3_strike_1 f_X3_9 o_101 rfl (g_101_0 G0) ?_
  refine z_aload_n (M := M_X3_strike) 4 dX3_strike_4 rfl ?_
  refine z_aload_n (M := M_X3_strike) 5 dX3_strike_5 rfl ?_
  refine z_getIV (M := M_X3_strike) 6 dX3_strike_6 f_X3_31 (oL hL) (by decide) (fun x1 ex1 => ?_)
  refine z_ok (fun ox1 _ _ => ?_)
  have ox1 := ox1.1; unfold m_ok m_32 at ox1
  refine z_iload_n (M := M_X3_strike) 9 dX3_strike_9 rfl ?_
  refine z_iconst (M := M_X3_strike) 10 dX3_strike_10 ?_
  refine z_ixor (M := M_X3_strike) 11 dX3_strike_11 ?_
  refine z_topm (fun x2 ex2 ox2 => ?_)
  unfold m_32 at ox2
  refine z_iand (M := M_X3_strike) 12 dX3_strike_12 ?_
  refine z_topm (fun x3 ex3 ox3 => ?_)
  unfold m_32 at ox3
  refine z_vI (M := M_X3_strike) 13 dX3_strike_13 t_X9_canBe l_X3_15 (m_rr_of rfl) (rest := []) (c_X9_canBe2 h0 L x3 r (fun j => r (10 + j)) (fun j => r (42 + j)) hL G0 hX.1 hX.2.1 hX.2.2.1 (hX.2.2.2 x3)) o_38 rfl rfl rfl (Nat.le_of_ble_eq_true rfl) ⟨rfl, rfl⟩ (fun x4 h1 qx4 => ?_)
  obtain ⟨G1, S1, ax4, bx4, fx4⟩ := qx4
  have c1_ := cF_eq (L := L) hX.1.1 hC ex1 ox1
  have f_ : x4 = 1 ↔ ¬ wgF r (sx (cF r) a2) := by unfold wgF gnP sx; rw [← c1_, ex2, ex3]; exact fx4.1
  have s2_ : h1 101 2 = h0 101 2 := S1 101 2 rfl
  have s3_ : h1 101 3 = h0 101 3 := S1 101 3 rfl
  have R1 := (FR.rf (cs := (csB ++ [39, 40, 41])) (ss := [(101, 2), (101, 3)]) (h := h0)).call S1 (by decide +kernel)
  refine z_if_eq (M := M_X3_strike) 16 dX3_strike_16 52 rfl (fun c5 => ?_) (fun c5 => ?_)
  · exact z_retV (M := M_X3_strike) 52 dX3_strike_52 rfl ⟨G1, R1, Or.inr ⟨Classical.byContradiction (fun z => absurd (f_.mpr z) (by omega)), s2_, s3_⟩⟩
  · refine z_aload_n (M := M_X3_strike) 19 dX3_strike_19 rfl ?_
    refine z_dup (M := M_X3_strike) 20 dX3_strike_20 rfl ?_
    refine z_getIV (M := M_X3_strike) 21 dX3_strike_21 f_X3_25 o_101 (by decide) (fun x6 ex6 => ?_)
    refine z_ok (fun ox6 _ _ => ?_)
    have ox6 := ox6.1; unfold m_ok m_32 at ox6
    refine z_iconst (M := M_X3_strike) 24 dX3_strike_24 ?_
    refine z_iaddN (M := M_X3_strike) 25 dX3_strike_25 (by omega) (by omega) ?_
    refine z_putIH (M := M_X3_strike) 26 dX3_strike_26 p_X3_25 o_101 rfl (u_101_2 G1) (R1.up rfl) (fun h2 E2 G2 R2 => ?_)
    refine z_aload_n (M := M_X3_strike) 29 dX3_strike_29 rfl ?_
    refine z_aload_n (M := M_X3_strike) 30 dX3_strike_30 rfl ?_
    refine z_getIV (M := M_X3_strike) 31 dX3_strike_31 f_X3_28 o_101 (by decide) (fun x8 ex8 => ?_)
    refine z_ok (fun ox8 _ _ => ?_)
    have ox8 := ox8.1; unfold m_ok m_32 at ox8
    have v8_ : h0 101 3 = x8 := s3_.symm.trans ((upN E2 (fun q => absurd q.2 (by decide))).symm.trans ex8)
    refine z_if_ne (M := M_X3_strike) 34 dX3_strike_34 41 rfl (fun c9 => ?_) (fun c9 => ?_)
    · refine z_aload_n (M := M_X3_strike) 41 dX3_strike_41 rfl ?_
      refine z_getIE (M := M_X3_strike) 42 dX3_strike_42 f_X3_28 o_101 (by decide) ex8 ?_
      refine z_iload_n (M := M_X3_strike) 45 dX3_strike_45 rfl ?_
      refine z_minI (M := M_X3_strike) 46 dX3_strike_46 ml_X3_52 (rest := [mR 101]) (Nat.le_of_ble_eq_true rfl) (Nat.le_of_ble_eq_true rfl) ?_
      refine z_topBI (lo := (-2147483648)) (hi := 2147483647) ⟨by split <;> omega, by split <;> omega⟩ (fun x10 ex10 ax10 bx10 => ?_)
      refine z_putIH (M := M_X3_strike) 49 dX3_strike_49 p_X3_28 o_101 rfl (u_101_3 G2) (R2.up rfl) (fun h3 E3 G3 R3 => ?_)
      exact z_retV (M := M_X3_strike) 52 dX3_strike_52 rfl ⟨G3, R3, Or.inl ⟨f_.mp (by omega), (upN E3 (fun q => absurd q.2 (by decide))).trans ((upE E2).trans (by omega)), (upE E3).trans (by rw [v8_, if_neg c9]; exact ex10.symm)⟩⟩
    · refine z_iload_n (M := M_X3_strike) 37 dX3_strike_37 rfl ?_
      refine z_goto (M := M_X3_strike) 38 dX3_strike_38 49 rfl ?_
      refine z_putIH (M := M_X3_strike) 49 dX3_strike_49 p_X3_28 o_101 rfl (u_101_3 G2) (R2.up rfl) (fun h4 E4 G4 R4 => ?_)
      exact z_retV (M := M_X3_strike) 52 dX3_strike_52 rfl ⟨G4, R4, Or.inl ⟨f_.mp (by omega), (upN E4 (fun q => absurd q.2 (by decide))).trans ((upE E2).trans (by omega)), (upE E4).trans (by rw [v8_, if_pos (by omega)])⟩⟩
theorem cLo_gn {gn : Int → Prop} {a : Int} (g : gn a) : ∀ n, gn (cLo gn a n)
  | 0 => g
  | n + 1 => by
    have i := cLo_gn g n
    show gn (cSt gn (cLo gn a n) n)
    unfold cSt
    by_cases c : bt (cLo gn a n) n = true ∧ gn (wo (cLo gn a n) n)
    · rw [cif_pos c]; exact c.2
    · rw [cif_neg c]; exact i
/-- a core: it gains, and so does all -/
def wgC (r : Nat → Int) (co : Int) : Prop := wgF r co ∧ sbB co (cF r) ∧ wgF r (cF r) ∧ RB r
theorem wgC_in {r : Nat → Int} {co m : Int} (C : wgC r co) (n : ¬ wgF r (sx (cF r) m)) : ∃ j : Nat, j < 32 ∧ bt co j = true ∧ bt m j = true := Classical.byContradiction fun z => n (gnP_mono C.2.2.2.2.1 (fun e he h => by
  rw [bt_sx he, C.2.1 e he h]
  cases q : bt m e with
  | false => rfl
  | true => exact absurd ⟨e, he, h, q⟩ z) C.1)
theorem sx_00 {a : Int} (h : m_32 a) : sx a 0 = a := bits_eq (m_32t _) h (fun j hj => by rw [bt_sx hj, show bt 0 j = false from bt_00 ⟨j, hj⟩]; cases bt a j <;> rfl)
theorem wgP_0 {r : Nat → Int} {a : Nat} : wgP (wgF r) (cF r) 0 a 0 ↔ ¬ wgF r (cF r) := by
  unfold wgP
  rw [show wgS 0 a 0 = 0 from rfl, sx_00 (a := cF r) (cS_32 _)]
  exact ⟨fun z => z.2, fun z => ⟨sx_0.mpr (fun j hj h => absurd ((bt_00 ⟨j, hj⟩).symm.trans h) (by decide)), z⟩⟩
theorem wgZ_0 {r : Nat → Int} (h : wgF r (cF r)) : wgZ r 0 = 0 := by
  show (0 : Int) + vwN (fun a => wgP (wgF r) (cF r) 0 a 0) (0 + 1) = 0
  rw [vwN_n (P := fun a => wgP (wgF r) (cF r) 0 a 0) (fun z => wgP_0.mp z h)]
  rfl
theorem wgO_0 {r : Nat → Int} (h : ¬ wgF r (cF r)) : wgO r 0 1 0 := by
  refine ⟨by decide, fun t ht => absurd ht (by omega), by decide, ?_⟩
  have z := wgI_a (P := wgP (wgF r) (cF r) 0) (S := wgS 0) (lim := wgM 0) (wgI_0 (P := wgP (wgF r) (cF r) 0) (S := wgS 0) (lim := wgM 0)) (wgP_0.mpr h) rfl
  exact wgI_r z rfl (by decide)
theorem wgP_1 {r : Nat → Int} {a b : Nat} (hb : b < 32) : wgP (wgF r) (cF r) 1 a b ↔ (bt (cF r) b = true ∧ ¬ wgF r (sx (cF r) (m_shl 1 (b : Int)))) := by
  unfold wgP
  rw [show wgS 1 a b = m_shl 1 (b : Int) from rfl, sx_0, sb_shl hb]
theorem wgP_2 {r : Nat → Int} {a b : Nat} (ha : a < 32) (hb : b < 32) : wgP (wgF r) (cF r) 2 a b ↔ ((bt (cF r) a = true ∧ bt (cF r) b = true) ∧ ¬ wgF r (sx (cF r) (wst a b))) := by
  unfold wgP
  rw [show wgS 2 a b = wst a b from rfl, sx_0, sb_wst ha hb]
/-! one struck -/
theorem tn_1 {l : Int} (h : 0 ≤ l) : (l + 1).toNat = l.toNat + 1 := by omega
theorem wj1_k {r : Nat → Int} {co l w x : Int} (C : wgC r co) (h0 : 0 ≤ l) (h1 : l ≤ 23) (n : ¬ m_and (m_shr co l) 1 = 1) (J : wgJ r 1 l.toNat 0 w x) : wgJ r 1 (l + 1).toNat 0 w x := by
  rw [tn_1 h0]
  refine wgI_r (wgI_n J (fun z => ?_)) rfl (by show (1 : Nat) ≤ 24; decide)
  obtain ⟨j, hj, a, b⟩ := wgC_in C ((wgP_1 (by omega)).mp z).2
  rw [bt_shl (by omega) hj, decide_eq_true_iff] at b
  rw [b] at a
  exact n ((ofw_b h0 (by omega)).mpr a)
theorem wj1_t {r : Nat → Int} {co l e : Int} {h h' : m_H} (C : wgC r co) (h0 : 0 ≤ l) (h1 : l ≤ 23) (y : m_and (m_shr co l) 1 = 1) (ee : m_shl 1 l = e) (T : wgT r e h h') (J : wgJ r 1 l.toNat 0 (h 101 2) (h 101 3)) : wgJ r 1 (l + 1).toNat 0 (h' 101 2) (h' 101 3) := by
  rw [tn_1 h0]
  have hl : m_shl 1 ((l.toNat : Nat) : Int) = e := by rw [show ((l.toNat : Nat) : Int) = l by omega]; exact ee
  have al := C.2.1 l.toNat (by omega) ((ofw_b h0 (by omega)).mp y)
  have ep : e = ((2 ^ l.toNat : Nat) : Int) := hl.symm.trans (shl_n ⟨l.toNat, by omega⟩)
  have p1 := Nat.two_pow_pos l.toNat
  refine wgI_r (a := 0 + 1) ?_ rfl (by show (1 : Nat) ≤ 24; decide)
  rcases T with ⟨t1, t2, t3⟩ | ⟨t1, t2, t3⟩
  · have P : wgP (wgF r) (cF r) 1 0 l.toNat := (wgP_1 (by omega)).mpr ⟨al, by rw [hl]; exact t1⟩
    by_cases g : h 101 2 = 0
    · have x0 : h 101 3 = 0 := by
        rcases J.2 with ⟨_, z, _⟩ | ⟨z, _⟩
        · exact z
        · omega
      rw [if_pos x0] at t3
      have z := wgI_a J P g
      rw [t2, t3, ← hl]
      exact z
    · have z := wgI_b J P g (fun a' b' hv => wgS_m (by omega) (by show (0 : Nat) < 1; decide) hv)
      rcases J.2 with ⟨q, _⟩ | ⟨_, a1, b1, u1, u2, u3, u4⟩
      · exact absurd q g
      · have hb : b1 ≤ l.toNat := by rcases u1 with ⟨q, _⟩ | ⟨q, _⟩ <;> omega
        have e1 : h 101 3 = ((2 ^ b1 : Nat) : Int) := u3.trans (shl_n ⟨b1, by omega⟩)
        have p2 := Nat.two_pow_pos b1
        have p3 := Nat.pow_le_pow_right (show 0 < 2 by decide) hb
        rw [if_neg (by omega), if_neg (by omega)] at t3
        rw [t2, t3]
        exact z
  · have n : ¬ wgP (wgF r) (cF r) 1 0 l.toNat := fun z => by
      have y := ((wgP_1 (by omega)).mp z).2
      rw [hl] at y
      exact y t1
    rw [t2, t3]
    exact wgI_n J n
/-! two struck: pairs in the class's order -/
def wgDD (r : Nat → Int) (co : Int) (a b : Nat) : Prop := (bt co a = true ∧ bt (cF r) b = true) ∧ ¬ (b = a ∨ (bt co b = true ∧ b < a)) ∧ ¬ wgF r (sx (cF r) (wst a b))
def wgD (r : Nat → Int) (co : Int) (p : Nat) : Prop := wgDD r co (p / 24) (p % 24)
def wgK (r : Nat → Int) (co l w x : Int) : Prop := w = vwN (wgD r co) l.toNat ∧ ((w = 0 ∧ x = 0 ∧ ∀ p : Nat, (p : Int) < l → ¬ wgD r co p) ∨ (0 < w ∧ ∃ p : Nat, (p : Int) < l ∧ wgD r co p ∧ x = wst (p / 24) (p % 24) ∧ ∀ q : Nat, (q : Int) < l → wgD r co q → wst (p / 24) (p % 24) ≤ wst (q / 24) (q % 24)))
theorem wgD_at {r : Nat → Int} {co l x4 x5 : Int} (h0 : 0 ≤ l) (e4 : l / 24 = x4) (e5 : l % 24 = x5) : l.toNat / 24 = x4.toNat ∧ l.toNat % 24 = x5.toNat ∧ (wgD r co l.toNat ↔ wgDD r co x4.toNat x5.toNat) := by
  have a : l.toNat / 24 = x4.toNat := by omega
  have b : l.toNat % 24 = x5.toNat := by omega
  refine ⟨a, b, ?_⟩
  unfold wgD
  rw [a, b]
theorem wgK_0 {r : Nat → Int} {co w x : Int} (a : w = 0) (b : x = 0) : wgK r co 0 w x := ⟨a, Or.inl ⟨a, b, fun p hp => by omega⟩⟩
theorem wgK_n {r : Nat → Int} {co l w x x4 x5 : Int} (I : wgK r co l w x) (h0 : 0 ≤ l) (e4 : l / 24 = x4) (e5 : l % 24 = x5) (n : ¬ wgDD r co x4.toNat x5.toNat) : wgK r co (l + 1) w x := by
  obtain ⟨i1, i2⟩ := I
  have nn : ¬ wgD r co l.toNat := fun z => n ((wgD_at h0 e4 e5).2.2.mp z)
  refine ⟨by rw [tn_1 h0, vwN_n nn]; exact i1, ?_⟩
  rcases i2 with ⟨u1, u2, u3⟩ | ⟨u1, p, u2, u3, u4, u5⟩
  · refine Or.inl ⟨u1, u2, fun p hp => ?_⟩
    by_cases g : p = l.toNat
    · rw [g]; exact nn
    · exact u3 p (by omega)
  · refine Or.inr ⟨u1, p, by omega, u3, u4, fun q hq D => ?_⟩
    by_cases g : q = l.toNat
    · rw [g] at D; exact absurd D nn
    · exact u5 q (by omega) D
theorem wst_p {a b : Nat} (ha : a < 24) (hb : b < 24) (n : a ≠ b) : 0 < wst a b := by
  have e : wst a b = ((2 ^ a + 2 ^ b : Nat) : Int) := wst_n ⟨a, ha⟩ ⟨b, hb⟩ n
  have := Nat.two_pow_pos a
  have := Nat.two_pow_pos b
  omega
theorem wgK_t {r : Nat → Int} {co l e x4 x5 x15 x16 : Int} {h h' : m_H} (I : wgK r co l (h 101 2) (h 101 3)) (h0 : 0 ≤ l) (h1 : l ≤ 575) (e4 : l / 24 = x4) (e5 : l % 24 = x5) (c : (bt co x4.toNat = true ∧ bt (cF r) x5.toNat = true) ∧ ¬ (x5.toNat = x4.toNat ∨ (bt co x5.toNat = true ∧ x5.toNat < x4.toNat))) (s1 : m_shl 1 x4 = x15) (s2 : m_shl 1 x5 = x16) (s3 : m_or x15 x16 = e) (T : wgT r e h h') : wgK r co (l + 1) (h' 101 2) (h' 101 3) := by
  obtain ⟨a4, a5, ad⟩ := wgD_at (r := r) (co := co) h0 e4 e5
  have ew : wst x4.toNat x5.toNat = e := by
    unfold wst
    rw [show ((x4.toNat : Nat) : Int) = x4 by omega, show ((x5.toNat : Nat) : Int) = x5 by omega, s1, s2, s3]
  rcases T with ⟨t1, t2, t3⟩ | ⟨t1, t2, t3⟩
  · have D : wgD r co l.toNat := ad.mpr ⟨c.1, c.2, by rw [ew]; exact t1⟩
    have ewl : wst (l.toNat / 24) (l.toNat % 24) = e := by rw [a4, a5]; exact ew
    obtain ⟨i1, i2⟩ := I
    refine ⟨by rw [tn_1 h0, vwN_y D, t2, i1], ?_⟩
    rcases i2 with ⟨u1, u2, u3⟩ | ⟨u1, p, u2, u3, u4, u5⟩
    · rw [if_pos u2] at t3
      refine Or.inr ⟨by omega, l.toNat, by omega, D, by rw [t3, ewl], fun q hq E => ?_⟩
      by_cases g : q = l.toNat
      · rw [g]; exact Int.le_refl _
      · exact absurd E (u3 q (by omega))
    · have pp := wst_p (a := p / 24) (b := p % 24) (by omega) (by omega) (fun z => u3.2.1 (Or.inl z.symm))
      rw [if_neg (by omega)] at t3
      by_cases g : e < h 101 3
      · rw [if_pos g] at t3
        refine Or.inr ⟨by omega, l.toNat, by omega, D, by rw [t3, ewl], fun q hq E => ?_⟩
        by_cases k : q = l.toNat
        · rw [k]; exact Int.le_refl _
        · have := u5 q (by omega) E
          rw [ewl]; omega
      · rw [if_neg g] at t3
        refine Or.inr ⟨by omega, p, by omega, u3, by rw [t3]; exact u4, fun q hq E => ?_⟩
        by_cases k : q = l.toNat
        · rw [k, ewl]; omega
        · exact u5 q (by omega) E
  · rw [t2, t3]
    exact wgK_n I h0 e4 e5 (fun z => z.2.2 (by rw [ew]; exact t1))
/-! the sums in another order -/
noncomputable def rwC (C : Nat → Nat → Prop) (n : Nat) : Nat → Int
  | 0 => 0
  | m + 1 => rwC C n m + vwN (fun b => C m b) n
theorem rwC_p {C : Nat → Nat → Prop} {m : Nat} : ∀ k : Nat, k ≤ 24 → vwN (fun p => C (p / 24) (p % 24)) (24 * m + k) = vwN (fun p => C (p / 24) (p % 24)) (24 * m) + vwN (fun b => C m b) k
  | 0, _ => (Int.add_zero _).symm
  | k + 1, h => by
    have i := rwC_p (C := C) (m := m) k (by omega)
    have e1 : (24 * m + k) / 24 = m := by omega
    have e2 : (24 * m + k) % 24 = k := by omega
    show vwN (fun p => C (p / 24) (p % 24)) (24 * m + k + 1) = _
    by_cases c : C m k
    · rw [vwN_y (P := fun p => C (p / 24) (p % 24)) (n := 24 * m + k) (by show C ((24 * m + k) / 24) ((24 * m + k) % 24); rw [e1, e2]; exact c), vwN_y (P := fun b => C m b) c, i]
      omega
    · rw [vwN_n (P := fun p => C (p / 24) (p % 24)) (n := 24 * m + k) (by show ¬ C ((24 * m + k) / 24) ((24 * m + k) % 24); rw [e1, e2]; exact c), vwN_n (P := fun b => C m b) c, i]
theorem rwC_a {C : Nat → Nat → Prop} : ∀ m : Nat, vwN (fun p => C (p / 24) (p % 24)) (24 * m) = rwC C 24 m
  | 0 => rfl
  | m + 1 => by
    have i := rwC_a (C := C) m
    have j := rwC_p (C := C) (m := m) 24 (by omega)
    rw [show 24 * (m + 1) = 24 * m + 24 by omega, j, i]
    rfl
theorem rwC_s {C : Nat → Nat → Prop} {n : Nat} : ∀ m : Nat, rwC C (n + 1) m = rwC C n m + vwN (fun a => C a n) m
  | 0 => rfl
  | m + 1 => by
    have i := rwC_s (C := C) (n := n) m
    show rwC C (n + 1) m + vwN (fun b => C m b) (n + 1) = rwC C n m + vwN (fun b => C m b) n + vwN (fun a => C a n) (m + 1)
    by_cases c : C m n
    · rw [vwN_y (P := fun b => C m b) c, vwN_y (P := fun a => C a n) c, i]; omega
    · rw [vwN_n (P := fun b => C m b) c, vwN_n (P := fun a => C a n) c, i]; omega
theorem vwN_or {P Q R : Nat → Prop} : ∀ n : Nat, (∀ a, a < n → (P a ↔ (Q a ∨ R a)) ∧ ¬ (Q a ∧ R a)) → vwN P n = vwN Q n + vwN R n
  | 0, _ => rfl
  | n + 1, h => by
    have i := vwN_or n (fun a ha => h a (by omega))
    obtain ⟨h1, h2⟩ := h n (by omega)
    by_cases q : Q n
    · have r : ¬ R n := fun z => h2 ⟨q, z⟩
      rw [vwN_y (h1.mpr (Or.inl q)), vwN_y q, vwN_n r, i]; omega
    · by_cases r : R n
      · rw [vwN_y (h1.mpr (Or.inr r)), vwN_n q, vwN_y r, i]; omega
      · rw [vwN_n (fun z => (h1.mp z).elim q r), vwN_n q, vwN_n r, i]
theorem rwC_q {P C : Nat → Nat → Prop} (d : ∀ a, ¬ C a a) (h : ∀ a b, a < b → b < 24 → (P a b ↔ (C a b ∨ C b a)) ∧ ¬ (C a b ∧ C b a)) : ∀ n : Nat, n ≤ 24 → rwC C n n = wgW P (wgM 2) n
  | 0, _ => rfl
  | n + 1, hn => by
    have i := rwC_q d h n (by omega)
    show rwC C (n + 1) n + vwN (fun b => C n b) (n + 1) = wgW P (wgM 2) n + vwN (fun a => P a n) n
    rw [rwC_s, vwN_n (P := fun b => C n b) (d n), i, vwN_or (P := fun a => P a n) (Q := fun a => C a n) (R := fun a => C n a) n (fun a ha => h a n ha (by omega))]
    omega
theorem wgDP {r : Nat → Int} {co : Int} (C : wgC r co) {a b : Nat} (hab : a < b) (hb : b < 24) : (wgP (wgF r) (cF r) 2 a b ↔ (wgDD r co a b ∨ wgDD r co b a)) ∧ ¬ (wgDD r co a b ∧ wgDD r co b a) := by
  rw [wgP_2 (by omega) (by omega)]
  refine ⟨⟨fun ⟨⟨h1, h2⟩, h3⟩ => ?_, fun h => ?_⟩, fun ⟨h1, h2⟩ => ?_⟩
  · obtain ⟨j, hj, x, y⟩ := wgC_in C h3
    unfold wst at y
    rw [bt_or2, bt_shl (by omega) hj, bt_shl (by omega) hj, Bool.or_eq_true, decide_eq_true_iff, decide_eq_true_iff] at y
    by_cases ca : bt co a = true
    · exact Or.inl ⟨⟨ca, h2⟩, fun z => by rcases z with z | ⟨_, z⟩ <;> omega, h3⟩
    · refine Or.inr ⟨⟨?_, h1⟩, fun z => ?_, by rw [wst_c]; exact h3⟩
      · rcases y with y | y
        · rw [y] at x; exact absurd x ca
        · rw [y] at x; exact x
      · rcases z with z | ⟨z, _⟩
        · omega
        · exact ca z
  · rcases h with ⟨⟨h1, h2⟩, _, h3⟩ | ⟨⟨h1, h2⟩, _, h3⟩
    · exact ⟨⟨C.2.1 a (by omega) h1, h2⟩, h3⟩
    · exact ⟨⟨h2, C.2.1 b (by omega) h1⟩, by rw [wst_c]; exact h3⟩
  · exact h2.2.1 (Or.inr ⟨h1.1.1, hab⟩)
theorem wgW_le {P : Nat → Nat → Prop} : ∀ n : Nat, n ≤ 24 → wgW P (wgM 2) n ≤ 24 * (n : Int)
  | 0, _ => by show (0 : Int) ≤ 24 * ((0 : Nat) : Int); omega
  | n + 1, h => by
    have i := wgW_le (P := P) n (by omega)
    have j := (vwN_b (P := fun a => P a n) n).2
    show wgW P (wgM 2) n + vwN (fun a => P a n) n ≤ _
    omega
theorem wgK_J {r : Nat → Int} {co l w x : Int} (C : wgC r co) (I : wgK r co l w x) (hl : l = 576) : wgJ r 2 (wgB 2) 0 w x := by
  subst hl
  obtain ⟨i1, i2⟩ := I
  have e : w = wgW (wgP (wgF r) (cF r) 2) (wgM 2) 24 := by
    have a := rwC_a (C := wgDD r co) 24
    have b := rwC_q (P := wgP (wgF r) (cF r) 2) (C := wgDD r co) (fun a z => z.2.1 (Or.inl rfl)) (fun a b => wgDP C) 24 (Nat.le_refl _)
    have a' : vwN (wgD r co) 576 = rwC (wgDD r co) 24 24 := a
    have i1' : w = vwN (wgD r co) 576 := i1
    rw [i1', a', b]
  have le := wgW_le (P := wgP (wgF r) (cF r) 2) 24 (Nat.le_refl _)
  have at1 : ∀ a b : Nat, a < b → b < 24 → wgP (wgF r) (cF r) 2 a b → ∃ q : Nat, (q : Int) < 576 ∧ wgD r co q ∧ wst (q / 24) (q % 24) = wst a b := fun a b hab hb P => by
    rcases (wgDP C hab hb).1.mp P with D | D
    · refine ⟨24 * a + b, by omega, ?_, ?_⟩
      · unfold wgD; rw [show (24 * a + b) / 24 = a by omega, show (24 * a + b) % 24 = b by omega]; exact D
      · rw [show (24 * a + b) / 24 = a by omega, show (24 * a + b) % 24 = b by omega]
    · refine ⟨24 * b + a, by omega, ?_, ?_⟩
      · unfold wgD; rw [show (24 * b + a) / 24 = b by omega, show (24 * b + a) % 24 = a by omega]; exact D
      · rw [show (24 * b + a) / 24 = b by omega, show (24 * b + a) % 24 = a by omega, wst_c]
  have vis : ∀ a' b' : Nat, wgV (wgM 2) 24 0 a' b' → a' < b' ∧ b' < 24 := fun a' b' hv => by
    rcases hv with ⟨q1, q2⟩ | ⟨_, q⟩
    · exact ⟨q2, q1⟩
    · omega
  refine ⟨⟨?_, ?_⟩, ?_⟩
  · show w = wgW (wgP (wgF r) (cF r) 2) (wgM 2) 24 + 0
    rw [Int.add_zero]; exact e
  · show w ≤ 24 * ((24 : Nat) : Int) + ((0 : Nat) : Int)
    omega
  · rcases i2 with ⟨u1, u2, u3⟩ | ⟨u1, p, u2, u3, u4, u5⟩
    · refine Or.inl ⟨u1, u2, fun a' b' hv P => ?_⟩
      obtain ⟨v1, v2⟩ := vis a' b' hv
      obtain ⟨q, q1, q2, _⟩ := at1 a' b' v1 v2 P
      exact u3 q q1 q2
    · have ne : p % 24 ≠ p / 24 := fun z => u3.2.1 (Or.inl z)
      have least : ∀ a' b', wgV (wgM 2) 24 0 a' b' → wgP (wgF r) (cF r) 2 a' b' → wst (p / 24) (p % 24) ≤ wst a' b' := fun a' b' hv P => by
        obtain ⟨v1, v2⟩ := vis a' b' hv
        obtain ⟨q, q1, q2, q3⟩ := at1 a' b' v1 v2 P
        rw [← q3]; exact u5 q q1 q2
      by_cases g : p / 24 < p % 24
      · exact Or.inr ⟨u1, p / 24, p % 24, Or.inl ⟨by show p % 24 < 24; omega, g⟩, (wgDP C g (by omega)).1.mpr (Or.inl u3), u4, least⟩
      · refine Or.inr ⟨u1, p % 24, p / 24, Or.inl ⟨by show p / 24 < 24; omega, by show p % 24 < p / 24; omega⟩, (wgDP C (by omega) (by omega)).1.mpr (Or.inr u3), by rw [u4, wst_c]; rfl, fun a' b' hv P => ?_⟩
        show wst (p % 24) (p / 24) ≤ wst a' b'
        rw [wst_c]
        exact least a' b' hv P
abbrev P_X3_search3 (h0 : m_H) (L : Nat) (r : Nat → Int) : Int → m_H → Prop := fun x h' => GI h' ∧ FR (csB ++ [39, 40, 41]) [(101, 1), (101, 2), (101, 3)] h0 h' ∧ 0 ≤ x ∧ x ≤ 1 ∧ ((x = 0 ∧ ∀ s, s < 3 → wgZ r s = 0) ∨ (x = 1 ∧ ∃ s : Nat, wgO r s (h' 101 2) (h' 101 3) ∧ h' 101 1 = (s : Int)))
def q_X3_search3 (h0 : m_H) (L : Nat) (r : Nat → Int) (n : Nat) : Prop := (∀ (l2 l3 : Int) (h : m_H), GI h → FR (csB ++ [39, 40, 41]) [(101, 1), (101, 2), (101, 3)] h0 h → 0 ≤ l3 → l3 ≤ 24 → (wgC r l2 ∧ h 101 1 = 1 ∧ wgJ r 1 l3.toNat 0 (h 101 2) (h 101 3)) → 2 * (24 - l3) + (1733) ≤ (n : Int) → m_Z oF M_X3_search 54 [some (mR 101), some (mR L), some (mI l2), some (mI l3), none, none, none] [] h (m_QI (P_X3_search3 h0 L r))) ∧ (∀ (l2 l3 : Int) (h : m_H), GI h → FR (csB ++ [39, 40, 41]) [(101, 1), (101, 2), (101, 3)] h0 h → 0 ≤ l3 → l3 ≤ 576 → (wgC r l2 ∧ wgZ r 1 = 0 ∧ h 101 1 = 2 ∧ wgK r l2 l3 (h 101 2) (h 101 3)) → 3 * (576 - l3) + (2) ≤ (n : Int) → m_Z oF M_X3_search 98 [some (mR 101), some (mR L), some (mI l2), some (mI l3), none, none, none] [] h (m_QI (P_X3_search3 h0 L r))) ∧ (∀ (l2 l3 : Int) (h : m_H), GI h → FR (csB ++ [39, 40, 41]) [(101, 1), (101, 2), (101, 3)] h0 h → 0 ≤ l3 → l3 ≤ 575 → (wgC r l2 ∧ wgZ r 1 = 0 ∧ h 101 1 = 2 ∧ wgK r l2 (l3 + 1) (h 101 2) (h 101 3)) → 3 * (576 - l3) + (1) ≤ (n : Int) → m_Z oF M_X3_search 184 [some (mR 101), some (mR L), some (mI l2), some (mI l3), none, none, none] [] h (m_QI (P_X3_search3 h0 L r)))
set_option maxHeartbeats 4000000 in
set_option maxRecDepth 100000 in
theorem s_X3_search3_54 (h0 : m_H) (L : Nat) (r : Nat → Int) (hL : isL L) (G0 : GI h0) (hX : KX L r (fun j => r (10 + j)) (fun j => r (42 + j)) h0) (hC : CB (h0 L 8) r) (n : Nat) (ih : q_X3_search3 h0 L r n) : ∀ (l2 l3 : Int) (h : m_H), GI h → FR (csB ++ [39, 40, 41]) [(101, 1), (101, 2), (101, 3)] h0 h → 0 ≤ l3 → l3 ≤ 24 → (wgC r l2 ∧ h 101 1 = 1 ∧ wgJ r 1 l3.toNat 0 (h 101 2) (h 101 3)) → 2 * (24 - l3) + (1733) ≤ ((n + 1 : Nat) : Int) → m_Z oF M_X3_search 54 [some (mR 101), some (mR L), some (mI l2), some (mI l3), none, none, none] [] h (m_QI (P_X3_search3 h0 L r)) := by
  intro l2 l3 h G R v0 v1 i1 hr
  have l_ := wgled hL R (by decide)
  have kx_ := hX.same l_
  have cb_ : CB (h L 8) r := (by have z := l_ 0 (by decide); rw [Nat.add_zero] at z; rw [z]; exact hC)
  have wb_ : 0 ≤ h 101 2 ∧ h 101 2 ≤ 1000 := (by have z := i1.2.2.1; have y := wgW_0 (P := wgP (wgF r) (cF r) 1) (lim := wgM 1) l3.toNat; have v := (vwN_b (P := fun a' => wgP (wgF r) (cF r) 1 a' l3.toNat) 0).1; omega)
  refine z_ok (fun ostk _ olocs => ?_)
  have ol2 : m_32 l2 := olocs 2 _ rfl
  unfold m_32 at ol2
  refine z_iload_n (M := M_X3_search) 54 dX3_search_54 rfl ?_
  refine z_bipush (M := M_X3_search) 55 dX3_search_55 ?_
  refine z_icmp_ge (M := M_X3_search) 57 dX3_search_57 82 rfl (fun c1 => ?_) (fun c1 => ?_)
  · refine z_aload_n (M := M_X3_search) 82 dX3_search_82 rfl ?_
    refine z_getIV (M := M_X3_search) 83 dX3_search_83 f_X3_25 o_101 (by decide) (fun x2 ex2 => ?_)
    refine z_ok (fun ox2 _ _ => ?_)
    have ox2 := ox2.1; unfold m_ok m_32 at ox2
    refine z_if_le (M := M_X3_search) 86 dX3_search_86 91 rfl (fun c3 => ?_) (fun c3 => ?_)
    · refine z_aload_n (M := M_X3_search) 91 dX3_search_91 rfl ?_
      refine z_iconst (M := M_X3_search) 92 dX3_search_92 ?_
      refine z_putIH (M := M_X3_search) 93 dX3_search_93 p_X3_21 o_101 rfl (u_101_1 G) (R.up rfl) (fun h1 E1 G1 R1 => ?_)
      refine z_iconst (M := M_X3_search) 96 dX3_search_96 ?_
      refine z_istore_n (M := M_X3_search) 97 dX3_search_97 (ls' := [some (mR 101), some (mR L), some (mI l2), some (mI 0), none, none, none]) (by decide) rfl ?_
      exact z_mask [true, true, true, true, false, false, false] rfl (ih.2.1 l2 0 h1 G1 R1 (by omega) (by omega) ⟨i1.1, (by have z := wgJ_w (show wgJ r 1 (wgB 1) 0 (h 101 2) (h 101 3) from (by have y := i1.2.2; rw [show l3.toNat = 24 by omega] at y; exact y)); omega), upE E1, wgK_0 ((upN E1 (fun q => absurd q.2 (by decide))).trans (by omega)) ((upN E1 (fun q => absurd q.2 (by decide))).trans (by rcases i1.2.2.2 with ⟨_, z, _⟩ | ⟨z, _⟩; exact z; omega))⟩ (by omega))
    · refine z_iconst (M := M_X3_search) 89 dX3_search_89 ?_
      exact z_retZ (M := M_X3_search) 90 dX3_search_90 rfl (by omega) ⟨G, R, by omega, by omega, Or.inr ⟨rfl, 1, ⟨by decide, fun t ht => by rw [show t = 0 by omega]; exact wgZ_0 i1.1.2.2.1, by omega, (show wgJ r 1 (wgB 1) 0 (h 101 2) (h 101 3) from (by have y := i1.2.2; rw [show l3.toNat = 24 by omega] at y; exact y))⟩, i1.2.1⟩⟩
  · refine z_iload_n (M := M_X3_search) 60 dX3_search_60 rfl ?_
    refine z_iload_n (M := M_X3_search) 61 dX3_search_61 rfl ?_
    refine z_nI (M := M_X3_search) 62 dX3_search_62 t_X11_hasBit l_X3_40 (m_rr_of rfl) (rest := []) (c_X11_hasBit h l2 l3 G) rfl rfl (Nat.le_of_ble_eq_true rfl) ⟨rfl, rfl⟩ (fun x4 h2 qx4 => ?_)
    obtain ⟨rfl, ⟨rfl, cx4⟩ | ⟨rfl, cx4⟩⟩ := qx4
    · refine z_if_eq_F (M := M_X3_search) 65 dX3_search_65 76 rfl (by omega) ?_
      refine z_aload_n (M := M_X3_search) 68 dX3_search_68 rfl ?_
      refine z_aload_n (M := M_X3_search) 69 dX3_search_69 rfl ?_
      refine z_iconst (M := M_X3_search) 70 dX3_search_70 ?_
      refine z_iload_n (M := M_X3_search) 71 dX3_search_71 rfl ?_
      refine z_ishl (M := M_X3_search) 72 dX3_search_72 ?_
      refine z_topm (fun x5 ex5 ox5 => ?_)
      unfold m_32 at ox5
      refine z_vV (M := M_X3_search) 73 dX3_search_73 t_X3_strike l_X3_44 (m_rr_of rfl) (rest := []) (c_X3_strike3 h L x5 r hL G kx_ cb_ wb_) o_101 rfl rfl rfl (Nat.le_of_ble_eq_true rfl) ⟨rfl, rfl⟩ (fun h3 qx6 => ?_)
      obtain ⟨G3, S3, T3⟩ := qx6
      have R3 := R.call S3 (by decide +kernel)
      refine z_iincN (M := M_X3_search) 76 dX3_search_76 (ls' := [some (mR 101), some (mR L), some (mI l2), some (mI (l3 + 1)), none, none, none]) (by decide) rfl (by (unfold m_32; decide)) (by omega) (by omega) rfl ?_
      refine z_goto (M := M_X3_search) 79 dX3_search_79 54 rfl ?_
      exact z_mask [true, true, true, true, false, false, false] rfl (ih.1 l2 (l3 + 1) h3 G3 R3 (by omega) (by omega) ⟨i1.1, (S3 101 1 rfl).trans i1.2.1, wj1_t i1.1 (by omega) (by omega) cx4 ex5 T3 i1.2.2⟩ (by omega))
    · refine z_if_eq_T (M := M_X3_search) 65 dX3_search_65 76 rfl (by omega) ?_
      refine z_iincN (M := M_X3_search) 76 dX3_search_76 (ls' := [some (mR 101), some (mR L), some (mI l2), some (mI (l3 + 1)), none, none, none]) (by decide) rfl (by (unfold m_32; decide)) (by omega) (by omega) rfl ?_
      refine z_goto (M := M_X3_search) 79 dX3_search_79 54 rfl ?_
      exact z_mask [true, true, true, true, false, false, false] rfl (ih.1 l2 (l3 + 1) h G R (by omega) (by omega) ⟨i1.1, i1.2.1, wj1_k i1.1 (by omega) (by omega) cx4 i1.2.2⟩ (by omega))
set_option maxHeartbeats 4000000 in
set_option maxRecDepth 100000 in
theorem s_X3_search3_98 (h0 : m_H) (L : Nat) (r : Nat → Int) (hL : isL L) (G0 : GI h0) (hX : KX L r (fun j => r (10 + j)) (fun j => r (42 + j)) h0) (hC : CB (h0 L 8) r) (n : Nat) (ih : q_X3_search3 h0 L r n) : ∀ (l2 l3 : Int) (h : m_H), GI h → FR (csB ++ [39, 40, 41]) [(101, 1), (101, 2), (101, 3)] h0 h → 0 ≤ l3 → l3 ≤ 576 → (wgC r l2 ∧ wgZ r 1 = 0 ∧ h 101 1 = 2 ∧ wgK r l2 l3 (h 101 2) (h 101 3)) → 3 * (576 - l3) + (2) ≤ ((n + 1 : Nat) : Int) → m_Z oF M_X3_search 98 [some (mR 101), some (mR L), some (mI l2), some (mI l3), none, none, none] [] h (m_QI (P_X3_search3 h0 L r)) := by
  intro l2 l3 h G R v0 v1 i1 hr
  have l_ := wgled hL R (by decide)
  have kx_ := hX.same l_
  have cb_ : CB (h L 8) r := (by have z := l_ 0 (by decide); rw [Nat.add_zero] at z; rw [z]; exact hC)
  have wb_ : 0 ≤ h 101 2 ∧ h 101 2 ≤ 1000 := (by have z := i1.2.2.2.1; have v := vwN_b (P := wgD r l2) l3.toNat; omega)
  refine z_ok (fun ostk _ olocs => ?_)
  have ol2 : m_32 l2 := olocs 2 _ rfl
  unfold m_32 at ol2
  refine z_iload_n (M := M_X3_search) 98 dX3_search_98 rfl ?_
  refine z_sipush (M := M_X3_search) 99 dX3_search_99 ?_
  refine z_icmp_ge (M := M_X3_search) 102 dX3_search_102 190 rfl (fun c1 => ?_) (fun c1 => ?_)
  · refine z_aload_n (M := M_X3_search) 190 dX3_search_190 rfl ?_
    refine z_getIV (M := M_X3_search) 191 dX3_search_191 f_X3_25 o_101 (by decide) (fun x2 ex2 => ?_)
    refine z_ok (fun ox2 _ _ => ?_)
    have ox2 := ox2.1; unfold m_ok m_32 at ox2
    refine z_if_le (M := M_X3_search) 194 dX3_search_194 201 rfl (fun c3 => ?_) (fun c3 => ?_)
    · refine z_iconst (M := M_X3_search) 201 dX3_search_201 ?_
      exact z_retZ (M := M_X3_search) 202 dX3_search_202 rfl (by omega) ⟨G, R, by omega, by omega, Or.inl ⟨rfl, fun s hs => by have q : s = 0 ∨ s = 1 ∨ s = 2 := (by omega); rcases q with rfl | rfl | rfl; exact wgZ_0 i1.1.2.2.1; exact i1.2.1; have z := wgJ_w (wgK_J i1.1 i1.2.2.2 (by omega)); have y := wb_.1; omega⟩⟩
    · refine z_iconst (M := M_X3_search) 197 dX3_search_197 ?_
      refine z_goto (M := M_X3_search) 198 dX3_search_198 202 rfl ?_
      exact z_retZ (M := M_X3_search) 202 dX3_search_202 rfl (by omega) ⟨G, R, by omega, by omega, Or.inr ⟨rfl, 2, ⟨by decide, fun t ht => by have q : t = 0 ∨ t = 1 := (by omega); rcases q with rfl | rfl; exact wgZ_0 i1.1.2.2.1; exact i1.2.1, by omega, (wgK_J i1.1 i1.2.2.2 (by omega))⟩, i1.2.2.1⟩⟩
  · refine z_iload_n (M := M_X3_search) 105 dX3_search_105 rfl ?_
    refine z_bipush (M := M_X3_search) 106 dX3_search_106 ?_
    refine z_idivN (M := M_X3_search) 108 dX3_search_108 (by omega) (by omega) ?_
    refine z_topBI (lo := 0) (hi := 23) ⟨by omega, by omega⟩ (fun x4 ex4 ax4 bx4 => ?_)
    refine z_istore (M := M_X3_search) 109 dX3_search_109 (ls' := [some (mR 101), some (mR L), some (mI l2), some (mI l3), some (mI x4), none, none]) (by decide) rfl ?_
    refine z_iload_n (M := M_X3_search) 111 dX3_search_111 rfl ?_
    refine z_bipush (M := M_X3_search) 112 dX3_search_112 ?_
    refine z_iremN (M := M_X3_search) 114 dX3_search_114 (by omega) (by omega) ?_
    refine z_topBI (lo := 0) (hi := 23) ⟨by omega, by omega⟩ (fun x5 ex5 ax5 bx5 => ?_)
    refine z_istore (M := M_X3_search) 115 dX3_search_115 (ls' := [some (mR 101), some (mR L), some (mI l2), some (mI l3), some (mI x4), some (mI x5), none]) (by decide) rfl ?_
    refine z_iload (M := M_X3_search) 117 dX3_search_117 rfl ?_
    refine z_iload (M := M_X3_search) 119 dX3_search_119 rfl ?_
    refine z_icmp_eq (M := M_X3_search) 121 dX3_search_121 140 rfl (fun c6 => ?_) (fun c6 => ?_)
    · refine z_iconst (M := M_X3_search) 140 dX3_search_140 ?_
      refine z_goto (M := M_X3_search) 141 dX3_search_141 145 rfl ?_
      refine z_istore (M := M_X3_search) 145 dX3_search_145 (ls' := [some (mR 101), some (mR L), some (mI l2), some (mI l3), some (mI x4), some (mI x5), some (mI 1)]) (by decide) rfl ?_
      refine z_iload_n (M := M_X3_search) 147 dX3_search_147 rfl ?_
      refine z_iload (M := M_X3_search) 148 dX3_search_148 rfl ?_
      refine z_nI (M := M_X3_search) 150 dX3_search_150 t_X11_hasBit l_X3_40 (m_rr_of rfl) (rest := []) (c_X11_hasBit h l2 x4 G) rfl rfl (Nat.le_of_ble_eq_true rfl) ⟨rfl, rfl⟩ (fun x7 h1 qx7 => ?_)
      obtain ⟨rfl, ⟨rfl, cx7⟩ | ⟨rfl, cx7⟩⟩ := qx7
      · refine z_if_eq_F (M := M_X3_search) 153 dX3_search_153 184 rfl (by omega) ?_
        refine z_aload_n (M := M_X3_search) 156 dX3_search_156 rfl ?_
        refine z_iload (M := M_X3_search) 157 dX3_search_157 rfl ?_
        refine z_vI (M := M_X3_search) 159 dX3_search_159 t_X4_isCounting l_X3_48 (m_rr_of rfl) (rest := []) (c_X4_isCounting2 h L x5 hL G) (oL hL) rfl rfl rfl (Nat.le_of_ble_eq_true rfl) ⟨rfl, rfl⟩ (fun x8 h2 qx8 => ?_)
        obtain ⟨G2, S2, ax8, bx8, fx8⟩ := qx8
        have R2 := R.call S2 (by decide +kernel)
        refine z_if_eq (M := M_X3_search) 162 dX3_search_162 184 rfl (fun c9 => ?_) (fun c9 => ?_)
        · exact z_mask [true, true, true, true, false, false, false] rfl (ih.2.2 l2 l3 h2 G2 R2 (by omega) (by omega) ⟨i1.1, i1.2.1, (by rw [frE S2]; exact i1.2.2.1), wgK_n (show wgK r l2 l3 _ _ by rw [frE S2]; exact i1.2.2.2) (by omega) ex4 ex5 (fun z => z.2.1 (Or.inl (by omega)))⟩ (by omega))
        · refine z_iload (M := M_X3_search) 165 dX3_search_165 rfl ?_
          refine z_if_ne_T (M := M_X3_search) 167 dX3_search_167 184 rfl (by omega) ?_
          exact z_mask [true, true, true, true, false, false, false] rfl (ih.2.2 l2 l3 h2 G2 R2 (by omega) (by omega) ⟨i1.1, i1.2.1, (by rw [frE S2]; exact i1.2.2.1), wgK_n (show wgK r l2 l3 _ _ by rw [frE S2]; exact i1.2.2.2) (by omega) ex4 ex5 (fun z => z.2.1 (Or.inl (by omega)))⟩ (by omega))
      · refine z_if_eq_T (M := M_X3_search) 153 dX3_search_153 184 rfl (by omega) ?_
        exact z_mask [true, true, true, true, false, false, false] rfl (ih.2.2 l2 l3 h G R (by omega) (by omega) ⟨i1.1, i1.2.1, i1.2.2.1, wgK_n i1.2.2.2 (by omega) ex4 ex5 (fun z => cx7 ((ofw_b (by omega) (by omega)).mpr z.1.1))⟩ (by omega))
    · refine z_iload_n (M := M_X3_search) 124 dX3_search_124 rfl ?_
      refine z_iload (M := M_X3_search) 125 dX3_search_125 rfl ?_
      refine z_nI (M := M_X3_search) 127 dX3_search_127 t_X11_hasBit l_X3_40 (m_rr_of rfl) (rest := []) (c_X11_hasBit h l2 x5 G) rfl rfl (Nat.le_of_ble_eq_true rfl) ⟨rfl, rfl⟩ (fun x10 h3 qx10 => ?_)
      obtain ⟨rfl, ⟨rfl, cx10⟩ | ⟨rfl, cx10⟩⟩ := qx10
      · refine z_if_eq_F (M := M_X3_search) 130 dX3_search_130 144 rfl (by omega) ?_
        refine z_iload (M := M_X3_search) 133 dX3_search_133 rfl ?_
        refine z_iload (M := M_X3_search) 135 dX3_search_135 rfl ?_
        refine z_icmp_ge (M := M_X3_search) 137 dX3_search_137 144 rfl (fun c11 => ?_) (fun c11 => ?_)
        · refine z_iconst (M := M_X3_search) 144 dX3_search_144 ?_
          refine z_istore (M := M_X3_search) 145 dX3_search_145 (ls' := [some (mR 101), some (mR L), some (mI l2), some (mI l3), some (mI x4), some (mI x5), some (mI 0)]) (by decide) rfl ?_
          refine z_iload_n (M := M_X3_search) 147 dX3_search_147 rfl ?_
          refine z_iload (M := M_X3_search) 148 dX3_search_148 rfl ?_
          refine z_nI (M := M_X3_search) 150 dX3_search_150 t_X11_hasBit l_X3_40 (m_rr_of rfl) (rest := []) (c_X11_hasBit h l2 x4 G) rfl rfl (Nat.le_of_ble_eq_true rfl) ⟨rfl, rfl⟩ (fun x12 h4 qx12 => ?_)
          obtain ⟨rfl, ⟨rfl, cx12⟩ | ⟨rfl, cx12⟩⟩ := qx12
          · refine z_if_eq_F (M := M_X3_search) 153 dX3_search_153 184 rfl (by omega) ?_
            refine z_aload_n (M := M_X3_search) 156 dX3_search_156 rfl ?_
            refine z_iload (M := M_X3_search) 157 dX3_search_157 rfl ?_
            refine z_vI (M := M_X3_search) 159 dX3_search_159 t_X4_isCounting l_X3_48 (m_rr_of rfl) (rest := []) (c_X4_isCounting2 h L x5 hL G) (oL hL) rfl rfl rfl (Nat.le_of_ble_eq_true rfl) ⟨rfl, rfl⟩ (fun x13 h5 qx13 => ?_)
            obtain ⟨G5, S5, ax13, bx13, fx13⟩ := qx13
            have R5 := R.call S5 (by decide +kernel)
            refine z_if_eq (M := M_X3_search) 162 dX3_search_162 184 rfl (fun c14 => ?_) (fun c14 => ?_)
            · exact z_mask [true, true, true, true, false, false, false] rfl (ih.2.2 l2 l3 h5 G5 R5 (by omega) (by omega) ⟨i1.1, i1.2.1, (by rw [frE S5]; exact i1.2.2.1), wgK_n (show wgK r l2 l3 _ _ by rw [frE S5]; exact i1.2.2.2) (by omega) ex4 ex5 (fun z => absurd (fx13.mpr (((ofw_b (c := h L 8) (by omega) (by omega)).trans (cb_bt kx_.1.1 cb_ (by omega))).mpr z.1.2)) (by omega))⟩ (by omega))
            · refine z_iload (M := M_X3_search) 165 dX3_search_165 rfl ?_
              refine z_if_ne_F (M := M_X3_search) 167 dX3_search_167 184 rfl (by omega) ?_
              refine z_aload_n (M := M_X3_search) 170 dX3_search_170 rfl ?_
              refine z_aload_n (M := M_X3_search) 171 dX3_search_171 rfl ?_
              refine z_iconst (M := M_X3_search) 172 dX3_search_172 ?_
              refine z_iload (M := M_X3_search) 173 dX3_search_173 rfl ?_
              refine z_ishl (M := M_X3_search) 175 dX3_search_175 ?_
              refine z_topm (fun x15 ex15 ox15 => ?_)
              unfold m_32 at ox15
              refine z_iconst (M := M_X3_search) 176 dX3_search_176 ?_
              refine z_iload (M := M_X3_search) 177 dX3_search_177 rfl ?_
              refine z_ishl (M := M_X3_search) 179 dX3_search_179 ?_
              refine z_topm (fun x16 ex16 ox16 => ?_)
              unfold m_32 at ox16
              refine z_ior (M := M_X3_search) 180 dX3_search_180 ?_
              refine z_topm (fun x17 ex17 ox17 => ?_)
              unfold m_32 at ox17
              refine z_vV (M := M_X3_search) 181 dX3_search_181 t_X3_strike l_X3_44 (m_rr_of rfl) (rest := []) (c_X3_strike3 h5 L x17 r hL G5 (by rw [frE S5]; exact kx_) (by rw [frE S5]; exact cb_) (by rw [frE S5]; exact wb_)) o_101 rfl rfl rfl (Nat.le_of_ble_eq_true rfl) ⟨rfl, rfl⟩ (fun h6 qx18 => ?_)
              obtain ⟨G6, S6, T6⟩ := qx18
              have o1_ : h6 101 1 = 2 := (S6 101 1 rfl).trans (by rw [frE S5]; exact i1.2.2.1)
              rw [frE S5] at T6
              have R6 := R5.call S6 (by decide +kernel)
              exact z_mask [true, true, true, true, false, false, false] rfl (ih.2.2 l2 l3 h6 G6 R6 (by omega) (by omega) ⟨i1.1, i1.2.1, o1_, wgK_t i1.2.2.2 (by omega) (by omega) ex4 ex5 ⟨⟨(ofw_b (by omega) (by omega)).mp cx12, ((ofw_b (c := h L 8) (by omega) (by omega)).trans (cb_bt kx_.1.1 cb_ (by omega))).mp (fx13.mp (by omega))⟩, fun z => z.elim (fun y => absurd y (by omega)) (fun y => absurd y.2 (by omega))⟩ ex15 ex16 ex17 T6⟩ (by omega))
          · refine z_if_eq_T (M := M_X3_search) 153 dX3_search_153 184 rfl (by omega) ?_
            exact z_mask [true, true, true, true, false, false, false] rfl (ih.2.2 l2 l3 h G R (by omega) (by omega) ⟨i1.1, i1.2.1, i1.2.2.1, wgK_n i1.2.2.2 (by omega) ex4 ex5 (fun z => cx12 ((ofw_b (by omega) (by omega)).mpr z.1.1))⟩ (by omega))
        · refine z_iconst (M := M_X3_search) 140 dX3_search_140 ?_
          refine z_goto (M := M_X3_search) 141 dX3_search_141 145 rfl ?_
          refine z_istore (M := M_X3_search) 145 dX3_search_145 (ls' := [some (mR 101), some (mR L), some (mI l2), some (mI l3), some (mI x4), some (mI x5), some (mI 1)]) (by decide) rfl ?_
          refine z_iload_n (M := M_X3_search) 147 dX3_search_147 rfl ?_
          refine z_iload (M := M_X3_search) 148 dX3_search_148 rfl ?_
          refine z_nI (M := M_X3_search) 150 dX3_search_150 t_X11_hasBit l_X3_40 (m_rr_of rfl) (rest := []) (c_X11_hasBit h l2 x4 G) rfl rfl (Nat.le_of_ble_eq_true rfl) ⟨rfl, rfl⟩ (fun x19 h7 qx19 => ?_)
          obtain ⟨rfl, ⟨rfl, cx19⟩ | ⟨rfl, cx19⟩⟩ := qx19
          · refine z_if_eq_F (M := M_X3_search) 153 dX3_search_153 184 rfl (by omega) ?_
            refine z_aload_n (M := M_X3_search) 156 dX3_search_156 rfl ?_
            refine z_iload (M := M_X3_search) 157 dX3_search_157 rfl ?_
            refine z_vI (M := M_X3_search) 159 dX3_search_159 t_X4_isCounting l_X3_48 (m_rr_of rfl) (rest := []) (c_X4_isCounting2 h L x5 hL G) (oL hL) rfl rfl rfl (Nat.le_of_ble_eq_true rfl) ⟨rfl, rfl⟩ (fun x20 h8 qx20 => ?_)
            obtain ⟨G8, S8, ax20, bx20, fx20⟩ := qx20
            have R8 := R.call S8 (by decide +kernel)
            refine z_if_eq (M := M_X3_search) 162 dX3_search_162 184 rfl (fun c21 => ?_) (fun c21 => ?_)
            · exact z_mask [true, true, true, true, false, false, false] rfl (ih.2.2 l2 l3 h8 G8 R8 (by omega) (by omega) ⟨i1.1, i1.2.1, (by rw [frE S8]; exact i1.2.2.1), wgK_n (show wgK r l2 l3 _ _ by rw [frE S8]; exact i1.2.2.2) (by omega) ex4 ex5 (fun z => z.2.1 (Or.inr ⟨(ofw_b (by omega) (by omega)).mp cx10, by omega⟩))⟩ (by omega))
            · refine z_iload (M := M_X3_search) 165 dX3_search_165 rfl ?_
              refine z_if_ne_T (M := M_X3_search) 167 dX3_search_167 184 rfl (by omega) ?_
              exact z_mask [true, true, true, true, false, false, false] rfl (ih.2.2 l2 l3 h8 G8 R8 (by omega) (by omega) ⟨i1.1, i1.2.1, (by rw [frE S8]; exact i1.2.2.1), wgK_n (show wgK r l2 l3 _ _ by rw [frE S8]; exact i1.2.2.2) (by omega) ex4 ex5 (fun z => z.2.1 (Or.inr ⟨(ofw_b (by omega) (by omega)).mp cx10, by omega⟩))⟩ (by omega))
          · refine z_if_eq_T (M := M_X3_search) 153 dX3_search_153 184 rfl (by omega) ?_
            exact z_mask [true, true, true, true, false, false, false] rfl (ih.2.2 l2 l3 h G R (by omega) (by omega) ⟨i1.1, i1.2.1, i1.2.2.1, wgK_n i1.2.2.2 (by omega) ex4 ex5 (fun z => cx19 ((ofw_b (by omega) (by omega)).mpr z.1.1))⟩ (by omega))
      · refine z_if_eq_T (M := M_X3_search) 130 dX3_search_130 144 rfl (by omega) ?_
        refine z_iconst (M := M_X3_search) 144 dX3_search_144 ?_
        refine z_istore (M := M_X3_search) 145 dX3_search_145 (ls' := [some (mR 101), some (mR L), some (mI l2), some (mI l3), some (mI x4), some (mI x5), some (mI 0)]) (by decide) rfl ?_
        refine z_iload_n (M := M_X3_search) 147 dX3_search_147 rfl ?_
        refine z_iload (M := M_X3_search) 148 dX3_search_148 rfl ?_
        refine z_nI (M := M_X3_search) 150 dX3_search_150 t_X11_hasBit l_X3_40 (m_rr_of rfl) (rest := []) (c_X11_hasBit h l2 x4 G) rfl rfl (Nat.le_of_ble_eq_true rfl) ⟨rfl, rfl⟩ (fun x22 h9 qx22 => ?_)
        obtain ⟨rfl, ⟨rfl, cx22⟩ | ⟨rfl, cx22⟩⟩ := qx22
        · refine z_if_eq_F (M := M_X3_search) 153 dX3_search_153 184 rfl (by omega) ?_
          refine z_aload_n (M := M_X3_search) 156 dX3_search_156 rfl ?_
          refine z_iload (M := M_X3_search) 157 dX3_search_157 rfl ?_
          refine z_vI (M := M_X3_search) 159 dX3_search_159 t_X4_isCounting l_X3_48 (m_rr_of rfl) (rest := []) (c_X4_isCounting2 h L x5 hL G) (oL hL) rfl rfl rfl (Nat.le_of_ble_eq_true rfl) ⟨rfl, rfl⟩ (fun x23 h10 qx23 => ?_)
          obtain ⟨G10, S10, ax23, bx23, fx23⟩ := qx23
          have R10 := R.call S10 (by decide +kernel)
          refine z_if_eq (M := M_X3_search) 162 dX3_search_162 184 rfl (fun c24 => ?_) (fun c24 => ?_)
          · exact z_mask [true, true, true, true, false, false, false] rfl (ih.2.2 l2 l3 h10 G10 R10 (by omega) (by omega) ⟨i1.1, i1.2.1, (by rw [frE S10]; exact i1.2.2.1), wgK_n (show wgK r l2 l3 _ _ by rw [frE S10]; exact i1.2.2.2) (by omega) ex4 ex5 (fun z => absurd (fx23.mpr (((ofw_b (c := h L 8) (by omega) (by omega)).trans (cb_bt kx_.1.1 cb_ (by omega))).mpr z.1.2)) (by omega))⟩ (by omega))
          · refine z_iload (M := M_X3_search) 165 dX3_search_165 rfl ?_
            refine z_if_ne_F (M := M_X3_search) 167 dX3_search_167 184 rfl (by omega) ?_
            refine z_aload_n (M := M_X3_search) 170 dX3_search_170 rfl ?_
            refine z_aload_n (M := M_X3_search) 171 dX3_search_171 rfl ?_
            refine z_iconst (M := M_X3_search) 172 dX3_search_172 ?_
            refine z_iload (M := M_X3_search) 173 dX3_search_173 rfl ?_
            refine z_ishl (M := M_X3_search) 175 dX3_search_175 ?_
            refine z_topm (fun x25 ex25 ox25 => ?_)
            unfold m_32 at ox25
            refine z_iconst (M := M_X3_search) 176 dX3_search_176 ?_
            refine z_iload (M := M_X3_search) 177 dX3_search_177 rfl ?_
            refine z_ishl (M := M_X3_search) 179 dX3_search_179 ?_
            refine z_topm (fun x26 ex26 ox26 => ?_)
            unfold m_32 at ox26
            refine z_ior (M := M_X3_search) 180 dX3_search_180 ?_
            refine z_topm (fun x27 ex27 ox27 => ?_)
            unfold m_32 at ox27
            refine z_vV (M := M_X3_search) 181 dX3_search_181 t_X3_strike l_X3_44 (m_rr_of rfl) (rest := []) (c_X3_strike3 h10 L x27 r hL G10 (by rw [frE S10]; exact kx_) (by rw [frE S10]; exact cb_) (by rw [frE S10]; exact wb_)) o_101 rfl rfl rfl (Nat.le_of_ble_eq_true rfl) ⟨rfl, rfl⟩ (fun h11 qx28 => ?_)
            obtain ⟨G11, S11, T11⟩ := qx28
            have o1_ : h11 101 1 = 2 := (S11 101 1 rfl).trans (by rw [frE S10]; exact i1.2.2.1)
            rw [frE S10] at T11
            have R11 := R10.call S11 (by decide +kernel)
            exact z_mask [true, true, true, true, false, false, false] rfl (ih.2.2 l2 l3 h11 G11 R11 (by omega) (by omega) ⟨i1.1, i1.2.1, o1_, wgK_t i1.2.2.2 (by omega) (by omega) ex4 ex5 ⟨⟨(ofw_b (by omega) (by omega)).mp cx22, ((ofw_b (c := h L 8) (by omega) (by omega)).trans (cb_bt kx_.1.1 cb_ (by omega))).mp (fx23.mp (by omega))⟩, fun z => z.elim (fun y => absurd y (by omega)) (fun y => cx10 ((ofw_b (by omega) (by omega)).mpr y.1))⟩ ex25 ex26 ex27 T11⟩ (by omega))
        · refine z_if_eq_T (M := M_X3_search) 153 dX3_search_153 184 rfl (by omega) ?_
          exact z_mask [true, true, true, true, false, false, false] rfl (ih.2.2 l2 l3 h G R (by omega) (by omega) ⟨i1.1, i1.2.1, i1.2.2.1, wgK_n i1.2.2.2 (by omega) ex4 ex5 (fun z => cx22 ((ofw_b (by omega) (by omega)).mpr z.1.1))⟩ (by omega))
set_option maxHeartbeats 4000000 in
set_option maxRecDepth 100000 in
theorem s_X3_search3_184 (h0 : m_H) (L : Nat) (r : Nat → Int) (hL : isL L) (G0 : GI h0) (hX : KX L r (fun j => r (10 + j)) (fun j => r (42 + j)) h0) (hC : CB (h0 L 8) r) (n : Nat) (ih : q_X3_search3 h0 L r n) : ∀ (l2 l3 : Int) (h : m_H), GI h → FR (csB ++ [39, 40, 41]) [(101, 1), (101, 2), (101, 3)] h0 h → 0 ≤ l3 → l3 ≤ 575 → (wgC r l2 ∧ wgZ r 1 = 0 ∧ h 101 1 = 2 ∧ wgK r l2 (l3 + 1) (h 101 2) (h 101 3)) → 3 * (576 - l3) + (1) ≤ ((n + 1 : Nat) : Int) → m_Z oF M_X3_search 184 [some (mR 101), some (mR L), some (mI l2), some (mI l3), none, none, none] [] h (m_QI (P_X3_search3 h0 L r)) := by
  intro l2 l3 h G R v0 v1 i1 hr
  refine z_ok (fun ostk _ olocs => ?_)
  have ol2 : m_32 l2 := olocs 2 _ rfl
  unfold m_32 at ol2
  refine z_iincN (M := M_X3_search) 184 dX3_search_184 (ls' := [some (mR 101), some (mR L), some (mI l2), some (mI (l3 + 1)), none, none, none]) (by decide) rfl (by (unfold m_32; decide)) (by omega) (by omega) rfl ?_
  refine z_goto (M := M_X3_search) 187 dX3_search_187 98 rfl ?_
  exact z_mask [true, true, true, true, false, false, false] rfl (ih.2.1 l2 (l3 + 1) h G R (by omega) (by omega) i1 (by omega))
theorem a_X3_search3 (h0 : m_H) (L : Nat) (r : Nat → Int) (hL : isL L) (G0 : GI h0) (hX : KX L r (fun j => r (10 + j)) (fun j => r (42 + j)) h0) (hC : CB (h0 L 8) r) : ∀ n, q_X3_search3 h0 L r n := by
  intro n
  induction n with
  | zero => unfold q_X3_search3; refine ⟨?_, ?_, ?_⟩ <;> (intros; omega)
  | succ n ih => exact ⟨s_X3_search3_54 h0 L r hL G0 hX hC n ih, s_X3_search3_98 h0 L r hL G0 hX hC n ih, s_X3_search3_184 h0 L r hL G0 hX hC n ih⟩
set_option maxHeartbeats 4000000 in
set_option maxRecDepth 100000 in
theorem c_X3_search3 (h0 : m_H) (L : Nat) (r : Nat → Int) (hL : isL L) (G0 : GI h0) (hX : KX L r (fun j => r (10 + j)) (fun j => r (42 + j)) h0) (hC : CB (h0 L 8) r) : m_CI M_X3_search [mR 101, mR L] h0 (P_X3_search3 h0 L r) := by
  refine m_CI_of ⟨by decide, rfl, by simp [m_arg, m_isL, M_X3_search], ⟨rfl, rfl⟩, rfl, rfl⟩ (ls := [some (mR 101), some (mR L), none, none, none, none, none]) rfl ?_
  have ih := a_X3_search3 h0 L r hL G0 hX hC 1788
  refine z_aload_n (M := M_X3_search) 0 dX3_search_0 rfl ?_
  refine z_iconst (M := M_X3_search) 1 dX3_search_1 ?_
  refine z_putIH (M := M_X3_search) 2 dX3_search_2 p_X3_21 o_101 rfl (u_101_1 G0) ((FR.rf (cs := (csB ++ [39, 40, 41])) (ss := [(101, 1), (101, 2), (101, 3)]) (h := h0)).up rfl) (fun h1 E1 G1 R1 => ?_)
  refine z_aload_n (M := M_X3_search) 5 dX3_search_5 rfl ?_
  refine z_iconst (M := M_X3_search) 6 dX3_search_6 ?_
  refine z_putIH (M := M_X3_search) 7 dX3_search_7 p_X3_25 o_101 rfl (u_101_2 G1) (R1.up rfl) (fun h2 E2 G2 R2 => ?_)
  refine z_aload_n (M := M_X3_search) 10 dX3_search_10 rfl ?_
  refine z_iconst (M := M_X3_search) 11 dX3_search_11 ?_
  refine z_putIH (M := M_X3_search) 12 dX3_search_12 p_X3_28 o_101 rfl (u_101_3 G2) (R2.up rfl) (fun h3 E3 G3 R3 => ?_)
  refine z_aload_n (M := M_X3_search) 15 dX3_search_15 rfl ?_
  refine z_getR (M := M_X3_search) 16 dX3_search_16 f_X3_9 o_101 rfl (g_101_0 G3) ?_
  refine z_aload_n (M := M_X3_search) 19 dX3_search_19 rfl ?_
  refine z_aload_n (M := M_X3_search) 20 dX3_search_20 rfl ?_
  refine z_getIV (M := M_X3_search) 21 dX3_search_21 f_X3_31 (oL hL) (by decide) (fun x1 ex1 => ?_)
  refine z_ok (fun ox1 _ _ => ?_)
  have ox1 := ox1.1; unfold m_ok m_32 at ox1
  refine z_vI (M := M_X3_search) 24 dX3_search_24 t_X9_canBe l_X3_15 (m_rr_of rfl) (rest := []) (c_X9_canBe2 h3 L x1 r (fun j => r (10 + j)) (fun j => r (42 + j)) hL G3 (hX.same (wgled hL R3 (by decide))).1 hX.2.1 hX.2.2.1 (hX.2.2.2 x1)) o_38 rfl rfl rfl (Nat.le_of_ble_eq_true rfl) ⟨rfl, rfl⟩ (fun x2 h4 qx2 => ?_)
  obtain ⟨G4, S4, ax2, bx2, fx2⟩ := qx2
  have l3_ := wgled hL R3 (by decide)
  have c1_ : x1 = cF r := cF_eq (L := L) (h := h3) hX.1.1 (by have z := l3_ 0 (by decide); rw [Nat.add_zero] at z; rw [z]; exact hC) ex1 ox1
  have f_ : x2 = 1 ↔ ¬ wgF r (cF r) := by rw [← c1_]; exact fx2.1
  have R4 := R3.call S4 (by decide +kernel)
  refine z_if_eq (M := M_X3_search) 27 dX3_search_27 32 rfl (fun c3 => ?_) (fun c3 => ?_)
  · refine z_aload_n (M := M_X3_search) 32 dX3_search_32 rfl ?_
    refine z_iconst (M := M_X3_search) 33 dX3_search_33 ?_
    refine z_putIH (M := M_X3_search) 34 dX3_search_34 p_X3_25 o_101 rfl (u_101_2 G4) (R4.up rfl) (fun h5 E5 G5 R5 => ?_)
    refine z_aload_n (M := M_X3_search) 37 dX3_search_37 rfl ?_
    refine z_aload_n (M := M_X3_search) 38 dX3_search_38 rfl ?_
    refine z_aload_n (M := M_X3_search) 39 dX3_search_39 rfl ?_
    refine z_getIV (M := M_X3_search) 40 dX3_search_40 f_X3_31 (oL hL) (by decide) (fun x4 ex4 => ?_)
    refine z_ok (fun ox4 _ _ => ?_)
    have ox4 := ox4.1; unfold m_ok m_32 at ox4
    refine z_vI (M := M_X3_search) 43 dX3_search_43 t_X3_leaveOut l_X3_36 (m_rr_of rfl) (rest := []) (c_X3_leaveOut2 h5 L x4 r (fun j => r (10 + j)) (fun j => r (42 + j)) hL G5 (hX.same (wgled hL R5 (by decide)))) o_101 rfl rfl rfl (Nat.le_of_ble_eq_true rfl) ⟨rfl, rfl⟩ (fun x5 h6 qx5 => ?_)
    obtain ⟨G6, S6, fx5⟩ := qx5
    have l5_ := wgled hL R5 (by decide)
    have c4_ : x4 = cF r := cF_eq (L := L) (h := h5) hX.1.1 (by have z := l5_ 0 (by decide); rw [Nat.add_zero] at z; rw [z]; exact hC) ex4 ox4
    have ff_ : wgF r (cF r) := Classical.byContradiction (fun z => absurd (f_.mpr z) (by omega))
    have R6 := R5.call S6 (by decide +kernel)
    refine z_ok (fun ox5 _ _ => ?_)
    have ox5 := ox5.1; unfold m_ok m_32 at ox5
    refine z_istore_n (M := M_X3_search) 46 dX3_search_46 (ls' := [some (mR 101), some (mR L), some (mI x5), none, none, none, none]) (by decide) rfl ?_
    refine z_aload_n (M := M_X3_search) 47 dX3_search_47 rfl ?_
    refine z_iconst (M := M_X3_search) 48 dX3_search_48 ?_
    refine z_putIH (M := M_X3_search) 49 dX3_search_49 p_X3_21 o_101 rfl (u_101_1 G6) (R6.up rfl) (fun h7 E7 G7 R7 => ?_)
    refine z_iconst (M := M_X3_search) 52 dX3_search_52 ?_
    refine z_istore_n (M := M_X3_search) 53 dX3_search_53 (ls' := [some (mR 101), some (mR L), some (mI x5), some (mI 0), none, none, none]) (by decide) rfl ?_
    exact z_mask [true, true, true, true, false, false, false] rfl (ih.1 x5 0 h7 G7 R7 (by omega) (by omega) ⟨⟨by rw [fx5]; exact cLo_gn (by rw [c4_]; exact ff_) 24, (fun e he z => by rw [fx5] at z; rw [← c4_]; exact cLo_sub he 24 (by decide) z), ff_, hX.1.1⟩, upE E7, (by have e2_ : h7 101 2 = 0 := (upN E7 (fun q => absurd q.2 (by decide))).trans ((S6 101 2 rfl).trans (upE E5)); have e3_ : h7 101 3 = 0 := (upN E7 (fun q => absurd q.2 (by decide))).trans ((S6 101 3 rfl).trans ((upN E5 (fun q => absurd q.2 (by decide))).trans ((S4 101 3 rfl).trans (upE E3)))); rw [e2_, e3_]; exact wgI_0)⟩ (by omega))
  · refine z_iconst (M := M_X3_search) 30 dX3_search_30 ?_
    exact z_retZ (M := M_X3_search) 31 dX3_search_31 rfl (by omega) ⟨G4, R4, by omega, by omega, Or.inr ⟨rfl, 0, (by rw [show h4 101 2 = 1 from (S4 101 2 rfl).trans ((upN E3 (fun q => absurd q.2 (by decide))).trans (upE E2)), show h4 101 3 = 0 from (S4 101 3 rfl).trans (upE E3)]; exact wgO_0 (f_.mp (by omega))), (S4 101 1 rfl).trans ((upN E3 (fun q => absurd q.2 (by decide))).trans ((upN E2 (fun q => absurd q.2 (by decide))).trans (upE E1)))⟩⟩
abbrev P_X11_wrong3 (h0 : m_H) (a1 : Int) : Int → m_H → Prop := fun x h' => GI h' ∧ FR (csB ++ [39, 40, 41]) [(101, 1), (101, 2), (101, 3)] h0 h' ∧ wgQ (h0 110) a1 x
set_option maxHeartbeats 4000000 in
set_option maxRecDepth 100000 in
theorem c_X11_wrong3 (h0 : m_H) (a1 : Int) (G0 : GI h0) (hR : LR 1 h0 (h0 110)) (hN : NP h0) : m_CI M_X11_wrong [mR 0, mI a1] h0 (P_X11_wrong3 h0 a1) := by
  refine m_CI_of ⟨by decide, rfl, by simp [m_arg, m_isL, M_X11_wrong], ⟨rfl, rfl⟩, rfl, rfl⟩ (ls := [some (mR 0), some (mI a1)]) rfl ?_
  refine z_ok (fun _ _ ok => ?_)
  have oa1 : m_32 a1 := ok 1 _ rfl
  unfold m_32 at oa1
  refine z_iload_n (M := M_X11_wrong) 0 dX11_wrong_0 rfl ?_
  refine z_iconst (M := M_X11_wrong) 1 dX11_wrong_1 ?_
  refine z_iconst (M := M_X11_wrong) 2 dX11_wrong_2 ?_
  refine z_sI (M := M_X11_wrong) 3 dX11_wrong_3 t_X11_within l_X11_112 (m_rr_of rfl) (rest := []) (c_X11_within h0 a1 0 2 G0) rfl rfl (Nat.le_of_ble_eq_true rfl) ⟨rfl, rfl⟩ (fun x1 h1 qx1 => ?_)
  obtain ⟨rfl, ⟨rfl, cx1⟩ | ⟨rfl, cx1⟩⟩ := qx1
  · refine z_if_eq_F (M := M_X11_wrong) 6 dX11_wrong_6 23 rfl (by omega) ?_
    refine z_aload_n (M := M_X11_wrong) 9 dX11_wrong_9 rfl ?_
    refine z_getR (M := M_X11_wrong) 10 dX11_wrong_10 f_X11_76 o_0 rfl (g_0_10 G0) ?_
    refine z_aload_n (M := M_X11_wrong) 13 dX11_wrong_13 rfl ?_
    refine z_getR (M := M_X11_wrong) 14 dX11_wrong_14 f_X11_12 o_0 rfl (g_0_0 G0) ?_
    refine z_vI (M := M_X11_wrong) 17 dX11_wrong_17 t_X3_search l_X11_353 (m_rr_of rfl) (rest := []) (c_X3_search3 h0 1 (h0 110) (Or.inl rfl) G0 (KX_0 hR G0 hN) hR.2.2.2.2.2.2.1) o_101 rfl rfl rfl (Nat.le_of_ble_eq_true rfl) ⟨rfl, rfl⟩ (fun x2 h2 qx2 => ?_)
    obtain ⟨G2, S2, ax2, bx2, fx2⟩ := qx2
    have R2 := (FR.rf (cs := (csB ++ [39, 40, 41])) (ss := [(101, 1), (101, 2), (101, 3)]) (h := h0)).call S2 (by decide +kernel)
    refine z_if_ne (M := M_X11_wrong) 20 dX11_wrong_20 25 rfl (fun c3 => ?_) (fun c3 => ?_)
    · refine z_iload_n (M := M_X11_wrong) 25 dX11_wrong_25 rfl ?_
      refine z_if_ne (M := M_X11_wrong) 26 dX11_wrong_26 37 rfl (fun c4 => ?_) (fun c4 => ?_)
      · refine z_iload_n (M := M_X11_wrong) 37 dX11_wrong_37 rfl ?_
        refine z_iconst (M := M_X11_wrong) 38 dX11_wrong_38 ?_
        refine z_icmp_ne (M := M_X11_wrong) 39 dX11_wrong_39 52 rfl (fun c5 => ?_) (fun c5 => ?_)
        · refine z_aload_n (M := M_X11_wrong) 52 dX11_wrong_52 rfl ?_
          refine z_getR (M := M_X11_wrong) 53 dX11_wrong_53 f_X11_76 o_0 rfl (g_0_10 G2) ?_
          refine z_getIV (M := M_X11_wrong) 56 dX11_wrong_56 f_X11_363 o_101 (by decide) (fun x6 ex6 => ?_)
          refine z_ok (fun ox6 _ _ => ?_)
          have ox6 := ox6.1; unfold m_ok m_32 at ox6
          exact z_retI (M := M_X11_wrong) 59 dX11_wrong_59 rfl ⟨G2, R2, (by rcases fx2 with ⟨z, _⟩ | ⟨_, s, o_, e_⟩; exact absurd z (by omega); exact Or.inr ⟨⟨by omega, by omega⟩, Or.inr ⟨s, _, _, o_, Or.inr (Or.inr ⟨by omega, ex6.symm⟩)⟩⟩)⟩
        · refine z_aload_n (M := M_X11_wrong) 42 dX11_wrong_42 rfl ?_
          refine z_getR (M := M_X11_wrong) 43 dX11_wrong_43 f_X11_76 o_0 rfl (g_0_10 G2) ?_
          refine z_getIV (M := M_X11_wrong) 46 dX11_wrong_46 f_X11_360 o_101 (by decide) (fun x7 ex7 => ?_)
          refine z_ok (fun ox7 _ _ => ?_)
          have ox7 := ox7.1; unfold m_ok m_32 at ox7
          refine z_goto (M := M_X11_wrong) 49 dX11_wrong_49 59 rfl ?_
          exact z_retI (M := M_X11_wrong) 59 dX11_wrong_59 rfl ⟨G2, R2, (by rcases fx2 with ⟨z, _⟩ | ⟨_, s, o_, e_⟩; exact absurd z (by omega); exact Or.inr ⟨⟨by omega, by omega⟩, Or.inr ⟨s, _, _, o_, Or.inr (Or.inl ⟨by omega, ex7.symm⟩)⟩⟩)⟩
      · refine z_aload_n (M := M_X11_wrong) 29 dX11_wrong_29 rfl ?_
        refine z_getR (M := M_X11_wrong) 30 dX11_wrong_30 f_X11_76 o_0 rfl (g_0_10 G2) ?_
        refine z_getIV (M := M_X11_wrong) 33 dX11_wrong_33 f_X11_357 o_101 (by decide) (fun x8 ex8 => ?_)
        refine z_ok (fun ox8 _ _ => ?_)
        have ox8 := ox8.1; unfold m_ok m_32 at ox8
        exact z_retI (M := M_X11_wrong) 36 dX11_wrong_36 rfl ⟨G2, R2, (by rcases fx2 with ⟨z, _⟩ | ⟨_, s, o_, e_⟩; exact absurd z (by omega); exact Or.inr ⟨⟨by omega, by omega⟩, Or.inr ⟨s, _, _, o_, Or.inl ⟨by omega, ex8.symm.trans e_⟩⟩⟩)⟩
    · refine z_iconst (M := M_X11_wrong) 23 dX11_wrong_23 ?_
      exact z_retI (M := M_X11_wrong) 24 dX11_wrong_24 rfl ⟨G2, R2, (by rcases fx2 with ⟨_, z⟩ | ⟨z, _⟩; exact Or.inr ⟨⟨by omega, by omega⟩, Or.inl ⟨z, rfl⟩⟩; exact absurd z (by omega))⟩
  · refine z_if_eq_T (M := M_X11_wrong) 6 dX11_wrong_6 23 rfl (by omega) ?_
    refine z_iconst (M := M_X11_wrong) 23 dX11_wrong_23 ?_
    exact z_retI (M := M_X11_wrong) 24 dX11_wrong_24 rfl ⟨G0, (FR.rf (cs := (csB ++ [39, 40, 41])) (ss := [(101, 1), (101, 2), (101, 3)]) (h := h0)), Or.inl ⟨cx1, rfl⟩⟩
