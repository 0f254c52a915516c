/-! what a search over sets of entries needs -/
def gnP (r K C : Nat → Int) (en : Int) : Prop := gain (bL r K C en)
def KX (L : Nat) (r K C : Nat → Int) (h : m_H) : Prop := LK L h r K C ∧ EN r K ∧ SH r ∧ ∀ en, ∀ q ∈ bL r K C en, gEo q
theorem KX.same {L : Nat} {r K C : Nat → Int} {h0 h : m_H} (k : KX L r K C h0) (e : ∀ i, i < 8 → h (L + i) = h0 (L + i)) : KX L r K C h := ⟨k.1.same e, k.2⟩
theorem KX_0 {h : m_H} (R : LR 1 h (h 110)) (G : GI h) (N : NP h) : KX 1 (h 110) (fun j => h 110 (10 + j)) (fun j => h 110 (42 + j)) h := ⟨LK_of R, EN_of G N, SH_of G, fun _ => bL_ok G N (kp_of G)⟩
def RX (r K C : Nat → Int) (h : m_H) : Prop := h 110 = r ∧ (∀ j, j < 32 → h 122 j = K j) ∧ ∀ j, j < 6 → h 123 j = C j
theorem RX.to {r K C : Nat → Int} {h h' : m_H} (X : RX r K C h) (e0 : h' 110 = h 110) (e1 : h' 122 = h 122) (e2 : h' 123 = h 123) : RX r K C h' := ⟨e0.trans X.1, fun j hj => by rw [e1]; exact X.2.1 j hj, fun j hj => by rw [e2]; exact X.2.2 j hj⟩
theorem RX_0 {h0 h : m_H} (e : h 110 = h0 110) (A : asQ h0 h 32 6) : RX (h0 110) (fun j => h0 110 (10 + j)) (fun j => h0 110 (42 + j)) h := ⟨e, fun j hj => A.1 j (by omega), fun j hj => A.2 j (by omega)⟩
theorem gn_iff {h : m_H} {r K C : Nat → Int} {en x : Int} (X : RX r K C h) (G : GI h) (N : NP h) (a : 0 ≤ x) (b : x ≤ 1) (f0 : cbQ x (bL (h 110) (h 122) (h 123) en)) (f1 : x = 0 → gain (bL (h 110) (h 122) (h 123) en)) : x = 1 ↔ ¬ gnP r K C en := by
  have e : bL (h 110) (h 122) (h 123) en = bL r K C en := by rw [bL_cg G X.2.1 X.2.2, X.1]
  have ok := bL_ok (en := en) (ct := h 123) G N (kp := h 122) (fun j hj => g_122 G hj)
  rw [e] at f0 f1 ok
  constructor
  · exact fun z => gG_no ok (f0 z)
  · intro z
    by_cases q : x = 0
    · exact absurd (f1 q) z
    · omega
theorem bits_eq {a b : Int} (ha : m_32 a) (hb : m_32 b) (h : ∀ j, j < 32 → bt a j = bt b j) : a = b := by
  have e : (Int32.ofInt a).toBitVec = (Int32.ofInt b).toBitVec := BitVec.eq_of_getLsbD_eq (fun j hj => h j hj)
  rw [← m_i32 ha, ← m_i32 hb]
  exact congrArg BitVec.toInt e
theorem an_ne {l : Int} {e : Nat} (he : e < 32) (hl : m_32 l) : m_and l (m_xor (m_shl 1 e) (-1)) = l ↔ bt l e = false := by
  constructor
  · intro z
    have y := bt_an (c := l) (e := e) (j := e) he he
    rw [z] at y
    rw [y]; simp
  · intro z
    refine bits_eq (m_32t _) hl (fun j hj => ?_)
    rw [bt_an he hj]
    by_cases g : j = e
    · subst g; rw [z]; rfl
    · simp [g]
theorem cS_32 {r : Nat → Int} : ∀ n, m_32 (cS r n)
  | 0 => by show m_32 0; unfold m_32; omega
  | n + 1 => m_32t _
theorem cF_eq {L : Nat} {h : m_H} {r : Nat → Int} {x : Int} (b : RB r) (cb : CB (h L 8) r) (e : h L 8 = x) (o : m_32 x) : x = cF r := by
  obtain ⟨b1, b2, b3, b4⟩ := b
  refine bits_eq o (cS_32 _) (fun j hj => ?_)
  have z := cb j hj
  rw [e] at z
  have y : bt (cF r) j = true ↔ (j < (r 0).toNat ∧ r (5 * j + 84) = 1) := cS_bt (r := r) (r 0).toNat j (by omega) hj
  rw [Bool.eq_iff_iff, z, y]
  constructor
  · rintro ⟨u, v⟩; exact ⟨by omega, v⟩
  · rintro ⟨u, v⟩; exact ⟨by omega, v⟩
/-! those that are left, when none can go any more -/
def wo (l : Int) (e : Nat) : Int := m_and l (m_xor (m_shl 1 e) (-1))
noncomputable def cSt (gn : Int → Prop) (l : Int) (e : Nat) : Int := cif (bt l e = true ∧ gn (wo l e)) (wo l e) l
noncomputable def cLo (gn : Int → Prop) (l : Int) : Nat → Int
  | 0 => l
  | n + 1 => cSt gn (cLo gn l n) n
theorem cL_s {gn : Int → Prop} {a l l' : Int} {e : Int} (h0 : 0 ≤ e) (i : l = cLo gn a e.toNat) (q : l' = cSt gn l e.toNat) : l' = cLo gn a (e + 1).toNat := by
  rw [show (e + 1).toNat = e.toNat + 1 by omega, q, i]; rfl
theorem wo_of {l e x2 x3 x4 : Int} (h0 : 0 ≤ e) (e2 : m_shl 1 e = x2) (e3 : m_xor x2 (-1) = x3) (e4 : m_and l x3 = x4) : wo l e.toNat = x4 := by
  unfold wo
  rw [show ((e.toNat : Nat) : Int) = e by omega, e2, e3, e4]
theorem cSt_n {gn : Int → Prop} {l x4 : Int} {e : Nat} (h : e < 32) (o : m_32 l) (w : wo l e = x4) (c : x4 = l) : l = cSt gn l e := by
  unfold cSt
  rw [cif_neg]
  rintro ⟨z, _⟩
  have y := (an_ne h o).mp (w.trans c)
  rw [y] at z; exact absurd z (by decide)
theorem cSt_k {gn : Int → Prop} {l x4 : Int} {e : Nat} (w : wo l e = x4) (c : ¬ gn x4) : l = cSt gn l e := by
  unfold cSt
  rw [cif_neg]
  rintro ⟨_, z⟩
  rw [w] at z; exact c z
theorem cSt_y {gn : Int → Prop} {l x4 : Int} {e : Nat} (h : e < 32) (o : m_32 l) (w : wo l e = x4) (c : x4 ≠ l) (g : gn x4) : x4 = cSt gn l e := by
  unfold cSt
  rw [cif_pos, w]
  refine ⟨?_, by rw [w]; exact g⟩
  cases hb : bt l e with
  | true => rfl
  | false => exact absurd (w.symm.trans ((an_ne h o).mpr hb)) c
theorem cSt_b {gn : Int → Prop} {l x4 : Int} {e : Nat} (w : wo l e = x4) (c : bt l e = true) (g : gn x4) : x4 = cSt gn l e := by
  unfold cSt
  rw [cif_pos ⟨c, by rw [w]; exact g⟩, w]
theorem cSt_0 {gn : Int → Prop} {l : Int} {e : Nat} (c : ¬ bt l e = true) : l = cSt gn l e := by
  unfold cSt
  rw [cif_neg (fun z => c z.1)]
theorem cLo_sub {gn : Int → Prop} {a : Int} {j : Nat} (hj : j < 32) : ∀ n, n ≤ 32 → bt (cLo gn a n) j = true → bt a j = true
  | 0, _, h => h
  | n + 1, hn, h => by
    refine cLo_sub (gn := gn) hj n (by omega) ?_
    have h' : bt (cSt gn (cLo gn a n) n) j = true := h
    unfold cSt at h'
    by_cases g : bt (cLo gn a n) n = true ∧ gn (wo (cLo gn a n) n)
    · rw [cif_pos g] at h'
      unfold wo at h'
      rw [bt_an (by omega) hj, Bool.and_eq_true] at h'
      exact h'.1
    · rw [cif_neg g] at h'; exact h'
/-- past the last entry nothing goes -/
theorem cLo_end {gn : Int → Prop} {r : Nat → Int} (b : RB r) : cLo gn (cF r) 24 = cLo gn (cF r) (r 0).toNat := by
  obtain ⟨b1, b2, b3, b4⟩ := b
  have z : ∀ k, (r 0).toNat + k ≤ 24 → cLo gn (cF r) ((r 0).toNat + k) = cLo gn (cF r) (r 0).toNat := by
    intro k
    induction k with
    | zero => intro _; rfl
    | succ k ih =>
      intro hk
      have i := ih (by omega)
      show cSt gn (cLo gn (cF r) ((r 0).toNat + k)) ((r 0).toNat + k) = _
      rw [← i]
      refine (cSt_0 ?_).symm
      intro y
      have w := cLo_sub (gn := gn) (a := cF r) (j := (r 0).toNat + k) (by omega) ((r 0).toNat + k) (by omega) y
      have v := (cS_bt (r := r) (r 0).toNat ((r 0).toNat + k) (by omega) (by omega)).mp w
      omega
  have y := z (24 - (r 0).toNat) (by omega)
  rw [show (r 0).toNat + (24 - (r 0).toNat) = 24 by omega] at y
  exact y
noncomputable def coF (gn : Int → Prop) (c : Int) (n : Nat) : Int := cif (gn c) (cif (gn 0) (-1) (cLo gn c n)) 0
theorem co_a {gn : Int → Prop} {c : Int} {n : Nat} (h : ¬ gn c) : (0 : Int) = coF gn c n := by unfold coF; rw [cif_neg h]
theorem co_b {gn : Int → Prop} {c : Int} {n : Nat} (h : gn c) (h0 : gn 0) : (-1 : Int) = coF gn c n := by unfold coF; rw [cif_pos h, cif_pos h0]
theorem co_c {gn : Int → Prop} {c x : Int} {n : Nat} (h : gn c) (h0 : ¬ gn 0) (e : x = cLo gn c n) : x = coF gn c n := by unfold coF; rw [cif_pos h, cif_neg h0]; exact e
theorem ng {x : Int} {g : Prop} (f : x = 1 ↔ ¬ g) (h : x ≠ 1) : g := Classical.byContradiction fun z => h (f.mpr z)
abbrev P_X3_leaveOut2 (h0 : m_H) (L : Nat) (a2 : Int) (r : Nat → Int) (K : Nat → Int) (C : Nat → Int) : Int → m_H → Prop := fun x h' => GI h' ∧ FR (csB ++ [39, 40, 41]) [] h0 h' ∧ x = cLo (gnP r K C) a2 24
def q_X3_leaveOut2 (h0 : m_H) (L : Nat) (a2 : Int) (r : Nat → Int) (K : Nat → Int) (C : Nat → Int) (n : Nat) : Prop := (∀ (l3 l4 : Int) (h : m_H), GI h → FR (csB ++ [39, 40, 41]) [] h0 h → 0 ≤ l4 → l4 ≤ 24 → (-2147483648) ≤ a2 → a2 ≤ 2147483647 → (l3 = cLo (gnP r K C) a2 l4.toNat) → 2 * (24 - l4) + (1) ≤ (n : Int) → m_Z oF M_X3_leaveOut 5 [some (mR 101), some (mR L), none, some (mI l3), some (mI l4), none] [] h (m_QI (P_X3_leaveOut2 h0 L a2 r K C)))
set_option maxHeartbeats 4000000 in
set_option maxRecDepth 100000 in
theorem s_X3_leaveOut2_5 (h0 : m_H) (L : Nat) (a2 : Int) (r : Nat → Int) (K : Nat → Int) (C : Nat → Int) (hL : isL L) (G0 : GI h0) (hX : KX L r K C h0) (n : Nat) (ih : q_X3_leaveOut2 h0 L a2 r K C n) : ∀ (l3 l4 : Int) (h : m_H), GI h → FR (csB ++ [39, 40, 41]) [] h0 h → 0 ≤ l4 → l4 ≤ 24 → (-2147483648) ≤ a2 → a2 ≤ 2147483647 → (l3 = cLo (gnP r K C) a2 l4.toNat) → 2 * (24 - l4) + (1) ≤ ((n + 1 : Nat) : Int) → m_Z oF M_X3_leaveOut 5 [some (mR 101), some (mR L), none, some (mI l3), some (mI l4), none] [] h (m_QI (P_X3_leaveOut2 h0 L a2 r K C)) := by
  intro l3 l4 h G R v0 v1 v2 v3 i0 hr
  have kx_ := hX.same (led_same hL R)
  refine z_ok (fun ostk _ olocs => ?_)
  have ol3 : m_32 l3 := olocs 3 _ rfl
  unfold m_32 at ol3
  refine z_iload (M := M_X3_leaveOut) 5 dX3_leaveOut_5 rfl ?_
  refine z_bipush (M := M_X3_leaveOut) 7 dX3_leaveOut_7 ?_
  refine z_icmp_ge (M := M_X3_leaveOut) 9 dX3_leaveOut_9 50 rfl (fun c1 => ?_) (fun c1 => ?_)
  · refine z_iload_n (M := M_X3_leaveOut) 50 dX3_leaveOut_50 rfl ?_
    exact z_retI (M := M_X3_leaveOut) 51 dX3_leaveOut_51 rfl ⟨G, R, (show l4.toNat = 24 by omega) ▸ i0⟩
  · refine z_iload_n (M := M_X3_leaveOut) 12 dX3_leaveOut_12 rfl ?_
    refine z_iconst (M := M_X3_leaveOut) 13 dX3_leaveOut_13 ?_
    refine z_iload (M := M_X3_leaveOut) 14 dX3_leaveOut_14 rfl ?_
    refine z_ishl (M := M_X3_leaveOut) 16 dX3_leaveOut_16 ?_
    refine z_topm (fun x2 ex2 ox2 => ?_)
    unfold m_32 at ox2
    refine z_iconst (M := M_X3_leaveOut) 17 dX3_leaveOut_17 ?_
    refine z_ixor (M := M_X3_leaveOut) 18 dX3_leaveOut_18 ?_
    refine z_topm (fun x3 ex3 ox3 => ?_)
    unfold m_32 at ox3
    refine z_iand (M := M_X3_leaveOut) 19 dX3_leaveOut_19 ?_
    refine z_topm (fun x4 ex4 ox4 => ?_)
    unfold m_32 at ox4
    have w_ := wo_of (by omega) ex2 ex3 ex4
    refine z_istore (M := M_X3_leaveOut) 20 dX3_leaveOut_20 (ls' := [some (mR 101), some (mR L), none, some (mI l3), some (mI l4), some (mI x4)]) (by decide) rfl ?_
    refine z_iload (M := M_X3_leaveOut) 22 dX3_leaveOut_22 rfl ?_
    refine z_iload_n (M := M_X3_leaveOut) 24 dX3_leaveOut_24 rfl ?_
    refine z_icmp_eq (M := M_X3_leaveOut) 25 dX3_leaveOut_25 44 rfl (fun c5 => ?_) (fun c5 => ?_)
    · refine z_iincN (M := M_X3_leaveOut) 44 dX3_leaveOut_44 (ls' := [some (mR 101), some (mR L), none, some (mI l3), some (mI (l4 + 1)), some (mI x4)]) (by decide) rfl (by (unfold m_32; decide)) (by omega) (by omega) rfl ?_
      refine z_goto (M := M_X3_leaveOut) 47 dX3_leaveOut_47 5 rfl ?_
      exact z_mask [true, true, false, true, true, false] rfl (ih l3 (l4 + 1) h G R (by omega) (by omega) (by omega) (by omega) (cL_s (by omega) i0 (cSt_n (by omega) ol3 w_ c5)) (by omega))
    · refine z_aload_n (M := M_X3_leaveOut) 28 dX3_leaveOut_28 rfl ?_
      refine z_getR (M := M_X3_leaveOut) 29 dX3_leaveOut_29 f_X3_9 o_101 rfl (g_101_0 G) ?_
      refine z_aload_n (M := M_X3_leaveOut) 32 dX3_leaveOut_32 rfl ?_
      refine z_iload (M := M_X3_leaveOut) 33 dX3_leaveOut_33 rfl ?_
      refine z_vI (M := M_X3_leaveOut) 35 dX3_leaveOut_35 t_X9_canBe l_X3_15 (m_rr_of rfl) (rest := []) (c_X9_canBe2 h L x4 r K C hL G kx_.1 kx_.2.1 kx_.2.2.1 (kx_.2.2.2 x4)) o_38 rfl rfl rfl (Nat.le_of_ble_eq_true rfl) ⟨rfl, rfl⟩ (fun x6 h1 qx6 => ?_)
      obtain ⟨G1, S1, ax6, bx6, fx6⟩ := qx6
      have R1 := R.call S1 (by decide +kernel)
      refine z_if_ne (M := M_X3_leaveOut) 38 dX3_leaveOut_38 44 rfl (fun c7 => ?_) (fun c7 => ?_)
      · refine z_iincN (M := M_X3_leaveOut) 44 dX3_leaveOut_44 (ls' := [some (mR 101), some (mR L), none, some (mI l3), some (mI (l4 + 1)), some (mI x4)]) (by decide) rfl (by (unfold m_32; decide)) (by omega) (by omega) rfl ?_
        refine z_goto (M := M_X3_leaveOut) 47 dX3_leaveOut_47 5 rfl ?_
        exact z_mask [true, true, false, true, true, false] rfl (ih l3 (l4 + 1) h1 G1 R1 (by omega) (by omega) (by omega) (by omega) (cL_s (by omega) i0 (cSt_k w_ (fx6.1.mp (by omega)))) (by omega))
      · refine z_iload (M := M_X3_leaveOut) 41 dX3_leaveOut_41 rfl ?_
        refine z_istore_n (M := M_X3_leaveOut) 43 dX3_leaveOut_43 (ls' := [some (mR 101), some (mR L), none, some (mI x4), some (mI l4), some (mI x4)]) (by decide) rfl ?_
        refine z_iincN (M := M_X3_leaveOut) 44 dX3_leaveOut_44 (ls' := [some (mR 101), some (mR L), none, some (mI x4), some (mI (l4 + 1)), some (mI x4)]) (by decide) rfl (by (unfold m_32; decide)) (by omega) (by omega) rfl ?_
        refine z_goto (M := M_X3_leaveOut) 47 dX3_leaveOut_47 5 rfl ?_
        exact z_mask [true, true, false, true, true, false] rfl (ih x4 (l4 + 1) h1 G1 R1 (by omega) (by omega) (by omega) (by omega) (cL_s (by omega) i0 (cSt_y (by omega) ol3 w_ c5 (ng fx6.1 (by omega)))) (by omega))
theorem a_X3_leaveOut2 (h0 : m_H) (L : Nat) (a2 : Int) (r : Nat → Int) (K : Nat → Int) (C : Nat → Int) (hL : isL L) (G0 : GI h0) (hX : KX L r K C h0) : ∀ n, q_X3_leaveOut2 h0 L a2 r K C n := by
  intro n
  induction n with
  | zero => unfold q_X3_leaveOut2; intros; omega
  | succ n ih => exact s_X3_leaveOut2_5 h0 L a2 r K C hL G0 hX n ih
set_option maxHeartbeats 4000000 in
set_option maxRecDepth 100000 in
theorem c_X3_leaveOut2 (h0 : m_H) (L : Nat) (a2 : Int) (r : Nat → Int) (K : Nat → Int) (C : Nat → Int) (hL : isL L) (G0 : GI h0) (hX : KX L r K C h0) : m_CI M_X3_leaveOut [mR 101, mR L, mI a2] h0 (P_X3_leaveOut2 h0 L a2 r K C) := by
  refine m_CI_of ⟨by decide, rfl, by simp [m_arg, m_isL, M_X3_leaveOut], ⟨rfl, rfl⟩, rfl, rfl⟩ (ls := [some (mR 101), some (mR L), some (mI a2), none, none, none]) rfl ?_
  have ih := a_X3_leaveOut2 h0 L a2 r K C hL G0 hX 56
  refine z_ok (fun _ _ ok => ?_)
  have oa2 : m_32 a2 := ok 2 _ rfl
  unfold m_32 at oa2
  refine z_iload_n (M := M_X3_leaveOut) 0 dX3_leaveOut_0 rfl ?_
  refine z_istore_n (M := M_X3_leaveOut) 1 dX3_leaveOut_1 (ls' := [some (mR 101), some (mR L), some (mI a2), some (mI a2), none, none]) (by decide) rfl ?_
  refine z_iconst (M := M_X3_leaveOut) 2 dX3_leaveOut_2 ?_
  refine z_istore (M := M_X3_leaveOut) 3 dX3_leaveOut_3 (ls' := [some (mR 101), some (mR L), some (mI a2), some (mI a2), some (mI 0), none]) (by decide) rfl ?_
  exact z_mask [true, true, false, true, true, false] rfl (ih a2 0 h0 G0 (FR.rf (cs := (csB ++ [39, 40, 41])) (ss := []) (h := h0)) (by omega) (by omega) (by omega) (by omega) rfl (by omega))
abbrev P_X11_core3 (h0 : m_H) : Int → m_H → Prop := fun x h' => GI h' ∧ FR (csB ++ [39, 40, 41]) [] h0 h' ∧ x = coF (gnP (h0 110) (fun j => h0 110 (10 + j)) (fun j => h0 110 (42 + j))) (cF (h0 110)) 24
set_option maxHeartbeats 4000000 in
set_option maxRecDepth 100000 in
theorem c_X11_core3 (h0 : m_H) (G0 : GI h0) (hR : LR 1 h0 (h0 110)) (hN : NP h0) : m_CI M_X11_core [mR 0] h0 (P_X11_core3 h0) := by
  refine m_CI_of ⟨by decide, rfl, by simp [m_arg, m_isL, M_X11_core], ⟨rfl, rfl⟩, rfl, rfl⟩ (ls := [some (mR 0)]) rfl ?_
  refine z_aload_n (M := M_X11_core) 0 dX11_core_0 rfl ?_
  refine z_vI (M := M_X11_core) 1 dX11_core_1 t_X11_canBe l_X11_208 (m_rr_of rfl) (rest := []) (c_X11_canBe2 h0 G0 hR hN) o_0 rfl rfl rfl (Nat.le_of_ble_eq_true rfl) ⟨rfl, rfl⟩ (fun x1 h1 qx1 => ?_)
  obtain ⟨G1, S1, ax1, bx1, fx1⟩ := qx1
  have R1 := (FR.rf (cs := (csB ++ [39, 40, 41])) (ss := []) (h := h0)).call S1 (by decide +kernel)
  have kx1_ := (KX_0 hR G0 hN).same (led_same (Or.inl rfl) R1)
  refine z_if_eq (M := M_X11_core) 4 dX11_core_4 9 rfl (fun c2 => ?_) (fun c2 => ?_)
  · refine z_aload_n (M := M_X11_core) 9 dX11_core_9 rfl ?_
    refine z_getR (M := M_X11_core) 10 dX11_core_10 f_X11_46 o_0 rfl (g_0_6 G1) ?_
    refine z_aload_n (M := M_X11_core) 13 dX11_core_13 rfl ?_
    refine z_getR (M := M_X11_core) 14 dX11_core_14 f_X11_12 o_0 rfl (g_0_0 G1) ?_
    refine z_iconst (M := M_X11_core) 17 dX11_core_17 ?_
    refine z_vI (M := M_X11_core) 18 dX11_core_18 t_X9_canBe l_X11_343 (m_rr_of rfl) (rest := []) (c_X9_canBe2 h1 1 0 (h0 110) (fun j => h0 110 (10 + j)) (fun j => h0 110 (42 + j)) (Or.inl rfl) G1 kx1_.1 kx1_.2.1 kx1_.2.2.1 (kx1_.2.2.2 0)) o_38 rfl rfl rfl (Nat.le_of_ble_eq_true rfl) ⟨rfl, rfl⟩ (fun x3 h2 qx3 => ?_)
    obtain ⟨G2, S2, ax3, bx3, fx3⟩ := qx3
    have R2 := R1.call S2 (by decide +kernel)
    refine z_if_ne (M := M_X11_core) 21 dX11_core_21 26 rfl (fun c4 => ?_) (fun c4 => ?_)
    · refine z_aload_n (M := M_X11_core) 26 dX11_core_26 rfl ?_
      refine z_getR (M := M_X11_core) 27 dX11_core_27 f_X11_76 o_0 rfl (g_0_10 G2) ?_
      refine z_aload_n (M := M_X11_core) 30 dX11_core_30 rfl ?_
      refine z_getR (M := M_X11_core) 31 dX11_core_31 f_X11_12 o_0 rfl (g_0_0 G2) ?_
      refine z_aload_n (M := M_X11_core) 34 dX11_core_34 rfl ?_
      refine z_getR (M := M_X11_core) 35 dX11_core_35 f_X11_12 o_0 rfl (g_0_0 G2) ?_
      refine z_getIV (M := M_X11_core) 38 dX11_core_38 f_X11_346 o_1 (by decide) (fun x5 ex5 => ?_)
      refine z_ok (fun ox5 _ _ => ?_)
      have ox5 := ox5.1; unfold m_ok m_32 at ox5
      refine z_vI (M := M_X11_core) 41 dX11_core_41 t_X3_leaveOut l_X11_349 (m_rr_of rfl) (rest := []) (c_X3_leaveOut2 h2 1 x5 (h0 110) (fun j => h0 110 (10 + j)) (fun j => h0 110 (42 + j)) (Or.inl rfl) G2 ((KX_0 hR G0 hN).same (led_same (Or.inl rfl) R2))) o_101 rfl rfl rfl (Nat.le_of_ble_eq_true rfl) ⟨rfl, rfl⟩ (fun x6 h3 qx6 => ?_)
      obtain ⟨G3, S3, fx6⟩ := qx6
      have R3 := R2.call S3 (by decide +kernel)
      refine z_ok (fun ox6 _ _ => ?_)
      have ox6 := ox6.1; unfold m_ok m_32 at ox6
      exact z_retI (M := M_X11_core) 44 dX11_core_44 rfl ⟨G3, R3, co_c (ng fx1.1 (by omega)) (fx3.1.mp (by omega)) (by have q := fx6; rw [(cF_eq (L := 1) hR.1 hR.2.2.2.2.2.2.1 ((congrFun (led_same (L := 1) (Or.inl rfl) R2 0 (by decide)) 8).symm.trans ex5) ox5)] at q; exact q)⟩
    · refine z_iconst (M := M_X11_core) 24 dX11_core_24 ?_
      exact z_retI (M := M_X11_core) 25 dX11_core_25 rfl ⟨G2, R2, co_b (ng fx1.1 (by omega)) (ng fx3.1 (by omega))⟩
  · refine z_iconst (M := M_X11_core) 7 dX11_core_7 ?_
    exact z_retI (M := M_X11_core) 8 dX11_core_8 rfl ⟨G1, R1, co_a (fx1.1.mp (by omega))⟩
abbrev P_X12_core3 (h0 : m_H) : Int → m_H → Prop := fun x h' => GI h' ∧ FR [115, 116, 117, 118, 119, 120, 121, 122, 123, 124, 125, 126, 127, 128, 129, 130, 131, 132, 133, 134] [(108, 0), (108, 21)] h0 h' ∧ x = coF (gnP (h0 110) (fun j => h0 110 (10 + j)) (fun j => h0 110 (42 + j))) (cF (h0 110)) (h0 110 0).toNat
def q_X12_core3 (h0 : m_H) (n : Nat) : Prop := (∀ (l1 l2 : Int) (h : m_H), GI h → FR [115, 116, 117, 118, 119, 120, 121, 122, 123, 124, 125, 126, 127, 128, 129, 130, 131, 132, 133, 134] [(108, 0), (108, 21)] h0 h → 0 ≤ l2 → l2 ≤ 24 → (RX (h0 110) (fun j => h0 110 (10 + j)) (fun j => h0 110 (42 + j)) h) → (l1 = cLo (gnP (h0 110) (fun j => h0 110 (10 + j)) (fun j => h0 110 (42 + j))) (cF (h0 110)) l2.toNat) → (l2 ≤ h0 110 0) → ((gnP (h0 110) (fun j => h0 110 (10 + j)) (fun j => h0 110 (42 + j))) (cF (h0 110)) ∧ ¬ (gnP (h0 110) (fun j => h0 110 (10 + j)) (fun j => h0 110 (42 + j))) 0) → 2 * (24 - l2) + (1) ≤ (n : Int) → m_Z oF M_X12_core 36 [some (mR 108), some (mI l1), some (mI l2)] [] h (m_QI (P_X12_core3 h0)))
set_option maxHeartbeats 4000000 in
set_option maxRecDepth 100000 in
theorem s_X12_core3_36 (h0 : m_H) (G0 : GI h0) (hN : NP h0) (n : Nat) (ih : q_X12_core3 h0 n) : ∀ (l1 l2 : Int) (h : m_H), GI h → FR [115, 116, 117, 118, 119, 120, 121, 122, 123, 124, 125, 126, 127, 128, 129, 130, 131, 132, 133, 134] [(108, 0), (108, 21)] h0 h → 0 ≤ l2 → l2 ≤ 24 → (RX (h0 110) (fun j => h0 110 (10 + j)) (fun j => h0 110 (42 + j)) h) → (l1 = cLo (gnP (h0 110) (fun j => h0 110 (10 + j)) (fun j => h0 110 (42 + j))) (cF (h0 110)) l2.toNat) → (l2 ≤ h0 110 0) → ((gnP (h0 110) (fun j => h0 110 (10 + j)) (fun j => h0 110 (42 + j))) (cF (h0 110)) ∧ ¬ (gnP (h0 110) (fun j => h0 110 (10 + j)) (fun j => h0 110 (42 + j))) 0) → 2 * (24 - l2) + (1) ≤ ((n + 1 : Nat) : Int) → m_Z oF M_X12_core 36 [some (mR 108), some (mI l1), some (mI l2)] [] h (m_QI (P_X12_core3 h0)) := by
  intro l1 l2 h G R v0 v1 i0 i1 i2 i3 hr
  have n_ := (NP.call hN R (fun _ => rfl) (fun _ => rfl) (fun _ => rfl))
  have r0_ : h 110 (0 : Int).toNat = h0 110 0 := congrFun i0.1 0
  refine z_ok (fun ostk _ olocs => ?_)
  have ol1 : m_32 l1 := olocs 1 _ rfl
  unfold m_32 at ol1
  refine z_iload_n (M := M_X12_core) 36 dX12_core_36 rfl ?_
  refine z_aload_n (M := M_X12_core) 37 dX12_core_37 rfl ?_
  refine z_getR (M := M_X12_core) 38 dX12_core_38 f_X12_13 o_108 rfl (g_108_3 G) ?_
  refine z_iconst (M := M_X12_core) 41 dX12_core_41 ?_
  refine z_ialdG (M := M_X12_core) 42 dX12_core_42 o_110 (by omega) (by omega) (gw_0 G) (fun x1 ex1 ax1 bx1 => ?_)
  refine z_icmp_ge (M := M_X12_core) 43 dX12_core_43 82 rfl (fun c2 => ?_) (fun c2 => ?_)
  · refine z_iload_n (M := M_X12_core) 82 dX12_core_82 rfl ?_
    exact z_retI (M := M_X12_core) 83 dX12_core_83 rfl ⟨G, R, co_c i3.1 i3.2 (by rw [show (h0 110 0).toNat = l2.toNat by omega]; exact i1)⟩
  · refine z_iload_n (M := M_X12_core) 46 dX12_core_46 rfl ?_
    refine z_iload_n (M := M_X12_core) 47 dX12_core_47 rfl ?_
    refine z_sI (M := M_X12_core) 48 dX12_core_48 t_X12_is l_X12_336 (m_rr_of rfl) (rest := []) (c_X12_is h l1 l2 G) rfl rfl (Nat.le_of_ble_eq_true rfl) ⟨rfl, rfl⟩ (fun x3 h1 qx3 => ?_)
    obtain ⟨rfl, ⟨rfl, cx3⟩ | ⟨rfl, cx3⟩⟩ := qx3
    · refine z_if_eq_F (M := M_X12_core) 51 dX12_core_51 76 rfl (by omega) ?_
      refine z_aload_n (M := M_X12_core) 54 dX12_core_54 rfl ?_
      refine z_iload_n (M := M_X12_core) 55 dX12_core_55 rfl ?_
      refine z_iconst (M := M_X12_core) 56 dX12_core_56 ?_
      refine z_iload_n (M := M_X12_core) 57 dX12_core_57 rfl ?_
      refine z_ishl (M := M_X12_core) 58 dX12_core_58 ?_
      refine z_topm (fun x4 ex4 ox4 => ?_)
      unfold m_32 at ox4
      refine z_iconst (M := M_X12_core) 59 dX12_core_59 ?_
      refine z_ixor (M := M_X12_core) 60 dX12_core_60 ?_
      refine z_topm (fun x5 ex5 ox5 => ?_)
      unfold m_32 at ox5
      refine z_iand (M := M_X12_core) 61 dX12_core_61 ?_
      refine z_topm (fun x6 ex6 ox6 => ?_)
      unfold m_32 at ox6
      refine z_vI (M := M_X12_core) 62 dX12_core_62 t_X12_canBe l_X12_374 (m_rr_of rfl) (rest := []) (c_X12_canBe2 h x6 G (NP.call hN R (fun _ => rfl) (fun _ => rfl) (fun _ => rfl))) o_108 rfl rfl rfl (Nat.le_of_ble_eq_true rfl) ⟨rfl, rfl⟩ (fun x7 h2 qx7 => ?_)
      obtain ⟨G2, S2, ax7, bx7, fx7_0, fx7_1⟩ := qx7
      have R2 := R.call S2 (by decide +kernel)
      have X2_ := i0.to (FR.row S2 (fun _ => rfl)) (FR.row S2 (fun _ => rfl)) (FR.row S2 (fun _ => rfl))
      have g7_ := gn_iff i0 G n_ ax7 bx7 fx7_0 fx7_1
      have w_ := wo_of (by omega) ex4 ex5 ex6
      refine z_if_ne (M := M_X12_core) 65 dX12_core_65 76 rfl (fun c8 => ?_) (fun c8 => ?_)
      · refine z_iincN (M := M_X12_core) 76 dX12_core_76 (ls' := [some (mR 108), some (mI l1), some (mI (l2 + 1))]) (by decide) rfl (by (unfold m_32; decide)) (by omega) (by omega) rfl ?_
        refine z_goto (M := M_X12_core) 79 dX12_core_79 36 rfl ?_
        exact z_mask [true, true, true] rfl (ih l1 (l2 + 1) h2 G2 R2 (by omega) (by omega) X2_ (cL_s (by omega) i1 (cSt_k w_ (g7_.mp (by omega)))) (by omega) i3 (by omega))
      · refine z_iload_n (M := M_X12_core) 68 dX12_core_68 rfl ?_
        refine z_iconst (M := M_X12_core) 69 dX12_core_69 ?_
        refine z_iload_n (M := M_X12_core) 70 dX12_core_70 rfl ?_
        refine z_ishl (M := M_X12_core) 71 dX12_core_71 ?_
        refine z_topm (fun x9 ex9 ox9 => ?_)
        unfold m_32 at ox9
        refine z_iconst (M := M_X12_core) 72 dX12_core_72 ?_
        refine z_ixor (M := M_X12_core) 73 dX12_core_73 ?_
        refine z_topm (fun x10 ex10 ox10 => ?_)
        unfold m_32 at ox10
        refine z_iand (M := M_X12_core) 74 dX12_core_74 ?_
        refine z_topm (fun x11 ex11 ox11 => ?_)
        unfold m_32 at ox11
        refine z_istore_n (M := M_X12_core) 75 dX12_core_75 (ls' := [some (mR 108), some (mI x11), some (mI l2)]) (by decide) rfl ?_
        refine z_iincN (M := M_X12_core) 76 dX12_core_76 (ls' := [some (mR 108), some (mI x11), some (mI (l2 + 1))]) (by decide) rfl (by (unfold m_32; decide)) (by omega) (by omega) rfl ?_
        refine z_goto (M := M_X12_core) 79 dX12_core_79 36 rfl ?_
        exact z_mask [true, true, true] rfl (ih x11 (l2 + 1) h2 G2 R2 (by omega) (by omega) X2_ (cL_s (by omega) i1 (by rw [show x11 = x6 from (wo_of (by omega) ex9 ex10 ex11).symm.trans w_]; exact cSt_b w_ ((hasBit_iff (by omega)).mp (by rw [show ((l2.toNat : Nat) : Int) = l2 by omega]; exact cx3)) (ng g7_ (by omega)))) (by omega) i3 (by omega))
    · refine z_if_eq_T (M := M_X12_core) 51 dX12_core_51 76 rfl (by omega) ?_
      refine z_iincN (M := M_X12_core) 76 dX12_core_76 (ls' := [some (mR 108), some (mI l1), some (mI (l2 + 1))]) (by decide) rfl (by (unfold m_32; decide)) (by omega) (by omega) rfl ?_
      refine z_goto (M := M_X12_core) 79 dX12_core_79 36 rfl ?_
      exact z_mask [true, true, true] rfl (ih l1 (l2 + 1) h G R (by omega) (by omega) i0 (cL_s (by omega) i1 (cSt_0 (fun z => cx3 (by have y := (hasBit_iff (by omega)).mpr z; rw [show ((l2.toNat : Nat) : Int) = l2 by omega] at y; exact y)))) (by omega) i3 (by omega))
theorem a_X12_core3 (h0 : m_H) (G0 : GI h0) (hN : NP h0) : ∀ n, q_X12_core3 h0 n := by
  intro n
  induction n with
  | zero => unfold q_X12_core3; intros; omega
  | succ n ih => exact s_X12_core3_36 h0 G0 hN n ih
set_option maxHeartbeats 4000000 in
set_option maxRecDepth 100000 in
theorem c_X12_core3 (h0 : m_H) (G0 : GI h0) (hN : NP h0) : m_CI M_X12_core [mR 108] h0 (P_X12_core3 h0) := by
  refine m_CI_of ⟨by decide, rfl, by simp [m_arg, m_isL, M_X12_core], ⟨rfl, rfl⟩, rfl, rfl⟩ (ls := [some (mR 108), none, none]) rfl ?_
  have ih := a_X12_core3 h0 G0 hN 56
  refine z_aload_n (M := M_X12_core) 0 dX12_core_0 rfl ?_
  refine z_iconst (M := M_X12_core) 1 dX12_core_1 ?_
  refine z_putIH (M := M_X12_core) 2 dX12_core_2 p_X12_133 o_108 rfl (u_108_0 G0) ((FR.rf (cs := [115, 116, 117, 118, 119, 120, 121, 122, 123, 124, 125, 126, 127, 128, 129, 130, 131, 132, 133, 134]) (ss := [(108, 0), (108, 21)]) (h := h0)).up rfl) (fun h1 E1 G1 R1 => ?_)
  refine z_aload_n (M := M_X12_core) 5 dX12_core_5 rfl ?_
  refine z_vV (M := M_X12_core) 6 dX12_core_6 t_X12_asIs l_X12_367 (m_rr_of rfl) (rest := []) (c_X12_asIsX h1 G1) o_108 rfl rfl rfl (Nat.le_of_ble_eq_true rfl) ⟨rfl, rfl⟩ (fun h2 qx1 => ?_)
  obtain ⟨G2, S2, fx1_0⟩ := qx1
  have R2 := R1.call S2 (by decide +kernel)
  refine z_aload_n (M := M_X12_core) 9 dX12_core_9 rfl ?_
  refine z_vI (M := M_X12_core) 10 dX12_core_10 t_X12_counting l_X12_370 (m_rr_of rfl) (rest := []) (c_X12_countingX h2 G2) o_108 rfl rfl rfl (Nat.le_of_ble_eq_true rfl) ⟨rfl, rfl⟩ (fun x2 h3 qx2 => ?_)
  obtain ⟨G3, S3, fx2_0⟩ := qx2
  have R3 := R2.call S3 (by decide +kernel)
  refine z_ok (fun ox2 _ _ => ?_)
  have ox2 := ox2.1; unfold m_ok m_32 at ox2
  refine z_istore_n (M := M_X12_core) 13 dX12_core_13 (ls' := [some (mR 108), some (mI x2), none]) (by decide) rfl ?_
  refine z_aload_n (M := M_X12_core) 14 dX12_core_14 rfl ?_
  refine z_iload_n (M := M_X12_core) 15 dX12_core_15 rfl ?_
  refine z_vI (M := M_X12_core) 16 dX12_core_16 t_X12_canBe l_X12_374 (m_rr_of rfl) (rest := []) (c_X12_canBe2 h3 x2 G3 (NP.call hN R3 (fun _ => rfl) (fun _ => rfl) (fun _ => rfl))) o_108 rfl rfl rfl (Nat.le_of_ble_eq_true rfl) ⟨rfl, rfl⟩ (fun x3 h4 qx3 => ?_)
  obtain ⟨G4, S4, ax3, bx3, fx3_0, fx3_1⟩ := qx3
  have R4 := R3.call S4 (by decide +kernel)
  have X3_ : RX (h0 110) (fun j => h0 110 (10 + j)) (fun j => h0 110 (42 + j)) h3 := (by have z := RX_0 (h0 := h1) (h := h2) (FR.row S2 (fun _ => rfl)) fx1_0; rw [FR.row (c := 110) R1 (fun _ => rfl)] at z; exact z.to (FR.row S3 (fun _ => rfl)) (FR.row S3 (fun _ => rfl)) (FR.row S3 (fun _ => rfl)))
  have c_ : x2 = cF (h0 110) := fx2_0.trans (congrArg cF (FR.row R2 (fun _ => rfl)))
  have X4_ := X3_.to (FR.row S4 (fun _ => rfl)) (FR.row S4 (fun _ => rfl)) (FR.row S4 (fun _ => rfl))
  have g3_ := gn_iff X3_ G3 (NP.call hN R3 (fun _ => rfl) (fun _ => rfl) (fun _ => rfl)) ax3 bx3 fx3_0 fx3_1
  rw [c_] at g3_
  refine z_if_eq (M := M_X12_core) 19 dX12_core_19 24 rfl (fun c4 => ?_) (fun c4 => ?_)
  · refine z_aload_n (M := M_X12_core) 24 dX12_core_24 rfl ?_
    refine z_iconst (M := M_X12_core) 25 dX12_core_25 ?_
    refine z_vI (M := M_X12_core) 26 dX12_core_26 t_X12_canBe l_X12_374 (m_rr_of rfl) (rest := []) (c_X12_canBe2 h4 0 G4 (NP.call hN R4 (fun _ => rfl) (fun _ => rfl) (fun _ => rfl))) o_108 rfl rfl rfl (Nat.le_of_ble_eq_true rfl) ⟨rfl, rfl⟩ (fun x5 h5 qx5 => ?_)
    obtain ⟨G5, S5, ax5, bx5, fx5_0, fx5_1⟩ := qx5
    have R5 := R4.call S5 (by decide +kernel)
    have X5_ := X4_.to (FR.row S5 (fun _ => rfl)) (FR.row S5 (fun _ => rfl)) (FR.row S5 (fun _ => rfl))
    have g5_ := gn_iff X4_ G4 (NP.call hN R4 (fun _ => rfl) (fun _ => rfl) (fun _ => rfl)) ax5 bx5 fx5_0 fx5_1
    refine z_if_ne (M := M_X12_core) 29 dX12_core_29 34 rfl (fun c6 => ?_) (fun c6 => ?_)
    · refine z_iconst (M := M_X12_core) 34 dX12_core_34 ?_
      refine z_istore_n (M := M_X12_core) 35 dX12_core_35 (ls' := [some (mR 108), some (mI x2), some (mI 0)]) (by decide) rfl ?_
      exact z_mask [true, true, true] rfl (ih x2 0 h5 G5 R5 (by omega) (by omega) X5_ c_ (gw_0 G0).1 ⟨ng g3_ (by omega), g5_.mp (by omega)⟩ (by omega))
    · refine z_iconst (M := M_X12_core) 32 dX12_core_32 ?_
      exact z_retI (M := M_X12_core) 33 dX12_core_33 rfl ⟨G5, R5, co_b (ng g3_ (by omega)) (ng g5_ (by omega))⟩
  · refine z_iconst (M := M_X12_core) 22 dX12_core_22 ?_
    exact z_retI (M := M_X12_core) 23 dX12_core_23 rfl ⟨G4, R4, co_a (g3_.mp (by omega))⟩
theorem LX.core {h h1 : m_H} {x y : Int} {cs : List Nat} {ss : List (Nat × Nat)} (R : LX h) (S1 : FR cs ss h h1) (A : x = coF (gnP (h 110) (fun j => h 110 (10 + j)) (fun j => h 110 (42 + j))) (cF (h 110)) 24) (B : y = coF (gnP (h1 110) (fun j => h1 110 (10 + j)) (fun j => h1 110 (42 + j))) (cF (h1 110)) (h1 110 0).toNat) (o : out 110 110 cs ss = true) : x = y := by
  rw [rowz S1 (fr_out o (by decide) (by decide))] at B
  rw [A, B]
  unfold coF
  rw [cLo_end R.2.1.1]
