/-! the reference's 0: something gains -/
def tCn (S : gS) (L : List gE) (τ : Nat → Int) (n : Int) : Prop := ∀ a b : Nat, a < 16 → b < 16 → ((16 * a + b : Nat) : Int) < n → τ (16 * a + b) = 1 → tw L S a b
theorem aS_134 {h h' : m_H} {j : Nat} {v : Int} (E : h' = m_up h 134 j v) : aS h' = aS h := aS_same (upo E (by decide)) (upo E (by decide)) (upo E (by decide)) (upo E (by decide))
theorem tC_put {h h1 h' : m_H} {L : List gE} {n m v : Int} {f t i : Nat} (hf : f < 16) (ht : t < 16) (I : tCn (aS h) L (h 134) n) (e1 : h1 134 = h 134) (e2 : aS h1 = aS h) (hi : i = 16 * f + t) (hm : ∀ j : Nat, (j : Int) < m → j ≠ i → (j : Int) < n) (hv : v = 1 → tw L (aS h) f t) (E : h' = m_up h1 134 i v) : tCn (aS h') L (h' 134) m := by
  intro a b ha hb lt h1'
  rw [aS_134 E, e2]
  by_cases g : 16 * a + b = i
  · have ea : a = f := by omega
    have eb : b = t := by omega
    rw [g, upE E] at h1'
    rw [ea, eb]; exact hv h1'
  · rw [upN E (fun z => g z.2), e1] at h1'
    exact I a b ha hb (hm _ lt g) h1'
theorem bfI_c {L : List gE} {k : Nat} {S S' : gS} (hE : ∀ e ∈ L, gEo e) (e : ∀ l, l < 16 → S' l = S l) (I : bfI L k S) : bfI L k S' := by
  refine ⟨fun l hl => ?_, fun v a l h hv => ?_⟩
  · obtain ⟨w, a, w1, w2, w3, w4⟩ := I.1 l hl
    exact ⟨w, a, w1, w2, by rw [e l hl]; exact w3, by rw [e l hl]; exact w4⟩
  · have pv := wp_pos hE v a l h
    rw [e l pv.2.2]; exact I.2 v a l h hv
def cbI2 (h : m_H) (L : List gE) (k m : Int) : Prop := cbI h L k m ∧ bfI L k.toNat (aS h) ∧ (m ≠ 0 → k = 17 → gain L)
theorem cb_02 {h : m_H} {L : List gE} (A : AR h L) (s : ∀ l, l < 16 → aS h l = ((1, 1), (0, if (-1 : Int) = -1 ∨ (l : Int) = -1 then 1 else 0))) : cbI2 h L 0 1 := ⟨cb_0 A s, bf_0 (fun l hl => by rw [s l hl]), fun _ z => absurd z (by decide)⟩
theorem cb_step2 {h h' : m_H} {L : List gE} {k m x : Int} (hE : ∀ q ∈ L, gEo q) (hk : 0 ≤ k) (hk16 : k ≤ 16) (I : cbI2 h L k m) (A : AR h' L) (r : ∀ l, l < 16 → aS h' l = (gi 0 (aS h) L L.length).1 l) (ex : x = (gi 0 (aS h) L L.length).2) : cbI2 h' L (k + 1) x := by
  obtain ⟨I1, I2, -⟩ := I
  obtain ⟨p1, p2⟩ := p199 (k := k.toNat) (by omega)
  have b := bf_step hE p1 I1.2.1 I2
  have c := cb_step hE hk hk16 I1 A r ex
  have n1 : (k + 1).toNat = k.toNat + 1 := by omega
  have B' : bfI L (k + 1).toNat (aS h') := by rw [n1]; exact bfI_c hE r b.1
  refine ⟨c, B', fun hx h17 => ?_⟩
  have k16 : k.toNat = 16 := by omega
  have k17 : (k + 1).toNat = 17 := by omega
  rcases b.2 with z | ⟨z, l, hl, lt⟩
  · exact absurd (ex.trans z) hx
  · rw [k16] at I2
    rw [k17] at B'
    refine bf_gain hE I2 B' (fun l hl => ?_) ⟨l, hl, by rw [r l hl]; exact lt⟩
    have u1 := I1.2.1 l hl
    have u2 := c.2.1 l hl
    exact ⟨by omega, by omega⟩
theorem tCn.ti {h h1 : m_H} {L : List gE} {n : Int} (I : tCn (aS h) L (h 134) n) (S : FR [115, 116, 132, 133] [] h h1) : tCn (aS h1) L (h1 134) n := by
  rw [aS_ti S, FR.row S (c := 134) (fun _ => rfl)]; exact I
theorem tC_i {h h' : m_H} {L : List gE} {l v : Int} (hl : 0 ≤ l) (hb : l < 256) (I : tCn (aS h) L (h 134) l) (hv : v = 1 → l / 16 = l % 16) (E : h' = m_up h 134 l.toNat v) : tCn (aS h') L (h' 134) (l + 1) := by
  refine tC_put (f := (l / 16).toNat) (t := (l % 16).toNat) (by omega) (by omega) I rfl rfl (by omega) (fun j a b => by omega) (fun z => ?_) E
  rw [hv z]
  exact tw_nil (by omega)
theorem tC_e {h h1 h' : m_H} {L : List gE} {e n f t v : Int} (hE : ∀ q ∈ L, gEo q) (J : cbJ h L) (he : 0 ≤ e) (C : tCn (aS h) L (h 134) 256) (en : h 108 21 = n) (hn : e < n) (ef : h 117 e.toNat = f) (et : h 118 e.toNat = t) (e1 : h1 134 = h 134) (e2 : aS h1 = aS h) (hv : v = 1 → (h 134 (16 * f + t).toNat = 1 ∨ tiP (aS h) L e)) (E : h' = m_up h1 134 (16 * f + t).toNat v) : tCn (aS h') L (h' 134) 256 := by
  obtain ⟨q, q1, q2, q3, q4, -⟩ := AR_at J.1 he en hn
  have o := (hE q q2).1
  have i1 : (16 * f + t).toNat = 16 * q.1.1 + q.1.2 := by omega
  refine tC_put o.1 o.2 C e1 e2 i1 (fun j a b => a) (fun z => ?_) E
  rcases hv z with y | y
  · rw [i1] at y
    exact C _ _ o.1 o.2 (by omega) y
  · exact tw_one hE q2 ((ti_iff hE J q1).mp y)
theorem tC_s {h h' : m_H} {L : List gE} {m i k v : Int} (m0 : 0 ≤ m) (m1 : m ≤ 15) (i0 : 0 ≤ i) (i1 : i ≤ 15) (k0 : 0 ≤ k) (k1 : k ≤ 15) (C : tCn (aS h) L (h 134) 256) (hv : v = 1 → (h 134 (16 * i + k).toNat = 1 ∨ (h 134 (16 * i + m).toNat = 1 ∧ h 134 (16 * m + k).toNat = 1))) (E : h' = m_up h 134 (16 * i + k).toNat v) : tCn (aS h') L (h' 134) 256 := by
  have j1 : (16 * i + k).toNat = 16 * i.toNat + k.toNat := by omega
  have j2 : (16 * i + m).toNat = 16 * i.toNat + m.toNat := by omega
  have j3 : (16 * m + k).toNat = 16 * m.toNat + k.toNat := by omega
  rw [j1, j2, j3] at hv
  refine tC_put (f := i.toNat) (t := k.toNat) (by omega) (by omega) C rfl rfl j1 (fun j a b => a) (fun z => ?_) E
  rcases hv z with y | ⟨y1, y2⟩
  · exact C _ _ (by omega) (by omega) (by omega) y
  · exact tw_app (C _ _ (by omega) (by omega) (by omega) y1) (C _ _ (by omega) (by omega) (by omega) y2)
theorem tC_g {h h1 : m_H} {L : List gE} {e n f t x3 x5 x9 : Int} (hE : ∀ q ∈ L, gEo q) (J : cbJ h L) (he : 0 ≤ e) (C : tCn (aS h) L (h 134) 256) (S : FR [115, 116, 132, 133] [] h h1) (en : h 108 21 = n) (hn : e < n) (es : h 121 e.toNat = x3) (h3 : x3 = 1) (tq : tiQ x5 (aS h) L e) (h5 : x5 = 1) (et : h1 118 e.toNat = t) (ef : h1 117 e.toNat = f) (ex : h1 134 (16 * t + f).toNat = x9) (hx : x9 = 1) : gain L := by
  rw [S 118 _ rfl] at et
  rw [S 117 _ rfl] at ef
  rw [S 134 _ rfl] at ex
  obtain ⟨q, q1, q2, q3, q4, q5, q6, q7⟩ := AR_at J.1 he en hn
  have o := (hE q q2).1
  have n1 : (16 * t + f).toNat = 16 * q.1.2 + q.1.1 := by omega
  rw [n1] at ex
  refine tw_gain hE (fun l hl => ?_) q2 (q7.symm.trans (es.trans h3)) ((ti_iff hE J q1).mp (tq.mp h5)) (C _ _ o.2 o.1 (by omega) (ex.trans hx))
  have u := J.2.1 l hl
  exact ⟨by omega, by omega⟩
abbrev P_X12_canBe2 (h0 : m_H) (a1 : Int) : Int → m_H → Prop := fun x h' => GI h' ∧ FR [115, 116, 117, 118, 119, 120, 121, 124, 125, 126, 127, 128, 129, 130, 131, 132, 133, 134] [(108, 21)] h0 h' ∧ 0 ≤ x ∧ x ≤ 1 ∧ cbQ x (bL (h0 110) (h0 122) (h0 123) a1) ∧ (x = 0 → gain (bL (h0 110) (h0 122) (h0 123) a1))
def q_X12_canBe2 (h0 : m_H) (a1 : Int) (n : Nat) : Prop := (∀ (l2 l3 : Int) (h : m_H), GI h → FR [115, 116, 117, 118, 119, 120, 121, 124, 125, 126, 127, 128, 129, 130, 131, 132, 133, 134] [(108, 21)] h0 h → 0 ≤ l2 → l2 ≤ 1 → 0 ≤ l3 → l3 ≤ 17 → (-2147483648) ≤ a1 → a1 ≤ 2147483647 → (cbI2 h (bL (h0 110) (h0 122) (h0 123) a1) l3 l2) → 2 * (17 - l3) + (11507) ≤ (n : Int) → m_Z oF M_X12_canBe 14 [some (mR 108), none, some (mI l2), some (mI l3), none, none] [] h (m_QI (P_X12_canBe2 h0 a1))) ∧ (∀ (l3 : Int) (h : m_H), GI h → FR [115, 116, 117, 118, 119, 120, 121, 124, 125, 126, 127, 128, 129, 130, 131, 132, 133, 134] [(108, 21)] h0 h → 0 ≤ l3 → l3 ≤ 256 → (-2147483648) ≤ a1 → a1 ≤ 2147483647 → (cbJ h (bL (h0 110) (h0 122) (h0 123) a1)) → (tR (h 134) l3) → (tCn (aS h) (bL (h0 110) (h0 122) (h0 123) a1) (h 134) l3) → 2 * (256 - l3) + (10992) ≤ (n : Int) → m_Z oF M_X12_canBe 44 [some (mR 108), none, none, some (mI l3), none, none] [] h (m_QI (P_X12_canBe2 h0 a1))) ∧ (∀ (l3 : Int) (h : m_H), GI h → FR [115, 116, 117, 118, 119, 120, 121, 124, 125, 126, 127, 128, 129, 130, 131, 132, 133, 134] [(108, 21)] h0 h → 0 ≤ l3 → l3 ≤ 60 → (-2147483648) ≤ a1 → a1 ≤ 2147483647 → (cbJ h (bL (h0 110) (h0 122) (h0 123) a1)) → (tR (h 134) 256) → (tE (aS h) (bL (h0 110) (h0 122) (h0 123) a1) (h 134) l3.toNat) → (tCn (aS h) (bL (h0 110) (h0 122) (h0 123) a1) (h 134) 256) → 2 * (60 - l3) + (10869) ≤ (n : Int) → m_Z oF M_X12_canBe 81 [some (mR 108), none, none, some (mI l3), none, none] [] h (m_QI (P_X12_canBe2 h0 a1))) ∧ (∀ (l3 : Int) (h : m_H), GI h → FR [115, 116, 117, 118, 119, 120, 121, 124, 125, 126, 127, 128, 129, 130, 131, 132, 133, 134] [(108, 21)] h0 h → 0 ≤ l3 → l3 ≤ 16 → (-2147483648) ≤ a1 → a1 ≤ 2147483647 → (cbJ h (bL (h0 110) (h0 122) (h0 123) a1)) → (tA h (bL (h0 110) (h0 122) (h0 123) a1) l3.toNat) → (tCn (aS h) (bL (h0 110) (h0 122) (h0 123) a1) (h 134) 256) → 632 * (16 - l3) + (754) ≤ (n : Int) → m_Z oF M_X12_canBe 155 [some (mR 108), none, none, some (mI l3), none, none] [] h (m_QI (P_X12_canBe2 h0 a1))) ∧ (∀ (l3 l4 : Int) (h : m_H), GI h → FR [115, 116, 117, 118, 119, 120, 121, 124, 125, 126, 127, 128, 129, 130, 131, 132, 133, 134] [(108, 21)] h0 h → 0 ≤ l3 → l3 ≤ 15 → 0 ≤ l4 → l4 ≤ 16 → (-2147483648) ≤ a1 → a1 ≤ 2147483647 → (cbJ h (bL (h0 110) (h0 122) (h0 123) a1)) → (tS h (bL (h0 110) (h0 122) (h0 123) a1) l3 (16 * l4)) → (tCn (aS h) (bL (h0 110) (h0 122) (h0 123) a1) (h 134) 256) → 632 * (16 - l3) + 37 * (16 - l4) + (36) + (123) ≤ (n : Int) → m_Z oF M_X12_canBe 164 [some (mR 108), none, none, some (mI l3), some (mI l4), none] [] h (m_QI (P_X12_canBe2 h0 a1))) ∧ (∀ (l3 l4 l5 : Int) (h : m_H), GI h → FR [115, 116, 117, 118, 119, 120, 121, 124, 125, 126, 127, 128, 129, 130, 131, 132, 133, 134] [(108, 21)] h0 h → 0 ≤ l3 → l3 ≤ 15 → 0 ≤ l4 → l4 ≤ 15 → 0 ≤ l5 → l5 ≤ 16 → (-2147483648) ≤ a1 → a1 ≤ 2147483647 → (cbJ h (bL (h0 110) (h0 122) (h0 123) a1)) → (tS h (bL (h0 110) (h0 122) (h0 123) a1) l3 (16 * l4 + l5)) → (tCn (aS h) (bL (h0 110) (h0 122) (h0 123) a1) (h 134) 256) → 632 * (16 - l3) + 37 * (16 - l4) + 2 * (16 - l5) + (1) + (123) ≤ (n : Int) → m_Z oF M_X12_canBe 174 [some (mR 108), none, none, some (mI l3), some (mI l4), some (mI l5)] [] h (m_QI (P_X12_canBe2 h0 a1))) ∧ (∀ (l3 : Int) (h : m_H), GI h → FR [115, 116, 117, 118, 119, 120, 121, 124, 125, 126, 127, 128, 129, 130, 131, 132, 133, 134] [(108, 21)] h0 h → 0 ≤ l3 → l3 ≤ 60 → (-2147483648) ≤ a1 → a1 ≤ 2147483647 → (cbJ h (bL (h0 110) (h0 122) (h0 123) a1)) → (tA h (bL (h0 110) (h0 122) (h0 123) a1) 16) → (tO (aS h) (bL (h0 110) (h0 122) (h0 123) a1) (h 134) l3.toNat) → (tCn (aS h) (bL (h0 110) (h0 122) (h0 123) a1) (h 134) 256) → 2 * (60 - l3) + (1) ≤ (n : Int) → m_Z oF M_X12_canBe 265 [some (mR 108), none, none, some (mI l3), none, none] [] h (m_QI (P_X12_canBe2 h0 a1)))
set_option maxHeartbeats 4000000 in
set_option maxRecDepth 100000 in
theorem s_X12_canBe2_14 (h0 : m_H) (a1 : Int) (G0 : GI h0) (hN : NP h0) (n : Nat) (ih : q_X12_canBe2 h0 a1 n) : ∀ (l2 l3 : Int) (h : m_H), GI h → FR [115, 116, 117, 118, 119, 120, 121, 124, 125, 126, 127, 128, 129, 130, 131, 132, 133, 134] [(108, 21)] h0 h → 0 ≤ l2 → l2 ≤ 1 → 0 ≤ l3 → l3 ≤ 17 → (-2147483648) ≤ a1 → a1 ≤ 2147483647 → (cbI2 h (bL (h0 110) (h0 122) (h0 123) a1) l3 l2) → 2 * (17 - l3) + (11507) ≤ ((n + 1 : Nat) : Int) → m_Z oF M_X12_canBe 14 [some (mR 108), none, some (mI l2), some (mI l3), none, none] [] h (m_QI (P_X12_canBe2 h0 a1)) := by
  intro l2 l3 h G R v0 v1 v2 v3 v4 v5 i0 hr
  have hE := bL_ok (ct := h0 123) (en := a1) G0 hN (fun j hj => g_122 G0 hj)
  refine z_iload_n (M := M_X12_canBe) 14 dX12_canBe_14 rfl ?_
  refine z_bipush (M := M_X12_canBe) 15 dX12_canBe_15 ?_
  refine z_icmp_ge (M := M_X12_canBe) 17 dX12_canBe_17 36 rfl (fun c1 => ?_) (fun c1 => ?_)
  · refine z_iload_n (M := M_X12_canBe) 36 dX12_canBe_36 rfl ?_
    refine z_if_eq (M := M_X12_canBe) 37 dX12_canBe_37 42 rfl (fun c2 => ?_) (fun c2 => ?_)
    · refine z_iconst (M := M_X12_canBe) 42 dX12_canBe_42 ?_
      refine z_istore_n (M := M_X12_canBe) 43 dX12_canBe_43 (ls' := [some (mR 108), none, some (mI l2), some (mI 0), none, none]) (by decide) rfl ?_
      exact z_mask [true, false, false, true, false, false] rfl (ih.2.1 0 h G R (by omega) (by omega) (by omega) (by omega) (cbJ_of i0.1 (by omega)) (fun i hi hn => by omega) (fun a b _ _ hn => by omega) (by omega))
    · refine z_iconst (M := M_X12_canBe) 40 dX12_canBe_40 ?_
      exact z_retZ (M := M_X12_canBe) 41 dX12_canBe_41 rfl (by omega) ⟨G, R, by omega, by omega, cbQ_0, fun _ => i0.2.2 (by omega) (by omega)⟩
  · refine z_iload_n (M := M_X12_canBe) 20 dX12_canBe_20 rfl ?_
    refine z_if_eq (M := M_X12_canBe) 21 dX12_canBe_21 36 rfl (fun c3 => ?_) (fun c3 => ?_)
    · refine z_iload_n (M := M_X12_canBe) 36 dX12_canBe_36 rfl ?_
      refine z_if_eq_T (M := M_X12_canBe) 37 dX12_canBe_37 42 rfl (by omega) ?_
      refine z_iconst (M := M_X12_canBe) 42 dX12_canBe_42 ?_
      refine z_istore_n (M := M_X12_canBe) 43 dX12_canBe_43 (ls' := [some (mR 108), none, some (mI l2), some (mI 0), none, none]) (by decide) rfl ?_
      exact z_mask [true, false, false, true, false, false] rfl (ih.2.1 0 h G R (by omega) (by omega) (by omega) (by omega) (cbJ_of i0.1 (by omega)) (fun i hi hn => by omega) (fun a b _ _ hn => by omega) (by omega))
    · refine z_aload_n (M := M_X12_canBe) 24 dX12_canBe_24 rfl ?_
      refine z_iconst (M := M_X12_canBe) 25 dX12_canBe_25 ?_
      refine z_vI (M := M_X12_canBe) 26 dX12_canBe_26 t_X12_round l_X12_360 (m_rr_of rfl) (rest := []) (c_X12_round h 0 (bL (h0 110) (h0 122) (h0 123) a1) G ⟨by omega, by omega⟩ i0.1.1 hE) o_108 rfl rfl rfl (Nat.le_of_ble_eq_true rfl) ⟨rfl, rfl⟩ (fun x4 h1 qx4 => ?_)
      obtain ⟨G1, S1, ax4, bx4, fx4_0, fx4_1⟩ := qx4
      have R1 := R.call S1 (by decide +kernel)
      refine z_istore_n (M := M_X12_canBe) 29 dX12_canBe_29 (ls' := [some (mR 108), none, some (mI x4), some (mI l3), none, none]) (by decide) rfl ?_
      refine z_iincN (M := M_X12_canBe) 30 dX12_canBe_30 (ls' := [some (mR 108), none, some (mI x4), some (mI (l3 + 1)), none, none]) (by decide) rfl (by (unfold m_32; decide)) (by omega) (by omega) rfl ?_
      refine z_goto (M := M_X12_canBe) 33 dX12_canBe_33 14 rfl ?_
      exact z_mask [true, false, true, true, false, false] rfl (ih.1 x4 (l3 + 1) h1 G1 R1 (by omega) (by omega) (by omega) (by omega) (by omega) (by omega) (cb_step2 hE (by omega) (by omega) i0 (AR.call i0.1.1 S1 rfl (fun _ => rfl) (fun _ => rfl) (fun _ => rfl) (fun _ => rfl) (fun _ => rfl)) fx4_0 fx4_1) (by omega))
set_option maxHeartbeats 4000000 in
set_option maxRecDepth 100000 in
theorem s_X12_canBe2_44 (h0 : m_H) (a1 : Int) (G0 : GI h0) (hN : NP h0) (n : Nat) (ih : q_X12_canBe2 h0 a1 n) : ∀ (l3 : Int) (h : m_H), GI h → FR [115, 116, 117, 118, 119, 120, 121, 124, 125, 126, 127, 128, 129, 130, 131, 132, 133, 134] [(108, 21)] h0 h → 0 ≤ l3 → l3 ≤ 256 → (-2147483648) ≤ a1 → a1 ≤ 2147483647 → (cbJ h (bL (h0 110) (h0 122) (h0 123) a1)) → (tR (h 134) l3) → (tCn (aS h) (bL (h0 110) (h0 122) (h0 123) a1) (h 134) l3) → 2 * (256 - l3) + (10992) ≤ ((n + 1 : Nat) : Int) → m_Z oF M_X12_canBe 44 [some (mR 108), none, none, some (mI l3), none, none] [] h (m_QI (P_X12_canBe2 h0 a1)) := by
  intro l3 h G R v0 v1 v2 v3 i0 i1 i2 hr
  have hE := bL_ok (ct := h0 123) (en := a1) G0 hN (fun j hj => g_122 G0 hj)
  refine z_iload_n (M := M_X12_canBe) 44 dX12_canBe_44 rfl ?_
  refine z_sipush (M := M_X12_canBe) 45 dX12_canBe_45 ?_
  refine z_icmp_ge (M := M_X12_canBe) 48 dX12_canBe_48 79 rfl (fun c1 => ?_) (fun c1 => ?_)
  · refine z_iconst (M := M_X12_canBe) 79 dX12_canBe_79 ?_
    refine z_istore_n (M := M_X12_canBe) 80 dX12_canBe_80 (ls' := [some (mR 108), none, none, some (mI 0), none, none]) (by decide) rfl ?_
    exact z_mask [true, false, false, true, false, false] rfl (ih.2.2.1 0 h G R (by omega) (by omega) (by omega) (by omega) i0 ((show l3 = 256 by omega) ▸ i1) (fun j q hj => absurd hj (Nat.not_lt_zero _)) ((show l3 = 256 by omega) ▸ i2) (by omega))
  · refine z_aload_n (M := M_X12_canBe) 51 dX12_canBe_51 rfl ?_
    refine z_getR (M := M_X12_canBe) 52 dX12_canBe_52 f_X12_91 o_108 rfl (g_108_39 G) ?_
    refine z_iload_n (M := M_X12_canBe) 55 dX12_canBe_55 rfl ?_
    refine z_iload_n (M := M_X12_canBe) 56 dX12_canBe_56 rfl ?_
    refine z_bipush (M := M_X12_canBe) 57 dX12_canBe_57 ?_
    refine z_idivN (M := M_X12_canBe) 59 dX12_canBe_59 (by omega) (by omega) ?_
    refine z_topBI (lo := 0) (hi := 15) ⟨by omega, by omega⟩ (fun x2 ex2 ax2 bx2 => ?_)
    refine z_iload_n (M := M_X12_canBe) 60 dX12_canBe_60 rfl ?_
    refine z_bipush (M := M_X12_canBe) 61 dX12_canBe_61 ?_
    refine z_iremN (M := M_X12_canBe) 63 dX12_canBe_63 (by omega) (by omega) ?_
    refine z_topBI (lo := 0) (hi := 15) ⟨by omega, by omega⟩ (fun x3 ex3 ax3 bx3 => ?_)
    refine z_icmp_ne (M := M_X12_canBe) 64 dX12_canBe_64 71 rfl (fun c4 => ?_) (fun c4 => ?_)
    · refine z_iconst (M := M_X12_canBe) 71 dX12_canBe_71 ?_
      refine z_zastH (M := M_X12_canBe) 72 dX12_canBe_72 o_134 (by omega) (by omega) (by omega) (u_134 G (by omega) (by omega)) (R.up rfl) (fun h1 E1 G1 R1 => ?_)
      refine z_iincN (M := M_X12_canBe) 73 dX12_canBe_73 (ls' := [some (mR 108), none, none, some (mI (l3 + 1)), none, none]) (by decide) rfl (by (unfold m_32; decide)) (by omega) (by omega) rfl ?_
      refine z_goto (M := M_X12_canBe) 76 dX12_canBe_76 44 rfl ?_
      exact z_mask [true, false, false, true, false, false] rfl (ih.2.1 (l3 + 1) h1 G1 R1 (by omega) (by omega) (by omega) (by omega) (i0.put E1) (tR_step (by omega) i1 (fun q => by omega) E1) (tC_i (by omega) (by omega) i2 (fun z => absurd z (by decide)) E1) (by omega))
    · refine z_iconst (M := M_X12_canBe) 67 dX12_canBe_67 ?_
      refine z_goto (M := M_X12_canBe) 68 dX12_canBe_68 72 rfl ?_
      refine z_zastH (M := M_X12_canBe) 72 dX12_canBe_72 o_134 (by omega) (by omega) (by omega) (u_134 G (by omega) (by omega)) (R.up rfl) (fun h2 E2 G2 R2 => ?_)
      refine z_iincN (M := M_X12_canBe) 73 dX12_canBe_73 (ls' := [some (mR 108), none, none, some (mI (l3 + 1)), none, none]) (by decide) rfl (by (unfold m_32; decide)) (by omega) (by omega) rfl ?_
      refine z_goto (M := M_X12_canBe) 76 dX12_canBe_76 44 rfl ?_
      exact z_mask [true, false, false, true, false, false] rfl (ih.2.1 (l3 + 1) h2 G2 R2 (by omega) (by omega) (by omega) (by omega) (i0.put E2) (tR_step (by omega) i1 (fun q => by omega) E2) (tC_i (by omega) (by omega) i2 (fun _ => by omega) E2) (by omega))
set_option maxHeartbeats 4000000 in
set_option maxRecDepth 100000 in
theorem s_X12_canBe2_81 (h0 : m_H) (a1 : Int) (G0 : GI h0) (hN : NP h0) (n : Nat) (ih : q_X12_canBe2 h0 a1 n) : ∀ (l3 : Int) (h : m_H), GI h → FR [115, 116, 117, 118, 119, 120, 121, 124, 125, 126, 127, 128, 129, 130, 131, 132, 133, 134] [(108, 21)] h0 h → 0 ≤ l3 → l3 ≤ 60 → (-2147483648) ≤ a1 → a1 ≤ 2147483647 → (cbJ h (bL (h0 110) (h0 122) (h0 123) a1)) → (tR (h 134) 256) → (tE (aS h) (bL (h0 110) (h0 122) (h0 123) a1) (h 134) l3.toNat) → (tCn (aS h) (bL (h0 110) (h0 122) (h0 123) a1) (h 134) 256) → 2 * (60 - l3) + (10869) ≤ ((n + 1 : Nat) : Int) → m_Z oF M_X12_canBe 81 [some (mR 108), none, none, some (mI l3), none, none] [] h (m_QI (P_X12_canBe2 h0 a1)) := by
  intro l3 h G R v0 v1 v2 v3 i0 i1 i2 i3 hr
  have hE := bL_ok (ct := h0 123) (en := a1) G0 hN (fun j hj => g_122 G0 hj)
  refine z_iload_n (M := M_X12_canBe) 81 dX12_canBe_81 rfl ?_
  refine z_aload_n (M := M_X12_canBe) 82 dX12_canBe_82 rfl ?_
  refine z_getIG (M := M_X12_canBe) 83 dX12_canBe_83 f_X12_333 o_108 (by decide) (g_108_21 G) (fun x1 ex1 ax1 bx1 => ?_)
  refine z_icmp_ge (M := M_X12_canBe) 86 dX12_canBe_86 153 rfl (fun c2 => ?_) (fun c2 => ?_)
  · refine z_iconst (M := M_X12_canBe) 153 dX12_canBe_153 ?_
    refine z_istore_n (M := M_X12_canBe) 154 dX12_canBe_154 (ls' := [some (mR 108), none, none, some (mI 0), none, none]) (by decide) rfl ?_
    exact z_mask [true, false, false, true, false, false] rfl (ih.2.2.2.1 0 h G R (by omega) (by omega) (by omega) (by omega) i0 (tA_0 i0 i1 i2 ex1 (by omega)) i3 (by omega))
  · refine z_aload_n (M := M_X12_canBe) 89 dX12_canBe_89 rfl ?_
    refine z_getR (M := M_X12_canBe) 90 dX12_canBe_90 f_X12_91 o_108 rfl (g_108_39 G) ?_
    refine z_bipush (M := M_X12_canBe) 93 dX12_canBe_93 ?_
    refine z_aload_n (M := M_X12_canBe) 95 dX12_canBe_95 rfl ?_
    refine z_getR (M := M_X12_canBe) 96 dX12_canBe_96 f_X12_40 o_108 rfl (g_108_22 G) ?_
    refine z_iload_n (M := M_X12_canBe) 99 dX12_canBe_99 rfl ?_
    refine z_ialdG (M := M_X12_canBe) 100 dX12_canBe_100 o_117 (by omega) (by omega) (g_117 G (by omega)) (fun x3 ex3 ax3 bx3 => ?_)
    refine z_imulN (M := M_X12_canBe) 101 dX12_canBe_101 (by omega) (by omega) ?_
    refine z_aload_n (M := M_X12_canBe) 102 dX12_canBe_102 rfl ?_
    refine z_getR (M := M_X12_canBe) 103 dX12_canBe_103 f_X12_43 o_108 rfl (g_108_23 G) ?_
    refine z_iload_n (M := M_X12_canBe) 106 dX12_canBe_106 rfl ?_
    refine z_ialdG (M := M_X12_canBe) 107 dX12_canBe_107 o_118 (by omega) (by omega) (g_118 G (by omega)) (fun x4 ex4 ax4 bx4 => ?_)
    refine z_iaddN (M := M_X12_canBe) 108 dX12_canBe_108 (by omega) (by omega) ?_
    refine z_aload_n (M := M_X12_canBe) 109 dX12_canBe_109 rfl ?_
    refine z_getR (M := M_X12_canBe) 110 dX12_canBe_110 f_X12_91 o_108 rfl (g_108_39 G) ?_
    refine z_bipush (M := M_X12_canBe) 113 dX12_canBe_113 ?_
    refine z_aload_n (M := M_X12_canBe) 115 dX12_canBe_115 rfl ?_
    refine z_getR (M := M_X12_canBe) 116 dX12_canBe_116 f_X12_40 o_108 rfl (g_108_22 G) ?_
    refine z_iload_n (M := M_X12_canBe) 119 dX12_canBe_119 rfl ?_
    refine z_ialdE (M := M_X12_canBe) 120 dX12_canBe_120 o_117 (by omega) (by omega) ex3 ?_
    refine z_imulN (M := M_X12_canBe) 121 dX12_canBe_121 (by omega) (by omega) ?_
    refine z_aload_n (M := M_X12_canBe) 122 dX12_canBe_122 rfl ?_
    refine z_getR (M := M_X12_canBe) 123 dX12_canBe_123 f_X12_43 o_108 rfl (g_108_23 G) ?_
    refine z_iload_n (M := M_X12_canBe) 126 dX12_canBe_126 rfl ?_
    refine z_ialdE (M := M_X12_canBe) 127 dX12_canBe_127 o_118 (by omega) (by omega) ex4 ?_
    refine z_iaddN (M := M_X12_canBe) 128 dX12_canBe_128 (by omega) (by omega) ?_
    refine z_zaldG (M := M_X12_canBe) 129 dX12_canBe_129 o_134 (by omega) (by omega) (g_134 G (by omega)) (fun x5 ex5 ax5 bx5 => ?_)
    refine z_if_ne (M := M_X12_canBe) 130 dX12_canBe_130 141 rfl (fun c6 => ?_) (fun c6 => ?_)
    · refine z_iconst (M := M_X12_canBe) 141 dX12_canBe_141 ?_
      refine z_goto (M := M_X12_canBe) 142 dX12_canBe_142 146 rfl ?_
      refine z_zastH (M := M_X12_canBe) 146 dX12_canBe_146 o_134 (by omega) (by omega) (by omega) (u_134 G (by omega) (by omega)) (R.up rfl) (fun h1 E1 G1 R1 => ?_)
      refine z_iincN (M := M_X12_canBe) 147 dX12_canBe_147 (ls' := [some (mR 108), none, none, some (mI (l3 + 1)), none, none]) (by decide) rfl (by (unfold m_32; decide)) (by omega) (by omega) rfl ?_
      refine z_goto (M := M_X12_canBe) 150 dX12_canBe_150 81 rfl ?_
      exact z_mask [true, false, false, true, false, false] rfl (ih.2.2.1 (l3 + 1) h1 G1 R1 (by omega) (by omega) (by omega) (by omega) (i0.put E1) (tE_step hE i0 (by omega) i1 i2 ex1 (by omega) ex3 ex4 rfl rfl (fun _ => rfl) (by omega) E1).1 (tE_step hE i0 (by omega) i1 i2 ex1 (by omega) ex3 ex4 rfl rfl (fun _ => rfl) (by omega) E1).2 (tC_e hE i0 (by omega) i3 ex1 (by omega) ex3 ex4 rfl rfl (fun _ => Or.inl (by omega)) E1) (by omega))
    · refine z_aload_n (M := M_X12_canBe) 133 dX12_canBe_133 rfl ?_
      refine z_iload_n (M := M_X12_canBe) 134 dX12_canBe_134 rfl ?_
      refine z_vI (M := M_X12_canBe) 135 dX12_canBe_135 t_X12_isTight l_X12_364 (m_rr_of rfl) (rest := [mI ((16 * x3) + x4), mR 134]) (c_X12_isTight h l3 (bL (h0 110) (h0 122) (h0 123) a1) G ⟨by omega, by omega⟩ i0.1 hE (by omega)) o_108 rfl rfl rfl (Nat.le_of_ble_eq_true rfl) ⟨rfl, rfl⟩ (fun x7 h2 qx7 => ?_)
      obtain ⟨G2, S2, ax7, bx7, fx7_0⟩ := qx7
      have R2 := R.call S2 (by decide +kernel)
      refine z_if_eq (M := M_X12_canBe) 138 dX12_canBe_138 145 rfl (fun c8 => ?_) (fun c8 => ?_)
      · refine z_iconst (M := M_X12_canBe) 145 dX12_canBe_145 ?_
        refine z_zastH (M := M_X12_canBe) 146 dX12_canBe_146 o_134 (by omega) (by omega) (by omega) (u_134 G2 (by omega) (by omega)) (R2.up rfl) (fun h3 E3 G3 R3 => ?_)
        refine z_iincN (M := M_X12_canBe) 147 dX12_canBe_147 (ls' := [some (mR 108), none, none, some (mI (l3 + 1)), none, none]) (by decide) rfl (by (unfold m_32; decide)) (by omega) (by omega) rfl ?_
        refine z_goto (M := M_X12_canBe) 150 dX12_canBe_150 81 rfl ?_
        exact z_mask [true, false, false, true, false, false] rfl (ih.2.2.1 (l3 + 1) h3 G3 R3 (by omega) (by omega) (by omega) (by omega) ((i0.ti S2).put E3) (tE_step hE i0 (by omega) i1 i2 ex1 (by omega) ex3 ex4 (FR.row S2 (fun _ => rfl)) (aS_ti S2) (fun z => absurd (fx7_0.mpr z) (by omega)) (by omega) E3).1 (tE_step hE i0 (by omega) i1 i2 ex1 (by omega) ex3 ex4 (FR.row S2 (fun _ => rfl)) (aS_ti S2) (fun z => absurd (fx7_0.mpr z) (by omega)) (by omega) E3).2 (tC_e hE i0 (by omega) i3 ex1 (by omega) ex3 ex4 (FR.row S2 (fun _ => rfl)) (aS_ti S2) (fun z => absurd z (by decide)) E3) (by omega))
      · refine z_iconst (M := M_X12_canBe) 141 dX12_canBe_141 ?_
        refine z_goto (M := M_X12_canBe) 142 dX12_canBe_142 146 rfl ?_
        refine z_zastH (M := M_X12_canBe) 146 dX12_canBe_146 o_134 (by omega) (by omega) (by omega) (u_134 G2 (by omega) (by omega)) (R2.up rfl) (fun h4 E4 G4 R4 => ?_)
        refine z_iincN (M := M_X12_canBe) 147 dX12_canBe_147 (ls' := [some (mR 108), none, none, some (mI (l3 + 1)), none, none]) (by decide) rfl (by (unfold m_32; decide)) (by omega) (by omega) rfl ?_
        refine z_goto (M := M_X12_canBe) 150 dX12_canBe_150 81 rfl ?_
        exact z_mask [true, false, false, true, false, false] rfl (ih.2.2.1 (l3 + 1) h4 G4 R4 (by omega) (by omega) (by omega) (by omega) ((i0.ti S2).put E4) (tE_step hE i0 (by omega) i1 i2 ex1 (by omega) ex3 ex4 (FR.row S2 (fun _ => rfl)) (aS_ti S2) (fun _ => rfl) (by omega) E4).1 (tE_step hE i0 (by omega) i1 i2 ex1 (by omega) ex3 ex4 (FR.row S2 (fun _ => rfl)) (aS_ti S2) (fun _ => rfl) (by omega) E4).2 (tC_e hE i0 (by omega) i3 ex1 (by omega) ex3 ex4 (FR.row S2 (fun _ => rfl)) (aS_ti S2) (fun _ => Or.inr (fx7_0.mp (by omega))) E4) (by omega))
set_option maxHeartbeats 4000000 in
set_option maxRecDepth 100000 in
theorem s_X12_canBe2_155 (h0 : m_H) (a1 : Int) (G0 : GI h0) (hN : NP h0) (n : Nat) (ih : q_X12_canBe2 h0 a1 n) : ∀ (l3 : Int) (h : m_H), GI h → FR [115, 116, 117, 118, 119, 120, 121, 124, 125, 126, 127, 128, 129, 130, 131, 132, 133, 134] [(108, 21)] h0 h → 0 ≤ l3 → l3 ≤ 16 → (-2147483648) ≤ a1 → a1 ≤ 2147483647 → (cbJ h (bL (h0 110) (h0 122) (h0 123) a1)) → (tA h (bL (h0 110) (h0 122) (h0 123) a1) l3.toNat) → (tCn (aS h) (bL (h0 110) (h0 122) (h0 123) a1) (h 134) 256) → 632 * (16 - l3) + (754) ≤ ((n + 1 : Nat) : Int) → m_Z oF M_X12_canBe 155 [some (mR 108), none, none, some (mI l3), none, none] [] h (m_QI (P_X12_canBe2 h0 a1)) := by
  intro l3 h G R v0 v1 v2 v3 i0 i1 i2 hr
  have hE := bL_ok (ct := h0 123) (en := a1) G0 hN (fun j hj => g_122 G0 hj)
  refine z_iload_n (M := M_X12_canBe) 155 dX12_canBe_155 rfl ?_
  refine z_bipush (M := M_X12_canBe) 156 dX12_canBe_156 ?_
  refine z_icmp_ge (M := M_X12_canBe) 158 dX12_canBe_158 263 rfl (fun c1 => ?_) (fun c1 => ?_)
  · refine z_iconst (M := M_X12_canBe) 263 dX12_canBe_263 ?_
    refine z_istore_n (M := M_X12_canBe) 264 dX12_canBe_264 (ls' := [some (mR 108), none, none, some (mI 0), none, none]) (by decide) rfl ?_
    exact z_mask [true, false, false, true, false, false] rfl (ih.2.2.2.2.2.2 0 h G R (by omega) (by omega) (by omega) (by omega) i0 (by rw [show l3 = 16 by omega] at i1; exact i1) (fun j q hj => absurd hj (Nat.not_lt_zero _)) i2 (by omega))
  · refine z_iconst (M := M_X12_canBe) 161 dX12_canBe_161 ?_
    refine z_istore (M := M_X12_canBe) 162 dX12_canBe_162 (ls' := [some (mR 108), none, none, some (mI l3), some (mI 0), none]) (by decide) rfl ?_
    exact z_mask [true, false, false, true, true, false] rfl (ih.2.2.2.2.1 l3 0 h G R (by omega) (by omega) (by omega) (by omega) (by omega) (by omega) i0 (tS_0 G i1) i2 (by omega))
set_option maxHeartbeats 4000000 in
set_option maxRecDepth 100000 in
theorem s_X12_canBe2_164 (h0 : m_H) (a1 : Int) (G0 : GI h0) (hN : NP h0) (n : Nat) (ih : q_X12_canBe2 h0 a1 n) : ∀ (l3 l4 : Int) (h : m_H), GI h → FR [115, 116, 117, 118, 119, 120, 121, 124, 125, 126, 127, 128, 129, 130, 131, 132, 133, 134] [(108, 21)] h0 h → 0 ≤ l3 → l3 ≤ 15 → 0 ≤ l4 → l4 ≤ 16 → (-2147483648) ≤ a1 → a1 ≤ 2147483647 → (cbJ h (bL (h0 110) (h0 122) (h0 123) a1)) → (tS h (bL (h0 110) (h0 122) (h0 123) a1) l3 (16 * l4)) → (tCn (aS h) (bL (h0 110) (h0 122) (h0 123) a1) (h 134) 256) → 632 * (16 - l3) + 37 * (16 - l4) + (36) + (123) ≤ ((n + 1 : Nat) : Int) → m_Z oF M_X12_canBe 164 [some (mR 108), none, none, some (mI l3), some (mI l4), none] [] h (m_QI (P_X12_canBe2 h0 a1)) := by
  intro l3 l4 h G R v0 v1 v2 v3 v4 v5 i0 i1 i2 hr
  have hE := bL_ok (ct := h0 123) (en := a1) G0 hN (fun j hj => g_122 G0 hj)
  refine z_iload (M := M_X12_canBe) 164 dX12_canBe_164 rfl ?_
  refine z_bipush (M := M_X12_canBe) 166 dX12_canBe_166 ?_
  refine z_icmp_ge (M := M_X12_canBe) 168 dX12_canBe_168 257 rfl (fun c1 => ?_) (fun c1 => ?_)
  · refine z_iincN (M := M_X12_canBe) 257 dX12_canBe_257 (ls' := [some (mR 108), none, none, some (mI (l3 + 1)), some (mI l4), none]) (by decide) rfl (by (unfold m_32; decide)) (by omega) (by omega) rfl ?_
    refine z_goto (M := M_X12_canBe) 260 dX12_canBe_260 155 rfl ?_
    exact z_mask [true, false, false, true, false, false] rfl (ih.2.2.2.1 (l3 + 1) h G R (by omega) (by omega) (by omega) (by omega) i0 (tS_end hE (by omega) (by omega) (by omega) i1) i2 (by omega))
  · refine z_iconst (M := M_X12_canBe) 171 dX12_canBe_171 ?_
    refine z_istore (M := M_X12_canBe) 172 dX12_canBe_172 (ls' := [some (mR 108), none, none, some (mI l3), some (mI l4), some (mI 0)]) (by decide) rfl ?_
    exact z_mask [true, false, false, true, true, true] rfl (ih.2.2.2.2.2.1 l3 l4 0 h G R (by omega) (by omega) (by omega) (by omega) (by omega) (by omega) (by omega) (by omega) i0 (by rw [Int.add_zero]; exact i1) i2 (by omega))
set_option maxHeartbeats 4000000 in
set_option maxRecDepth 100000 in
theorem s_X12_canBe2_174 (h0 : m_H) (a1 : Int) (G0 : GI h0) (hN : NP h0) (n : Nat) (ih : q_X12_canBe2 h0 a1 n) : ∀ (l3 l4 l5 : Int) (h : m_H), GI h → FR [115, 116, 117, 118, 119, 120, 121, 124, 125, 126, 127, 128, 129, 130, 131, 132, 133, 134] [(108, 21)] h0 h → 0 ≤ l3 → l3 ≤ 15 → 0 ≤ l4 → l4 ≤ 15 → 0 ≤ l5 → l5 ≤ 16 → (-2147483648) ≤ a1 → a1 ≤ 2147483647 → (cbJ h (bL (h0 110) (h0 122) (h0 123) a1)) → (tS h (bL (h0 110) (h0 122) (h0 123) a1) l3 (16 * l4 + l5)) → (tCn (aS h) (bL (h0 110) (h0 122) (h0 123) a1) (h 134) 256) → 632 * (16 - l3) + 37 * (16 - l4) + 2 * (16 - l5) + (1) + (123) ≤ ((n + 1 : Nat) : Int) → m_Z oF M_X12_canBe 174 [some (mR 108), none, none, some (mI l3), some (mI l4), some (mI l5)] [] h (m_QI (P_X12_canBe2 h0 a1)) := by
  intro l3 l4 l5 h G R v0 v1 v2 v3 v4 v5 v6 v7 i0 i1 i2 hr
  have hE := bL_ok (ct := h0 123) (en := a1) G0 hN (fun j hj => g_122 G0 hj)
  refine z_iload (M := M_X12_canBe) 174 dX12_canBe_174 rfl ?_
  refine z_bipush (M := M_X12_canBe) 176 dX12_canBe_176 ?_
  refine z_icmp_ge (M := M_X12_canBe) 178 dX12_canBe_178 251 rfl (fun c1 => ?_) (fun c1 => ?_)
  · refine z_iincN (M := M_X12_canBe) 251 dX12_canBe_251 (ls' := [some (mR 108), none, none, some (mI l3), some (mI (l4 + 1)), some (mI l5)]) (by decide) rfl (by (unfold m_32; decide)) (by omega) (by omega) rfl ?_
    refine z_goto (M := M_X12_canBe) 254 dX12_canBe_254 164 rfl ?_
    exact z_mask [true, false, false, true, true, false] rfl (ih.2.2.2.2.1 l3 (l4 + 1) h G R (by omega) (by omega) (by omega) (by omega) (by omega) (by omega) i0 (by rw [show 16 * (l4 + 1) = 16 * l4 + l5 by omega]; exact i1) i2 (by omega))
  · refine z_aload_n (M := M_X12_canBe) 181 dX12_canBe_181 rfl ?_
    refine z_getR (M := M_X12_canBe) 182 dX12_canBe_182 f_X12_91 o_108 rfl (g_108_39 G) ?_
    refine z_bipush (M := M_X12_canBe) 185 dX12_canBe_185 ?_
    refine z_iload (M := M_X12_canBe) 187 dX12_canBe_187 rfl ?_
    refine z_imulN (M := M_X12_canBe) 189 dX12_canBe_189 (by omega) (by omega) ?_
    refine z_iload (M := M_X12_canBe) 190 dX12_canBe_190 rfl ?_
    refine z_iaddN (M := M_X12_canBe) 192 dX12_canBe_192 (by omega) (by omega) ?_
    refine z_aload_n (M := M_X12_canBe) 193 dX12_canBe_193 rfl ?_
    refine z_getR (M := M_X12_canBe) 194 dX12_canBe_194 f_X12_91 o_108 rfl (g_108_39 G) ?_
    refine z_bipush (M := M_X12_canBe) 197 dX12_canBe_197 ?_
    refine z_iload (M := M_X12_canBe) 199 dX12_canBe_199 rfl ?_
    refine z_imulN (M := M_X12_canBe) 201 dX12_canBe_201 (by omega) (by omega) ?_
    refine z_iload (M := M_X12_canBe) 202 dX12_canBe_202 rfl ?_
    refine z_iaddN (M := M_X12_canBe) 204 dX12_canBe_204 (by omega) (by omega) ?_
    refine z_zaldG (M := M_X12_canBe) 205 dX12_canBe_205 o_134 (by omega) (by omega) (g_134 G (by omega)) (fun x2 ex2 ax2 bx2 => ?_)
    refine z_if_ne (M := M_X12_canBe) 206 dX12_canBe_206 239 rfl (fun c3 => ?_) (fun c3 => ?_)
    · refine z_iconst (M := M_X12_canBe) 239 dX12_canBe_239 ?_
      refine z_goto (M := M_X12_canBe) 240 dX12_canBe_240 244 rfl ?_
      refine z_zastH (M := M_X12_canBe) 244 dX12_canBe_244 o_134 (by omega) (by omega) (by omega) (u_134 G (by omega) (by omega)) (R.up rfl) (fun h1 E1 G1 R1 => ?_)
      refine z_iincN (M := M_X12_canBe) 245 dX12_canBe_245 (ls' := [some (mR 108), none, none, some (mI l3), some (mI l4), some (mI (l5 + 1))]) (by decide) rfl (by (unfold m_32; decide)) (by omega) (by omega) rfl ?_
      refine z_goto (M := M_X12_canBe) 248 dX12_canBe_248 174 rfl ?_
      exact z_mask [true, false, false, true, true, true] rfl (ih.2.2.2.2.2.1 l3 l4 (l5 + 1) h1 G1 R1 (by omega) (by omega) (by omega) (by omega) (by omega) (by omega) (by omega) (by omega) (i0.put E1) (tS_step (by omega) (by omega) (by omega) (by omega) (by omega) (by omega) i1 (by omega) E1) (tC_s (m := l3) (by omega) (by omega) (by omega) (by omega) (by omega) (by omega) i2 (fun _ => Or.inl (by omega)) E1) (by omega))
    · refine z_aload_n (M := M_X12_canBe) 209 dX12_canBe_209 rfl ?_
      refine z_getR (M := M_X12_canBe) 210 dX12_canBe_210 f_X12_91 o_108 rfl (g_108_39 G) ?_
      refine z_bipush (M := M_X12_canBe) 213 dX12_canBe_213 ?_
      refine z_iload (M := M_X12_canBe) 215 dX12_canBe_215 rfl ?_
      refine z_imulN (M := M_X12_canBe) 217 dX12_canBe_217 (by omega) (by omega) ?_
      refine z_iload_n (M := M_X12_canBe) 218 dX12_canBe_218 rfl ?_
      refine z_iaddN (M := M_X12_canBe) 219 dX12_canBe_219 (by omega) (by omega) ?_
      refine z_zaldG (M := M_X12_canBe) 220 dX12_canBe_220 o_134 (by omega) (by omega) (g_134 G (by omega)) (fun x4 ex4 ax4 bx4 => ?_)
      refine z_if_eq (M := M_X12_canBe) 221 dX12_canBe_221 243 rfl (fun c5 => ?_) (fun c5 => ?_)
      · refine z_iconst (M := M_X12_canBe) 243 dX12_canBe_243 ?_
        refine z_zastH (M := M_X12_canBe) 244 dX12_canBe_244 o_134 (by omega) (by omega) (by omega) (u_134 G (by omega) (by omega)) (R.up rfl) (fun h2 E2 G2 R2 => ?_)
        refine z_iincN (M := M_X12_canBe) 245 dX12_canBe_245 (ls' := [some (mR 108), none, none, some (mI l3), some (mI l4), some (mI (l5 + 1))]) (by decide) rfl (by (unfold m_32; decide)) (by omega) (by omega) rfl ?_
        refine z_goto (M := M_X12_canBe) 248 dX12_canBe_248 174 rfl ?_
        exact z_mask [true, false, false, true, true, true] rfl (ih.2.2.2.2.2.1 l3 l4 (l5 + 1) h2 G2 R2 (by omega) (by omega) (by omega) (by omega) (by omega) (by omega) (by omega) (by omega) (i0.put E2) (tS_step (by omega) (by omega) (by omega) (by omega) (by omega) (by omega) i1 (by omega) E2) (tC_s (m := l3) (by omega) (by omega) (by omega) (by omega) (by omega) (by omega) i2 (fun z => absurd z (by decide)) E2) (by omega))
      · refine z_aload_n (M := M_X12_canBe) 224 dX12_canBe_224 rfl ?_
        refine z_getR (M := M_X12_canBe) 225 dX12_canBe_225 f_X12_91 o_108 rfl (g_108_39 G) ?_
        refine z_bipush (M := M_X12_canBe) 228 dX12_canBe_228 ?_
        refine z_iload_n (M := M_X12_canBe) 230 dX12_canBe_230 rfl ?_
        refine z_imulN (M := M_X12_canBe) 231 dX12_canBe_231 (by omega) (by omega) ?_
        refine z_iload (M := M_X12_canBe) 232 dX12_canBe_232 rfl ?_
        refine z_iaddN (M := M_X12_canBe) 234 dX12_canBe_234 (by omega) (by omega) ?_
        refine z_zaldG (M := M_X12_canBe) 235 dX12_canBe_235 o_134 (by omega) (by omega) (g_134 G (by omega)) (fun x6 ex6 ax6 bx6 => ?_)
        refine z_if_eq (M := M_X12_canBe) 236 dX12_canBe_236 243 rfl (fun c7 => ?_) (fun c7 => ?_)
        · refine z_iconst (M := M_X12_canBe) 243 dX12_canBe_243 ?_
          refine z_zastH (M := M_X12_canBe) 244 dX12_canBe_244 o_134 (by omega) (by omega) (by omega) (u_134 G (by omega) (by omega)) (R.up rfl) (fun h3 E3 G3 R3 => ?_)
          refine z_iincN (M := M_X12_canBe) 245 dX12_canBe_245 (ls' := [some (mR 108), none, none, some (mI l3), some (mI l4), some (mI (l5 + 1))]) (by decide) rfl (by (unfold m_32; decide)) (by omega) (by omega) rfl ?_
          refine z_goto (M := M_X12_canBe) 248 dX12_canBe_248 174 rfl ?_
          exact z_mask [true, false, false, true, true, true] rfl (ih.2.2.2.2.2.1 l3 l4 (l5 + 1) h3 G3 R3 (by omega) (by omega) (by omega) (by omega) (by omega) (by omega) (by omega) (by omega) (i0.put E3) (tS_step (by omega) (by omega) (by omega) (by omega) (by omega) (by omega) i1 (by omega) E3) (tC_s (m := l3) (by omega) (by omega) (by omega) (by omega) (by omega) (by omega) i2 (fun z => absurd z (by decide)) E3) (by omega))
        · refine z_iconst (M := M_X12_canBe) 239 dX12_canBe_239 ?_
          refine z_goto (M := M_X12_canBe) 240 dX12_canBe_240 244 rfl ?_
          refine z_zastH (M := M_X12_canBe) 244 dX12_canBe_244 o_134 (by omega) (by omega) (by omega) (u_134 G (by omega) (by omega)) (R.up rfl) (fun h4 E4 G4 R4 => ?_)
          refine z_iincN (M := M_X12_canBe) 245 dX12_canBe_245 (ls' := [some (mR 108), none, none, some (mI l3), some (mI l4), some (mI (l5 + 1))]) (by decide) rfl (by (unfold m_32; decide)) (by omega) (by omega) rfl ?_
          refine z_goto (M := M_X12_canBe) 248 dX12_canBe_248 174 rfl ?_
          exact z_mask [true, false, false, true, true, true] rfl (ih.2.2.2.2.2.1 l3 l4 (l5 + 1) h4 G4 R4 (by omega) (by omega) (by omega) (by omega) (by omega) (by omega) (by omega) (by omega) (i0.put E4) (tS_step (by omega) (by omega) (by omega) (by omega) (by omega) (by omega) i1 (by omega) E4) (tC_s (m := l3) (by omega) (by omega) (by omega) (by omega) (by omega) (by omega) i2 (fun _ => Or.inr ⟨by omega, by omega⟩) E4) (by omega))
set_option maxHeartbeats 4000000 in
set_option maxRecDepth 100000 in
theorem s_X12_canBe2_265 (h0 : m_H) (a1 : Int) (G0 : GI h0) (hN : NP h0) (n : Nat) (ih : q_X12_canBe2 h0 a1 n) : ∀ (l3 : Int) (h : m_H), GI h → FR [115, 116, 117, 118, 119, 120, 121, 124, 125, 126, 127, 128, 129, 130, 131, 132, 133, 134] [(108, 21)] h0 h → 0 ≤ l3 → l3 ≤ 60 → (-2147483648) ≤ a1 → a1 ≤ 2147483647 → (cbJ h (bL (h0 110) (h0 122) (h0 123) a1)) → (tA h (bL (h0 110) (h0 122) (h0 123) a1) 16) → (tO (aS h) (bL (h0 110) (h0 122) (h0 123) a1) (h 134) l3.toNat) → (tCn (aS h) (bL (h0 110) (h0 122) (h0 123) a1) (h 134) 256) → 2 * (60 - l3) + (1) ≤ ((n + 1 : Nat) : Int) → m_Z oF M_X12_canBe 265 [some (mR 108), none, none, some (mI l3), none, none] [] h (m_QI (P_X12_canBe2 h0 a1)) := by
  intro l3 h G R v0 v1 v2 v3 i0 i1 i2 i3 hr
  have hE := bL_ok (ct := h0 123) (en := a1) G0 hN (fun j hj => g_122 G0 hj)
  refine z_iload_n (M := M_X12_canBe) 265 dX12_canBe_265 rfl ?_
  refine z_aload_n (M := M_X12_canBe) 266 dX12_canBe_266 rfl ?_
  refine z_getIG (M := M_X12_canBe) 267 dX12_canBe_267 f_X12_333 o_108 (by decide) (g_108_21 G) (fun x1 ex1 ax1 bx1 => ?_)
  refine z_icmp_ge (M := M_X12_canBe) 270 dX12_canBe_270 322 rfl (fun c2 => ?_) (fun c2 => ?_)
  · refine z_iconst (M := M_X12_canBe) 322 dX12_canBe_322 ?_
    exact z_retZ (M := M_X12_canBe) 323 dX12_canBe_323 rfl (by omega) ⟨G, R, by omega, by omega, cb_end hE i0 i1 i2 ex1 (by omega), fun z => absurd z (by decide)⟩
  · refine z_aload_n (M := M_X12_canBe) 273 dX12_canBe_273 rfl ?_
    refine z_getR (M := M_X12_canBe) 274 dX12_canBe_274 f_X12_52 o_108 rfl (g_108_26 G) ?_
    refine z_iload_n (M := M_X12_canBe) 277 dX12_canBe_277 rfl ?_
    refine z_zaldG (M := M_X12_canBe) 278 dX12_canBe_278 o_121 (by omega) (by omega) (g_121 G (by omega)) (fun x3 ex3 ax3 bx3 => ?_)
    refine z_if_eq (M := M_X12_canBe) 279 dX12_canBe_279 316 rfl (fun c4 => ?_) (fun c4 => ?_)
    · refine z_iincN (M := M_X12_canBe) 316 dX12_canBe_316 (ls' := [some (mR 108), none, none, some (mI (l3 + 1)), none, none]) (by decide) rfl (by (unfold m_32; decide)) (by omega) (by omega) rfl ?_
      refine z_goto (M := M_X12_canBe) 319 dX12_canBe_319 265 rfl ?_
      exact z_mask [true, false, false, true, false, false] rfl (ih.2.2.2.2.2.2 (l3 + 1) h G R (by omega) (by omega) (by omega) (by omega) i0 i1 (tO_a i0 (by omega) i2 ex1 (by omega) ex3 (by omega)) i3 (by omega))
    · refine z_aload_n (M := M_X12_canBe) 282 dX12_canBe_282 rfl ?_
      refine z_iload_n (M := M_X12_canBe) 283 dX12_canBe_283 rfl ?_
      refine z_vI (M := M_X12_canBe) 284 dX12_canBe_284 t_X12_isTight l_X12_364 (m_rr_of rfl) (rest := []) (c_X12_isTight h l3 (bL (h0 110) (h0 122) (h0 123) a1) G ⟨by omega, by omega⟩ i0.1 hE (by omega)) o_108 rfl rfl rfl (Nat.le_of_ble_eq_true rfl) ⟨rfl, rfl⟩ (fun x5 h1 qx5 => ?_)
      obtain ⟨G1, S1, ax5, bx5, fx5_0⟩ := qx5
      have R1 := R.call S1 (by decide +kernel)
      refine z_if_eq (M := M_X12_canBe) 287 dX12_canBe_287 316 rfl (fun c6 => ?_) (fun c6 => ?_)
      · refine z_iincN (M := M_X12_canBe) 316 dX12_canBe_316 (ls' := [some (mR 108), none, none, some (mI (l3 + 1)), none, none]) (by decide) rfl (by (unfold m_32; decide)) (by omega) (by omega) rfl ?_
        refine z_goto (M := M_X12_canBe) 319 dX12_canBe_319 265 rfl ?_
        exact z_mask [true, false, false, true, false, false] rfl (ih.2.2.2.2.2.2 (l3 + 1) h1 G1 R1 (by omega) (by omega) (by omega) (by omega) (i0.ti S1) (i1.ti S1) (tO_b hE i0 (by omega) i2 S1 fx5_0 (by omega)) (i3.ti S1) (by omega))
      · refine z_aload_n (M := M_X12_canBe) 290 dX12_canBe_290 rfl ?_
        refine z_getR (M := M_X12_canBe) 291 dX12_canBe_291 f_X12_91 o_108 rfl (g_108_39 G1) ?_
        refine z_bipush (M := M_X12_canBe) 294 dX12_canBe_294 ?_
        refine z_aload_n (M := M_X12_canBe) 296 dX12_canBe_296 rfl ?_
        refine z_getR (M := M_X12_canBe) 297 dX12_canBe_297 f_X12_43 o_108 rfl (g_108_23 G1) ?_
        refine z_iload_n (M := M_X12_canBe) 300 dX12_canBe_300 rfl ?_
        refine z_ialdG (M := M_X12_canBe) 301 dX12_canBe_301 o_118 (by omega) (by omega) (g_118 G1 (by omega)) (fun x7 ex7 ax7 bx7 => ?_)
        refine z_imulN (M := M_X12_canBe) 302 dX12_canBe_302 (by omega) (by omega) ?_
        refine z_aload_n (M := M_X12_canBe) 303 dX12_canBe_303 rfl ?_
        refine z_getR (M := M_X12_canBe) 304 dX12_canBe_304 f_X12_40 o_108 rfl (g_108_22 G1) ?_
        refine z_iload_n (M := M_X12_canBe) 307 dX12_canBe_307 rfl ?_
        refine z_ialdG (M := M_X12_canBe) 308 dX12_canBe_308 o_117 (by omega) (by omega) (g_117 G1 (by omega)) (fun x8 ex8 ax8 bx8 => ?_)
        refine z_iaddN (M := M_X12_canBe) 309 dX12_canBe_309 (by omega) (by omega) ?_
        refine z_zaldG (M := M_X12_canBe) 310 dX12_canBe_310 o_134 (by omega) (by omega) (g_134 G1 (by omega)) (fun x9 ex9 ax9 bx9 => ?_)
        refine z_if_eq (M := M_X12_canBe) 311 dX12_canBe_311 316 rfl (fun c10 => ?_) (fun c10 => ?_)
        · refine z_iincN (M := M_X12_canBe) 316 dX12_canBe_316 (ls' := [some (mR 108), none, none, some (mI (l3 + 1)), none, none]) (by decide) rfl (by (unfold m_32; decide)) (by omega) (by omega) rfl ?_
          refine z_goto (M := M_X12_canBe) 319 dX12_canBe_319 265 rfl ?_
          exact z_mask [true, false, false, true, false, false] rfl (ih.2.2.2.2.2.2 (l3 + 1) h1 G1 R1 (by omega) (by omega) (by omega) (by omega) (i0.ti S1) (i1.ti S1) (tO_c i0 (by omega) i2 S1 ex1 (by omega) ex7 ex8 ex9 (by omega)) (i3.ti S1) (by omega))
        · refine z_iconst (M := M_X12_canBe) 314 dX12_canBe_314 ?_
          exact z_retZ (M := M_X12_canBe) 315 dX12_canBe_315 rfl (by omega) ⟨G1, R1, by omega, by omega, cbQ_0, fun _ => tC_g hE i0 (by omega) i3 S1 ex1 (by omega) ex3 (by omega) fx5_0 (by omega) ex7 ex8 ex9 (by omega)⟩
theorem a_X12_canBe2 (h0 : m_H) (a1 : Int) (G0 : GI h0) (hN : NP h0) : ∀ n, q_X12_canBe2 h0 a1 n := by
  intro n
  induction n with
  | zero => unfold q_X12_canBe2; refine ⟨?_, ?_, ?_, ?_, ?_, ?_, ?_⟩ <;> (intros; omega)
  | succ n ih => exact ⟨s_X12_canBe2_14 h0 a1 G0 hN n ih, s_X12_canBe2_44 h0 a1 G0 hN n ih, s_X12_canBe2_81 h0 a1 G0 hN n ih, s_X12_canBe2_155 h0 a1 G0 hN n ih, s_X12_canBe2_164 h0 a1 G0 hN n ih, s_X12_canBe2_174 h0 a1 G0 hN n ih, s_X12_canBe2_265 h0 a1 G0 hN n ih⟩
set_option maxHeartbeats 4000000 in
set_option maxRecDepth 100000 in
theorem c_X12_canBe2 (h0 : m_H) (a1 : Int) (G0 : GI h0) (hN : NP h0) : m_CI M_X12_canBe [mR 108, mI a1] h0 (P_X12_canBe2 h0 a1) := by
  refine m_CI_of ⟨by decide, rfl, by simp [m_arg, m_isL, M_X12_canBe], ⟨rfl, rfl⟩, rfl, rfl⟩ (ls := [some (mR 108), some (mI a1), none, none, none, none]) rfl ?_
  have ih := a_X12_canBe2 h0 a1 G0 hN 11548
  refine z_ok (fun _ _ ok => ?_)
  have oa1 : m_32 a1 := ok 1 _ rfl
  unfold m_32 at oa1
  have hE := bL_ok (ct := h0 123) (en := a1) G0 hN (fun j hj => g_122 G0 hj)
  refine z_aload_n (M := M_X12_canBe) 0 dX12_canBe_0 rfl ?_
  refine z_iload_n (M := M_X12_canBe) 1 dX12_canBe_1 rfl ?_
  refine z_vV (M := M_X12_canBe) 2 dX12_canBe_2 t_X12_build l_X12_354 (m_rr_of rfl) (rest := []) (c_X12_build h0 a1 G0 (NP.call hN (FR.rf (cs := [115, 116, 117, 118, 119, 120, 121, 124, 125, 126, 127, 128, 129, 130, 131, 132, 133, 134]) (ss := [(108, 21)]) (h := h0)) (fun _ => rfl) (fun _ => rfl) (fun _ => rfl))) o_108 rfl rfl rfl (Nat.le_of_ble_eq_true rfl) ⟨rfl, rfl⟩ (fun h1 qx1 => ?_)
  obtain ⟨G1, S1, fx1_0⟩ := qx1
  have R1 := (FR.rf (cs := [115, 116, 117, 118, 119, 120, 121, 124, 125, 126, 127, 128, 129, 130, 131, 132, 133, 134]) (ss := [(108, 21)]) (h := h0)).call S1 (by decide +kernel)
  refine z_aload_n (M := M_X12_canBe) 5 dX12_canBe_5 rfl ?_
  refine z_iconst (M := M_X12_canBe) 6 dX12_canBe_6 ?_
  refine z_vV (M := M_X12_canBe) 7 dX12_canBe_7 t_X12_startAt l_X12_357 (m_rr_of rfl) (rest := []) (c_X12_startAtX h1 (-1) G1) o_108 rfl rfl rfl (Nat.le_of_ble_eq_true rfl) ⟨rfl, rfl⟩ (fun h2 qx2 => ?_)
  obtain ⟨G2, S2, fx2_0⟩ := qx2
  have R2 := R1.call S2 (by decide +kernel)
  refine z_iconst (M := M_X12_canBe) 10 dX12_canBe_10 ?_
  refine z_istore_n (M := M_X12_canBe) 11 dX12_canBe_11 (ls' := [some (mR 108), some (mI a1), some (mI 1), none, none, none]) (by decide) rfl ?_
  refine z_iconst (M := M_X12_canBe) 12 dX12_canBe_12 ?_
  refine z_istore_n (M := M_X12_canBe) 13 dX12_canBe_13 (ls' := [some (mR 108), some (mI a1), some (mI 1), some (mI 0), none, none]) (by decide) rfl ?_
  exact z_mask [true, false, true, true, false, false] rfl (ih.1 1 0 h2 G2 R2 (by omega) (by omega) (by omega) (by omega) (by omega) (by omega) (cb_02 (AR.call fx1_0 S2 rfl (fun _ => rfl) (fun _ => rfl) (fun _ => rfl) (fun _ => rfl) (fun _ => rfl)) fx2_0) (by omega))
