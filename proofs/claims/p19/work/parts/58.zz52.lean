/-! long numbers of ten places -/
theorem vS_put {h h' : m_H} {t i : Nat} {r : Int} (E : h' = m_up h t i r) (hi : i < 10) : vS (h' t) 0 10 = vS (h t) 0 10 + (r - h t i) * (100000000 : Int) ^ i := by
  have e : h' t = fun q => if q = 0 + i then r else h t q := funext fun q => by
    rw [Nat.zero_add]
    by_cases g : q = i
    · rw [if_pos g, g, upE E]
    · rw [if_neg g, upN E (fun z => g z.2)]
  have z := vS_up (f := h t) (a := 0) (j := i) (v := r) (n := 10) hi
  rw [Nat.zero_add] at z e
  rw [e]; exact z
theorem dg_put {h h' : m_H} {t i : Nat} {r : Int} (E : h' = m_up h t i r) (d : dg10 (h t)) (hr : 0 ≤ r ∧ r ≤ 99999999) : dg10 (h' t) := fun j hj => by
  by_cases g : j = i
  · rw [g, upE E]; exact hr
  · rw [upN E (fun z => g z.2)]; exact d j hj
theorem vS_z {f : Nat → Int} : ∀ n : Nat, (∀ j, j < n → f j = 0) → vS f 0 n = 0
  | 0, _ => rfl
  | n + 1, h => by
    rw [vS_succ, vS_z n (fun j hj => h j (by omega)), Nat.zero_add, h n (by omega), Int.zero_mul]; rfl
theorem vS_p {f : Nat → Int} (d : dg10 f) {n : Nat} (hn : n ≤ 10) : 0 ≤ vS f 0 n := (vS_bd (f := f) (a := 0) (n := n) (fun j hj => by rw [Nat.zero_add]; exact d j (by omega))).1
theorem vS_8 {f : Nat → Int} (d : dg10 f) (h : vS f 0 10 < 10000000000000000000000000000000000000000000000000000000000000000) : vS f 0 8 = vS f 0 10 ∧ vS f 0 9 = vS f 0 10 := by
  have e9 := vS_succ f 0 9
  have e8 := vS_succ f 0 8
  rw [show (100000000 : Int) ^ 9 = 1000000000000000000000000000000000000000000000000000000000000000000000000 by decide, Nat.zero_add] at e9
  rw [show (100000000 : Int) ^ 8 = 10000000000000000000000000000000000000000000000000000000000000000 by decide, Nat.zero_add] at e8
  have p := vS_p d (n := 8) (by decide)
  have d8 := d 8 (by decide)
  have d9 := d 9 (by decide)
  have e9' : vS f 0 10 = vS f 0 9 + f 9 * 1000000000000000000000000000000000000000000000000000000000000000000000000 := e9
  have e8' : vS f 0 9 = vS f 0 8 + f 8 * 10000000000000000000000000000000000000000000000000000000000000000 := e8
  omega
/-! multiply -/
def mlO (A a l s : Int) (g : Nat → Int) : Prop := dg10 g ∧ 0 ≤ l ∧ vS g 0 10 + A * (l * (100000000 : Int) ^ s.toNat) = A * a ∧ l * (100000000 : Int) ^ s.toNat ≤ a
def mlN (f : Nat → Int) (a l s p c k : Int) (g : Nat → Int) : Prop := dg10 g ∧ 0 ≤ l ∧ (l % 100000000 = p ∧ 0 ≤ p ∧ p ≤ 99999999) ∧ (0 ≤ c ∧ c ≤ p) ∧ l * (100000000 : Int) ^ s.toNat ≤ a ∧ k + s ≤ 10 ∧ ∃ P, P + vS f 0 10 * (l * (100000000 : Int) ^ s.toNat) = vS f 0 10 * a ∧ vS g 0 10 + c * (100000000 : Int) ^ (s.toNat + k.toNat) = P + vS f 0 k.toNat * p * (100000000 : Int) ^ s.toNat
theorem ml_0 {A a : Int} {g : Nat → Int} (z : ∀ j : Nat, j < 10 → g j = 0) (ha : 0 ≤ a) : mlO A a a 0 g := by
  refine ⟨fun j hj => by rw [z j hj]; decide, ha, ?_, ?_⟩
  · rw [vS_z 10 z]
    show 0 + A * (a * (100000000 : Int) ^ 0) = A * a
    rw [Int.pow_zero, Int.mul_one, Int.zero_add]
  · show a * (100000000 : Int) ^ 0 ≤ a
    rw [Int.pow_zero, Int.mul_one]; exact Int.le_refl _
theorem ml_in {f g : Nat → Int} {a l s p : Int} (I : mlO (vS f 0 10) a l s g) (hs : 0 ≤ s ∧ s ≤ 2) (ep : l % 100000000 = p) : mlN f a l s p 0 0 g := by
  obtain ⟨i1, i2, i3, i4⟩ := I
  refine ⟨i1, i2, ⟨ep, by omega, by omega⟩, ⟨Int.le_refl _, by omega⟩, i4, by omega, vS g 0 10, i3, ?_⟩
  rw [Int.zero_mul]
  show vS g 0 10 + 0 = vS g 0 10 + 0 * p * _
  rw [Int.zero_mul, Int.zero_mul]
theorem ml_st {f : Nat → Int} {h h' : m_H} {a l s p c k x3 x4 m w v r c' : Int} (df : dg10 f) (I : mlN f a l s p c k (h 142)) (k0 : 0 ≤ k) (s0 : 0 ≤ s ∧ s ≤ 2) (hk : k + s < 10) (e3 : h 142 (k + s).toNat = x3) (e4 : f k.toNat = x4) (em : x4 * p = m) (ew : x3 + m = w) (ev : w + c = v) (er : v % 100000000 = r) (ec : v / 100000000 = c') (E : h' = m_up h 142 (k + s).toNat r) : mlN f a l s p c' (k + 1) (h' 142) := by
  obtain ⟨i1, i2, i3, i4, i5, i6, P, i7, i8⟩ := I
  have d3 := i1 (k + s).toNat (by omega)
  rw [e3] at d3
  have d4 := df k.toNat (by omega)
  rw [e4] at d4
  have mb := mul_bd d4.1 d4.2 i3.2.1 (Int.le_refl p)
  rw [em] at mb
  refine ⟨dg_put E i1 (by omega), i2, i3, ⟨by omega, by omega⟩, i5, by omega, P, i7, ?_⟩
  rw [vS_put E (by omega), e3]
  have t1 : (k + 1).toNat = k.toNat + 1 := by omega
  have t2 : (k + s).toNat = s.toNat + k.toNat := by omega
  have t3 : s.toNat + (k.toNat + 1) = s.toNat + k.toNat + 1 := by omega
  rw [t1, t2, t3, vS_succ f 0 k.toNat, Nat.zero_add, e4, Int.pow_succ]
  have q : r + 100000000 * c' = x3 + m + c := by omega
  have q2 : x4 * (100000000 : Int) ^ k.toNat * p * (100000000 : Int) ^ s.toNat = m * (100000000 : Int) ^ (s.toNat + k.toNat) := by
    rw [← em, Int.pow_add]; ac_rfl
  rw [Int.add_mul, Int.add_mul, q2]
  generalize (100000000 : Int) ^ (s.toNat + k.toNat) = T at *
  have q3 : c' * (T * 100000000) = 100000000 * c' * T := by ac_rfl
  have q4 : (r + 100000000 * c') * T = (x3 + m + c) * T := by rw [q]
  rw [q3, Int.sub_mul]
  rw [Int.add_mul, Int.add_mul, Int.add_mul] at q4
  omega
theorem ml_ex {f g : Nat → Int} {a l s p c k l' : Int} (df : dg10 f) (hA : vS f 0 10 < 10000000000000000000000000000000000000000000000000000000000000000) (hP : vS f 0 10 * a < 100000000000000000000000000000000000000000000000000000000000000000000000000000000) (I : mlN f a l s p c k g) (s0 : 0 ≤ s ∧ s ≤ 2) (k0 : 0 ≤ k) (hk : k + s = 10) (el : l / 100000000 = l') : mlO (vS f 0 10) a l' (s + 1) g := by
  obtain ⟨i1, i2, i3, i4, i5, i6, P, i7, i8⟩ := I
  have A0 := vS_p df (n := 10) (by decide)
  have v8 := vS_8 df hA
  have vk : vS f 0 k.toNat = vS f 0 10 := by
    have e : k.toNat = 8 ∨ k.toNat = 9 ∨ k.toNat = 10 := by omega
    rcases e with e | e | e <;> rw [e]
    · exact v8.1
    · exact v8.2
  rw [vk, show s.toNat + k.toNat = 10 by omega, show (100000000 : Int) ^ 10 = 100000000000000000000000000000000000000000000000000000000000000000000000000000000 by decide] at i8
  have S0 : (0 : Int) ≤ (100000000 : Int) ^ s.toNat := Int.le_of_lt (Int.pow_pos (by decide))
  have e1 : (s + 1).toNat = s.toNat + 1 := by omega
  have dm : l = 100000000 * l' + p := by omega
  have k1 : vS f 0 10 * (l' * (100000000 : Int) ^ (s + 1).toNat) + vS f 0 10 * p * (100000000 : Int) ^ s.toNat = vS f 0 10 * (l * (100000000 : Int) ^ s.toNat) := by
    rw [e1, Int.pow_succ]
    conv => rhs; rw [dm]
    generalize (100000000 : Int) ^ s.toNat = T
    rw [Int.add_mul, Int.mul_add]
    have k2 : vS f 0 10 * (l' * (T * 100000000)) = vS f 0 10 * (100000000 * l' * T) := by ac_rfl
    have k3 : vS f 0 10 * p * T = vS f 0 10 * (p * T) := by ac_rfl
    rw [k2, k3]
  have l0 : 0 ≤ l' := by omega
  have n1 := Int.mul_nonneg A0 (Int.mul_nonneg l0 (show (0 : Int) ≤ (100000000 : Int) ^ (s + 1).toNat from Int.le_of_lt (Int.pow_pos (by decide))))
  have n2 := vS_p i1 (n := 10) (by decide)
  have c0 : c = 0 := by omega
  rw [c0, Int.zero_mul, Int.add_zero] at i8
  refine ⟨i1, l0, by omega, ?_⟩
  rw [e1, Int.pow_succ]
  have k4 : l' * ((100000000 : Int) ^ s.toNat * 100000000) = 100000000 * l' * (100000000 : Int) ^ s.toNat := by ac_rfl
  rw [k4]
  have k5 := Int.mul_le_mul_of_nonneg_right (show 100000000 * l' ≤ l by omega) S0
  omega
theorem ml_en {A a l s : Int} {g : Nat → Int} (I : mlO A a l s g) (hs : s = 3) (ha : a < 1000000000000000000000000) : dg10 g ∧ vS g 0 10 = A * a := by
  subst hs
  obtain ⟨i1, i2, i3, i4⟩ := I
  rw [show (100000000 : Int) ^ (3 : Int).toNat = 1000000000000000000000000 by decide] at i3 i4
  have l0 : l = 0 := by omega
  subst l0
  rw [Int.zero_mul, Int.mul_zero, Int.add_zero] at i3
  exact ⟨i1, i3⟩
theorem dg_of {f g : Nat → Int} (e : ∀ j : Nat, j < 10 → f j = g j) (d : dg10 g) : dg10 f ∧ vS f 0 10 = vS g 0 10 := ⟨fun j hj => by rw [e j hj]; exact d j hj, vS_same (fun j hj => by rw [Nat.zero_add]; exact e j hj)⟩
abbrev P_X12_multiply4 (h0 : m_H) (t : Nat) (a2 : Int) : m_H → Prop := fun h' => GI h' ∧ FR [142, t] [] h0 h' ∧ dg10 (h' t) ∧ vS (h' t) 0 10 = vS (h0 t) 0 10 * a2
def q_X12_multiply4 (h0 : m_H) (t : Nat) (a2 : Int) (n : Nat) : Prop := (∀ (l4 : Int) (h : m_H), GI h → FR [142, t] [] h0 h → 0 ≤ l4 → l4 ≤ 10 → (h t = h0 t ∧ ∀ j : Nat, (j : Int) < l4 → h 142 j = 0) → 2 * (10 - l4) + (125) ≤ (n : Int) → m_Z oF M_X12_multiply 3 [some (mR 108), some (mR t), some (mJ a2), none, some (mI l4), none, none, none, none, none, none, none, none, none] [] h (m_QV (P_X12_multiply4 h0 t a2))) ∧ (∀ (l4 l6 : Int) (h : m_H), GI h → FR [142, t] [] h0 h → 0 ≤ l6 → l6 ≤ 3 → (h t = h0 t ∧ mlO (vS (h0 t) 0 10) a2 l4 l6 (h 142)) → 25 * (3 - l6) + (47) ≤ (n : Int) → m_Z oF M_X12_multiply 30 [some (mR 108), some (mR t), none, none, some (mJ l4), none, some (mI l6), none, none, none, none, none, none, none] [] h (m_QV (P_X12_multiply4 h0 t a2))) ∧ (∀ (l4 l6 l7 l9 l11 : Int) (h : m_H), GI h → FR [142, t] [] h0 h → 0 ≤ l6 → l6 ≤ 2 → 0 ≤ l11 → l11 ≤ 10 → (h t = h0 t ∧ mlN (h0 t) a2 l4 l6 l7 l9 l11 (h 142)) → 25 * (3 - l6) + 2 * (10 - l11) + (1) + (23) ≤ (n : Int) → m_Z oF M_X12_multiply 50 [some (mR 108), some (mR t), none, none, some (mJ l4), none, some (mI l6), some (mJ l7), none, some (mJ l9), none, some (mI l11), none, none] [] h (m_QV (P_X12_multiply4 h0 t a2))) ∧ (∀ (l6 : Int) (h : m_H), GI h → FR [142, t] [] h0 h → 0 ≤ l6 → l6 ≤ 10 → ((dg10 (h 142) ∧ vS (h 142) 0 10 = (vS (h0 t) 0 10) * a2) ∧ ∀ j : Nat, (j : Int) < l6 → h t j = h 142 j) → 2 * (10 - l6) + (1) ≤ (n : Int) → m_Z oF M_X12_multiply 130 [some (mR 108), some (mR t), none, none, none, none, some (mI l6), none, none, none, none, none, none, none] [] h (m_QV (P_X12_multiply4 h0 t a2)))
set_option maxHeartbeats 4000000 in
set_option maxRecDepth 100000 in
theorem s_X12_multiply4_3 (h0 : m_H) (t : Nat) (a2 : Int) (w_t : t = 139 ∨ t = 140 ∨ t = 141) (G0 : GI h0) (hd : dg10 (h0 t)) (ha : 0 ≤ a2 ∧ a2 < 1000000000000000000000000) (hA : vS (h0 t) 0 10 < 10000000000000000000000000000000000000000000000000000000000000000) (hP : vS (h0 t) 0 10 * a2 < 100000000000000000000000000000000000000000000000000000000000000000000000000000000) (n : Nat) (ih : q_X12_multiply4 h0 t a2 n) : ∀ (l4 : Int) (h : m_H), GI h → FR [142, t] [] h0 h → 0 ≤ l4 → l4 ≤ 10 → (h t = h0 t ∧ ∀ j : Nat, (j : Int) < l4 → h 142 j = 0) → 2 * (10 - l4) + (125) ≤ ((n + 1 : Nat) : Int) → m_Z oF M_X12_multiply 3 [some (mR 108), some (mR t), some (mJ a2), none, some (mI l4), none, none, none, none, none, none, none, none, none] [] h (m_QV (P_X12_multiply4 h0 t a2)) := by
  intro l4 h G R v0 v1 i1 hr
  refine z_iload (M := M_X12_multiply) 3 dX12_multiply_3 rfl ?_
  refine z_bipush (M := M_X12_multiply) 5 dX12_multiply_5 ?_
  refine z_icmp_ge (M := M_X12_multiply) 7 dX12_multiply_7 24 rfl (fun c1 => ?_) (fun c1 => ?_)
  · refine z_lload_n (M := M_X12_multiply) 24 dX12_multiply_24 rfl ?_
    refine z_lstore (M := M_X12_multiply) 25 dX12_multiply_25 (ls' := [some (mR 108), some (mR t), some (mJ a2), none, some (mJ a2), none, none, none, none, none, none, none, none, none]) (by decide) rfl ?_
    refine z_iconst (M := M_X12_multiply) 27 dX12_multiply_27 ?_
    refine z_istore (M := M_X12_multiply) 28 dX12_multiply_28 (ls' := [some (mR 108), some (mR t), some (mJ a2), none, some (mJ a2), none, some (mI 0), none, none, none, none, none, none, none]) (by decide) rfl ?_
    exact z_mask [true, true, false, false, true, false, true, false, false, false, false, false, false, false] rfl (ih.2.1 a2 0 h G R (by omega) (by omega) ⟨i1.1, ml_0 (fun j hj => i1.2 j (by omega)) ha.1⟩ (by omega))
  · refine z_aload_n (M := M_X12_multiply) 10 dX12_multiply_10 rfl ?_
    refine z_getR (M := M_X12_multiply) 11 dX12_multiply_11 f_X12_115 o_108 rfl (g_108_51 G) ?_
    refine z_iload (M := M_X12_multiply) 14 dX12_multiply_14 rfl ?_
    refine z_lconst (M := M_X12_multiply) 16 dX12_multiply_16 (v := 0) ?_
    refine z_lastH (M := M_X12_multiply) 17 dX12_multiply_17 o_142 (by omega) (by omega) (u_142 G) (R.up rfl) (fun h1 E1 G1 R1 => ?_)
    refine z_iincN (M := M_X12_multiply) 18 dX12_multiply_18 (ls' := [some (mR 108), some (mR t), some (mJ a2), none, some (mI (l4 + 1)), none, none, none, none, none, none, none, none, none]) (by decide) rfl (by (unfold m_32; decide)) (by omega) (by omega) rfl ?_
    refine z_goto (M := M_X12_multiply) 21 dX12_multiply_21 3 rfl ?_
    exact z_mask [true, true, true, false, true, false, false, false, false, false, false, false, false, false] rfl (ih.1 (l4 + 1) h1 G1 R1 (by omega) (by omega) ⟨(upo E1 (by rcases w_t with rfl | rfl | rfl <;> decide)).trans i1.1, fun j hj => by by_cases g : j = l4.toNat; rw [g, upE E1]; rw [upN E1 (fun z => g z.2)]; exact i1.2 j (by omega)⟩ (by omega))
set_option maxHeartbeats 4000000 in
set_option maxRecDepth 100000 in
theorem s_X12_multiply4_30 (h0 : m_H) (t : Nat) (a2 : Int) (w_t : t = 139 ∨ t = 140 ∨ t = 141) (G0 : GI h0) (hd : dg10 (h0 t)) (ha : 0 ≤ a2 ∧ a2 < 1000000000000000000000000) (hA : vS (h0 t) 0 10 < 10000000000000000000000000000000000000000000000000000000000000000) (hP : vS (h0 t) 0 10 * a2 < 100000000000000000000000000000000000000000000000000000000000000000000000000000000) (n : Nat) (ih : q_X12_multiply4 h0 t a2 n) : ∀ (l4 l6 : Int) (h : m_H), GI h → FR [142, t] [] h0 h → 0 ≤ l6 → l6 ≤ 3 → (h t = h0 t ∧ mlO (vS (h0 t) 0 10) a2 l4 l6 (h 142)) → 25 * (3 - l6) + (47) ≤ ((n + 1 : Nat) : Int) → m_Z oF M_X12_multiply 30 [some (mR 108), some (mR t), none, none, some (mJ l4), none, some (mI l6), none, none, none, none, none, none, none] [] h (m_QV (P_X12_multiply4 h0 t a2)) := by
  intro l4 l6 h G R v0 v1 i1 hr
  have l0_ := i1.2.2.1
  refine z_iload (M := M_X12_multiply) 30 dX12_multiply_30 rfl ?_
  refine z_iconst (M := M_X12_multiply) 32 dX12_multiply_32 ?_
  refine z_icmp_ge (M := M_X12_multiply) 33 dX12_multiply_33 127 rfl (fun c1 => ?_) (fun c1 => ?_)
  · refine z_iconst (M := M_X12_multiply) 127 dX12_multiply_127 ?_
    refine z_istore (M := M_X12_multiply) 128 dX12_multiply_128 (ls' := [some (mR 108), some (mR t), none, none, some (mJ l4), none, some (mI 0), none, none, none, none, none, none, none]) (by decide) rfl ?_
    exact z_mask [true, true, false, false, false, false, true, false, false, false, false, false, false, false] rfl (ih.2.2.2 0 h G R (by omega) (by omega) ⟨ml_en i1.2 (by omega) ha.2, fun j hj => by omega⟩ (by omega))
  · refine z_lload (M := M_X12_multiply) 36 dX12_multiply_36 rfl ?_
    refine z_ldc2 (M := M_X12_multiply) 38 dX12_multiply_38 k_X12_327 ?_
    refine z_lremN (M := M_X12_multiply) 41 dX12_multiply_41 (by omega) (by omega) ?_
    refine z_topJ (fun x2 ex2 => ?_)
    refine z_lstore (M := M_X12_multiply) 42 dX12_multiply_42 (ls' := [some (mR 108), some (mR t), none, none, some (mJ l4), none, some (mI l6), some (mJ x2), none, none, none, none, none, none]) (by decide) rfl ?_
    refine z_lconst (M := M_X12_multiply) 44 dX12_multiply_44 (v := 0) ?_
    refine z_lstore (M := M_X12_multiply) 45 dX12_multiply_45 (ls' := [some (mR 108), some (mR t), none, none, some (mJ l4), none, some (mI l6), some (mJ x2), none, some (mJ 0), none, none, none, none]) (by decide) rfl ?_
    refine z_iconst (M := M_X12_multiply) 47 dX12_multiply_47 ?_
    refine z_istore (M := M_X12_multiply) 48 dX12_multiply_48 (ls' := [some (mR 108), some (mR t), none, none, some (mJ l4), none, some (mI l6), some (mJ x2), none, some (mJ 0), none, some (mI 0), none, none]) (by decide) rfl ?_
    exact z_mask [true, true, false, false, true, false, true, true, false, true, false, true, false, false] rfl (ih.2.2.1 l4 l6 x2 0 0 h G R (by omega) (by omega) (by omega) (by omega) ⟨i1.1, ml_in i1.2 ⟨by omega, by omega⟩ ex2⟩ (by omega))
set_option maxHeartbeats 4000000 in
set_option maxRecDepth 100000 in
theorem s_X12_multiply4_50 (h0 : m_H) (t : Nat) (a2 : Int) (w_t : t = 139 ∨ t = 140 ∨ t = 141) (G0 : GI h0) (hd : dg10 (h0 t)) (ha : 0 ≤ a2 ∧ a2 < 1000000000000000000000000) (hA : vS (h0 t) 0 10 < 10000000000000000000000000000000000000000000000000000000000000000) (hP : vS (h0 t) 0 10 * a2 < 100000000000000000000000000000000000000000000000000000000000000000000000000000000) (n : Nat) (ih : q_X12_multiply4 h0 t a2 n) : ∀ (l4 l6 l7 l9 l11 : Int) (h : m_H), GI h → FR [142, t] [] h0 h → 0 ≤ l6 → l6 ≤ 2 → 0 ≤ l11 → l11 ≤ 10 → (h t = h0 t ∧ mlN (h0 t) a2 l4 l6 l7 l9 l11 (h 142)) → 25 * (3 - l6) + 2 * (10 - l11) + (1) + (23) ≤ ((n + 1 : Nat) : Int) → m_Z oF M_X12_multiply 50 [some (mR 108), some (mR t), none, none, some (mJ l4), none, some (mI l6), some (mJ l7), none, some (mJ l9), none, some (mI l11), none, none] [] h (m_QV (P_X12_multiply4 h0 t a2)) := by
  intro l4 l6 l7 l9 l11 h G R v0 v1 v2 v3 i1 hr
  have l0_ := i1.2.2.1
  have p0_ := i1.2.2.2.1
  have c0_ := i1.2.2.2.2.1
  have s0_ := i1.2.2.2.2.2.2.1
  refine z_iload (M := M_X12_multiply) 50 dX12_multiply_50 rfl ?_
  refine z_iload (M := M_X12_multiply) 52 dX12_multiply_52 rfl ?_
  refine z_iaddN (M := M_X12_multiply) 54 dX12_multiply_54 (by omega) (by omega) ?_
  refine z_bipush (M := M_X12_multiply) 55 dX12_multiply_55 ?_
  refine z_icmp_ge (M := M_X12_multiply) 57 dX12_multiply_57 113 rfl (fun c1 => ?_) (fun c1 => ?_)
  · refine z_lload (M := M_X12_multiply) 113 dX12_multiply_113 rfl ?_
    refine z_ldc2 (M := M_X12_multiply) 115 dX12_multiply_115 k_X12_327 ?_
    refine z_ldivN (M := M_X12_multiply) 118 dX12_multiply_118 (by omega) (by omega) ?_
    refine z_topJ (fun x2 ex2 => ?_)
    refine z_lstore (M := M_X12_multiply) 119 dX12_multiply_119 (ls' := [some (mR 108), some (mR t), none, none, some (mJ x2), none, some (mI l6), some (mJ l7), none, some (mJ l9), none, some (mI l11), none, none]) (by decide) rfl ?_
    refine z_iincN (M := M_X12_multiply) 121 dX12_multiply_121 (ls' := [some (mR 108), some (mR t), none, none, some (mJ x2), none, some (mI (l6 + 1)), some (mJ l7), none, some (mJ l9), none, some (mI l11), none, none]) (by decide) rfl (by (unfold m_32; decide)) (by omega) (by omega) rfl ?_
    refine z_goto (M := M_X12_multiply) 124 dX12_multiply_124 30 rfl ?_
    exact z_mask [true, true, false, false, true, false, true, false, false, false, false, false, false, false] rfl (ih.2.1 x2 (l6 + 1) h G R (by omega) (by omega) ⟨i1.1, ml_ex hd hA hP i1.2 ⟨by omega, by omega⟩ (by omega) (by omega) ex2⟩ (by omega))
  · refine z_aload_n (M := M_X12_multiply) 60 dX12_multiply_60 rfl ?_
    refine z_getR (M := M_X12_multiply) 61 dX12_multiply_61 f_X12_115 o_108 rfl (g_108_51 G) ?_
    refine z_iload (M := M_X12_multiply) 64 dX12_multiply_64 rfl ?_
    refine z_iload (M := M_X12_multiply) 66 dX12_multiply_66 rfl ?_
    refine z_iaddN (M := M_X12_multiply) 68 dX12_multiply_68 (by omega) (by omega) ?_
    refine z_laldV (M := M_X12_multiply) 69 dX12_multiply_69 o_142 (by omega) (by omega) (fun x3 ex3 => ?_)
    have d3_ := i1.2.1 (l11 + l6).toNat (by omega); rw [ex3] at d3_
    refine z_aload_n (M := M_X12_multiply) 70 dX12_multiply_70 rfl ?_
    refine z_iload (M := M_X12_multiply) 71 dX12_multiply_71 rfl ?_
    refine z_laldV (M := M_X12_multiply) 73 dX12_multiply_73 (oC_139_140_141 w_t) (by omega) (by omega) (fun x4 ex4 => ?_)
    have v4_ : h0 t l11.toNat = x4 := (congrFun i1.1 l11.toNat).symm.trans ex4
    have d4_ := hd l11.toNat (by omega); rw [v4_] at d4_
    refine z_lload (M := M_X12_multiply) 74 dX12_multiply_74 rfl ?_
    have mx5 := mul_bd (x := x4) (y := l7) (X := 99999999) (Y := 99999999) (by omega) (by omega) (by omega) (by omega)
    refine z_lmulN (M := M_X12_multiply) 76 dX12_multiply_76 (by omega) (by omega) ?_
    refine z_topBJ (lo := 0) (hi := 9999999800000001) ⟨by omega, by omega⟩ (fun x5 ex5 ax5 bx5 => ?_)
    refine z_laddN (M := M_X12_multiply) 77 dX12_multiply_77 (by omega) (by omega) ?_
    refine z_topJ (fun x6 ex6 => ?_)
    refine z_lload (M := M_X12_multiply) 78 dX12_multiply_78 rfl ?_
    refine z_laddN (M := M_X12_multiply) 80 dX12_multiply_80 (by omega) (by omega) ?_
    refine z_topJ (fun x7 ex7 => ?_)
    refine z_lstore (M := M_X12_multiply) 81 dX12_multiply_81 (ls' := [some (mR 108), some (mR t), none, none, some (mJ l4), none, some (mI l6), some (mJ l7), none, some (mJ l9), none, some (mI l11), some (mJ x7), none]) (by decide) rfl ?_
    refine z_aload_n (M := M_X12_multiply) 83 dX12_multiply_83 rfl ?_
    refine z_getR (M := M_X12_multiply) 84 dX12_multiply_84 f_X12_115 o_108 rfl (g_108_51 G) ?_
    refine z_iload (M := M_X12_multiply) 87 dX12_multiply_87 rfl ?_
    refine z_iload (M := M_X12_multiply) 89 dX12_multiply_89 rfl ?_
    refine z_iaddN (M := M_X12_multiply) 91 dX12_multiply_91 (by omega) (by omega) ?_
    refine z_lload (M := M_X12_multiply) 92 dX12_multiply_92 rfl ?_
    refine z_ldc2 (M := M_X12_multiply) 94 dX12_multiply_94 k_X12_327 ?_
    refine z_lremN (M := M_X12_multiply) 97 dX12_multiply_97 (by omega) (by omega) ?_
    refine z_topJ (fun x8 ex8 => ?_)
    refine z_lastH (M := M_X12_multiply) 98 dX12_multiply_98 o_142 (by omega) (by omega) (u_142 G) (R.up rfl) (fun h1 E1 G1 R1 => ?_)
    refine z_lload (M := M_X12_multiply) 99 dX12_multiply_99 rfl ?_
    refine z_ldc2 (M := M_X12_multiply) 101 dX12_multiply_101 k_X12_327 ?_
    refine z_ldivN (M := M_X12_multiply) 104 dX12_multiply_104 (by omega) (by omega) ?_
    refine z_topJ (fun x9 ex9 => ?_)
    refine z_lstore (M := M_X12_multiply) 105 dX12_multiply_105 (ls' := [some (mR 108), some (mR t), none, none, some (mJ l4), none, some (mI l6), some (mJ l7), none, some (mJ x9), none, some (mI l11), some (mJ x7), none]) (by decide) rfl ?_
    refine z_iincN (M := M_X12_multiply) 107 dX12_multiply_107 (ls' := [some (mR 108), some (mR t), none, none, some (mJ l4), none, some (mI l6), some (mJ l7), none, some (mJ x9), none, some (mI (l11 + 1)), some (mJ x7), none]) (by decide) rfl (by (unfold m_32; decide)) (by omega) (by omega) rfl ?_
    refine z_goto (M := M_X12_multiply) 110 dX12_multiply_110 50 rfl ?_
    exact z_mask [true, true, false, false, true, false, true, true, false, true, false, true, false, false] rfl (ih.2.2.1 l4 l6 l7 x9 (l11 + 1) h1 G1 R1 (by omega) (by omega) (by omega) (by omega) ⟨(upo E1 (by rcases w_t with rfl | rfl | rfl <;> decide)).trans i1.1, ml_st hd i1.2 (by omega) ⟨by omega, by omega⟩ (by omega) ex3 v4_ ex5 ex6 ex7 ex8 ex9 E1⟩ (by omega))
set_option maxHeartbeats 4000000 in
set_option maxRecDepth 100000 in
theorem s_X12_multiply4_130 (h0 : m_H) (t : Nat) (a2 : Int) (w_t : t = 139 ∨ t = 140 ∨ t = 141) (G0 : GI h0) (hd : dg10 (h0 t)) (ha : 0 ≤ a2 ∧ a2 < 1000000000000000000000000) (hA : vS (h0 t) 0 10 < 10000000000000000000000000000000000000000000000000000000000000000) (hP : vS (h0 t) 0 10 * a2 < 100000000000000000000000000000000000000000000000000000000000000000000000000000000) (n : Nat) (ih : q_X12_multiply4 h0 t a2 n) : ∀ (l6 : Int) (h : m_H), GI h → FR [142, t] [] h0 h → 0 ≤ l6 → l6 ≤ 10 → ((dg10 (h 142) ∧ vS (h 142) 0 10 = (vS (h0 t) 0 10) * a2) ∧ ∀ j : Nat, (j : Int) < l6 → h t j = h 142 j) → 2 * (10 - l6) + (1) ≤ ((n + 1 : Nat) : Int) → m_Z oF M_X12_multiply 130 [some (mR 108), some (mR t), none, none, none, none, some (mI l6), none, none, none, none, none, none, none] [] h (m_QV (P_X12_multiply4 h0 t a2)) := by
  intro l6 h G R v0 v1 i1 hr
  refine z_iload (M := M_X12_multiply) 130 dX12_multiply_130 rfl ?_
  refine z_bipush (M := M_X12_multiply) 132 dX12_multiply_132 ?_
  refine z_icmp_ge (M := M_X12_multiply) 134 dX12_multiply_134 154 rfl (fun c1 => ?_) (fun c1 => ?_)
  · exact z_retV (M := M_X12_multiply) 154 dX12_multiply_154 rfl ⟨G, R, (dg_of (fun j hj => i1.2 j (by omega)) i1.1.1).1, (dg_of (fun j hj => i1.2 j (by omega)) i1.1.1).2.trans i1.1.2⟩
  · refine z_aload_n (M := M_X12_multiply) 137 dX12_multiply_137 rfl ?_
    refine z_iload (M := M_X12_multiply) 138 dX12_multiply_138 rfl ?_
    refine z_aload_n (M := M_X12_multiply) 140 dX12_multiply_140 rfl ?_
    refine z_getR (M := M_X12_multiply) 141 dX12_multiply_141 f_X12_115 o_108 rfl (g_108_51 G) ?_
    refine z_iload (M := M_X12_multiply) 144 dX12_multiply_144 rfl ?_
    refine z_laldV (M := M_X12_multiply) 146 dX12_multiply_146 o_142 (by omega) (by omega) (fun x2 ex2 => ?_)
    refine z_lastH (M := M_X12_multiply) 147 dX12_multiply_147 (oC_139_140_141 w_t) (by omega) (by omega) (uC_139_140_141 w_t G) (R.up (by simp [fr])) (fun h1 E1 G1 R1 => ?_)
    refine z_iincN (M := M_X12_multiply) 148 dX12_multiply_148 (ls' := [some (mR 108), some (mR t), none, none, none, none, some (mI (l6 + 1)), none, none, none, none, none, none, none]) (by decide) rfl (by (unfold m_32; decide)) (by omega) (by omega) rfl ?_
    refine z_goto (M := M_X12_multiply) 151 dX12_multiply_151 130 rfl ?_
    exact z_mask [true, true, false, false, false, false, true, false, false, false, false, false, false, false] rfl (ih.2.2.2 (l6 + 1) h1 G1 R1 (by omega) (by omega) ⟨by rw [upo E1 (show (142 : Nat) ≠ t by rcases w_t with rfl | rfl | rfl <;> decide)]; exact i1.1, fun j hj => by rw [upo (c := 142) E1 (by rcases w_t with rfl | rfl | rfl <;> decide)]; by_cases g : j = l6.toNat; rw [g, upE E1, ex2]; rw [upN E1 (fun z => g z.2)]; exact i1.2 j (by omega)⟩ (by omega))
theorem a_X12_multiply4 (h0 : m_H) (t : Nat) (a2 : Int) (w_t : t = 139 ∨ t = 140 ∨ t = 141) (G0 : GI h0) (hd : dg10 (h0 t)) (ha : 0 ≤ a2 ∧ a2 < 1000000000000000000000000) (hA : vS (h0 t) 0 10 < 10000000000000000000000000000000000000000000000000000000000000000) (hP : vS (h0 t) 0 10 * a2 < 100000000000000000000000000000000000000000000000000000000000000000000000000000000) : ∀ n, q_X12_multiply4 h0 t a2 n := by
  intro n
  induction n with
  | zero => unfold q_X12_multiply4; refine ⟨?_, ?_, ?_, ?_⟩ <;> (intros; omega)
  | succ n ih => exact ⟨s_X12_multiply4_3 h0 t a2 w_t G0 hd ha hA hP n ih, s_X12_multiply4_30 h0 t a2 w_t G0 hd ha hA hP n ih, s_X12_multiply4_50 h0 t a2 w_t G0 hd ha hA hP n ih, s_X12_multiply4_130 h0 t a2 w_t G0 hd ha hA hP n ih⟩
set_option maxHeartbeats 4000000 in
set_option maxRecDepth 100000 in
theorem c_X12_multiply4 (h0 : m_H) (t : Nat) (a2 : Int) (w_t : t = 139 ∨ t = 140 ∨ t = 141) (G0 : GI h0) (hd : dg10 (h0 t)) (ha : 0 ≤ a2 ∧ a2 < 1000000000000000000000000) (hA : vS (h0 t) 0 10 < 10000000000000000000000000000000000000000000000000000000000000000) (hP : vS (h0 t) 0 10 * a2 < 100000000000000000000000000000000000000000000000000000000000000000000000000000000) : m_CV M_X12_multiply [mR 108, mR t, mJ a2] h0 (P_X12_multiply4 h0 t a2) := by
  refine m_CV_of ⟨by decide, rfl, by simp [m_arg, m_isL, M_X12_multiply], ⟨rfl, rfl⟩, rfl, rfl⟩ (ls := [some (mR 108), some (mR t), some (mJ a2), none, none, none, none, none, none, none, none, none, none, none]) rfl ?_
  have ih := a_X12_multiply4 h0 t a2 w_t G0 hd ha hA hP 152
  refine z_iconst (M := M_X12_multiply) 0 dX12_multiply_0 ?_
  refine z_istore (M := M_X12_multiply) 1 dX12_multiply_1 (ls' := [some (mR 108), some (mR t), some (mJ a2), none, some (mI 0), none, none, none, none, none, none, none, none, none]) (by decide) rfl ?_
  exact z_mask [true, true, true, false, true, false, false, false, false, false, false, false, false, false] rfl (ih.1 0 h0 G0 (FR.rf (cs := [142, t]) (ss := []) (h := h0)) (by omega) (by omega) ⟨rfl, fun j hj => by omega⟩ (by omega))
theorem vS_1 {f : Nat → Int} (H : ∀ j : Nat, j < 10 → f j = if j = 0 then 1 else 0) : dg10 f ∧ vS f 0 10 = 1 := by
  refine ⟨fun j hj => by rw [H j hj]; split <;> omega, ?_⟩
  simp only [vS_succ, Nat.zero_add]
  rw [H 0 (by decide), H 1 (by decide), H 2 (by decide), H 3 (by decide), H 4 (by decide), H 5 (by decide), H 6 (by decide), H 7 (by decide), H 8 (by decide), H 9 (by decide), show vS f 0 0 = 0 from rfl]
  decide +kernel
abbrev P_X12_triple4 (h0 : m_H) (t : Nat) (a2 a3 a4 : Int) : m_H → Prop := fun h' => GI h' ∧ FR [142, t] [] h0 h' ∧ dg10 (h' t) ∧ vS (h' t) 0 10 = a2 * a3 * a4
def q_X12_triple4 (h0 : m_H) (t : Nat) (a2 a3 a4 : Int) (n : Nat) : Prop := (∀ (l8 : Int) (h : m_H), GI h → FR [142, t] [] h0 h → 0 ≤ l8 → l8 ≤ 10 → (∀ j : Nat, (j : Int) < l8 → h t j = if j = 0 then 1 else 0) → 2 * (10 - l8) + (1) ≤ (n : Int) → m_Z oF M_X12_triple 3 [some (mR 108), some (mR t), some (mJ a2), none, some (mJ a3), none, some (mJ a4), none, some (mI l8)] [] h (m_QV (P_X12_triple4 h0 t a2 a3 a4)))
set_option maxHeartbeats 4000000 in
set_option maxRecDepth 100000 in
theorem s_X12_triple4_3 (h0 : m_H) (t : Nat) (a2 a3 a4 : Int) (w_t : t = 139 ∨ t = 140 ∨ t = 141) (G0 : GI h0) (q2 : 0 ≤ a2 ∧ a2 ≤ 100000000000) (q3 : 0 ≤ a3 ∧ a3 ≤ 100000000000) (q4 : 0 ≤ a4 ∧ a4 ≤ 100000000000) (n : Nat) (ih : q_X12_triple4 h0 t a2 a3 a4 n) : ∀ (l8 : Int) (h : m_H), GI h → FR [142, t] [] h0 h → 0 ≤ l8 → l8 ≤ 10 → (∀ j : Nat, (j : Int) < l8 → h t j = if j = 0 then 1 else 0) → 2 * (10 - l8) + (1) ≤ ((n + 1 : Nat) : Int) → m_Z oF M_X12_triple 3 [some (mR 108), some (mR t), some (mJ a2), none, some (mJ a3), none, some (mJ a4), none, some (mI l8)] [] h (m_QV (P_X12_triple4 h0 t a2 a3 a4)) := by
  intro l8 h G R v0 v1 i1 hr
  have m1_ := mul_bd q2.1 q2.2 q3.1 q3.2
  have m2_ := mul_bd m1_.1 m1_.2 q4.1 q4.2
  refine z_iload (M := M_X12_triple) 3 dX12_triple_3 rfl ?_
  refine z_bipush (M := M_X12_triple) 5 dX12_triple_5 ?_
  refine z_icmp_ge (M := M_X12_triple) 7 dX12_triple_7 30 rfl (fun c1 => ?_) (fun c1 => ?_)
  · refine z_aload_n (M := M_X12_triple) 30 dX12_triple_30 rfl ?_
    refine z_aload_n (M := M_X12_triple) 31 dX12_triple_31 rfl ?_
    refine z_lload_n (M := M_X12_triple) 32 dX12_triple_32 rfl ?_
    have o_ := vS_1 (f := h t) (fun j hj => i1 j (by omega))
    refine z_vV (M := M_X12_triple) 33 dX12_triple_33 t_X12_multiply l_X12_447 (m_rr_of rfl) (rest := []) (c_X12_multiply4 h t a2 w_t G o_.1 ⟨by omega, by omega⟩ (by rw [o_.2]; decide) (by rw [o_.2, Int.one_mul]; omega)) o_108 rfl rfl rfl (Nat.le_of_ble_eq_true rfl) ⟨rfl, rfl⟩ (fun h1 qx2 => ?_)
    obtain ⟨G1, S1, d1_, v1_⟩ := qx2
    rw [o_.2, Int.one_mul] at v1_
    have R1 := R.call S1 (by simp [fsub, fr, csB])
    refine z_aload_n (M := M_X12_triple) 36 dX12_triple_36 rfl ?_
    refine z_aload_n (M := M_X12_triple) 37 dX12_triple_37 rfl ?_
    refine z_lload (M := M_X12_triple) 38 dX12_triple_38 rfl ?_
    refine z_vV (M := M_X12_triple) 40 dX12_triple_40 t_X12_multiply l_X12_447 (m_rr_of rfl) (rest := []) (c_X12_multiply4 h1 t a3 w_t G1 d1_ ⟨by omega, by omega⟩ (by rw [v1_]; omega) (by rw [v1_]; omega)) o_108 rfl rfl rfl (Nat.le_of_ble_eq_true rfl) ⟨rfl, rfl⟩ (fun h2 qx3 => ?_)
    obtain ⟨G2, S2, d2_, v2_⟩ := qx3
    rw [v1_] at v2_
    have R2 := R1.call S2 (by simp [fsub, fr, csB])
    refine z_aload_n (M := M_X12_triple) 43 dX12_triple_43 rfl ?_
    refine z_aload_n (M := M_X12_triple) 44 dX12_triple_44 rfl ?_
    refine z_lload (M := M_X12_triple) 45 dX12_triple_45 rfl ?_
    refine z_vV (M := M_X12_triple) 47 dX12_triple_47 t_X12_multiply l_X12_447 (m_rr_of rfl) (rest := []) (c_X12_multiply4 h2 t a4 w_t G2 d2_ ⟨by omega, by omega⟩ (by rw [v2_]; omega) (by rw [v2_]; omega)) o_108 rfl rfl rfl (Nat.le_of_ble_eq_true rfl) ⟨rfl, rfl⟩ (fun h3 qx4 => ?_)
    obtain ⟨G3, S3, d3_, v3_⟩ := qx4
    rw [v2_] at v3_
    have R3 := R2.call S3 (by simp [fsub, fr, csB])
    exact z_retV (M := M_X12_triple) 50 dX12_triple_50 rfl ⟨G3, R3, d3_, v3_⟩
  · refine z_aload_n (M := M_X12_triple) 10 dX12_triple_10 rfl ?_
    refine z_iload (M := M_X12_triple) 11 dX12_triple_11 rfl ?_
    refine z_iload (M := M_X12_triple) 13 dX12_triple_13 rfl ?_
    refine z_if_ne (M := M_X12_triple) 15 dX12_triple_15 22 rfl (fun c5 => ?_) (fun c5 => ?_)
    · refine z_lconst (M := M_X12_triple) 22 dX12_triple_22 (v := 0) ?_
      refine z_lastH (M := M_X12_triple) 23 dX12_triple_23 (oC_139_140_141 w_t) (by omega) (by omega) (uC_139_140_141 w_t G) (R.up (by simp [fr])) (fun h4 E4 G4 R4 => ?_)
      refine z_iincN (M := M_X12_triple) 24 dX12_triple_24 (ls' := [some (mR 108), some (mR t), some (mJ a2), none, some (mJ a3), none, some (mJ a4), none, some (mI (l8 + 1))]) (by decide) rfl (by (unfold m_32; decide)) (by omega) (by omega) rfl ?_
      refine z_goto (M := M_X12_triple) 27 dX12_triple_27 3 rfl ?_
      exact z_mask [true, true, true, false, true, false, true, false, true] rfl (ih (l8 + 1) h4 G4 R4 (by omega) (by omega) (fun j hj => by by_cases g : j = l8.toNat; rw [g, upE E4, if_neg (by omega)]; rw [upN E4 (fun z => g z.2)]; exact i1 j (by omega)) (by omega))
    · refine z_lconst (M := M_X12_triple) 18 dX12_triple_18 (v := 1) ?_
      refine z_goto (M := M_X12_triple) 19 dX12_triple_19 23 rfl ?_
      refine z_lastH (M := M_X12_triple) 23 dX12_triple_23 (oC_139_140_141 w_t) (by omega) (by omega) (uC_139_140_141 w_t G) (R.up (by simp [fr])) (fun h5 E5 G5 R5 => ?_)
      refine z_iincN (M := M_X12_triple) 24 dX12_triple_24 (ls' := [some (mR 108), some (mR t), some (mJ a2), none, some (mJ a3), none, some (mJ a4), none, some (mI (l8 + 1))]) (by decide) rfl (by (unfold m_32; decide)) (by omega) (by omega) rfl ?_
      refine z_goto (M := M_X12_triple) 27 dX12_triple_27 3 rfl ?_
      exact z_mask [true, true, true, false, true, false, true, false, true] rfl (ih (l8 + 1) h5 G5 R5 (by omega) (by omega) (fun j hj => by by_cases g : j = l8.toNat; rw [g, upE E5, if_pos (by omega)]; rw [upN E5 (fun z => g z.2)]; exact i1 j (by omega)) (by omega))
theorem a_X12_triple4 (h0 : m_H) (t : Nat) (a2 a3 a4 : Int) (w_t : t = 139 ∨ t = 140 ∨ t = 141) (G0 : GI h0) (q2 : 0 ≤ a2 ∧ a2 ≤ 100000000000) (q3 : 0 ≤ a3 ∧ a3 ≤ 100000000000) (q4 : 0 ≤ a4 ∧ a4 ≤ 100000000000) : ∀ n, q_X12_triple4 h0 t a2 a3 a4 n := by
  intro n
  induction n with
  | zero => unfold q_X12_triple4; intros; omega
  | succ n ih => exact s_X12_triple4_3 h0 t a2 a3 a4 w_t G0 q2 q3 q4 n ih
set_option maxHeartbeats 4000000 in
set_option maxRecDepth 100000 in
theorem c_X12_triple4 (h0 : m_H) (t : Nat) (a2 a3 a4 : Int) (w_t : t = 139 ∨ t = 140 ∨ t = 141) (G0 : GI h0) (q2 : 0 ≤ a2 ∧ a2 ≤ 100000000000) (q3 : 0 ≤ a3 ∧ a3 ≤ 100000000000) (q4 : 0 ≤ a4 ∧ a4 ≤ 100000000000) : m_CV M_X12_triple [mR 108, mR t, mJ a2, mJ a3, mJ a4] h0 (P_X12_triple4 h0 t a2 a3 a4) := by
  refine m_CV_of ⟨by decide, rfl, by simp [m_arg, m_isL, M_X12_triple], ⟨rfl, rfl⟩, rfl, rfl⟩ (ls := [some (mR 108), some (mR t), some (mJ a2), none, some (mJ a3), none, some (mJ a4), none, none]) rfl ?_
  have ih := a_X12_triple4 h0 t a2 a3 a4 w_t G0 q2 q3 q4 28
  refine z_iconst (M := M_X12_triple) 0 dX12_triple_0 ?_
  refine z_istore (M := M_X12_triple) 1 dX12_triple_1 (ls' := [some (mR 108), some (mR t), some (mJ a2), none, some (mJ a3), none, some (mJ a4), none, some (mI 0)]) (by decide) rfl ?_
  exact z_mask [true, true, true, false, true, false, true, false, true] rfl (ih 0 h0 G0 (FR.rf (cs := [142, t]) (ss := []) (h := h0)) (by omega) (by omega) (fun j hj => by omega) (by omega))
def afI (U : Int) (f g : Nat → Int) (c k : Int) : Prop := dg10 g ∧ (0 ≤ c ∧ c ≤ 1) ∧ vS g 0 10 + c * (100000000 : Int) ^ k.toNat = U + vS f 0 k.toNat
theorem af_s {U : Int} {f : Nat → Int} {h h' : m_H} {c k x2 x3 w v r c' : Int} (df : dg10 f) (I : afI U f (h 139) c k) (k0 : 0 ≤ k) (k9 : k ≤ 9) (e2 : h 139 k.toNat = x2) (e3 : f k.toNat = x3) (ew : x2 + x3 = w) (ev : w + c = v) (er : v % 100000000 = r) (ec : v / 100000000 = c') (E : h' = m_up h 139 k.toNat r) : afI U f (h' 139) c' (k + 1) := by
  obtain ⟨i1, i2, i3⟩ := I
  have d2 := i1 k.toNat (by omega)
  rw [e2] at d2
  have d3 := df k.toNat (by omega)
  rw [e3] at d3
  refine ⟨dg_put E i1 (by omega), by omega, ?_⟩
  rw [vS_put E (by omega), e2, show (k + 1).toNat = k.toNat + 1 by omega, vS_succ f 0 k.toNat, Nat.zero_add, e3, Int.pow_succ]
  have q : r + 100000000 * c' = x2 + x3 + c := by omega
  generalize (100000000 : Int) ^ k.toNat = T at *
  have q3 : c' * (T * 100000000) = 100000000 * c' * T := by ac_rfl
  have q4 : (r + 100000000 * c') * T = (x2 + x3 + c) * T := by rw [q]
  rw [q3, Int.sub_mul]
  rw [Int.add_mul, Int.add_mul, Int.add_mul] at q4
  omega
theorem af_e {U : Int} {f g : Nat → Int} {c k : Int} (I : afI U f g c k) (hk : k = 10) (hs : U + vS f 0 10 < 100000000000000000000000000000000000000000000000000000000000000000000000000000000) : dg10 g ∧ vS g 0 10 = U + vS f 0 10 := by
  subst hk
  obtain ⟨i1, i2, i3⟩ := I
  have i3' : vS g 0 10 + c * (100000000 : Int) ^ 10 = U + vS f 0 10 := i3
  rw [show (100000000 : Int) ^ 10 = 100000000000000000000000000000000000000000000000000000000000000000000000000000000 by decide] at i3'
  have p := vS_p i1 (n := 10) (by decide)
  exact ⟨i1, by omega⟩
abbrev P_X12_addFactor4 (h0 : m_H) : m_H → Prop := fun h' => GI h' ∧ FR [139] [] h0 h' ∧ dg10 (h' 139) ∧ vS (h' 139) 0 10 = vS (h0 139) 0 10 + vS (h0 141) 0 10
def q_X12_addFactor4 (h0 : m_H) (n : Nat) : Prop := (∀ (l1 l3 : Int) (h : m_H), GI h → FR [139] [] h0 h → 0 ≤ l3 → l3 ≤ 10 → (afI (vS (h0 139) 0 10) (h0 141) (h 139) l1 l3) → 2 * (10 - l3) + (1) ≤ (n : Int) → m_Z oF M_X12_addFactor 4 [some (mR 108), some (mJ l1), none, some (mI l3), none, none] [] h (m_QV (P_X12_addFactor4 h0)))
set_option maxHeartbeats 4000000 in
set_option maxRecDepth 100000 in
theorem s_X12_addFactor4_4 (h0 : m_H) (G0 : GI h0) (d1 : dg10 (h0 139)) (d2 : dg10 (h0 141)) (hs : vS (h0 139) 0 10 + vS (h0 141) 0 10 < 100000000000000000000000000000000000000000000000000000000000000000000000000000000) (n : Nat) (ih : q_X12_addFactor4 h0 n) : ∀ (l1 l3 : Int) (h : m_H), GI h → FR [139] [] h0 h → 0 ≤ l3 → l3 ≤ 10 → (afI (vS (h0 139) 0 10) (h0 141) (h 139) l1 l3) → 2 * (10 - l3) + (1) ≤ ((n + 1 : Nat) : Int) → m_Z oF M_X12_addFactor 4 [some (mR 108), some (mJ l1), none, some (mI l3), none, none] [] h (m_QV (P_X12_addFactor4 h0)) := by
  intro l1 l3 h G R v0 v1 i1 hr
  have c0_ := i1.2.1
  refine z_iload_n (M := M_X12_addFactor) 4 dX12_addFactor_4 rfl ?_
  refine z_bipush (M := M_X12_addFactor) 5 dX12_addFactor_5 ?_
  refine z_icmp_ge (M := M_X12_addFactor) 7 dX12_addFactor_7 52 rfl (fun c1 => ?_) (fun c1 => ?_)
  · exact z_retV (M := M_X12_addFactor) 52 dX12_addFactor_52 rfl ⟨G, R, (af_e i1 (by omega) hs).1, (af_e i1 (by omega) hs).2⟩
  · refine z_aload_n (M := M_X12_addFactor) 10 dX12_addFactor_10 rfl ?_
    refine z_getR (M := M_X12_addFactor) 11 dX12_addFactor_11 f_X12_106 o_108 rfl (g_108_48 G) ?_
    refine z_iload_n (M := M_X12_addFactor) 14 dX12_addFactor_14 rfl ?_
    refine z_laldV (M := M_X12_addFactor) 15 dX12_addFactor_15 o_139 (by omega) (by omega) (fun x2 ex2 => ?_)
    have b2_ := i1.1 l3.toNat (by omega); rw [ex2] at b2_
    refine z_aload_n (M := M_X12_addFactor) 16 dX12_addFactor_16 rfl ?_
    refine z_getR (M := M_X12_addFactor) 17 dX12_addFactor_17 f_X12_112 o_108 rfl (g_108_50 G) ?_
    refine z_iload_n (M := M_X12_addFactor) 20 dX12_addFactor_20 rfl ?_
    refine z_laldV (M := M_X12_addFactor) 21 dX12_addFactor_21 o_141 (by omega) (by omega) (fun x3 ex3 => ?_)
    have v3_ : h0 141 l3.toNat = x3 := (congrFun (FR.row R (fun _ => rfl) : h 141 = h0 141) l3.toNat).symm.trans ex3
    have b3_ := d2 l3.toNat (by omega); rw [v3_] at b3_
    refine z_laddN (M := M_X12_addFactor) 22 dX12_addFactor_22 (by omega) (by omega) ?_
    refine z_topJ (fun x4 ex4 => ?_)
    refine z_lload_n (M := M_X12_addFactor) 23 dX12_addFactor_23 rfl ?_
    refine z_laddN (M := M_X12_addFactor) 24 dX12_addFactor_24 (by omega) (by omega) ?_
    refine z_topJ (fun x5 ex5 => ?_)
    refine z_lstore (M := M_X12_addFactor) 25 dX12_addFactor_25 (ls' := [some (mR 108), some (mJ l1), none, some (mI l3), some (mJ x5), none]) (by decide) rfl ?_
    refine z_aload_n (M := M_X12_addFactor) 27 dX12_addFactor_27 rfl ?_
    refine z_getR (M := M_X12_addFactor) 28 dX12_addFactor_28 f_X12_106 o_108 rfl (g_108_48 G) ?_
    refine z_iload_n (M := M_X12_addFactor) 31 dX12_addFactor_31 rfl ?_
    refine z_lload (M := M_X12_addFactor) 32 dX12_addFactor_32 rfl ?_
    refine z_ldc2 (M := M_X12_addFactor) 34 dX12_addFactor_34 k_X12_327 ?_
    refine z_lremN (M := M_X12_addFactor) 37 dX12_addFactor_37 (by omega) (by omega) ?_
    refine z_topJ (fun x6 ex6 => ?_)
    refine z_lastH (M := M_X12_addFactor) 38 dX12_addFactor_38 o_139 (by omega) (by omega) (u_139 G) (R.up rfl) (fun h1 E1 G1 R1 => ?_)
    refine z_lload (M := M_X12_addFactor) 39 dX12_addFactor_39 rfl ?_
    refine z_ldc2 (M := M_X12_addFactor) 41 dX12_addFactor_41 k_X12_327 ?_
    refine z_ldivN (M := M_X12_addFactor) 44 dX12_addFactor_44 (by omega) (by omega) ?_
    refine z_topJ (fun x7 ex7 => ?_)
    refine z_lstore_n (M := M_X12_addFactor) 45 dX12_addFactor_45 (ls' := [some (mR 108), some (mJ x7), none, some (mI l3), some (mJ x5), none]) (by decide) rfl ?_
    refine z_iincN (M := M_X12_addFactor) 46 dX12_addFactor_46 (ls' := [some (mR 108), some (mJ x7), none, some (mI (l3 + 1)), some (mJ x5), none]) (by decide) rfl (by (unfold m_32; decide)) (by omega) (by omega) rfl ?_
    refine z_goto (M := M_X12_addFactor) 49 dX12_addFactor_49 4 rfl ?_
    exact z_mask [true, true, false, true, false, false] rfl (ih x7 (l3 + 1) h1 G1 R1 (by omega) (by omega) (af_s d2 i1 (by omega) (by omega) ex2 v3_ ex4 ex5 ex6 ex7 E1) (by omega))
theorem a_X12_addFactor4 (h0 : m_H) (G0 : GI h0) (d1 : dg10 (h0 139)) (d2 : dg10 (h0 141)) (hs : vS (h0 139) 0 10 + vS (h0 141) 0 10 < 100000000000000000000000000000000000000000000000000000000000000000000000000000000) : ∀ n, q_X12_addFactor4 h0 n := by
  intro n
  induction n with
  | zero => unfold q_X12_addFactor4; intros; omega
  | succ n ih => exact s_X12_addFactor4_4 h0 G0 d1 d2 hs n ih
set_option maxHeartbeats 4000000 in
set_option maxRecDepth 100000 in
theorem c_X12_addFactor4 (h0 : m_H) (G0 : GI h0) (d1 : dg10 (h0 139)) (d2 : dg10 (h0 141)) (hs : vS (h0 139) 0 10 + vS (h0 141) 0 10 < 100000000000000000000000000000000000000000000000000000000000000000000000000000000) : m_CV M_X12_addFactor [mR 108] h0 (P_X12_addFactor4 h0) := by
  refine m_CV_of ⟨by decide, rfl, by simp [m_arg, m_isL, M_X12_addFactor], ⟨rfl, rfl⟩, rfl, rfl⟩ (ls := [some (mR 108), none, none, none, none, none]) rfl ?_
  have ih := a_X12_addFactor4 h0 G0 d1 d2 hs 28
  refine z_lconst (M := M_X12_addFactor) 0 dX12_addFactor_0 (v := 0) ?_
  refine z_lstore_n (M := M_X12_addFactor) 1 dX12_addFactor_1 (ls' := [some (mR 108), some (mJ 0), none, none, none, none]) (by decide) rfl ?_
  refine z_iconst (M := M_X12_addFactor) 2 dX12_addFactor_2 ?_
  refine z_istore_n (M := M_X12_addFactor) 3 dX12_addFactor_3 (ls' := [some (mR 108), some (mJ 0), none, some (mI 0), none, none]) (by decide) rfl ?_
  exact z_mask [true, true, false, true, false, false] rfl (ih 0 0 h0 G0 (FR.rf (cs := [139]) (ss := []) (h := h0)) (by omega) (by omega) ⟨d1, ⟨by decide, by decide⟩, by rw [Int.zero_mul]; rfl⟩ (by omega))
abbrev P_X12_besideTen4 (h0 : m_H) (t : Nat) (t2 : Nat) : Int → m_H → Prop := fun x h' => GI h' ∧ FR [] [] h0 h' ∧ (-1) ≤ x ∧ x ≤ 1 ∧ cmpQ x (vS (h0 t) 0 10) (vS (h0 t2) 0 10)
def q_X12_besideTen4 (h0 : m_H) (t : Nat) (t2 : Nat) (n : Nat) : Prop := (∀ (l2 : Int) (h : m_H), GI h → FR [] [] h0 h → (-1) ≤ l2 → l2 ≤ 9 → (cpI (h t) (h t2) (vS (h0 t) 0 10) (vS (h0 t2) 0 10) l2) → 2 * (l2 - (-1)) + (1) ≤ (n : Int) → m_Z oF M_X12_besideTen 3 [some (mR t), some (mR t2), some (mI l2)] [] h (m_QI (P_X12_besideTen4 h0 t t2)))
set_option maxHeartbeats 4000000 in
set_option maxRecDepth 100000 in
theorem s_X12_besideTen4_3 (h0 : m_H) (t : Nat) (t2 : Nat) (w_t : t = 139 ∨ t = 140 ∨ t = 141) (w_t2 : t2 = 139 ∨ t2 = 140 ∨ t2 = 141) (G0 : GI h0) (d1 : dg10 (h0 t)) (d2 : dg10 (h0 t2)) (n : Nat) (ih : q_X12_besideTen4 h0 t t2 n) : ∀ (l2 : Int) (h : m_H), GI h → FR [] [] h0 h → (-1) ≤ l2 → l2 ≤ 9 → (cpI (h t) (h t2) (vS (h0 t) 0 10) (vS (h0 t2) 0 10) l2) → 2 * (l2 - (-1)) + (1) ≤ ((n + 1 : Nat) : Int) → m_Z oF M_X12_besideTen 3 [some (mR t), some (mR t2), some (mI l2)] [] h (m_QI (P_X12_besideTen4 h0 t t2)) := by
  intro l2 h G R v0 v1 i0 hr
  refine z_iload_n (M := M_X12_besideTen) 3 dX12_besideTen_3 rfl ?_
  refine z_if_lt (M := M_X12_besideTen) 4 dX12_besideTen_4 39 rfl (fun c1 => ?_) (fun c1 => ?_)
  · refine z_iconst (M := M_X12_besideTen) 39 dX12_besideTen_39 ?_
    exact z_retI (M := M_X12_besideTen) 40 dX12_besideTen_40 rfl ⟨G, R, by omega, by omega, cpI_eq i0 (by omega)⟩
  · refine z_aload_n (M := M_X12_besideTen) 7 dX12_besideTen_7 rfl ?_
    refine z_iload_n (M := M_X12_besideTen) 8 dX12_besideTen_8 rfl ?_
    refine z_laldV (M := M_X12_besideTen) 9 dX12_besideTen_9 (oC_139_140_141 w_t) (by omega) (by omega) (fun x2 ex2 => ?_)
    refine z_aload_n (M := M_X12_besideTen) 10 dX12_besideTen_10 rfl ?_
    refine z_iload_n (M := M_X12_besideTen) 11 dX12_besideTen_11 rfl ?_
    refine z_laldV (M := M_X12_besideTen) 12 dX12_besideTen_12 (oC_139_140_141 w_t2) (by omega) (by omega) (fun x3 ex3 => ?_)
    refine z_lcmp (M := M_X12_besideTen) 13 dX12_besideTen_13 ?_
    refine z_if_eq (M := M_X12_besideTen) 14 dX12_besideTen_14 33 rfl (fun c4 => ?_) (fun c4 => ?_)
    · rw [m_cmp_eq] at c4
      refine z_iincN (M := M_X12_besideTen) 33 dX12_besideTen_33 (ls' := [some (mR t), some (mR t2), some (mI (l2 + (-1)))]) (by decide) rfl (by (unfold m_32; decide)) (by omega) (by omega) rfl ?_
      refine z_goto (M := M_X12_besideTen) 36 dX12_besideTen_36 3 rfl ?_
      exact z_mask [true, true, true] rfl (ih (l2 + (-1)) h G R (by omega) (by omega) (cpI_step i0 (by omega) ex2 ex3 (by omega)) (by omega))
    · rw [m_cmp_eq] at c4
      refine z_aload_n (M := M_X12_besideTen) 17 dX12_besideTen_17 rfl ?_
      refine z_iload_n (M := M_X12_besideTen) 18 dX12_besideTen_18 rfl ?_
      refine z_laldE (M := M_X12_besideTen) 19 dX12_besideTen_19 (oC_139_140_141 w_t) (by omega) (by omega) ex2 ?_
      refine z_aload_n (M := M_X12_besideTen) 20 dX12_besideTen_20 rfl ?_
      refine z_iload_n (M := M_X12_besideTen) 21 dX12_besideTen_21 rfl ?_
      refine z_laldE (M := M_X12_besideTen) 22 dX12_besideTen_22 (oC_139_140_141 w_t2) (by omega) (by omega) ex3 ?_
      refine z_lcmp (M := M_X12_besideTen) 23 dX12_besideTen_23 ?_
      refine z_if_ge (M := M_X12_besideTen) 24 dX12_besideTen_24 31 rfl (fun c5 => ?_) (fun c5 => ?_)
      · rw [m_cmp_ge] at c5
        refine z_iconst (M := M_X12_besideTen) 31 dX12_besideTen_31 ?_
        exact z_retI (M := M_X12_besideTen) 32 dX12_besideTen_32 rfl ⟨G, R, by omega, by omega, cpI_gt i0 (by omega) (by omega) ex2 ex3 (by omega)⟩
      · rw [m_cmp_ge] at c5
        refine z_iconst (M := M_X12_besideTen) 27 dX12_besideTen_27 ?_
        refine z_goto (M := M_X12_besideTen) 28 dX12_besideTen_28 32 rfl ?_
        exact z_retI (M := M_X12_besideTen) 32 dX12_besideTen_32 rfl ⟨G, R, by omega, by omega, cpI_lt i0 (by omega) (by omega) ex2 ex3 (by omega)⟩
theorem a_X12_besideTen4 (h0 : m_H) (t : Nat) (t2 : Nat) (w_t : t = 139 ∨ t = 140 ∨ t = 141) (w_t2 : t2 = 139 ∨ t2 = 140 ∨ t2 = 141) (G0 : GI h0) (d1 : dg10 (h0 t)) (d2 : dg10 (h0 t2)) : ∀ n, q_X12_besideTen4 h0 t t2 n := by
  intro n
  induction n with
  | zero => unfold q_X12_besideTen4; intros; omega
  | succ n ih => exact s_X12_besideTen4_3 h0 t t2 w_t w_t2 G0 d1 d2 n ih
set_option maxHeartbeats 4000000 in
set_option maxRecDepth 100000 in
theorem c_X12_besideTen4 (h0 : m_H) (t : Nat) (t2 : Nat) (w_t : t = 139 ∨ t = 140 ∨ t = 141) (w_t2 : t2 = 139 ∨ t2 = 140 ∨ t2 = 141) (G0 : GI h0) (d1 : dg10 (h0 t)) (d2 : dg10 (h0 t2)) : m_CI M_X12_besideTen [mR t, mR t2] h0 (P_X12_besideTen4 h0 t t2) := by
  refine m_CI_of ⟨by decide, rfl, by simp [m_arg, m_isL, M_X12_besideTen], ⟨rfl, rfl⟩, rfl, rfl⟩ (ls := [some (mR t), some (mR t2), none]) rfl ?_
  have ih := a_X12_besideTen4 h0 t t2 w_t w_t2 G0 d1 d2 28
  refine z_bipush (M := M_X12_besideTen) 0 dX12_besideTen_0 ?_
  refine z_istore_n (M := M_X12_besideTen) 2 dX12_besideTen_2 (ls' := [some (mR t), some (mR t2), some (mI 9)]) (by decide) rfl ?_
  exact z_mask [true, true, true] rfl (ih 9 h0 G0 (FR.rf (cs := []) (ss := []) (h := h0)) (by omega) (by omega) ⟨d1, d2, rfl, rfl, fun j z1 z2 => by omega⟩ (by omega))
abbrev P_X12_copyTen4 (h0 : m_H) (t : Nat) : m_H → Prop := fun h' => GI h' ∧ FR [141] [] h0 h' ∧ (∀ j : Nat, j < 10 → h' 141 j = h0 t j)
def q_X12_copyTen4 (h0 : m_H) (t : Nat) (n : Nat) : Prop := (∀ (l2 : Int) (h : m_H), GI h → FR [141] [] h0 h → 0 ≤ l2 → l2 ≤ 10 → (h t = h0 t ∧ ∀ j : Nat, (j : Int) < l2 → h 141 j = h0 t j) → 2 * (10 - l2) + (1) ≤ (n : Int) → m_Z oF M_X12_copyTen 2 [some (mR 108), some (mR t), some (mI l2)] [] h (m_QV (P_X12_copyTen4 h0 t)))
set_option maxHeartbeats 4000000 in
set_option maxRecDepth 100000 in
theorem s_X12_copyTen4_2 (h0 : m_H) (t : Nat) (w_t : t = 139 ∨ t = 140 ∨ t = 141) (G0 : GI h0) (ht : t ≠ 141) (n : Nat) (ih : q_X12_copyTen4 h0 t n) : ∀ (l2 : Int) (h : m_H), GI h → FR [141] [] h0 h → 0 ≤ l2 → l2 ≤ 10 → (h t = h0 t ∧ ∀ j : Nat, (j : Int) < l2 → h 141 j = h0 t j) → 2 * (10 - l2) + (1) ≤ ((n + 1 : Nat) : Int) → m_Z oF M_X12_copyTen 2 [some (mR 108), some (mR t), some (mI l2)] [] h (m_QV (P_X12_copyTen4 h0 t)) := by
  intro l2 h G R v0 v1 i1 hr
  refine z_iload_n (M := M_X12_copyTen) 2 dX12_copyTen_2 rfl ?_
  refine z_bipush (M := M_X12_copyTen) 3 dX12_copyTen_3 ?_
  refine z_icmp_ge (M := M_X12_copyTen) 5 dX12_copyTen_5 23 rfl (fun c1 => ?_) (fun c1 => ?_)
  · exact z_retV (M := M_X12_copyTen) 23 dX12_copyTen_23 rfl ⟨G, R, fun j hj => i1.2 j (by omega)⟩
  · refine z_aload_n (M := M_X12_copyTen) 8 dX12_copyTen_8 rfl ?_
    refine z_getR (M := M_X12_copyTen) 9 dX12_copyTen_9 f_X12_112 o_108 rfl (g_108_50 G) ?_
    refine z_iload_n (M := M_X12_copyTen) 12 dX12_copyTen_12 rfl ?_
    refine z_aload_n (M := M_X12_copyTen) 13 dX12_copyTen_13 rfl ?_
    refine z_iload_n (M := M_X12_copyTen) 14 dX12_copyTen_14 rfl ?_
    refine z_laldV (M := M_X12_copyTen) 15 dX12_copyTen_15 (oC_139_140_141 w_t) (by omega) (by omega) (fun x2 ex2 => ?_)
    refine z_lastH (M := M_X12_copyTen) 16 dX12_copyTen_16 o_141 (by omega) (by omega) (u_141 G) (R.up rfl) (fun h1 E1 G1 R1 => ?_)
    refine z_iincN (M := M_X12_copyTen) 17 dX12_copyTen_17 (ls' := [some (mR 108), some (mR t), some (mI (l2 + 1))]) (by decide) rfl (by (unfold m_32; decide)) (by omega) (by omega) rfl ?_
    refine z_goto (M := M_X12_copyTen) 20 dX12_copyTen_20 2 rfl ?_
    exact z_mask [true, true, true] rfl (ih (l2 + 1) h1 G1 R1 (by omega) (by omega) ⟨(upo E1 ht).trans i1.1, fun j hj => by by_cases g : j = l2.toNat; rw [g, upE E1, ← ex2, i1.1]; rw [upN E1 (fun z => g z.2)]; exact i1.2 j (by omega)⟩ (by omega))
theorem a_X12_copyTen4 (h0 : m_H) (t : Nat) (w_t : t = 139 ∨ t = 140 ∨ t = 141) (G0 : GI h0) (ht : t ≠ 141) : ∀ n, q_X12_copyTen4 h0 t n := by
  intro n
  induction n with
  | zero => unfold q_X12_copyTen4; intros; omega
  | succ n ih => exact s_X12_copyTen4_2 h0 t w_t G0 ht n ih
set_option maxHeartbeats 4000000 in
set_option maxRecDepth 100000 in
theorem c_X12_copyTen4 (h0 : m_H) (t : Nat) (w_t : t = 139 ∨ t = 140 ∨ t = 141) (G0 : GI h0) (ht : t ≠ 141) : m_CV M_X12_copyTen [mR 108, mR t] h0 (P_X12_copyTen4 h0 t) := by
  refine m_CV_of ⟨by decide, rfl, by simp [m_arg, m_isL, M_X12_copyTen], ⟨rfl, rfl⟩, rfl, rfl⟩ (ls := [some (mR 108), some (mR t), none]) rfl ?_
  have ih := a_X12_copyTen4 h0 t w_t G0 ht 28
  refine z_iconst (M := M_X12_copyTen) 0 dX12_copyTen_0 ?_
  refine z_istore_n (M := M_X12_copyTen) 1 dX12_copyTen_1 (ls' := [some (mR 108), some (mR t), some (mI 0)]) (by decide) rfl ?_
  exact z_mask [true, true, true] rfl (ih 0 h0 G0 (FR.rf (cs := [141]) (ss := []) (h := h0)) (by omega) (by omega) ⟨rfl, fun j hj => by omega⟩ (by omega))
/-! how often one is in the other, at most so often -/
def ofI (U L m lo hi : Int) : Prop := L * lo ≤ U ∧ (U < L * (hi + 1) ∨ hi = m + 1) ∧ lo ≤ hi ∧ hi ≤ m + 1
theorem of_0 {U L m : Int} (hU : 0 ≤ U) (hm : 0 ≤ m) : ofI U L m 0 (m + 1) := ⟨by rw [Int.mul_zero]; exact hU, Or.inr rfl, by omega, by omega⟩
theorem of_y {U L m lo hi x : Int} (I : ofI U L m lo hi) (h : L * x ≤ U) (h1 : lo ≤ x ∧ x ≤ hi) : ofI U L m x hi := ⟨h, I.2.1, h1.2, I.2.2.2⟩
theorem of_n {U L m lo hi x : Int} (I : ofI U L m lo hi) (h : U < L * x) (h1 : lo < x ∧ x ≤ hi) : ofI U L m lo (x - 1) := ⟨I.1, Or.inl (by rw [show x - 1 + 1 = x by omega]; exact h), by omega, by have := I.2.2.2; omega⟩
theorem of_e {U L m lo hi o x : Int} (hL : 0 < L) (I : ofI U L m lo hi) (e : lo = hi) (hx : (o = 1 ∧ U = L * lo ∧ x = cap m (lo - 1)) ∨ (¬ (o = 1 ∧ U = L * lo) ∧ x = cap m lo)) : x = cap m (gnG U L o) := by
  subst e
  obtain ⟨i1, i2, _, i4⟩ := I
  rcases i2 with i2 | i2
  · have d := dv_eq hL i1 i2
    unfold gnG
    rw [d]
    have m_ : lo * L = U ↔ U = L * lo := by rw [Int.mul_comm]; exact eq_comm
    rcases hx with ⟨h1, h2, h3⟩ | ⟨h1, h3⟩
    · rw [if_pos ⟨h1, m_.mpr h2⟩]; exact h3
    · rw [if_neg (fun z => h1 ⟨z.1, m_.mp z.2⟩)]; exact h3
  · have q : lo ≤ U / L := Int.le_ediv_of_mul_le hL (by rw [Int.mul_comm]; exact i1)
    have g : m ≤ gnG U L o := by unfold gnG; split <;> omega
    have c1 : cap m (gnG U L o) = m := by unfold cap; split <;> omega
    have c2 : ∀ y, m ≤ y → cap m y = m := fun y hy => by unfold cap; split <;> omega
    rw [c1]
    rcases hx with ⟨_, _, h3⟩ | ⟨_, h3⟩
    · rw [h3]; exact c2 _ (by omega)
    · rw [h3]; exact c2 _ (by omega)
abbrev P_X12_often4 (h0 : m_H) (a1 a2 : Int) : Int → m_H → Prop := fun x h' => GI h' ∧ FR [141, 142] [] h0 h' ∧ (-1) ≤ x ∧ x ≤ 4000000 ∧ x = cap a1 (gnG (vS (h0 139) 0 10) (vS (h0 140) 0 10) (if a2 = 0 then 1 else 0))
def q_X12_often4 (h0 : m_H) (a1 a2 : Int) (n : Nat) : Prop := (∀ (l3 l4 : Int) (h : m_H), GI h → FR [141, 142] [] h0 h → 0 ≤ l3 → l3 ≤ 4000001 → 0 ≤ l4 → l4 ≤ 4000001 → (l3 ≤ l4) → (ofI (vS (h0 139) 0 10) (vS (h0 140) 0 10) a1 l3 l4) → 2 * (l4 - l3) + (1) ≤ (n : Int) → m_Z oF M_X12_often 7 [some (mR 108), some (mI a1), some (mI a2), some (mI l3), some (mI l4), none] [] h (m_QI (P_X12_often4 h0 a1 a2)))
set_option maxHeartbeats 4000000 in
set_option maxRecDepth 100000 in
theorem s_X12_often4_7 (h0 : m_H) (a1 a2 : Int) (G0 : GI h0) (pa1 : 0 ≤ a1 ∧ a1 ≤ 4000000) (pa2 : 0 ≤ a2 ∧ a2 ≤ 1) (d1 : dg10 (h0 139)) (d2 : dg10 (h0 140)) (hL : 0 < (vS (h0 140) 0 10) ∧ (vS (h0 140) 0 10) < 10000000000000000000000000000000000000000) (n : Nat) (ih : q_X12_often4 h0 a1 a2 n) : ∀ (l3 l4 : Int) (h : m_H), GI h → FR [141, 142] [] h0 h → 0 ≤ l3 → l3 ≤ 4000001 → 0 ≤ l4 → l4 ≤ 4000001 → (l3 ≤ l4) → (ofI (vS (h0 139) 0 10) (vS (h0 140) 0 10) a1 l3 l4) → 2 * (l4 - l3) + (1) ≤ ((n + 1 : Nat) : Int) → m_Z oF M_X12_often 7 [some (mR 108), some (mI a1), some (mI a2), some (mI l3), some (mI l4), none] [] h (m_QI (P_X12_often4 h0 a1 a2)) := by
  intro l3 l4 h G R v0 v1 v2 v3 i0 i1 hr
  have r9_ : h 139 = h0 139 := FR.row R (fun _ => rfl)
  have r0_ : h 140 = h0 140 := FR.row R (fun _ => rfl)
  have j4_ := i1.2.2.2
  refine z_iload_n (M := M_X12_often) 7 dX12_often_7 rfl ?_
  refine z_iload (M := M_X12_often) 8 dX12_often_8 rfl ?_
  refine z_icmp_ge (M := M_X12_often) 10 dX12_often_10 71 rfl (fun c1 => ?_) (fun c1 => ?_)
  · refine z_aload_n (M := M_X12_often) 71 dX12_often_71 rfl ?_
    refine z_aload_n (M := M_X12_often) 72 dX12_often_72 rfl ?_
    refine z_getR (M := M_X12_often) 73 dX12_often_73 f_X12_109 o_108 rfl (g_108_49 G) ?_
    refine z_vV (M := M_X12_often) 76 dX12_often_76 t_X12_copyTen l_X12_451 (m_rr_of rfl) (rest := []) (c_X12_copyTen4 h 140 (Or.inr (Or.inl rfl)) G (by decide)) o_108 rfl rfl rfl (Nat.le_of_ble_eq_true rfl) ⟨rfl, rfl⟩ (fun h1 qx2 => ?_)
    obtain ⟨G1, S1, e1_⟩ := qx2
    have k1_ := dg_of (f := h1 141) (g := h0 140) (fun j hj => by rw [e1_ j hj, r0_]) d2
    have m1_ := mul_bd (Int.le_of_lt hL.1) (Int.le_of_lt hL.2) (show 0 ≤ l3 by omega) (show l3 ≤ 4000001 by omega)
    have R1 := R.call S1 (by decide +kernel)
    refine z_aload_n (M := M_X12_often) 79 dX12_often_79 rfl ?_
    refine z_aload_n (M := M_X12_often) 80 dX12_often_80 rfl ?_
    refine z_getR (M := M_X12_often) 81 dX12_often_81 f_X12_112 o_108 rfl (g_108_50 G1) ?_
    refine z_iload_n (M := M_X12_often) 84 dX12_often_84 rfl ?_
    refine z_i2l (M := M_X12_often) 85 dX12_often_85 ?_
    refine z_vV (M := M_X12_often) 86 dX12_often_86 t_X12_multiply l_X12_447 (m_rr_of rfl) (rest := []) (c_X12_multiply4 h1 141 l3 (Or.inr (Or.inr rfl)) G1 k1_.1 ⟨by omega, by omega⟩ (by rw [k1_.2]; omega) (by rw [k1_.2]; omega)) o_108 rfl rfl rfl (Nat.le_of_ble_eq_true rfl) ⟨rfl, rfl⟩ (fun h2 qx3 => ?_)
    obtain ⟨G2, S2, d2_, v2_⟩ := qx3
    rw [k1_.2] at v2_
    have u2_ : h2 139 = h0 139 := (FR.row S2 (fun _ => rfl)).trans ((FR.row S1 (fun _ => rfl)).trans r9_)
    have R2 := R1.call S2 (by decide +kernel)
    refine z_iload_n (M := M_X12_often) 89 dX12_often_89 rfl ?_
    refine z_iload_n (M := M_X12_often) 90 dX12_often_90 rfl ?_
    refine z_if_ne (M := M_X12_often) 91 dX12_often_91 112 rfl (fun c4 => ?_) (fun c4 => ?_)
    · refine z_iconst (M := M_X12_often) 112 dX12_often_112 ?_
      refine z_isubN (M := M_X12_often) 113 dX12_often_113 (by omega) (by omega) ?_
      refine z_istore_n (M := M_X12_often) 114 dX12_often_114 (ls' := [some (mR 108), some (mI a1), some (mI a2), some (mI (l3 - 0)), some (mI l4), none]) (by decide) rfl ?_
      refine z_iload_n (M := M_X12_often) 115 dX12_often_115 rfl ?_
      refine z_iload_n (M := M_X12_often) 116 dX12_often_116 rfl ?_
      refine z_icmp_le (M := M_X12_often) 117 dX12_often_117 124 rfl (fun c5 => ?_) (fun c5 => ?_)
      · refine z_iload_n (M := M_X12_often) 124 dX12_often_124 rfl ?_
        exact z_retI (M := M_X12_often) 125 dX12_often_125 rfl ⟨G2, R2, by omega, by omega, of_e hL.1 i1 (by omega) (Or.inr ⟨fun z => absurd z.1 (by rw [if_neg c4]; decide), (by unfold cap; first | rw [if_pos (by omega)] | (rw [if_neg (by omega)]; try omega))⟩)⟩
      · refine z_iload_n (M := M_X12_often) 120 dX12_often_120 rfl ?_
        refine z_goto (M := M_X12_often) 121 dX12_often_121 125 rfl ?_
        exact z_retI (M := M_X12_often) 125 dX12_often_125 rfl ⟨G2, R2, by omega, by omega, of_e hL.1 i1 (by omega) (Or.inr ⟨fun z => absurd z.1 (by rw [if_neg c4]; decide), (by unfold cap; first | rw [if_pos (by omega)] | (rw [if_neg (by omega)]; try omega))⟩)⟩
    · refine z_aload_n (M := M_X12_often) 94 dX12_often_94 rfl ?_
      refine z_getR (M := M_X12_often) 95 dX12_often_95 f_X12_112 o_108 rfl (g_108_50 G2) ?_
      refine z_aload_n (M := M_X12_often) 98 dX12_often_98 rfl ?_
      refine z_getR (M := M_X12_often) 99 dX12_often_99 f_X12_106 o_108 rfl (g_108_48 G2) ?_
      refine z_sI (M := M_X12_often) 102 dX12_often_102 t_X12_besideTen l_X12_455 (m_rr_of rfl) (rest := [mI l3]) (c_X12_besideTen4 h2 141 139 (Or.inr (Or.inr rfl)) (Or.inl rfl) G2 d2_ (by rw [u2_]; exact d1)) rfl rfl (Nat.le_of_ble_eq_true rfl) ⟨rfl, rfl⟩ (fun x6 h3 qx6 => ?_)
      obtain ⟨G3, S3, ax6, bx6, fx6⟩ := qx6
      rw [v2_, u2_] at fx6
      unfold cmpQ at fx6
      have R3 := R2.call S3 (by decide +kernel)
      refine z_if_ne (M := M_X12_often) 105 dX12_often_105 112 rfl (fun c7 => ?_) (fun c7 => ?_)
      · refine z_iconst (M := M_X12_often) 112 dX12_often_112 ?_
        refine z_isubN (M := M_X12_often) 113 dX12_often_113 (by omega) (by omega) ?_
        refine z_istore_n (M := M_X12_often) 114 dX12_often_114 (ls' := [some (mR 108), some (mI a1), some (mI a2), some (mI (l3 - 0)), some (mI l4), none]) (by decide) rfl ?_
        refine z_iload_n (M := M_X12_often) 115 dX12_often_115 rfl ?_
        refine z_iload_n (M := M_X12_often) 116 dX12_often_116 rfl ?_
        refine z_icmp_le (M := M_X12_often) 117 dX12_often_117 124 rfl (fun c8 => ?_) (fun c8 => ?_)
        · refine z_iload_n (M := M_X12_often) 124 dX12_often_124 rfl ?_
          exact z_retI (M := M_X12_often) 125 dX12_often_125 rfl ⟨G3, R3, by omega, by omega, of_e hL.1 i1 (by omega) (Or.inr ⟨fun z => absurd z.2 (by omega), (by unfold cap; first | rw [if_pos (by omega)] | (rw [if_neg (by omega)]; try omega))⟩)⟩
        · refine z_iload_n (M := M_X12_often) 120 dX12_often_120 rfl ?_
          refine z_goto (M := M_X12_often) 121 dX12_often_121 125 rfl ?_
          exact z_retI (M := M_X12_often) 125 dX12_often_125 rfl ⟨G3, R3, by omega, by omega, of_e hL.1 i1 (by omega) (Or.inr ⟨fun z => absurd z.2 (by omega), (by unfold cap; first | rw [if_pos (by omega)] | (rw [if_neg (by omega)]; try omega))⟩)⟩
      · refine z_iconst (M := M_X12_often) 108 dX12_often_108 ?_
        refine z_goto (M := M_X12_often) 109 dX12_often_109 113 rfl ?_
        refine z_isubN (M := M_X12_often) 113 dX12_often_113 (by omega) (by omega) ?_
        refine z_istore_n (M := M_X12_often) 114 dX12_often_114 (ls' := [some (mR 108), some (mI a1), some (mI a2), some (mI (l3 - 1)), some (mI l4), none]) (by decide) rfl ?_
        refine z_iload_n (M := M_X12_often) 115 dX12_often_115 rfl ?_
        refine z_iload_n (M := M_X12_often) 116 dX12_often_116 rfl ?_
        refine z_icmp_le (M := M_X12_often) 117 dX12_often_117 124 rfl (fun c9 => ?_) (fun c9 => ?_)
        · refine z_iload_n (M := M_X12_often) 124 dX12_often_124 rfl ?_
          exact z_retI (M := M_X12_often) 125 dX12_often_125 rfl ⟨G3, R3, by omega, by omega, of_e hL.1 i1 (by omega) (Or.inl ⟨if_pos (by omega), by omega, (by unfold cap; first | rw [if_pos (by omega)] | (rw [if_neg (by omega)]; try omega))⟩)⟩
        · refine z_iload_n (M := M_X12_often) 120 dX12_often_120 rfl ?_
          refine z_goto (M := M_X12_often) 121 dX12_often_121 125 rfl ?_
          exact z_retI (M := M_X12_often) 125 dX12_often_125 rfl ⟨G3, R3, by omega, by omega, of_e hL.1 i1 (by omega) (Or.inl ⟨if_pos (by omega), by omega, (by unfold cap; first | rw [if_pos (by omega)] | (rw [if_neg (by omega)]; try omega))⟩)⟩
  · refine z_iload_n (M := M_X12_often) 13 dX12_often_13 rfl ?_
    refine z_iload (M := M_X12_often) 14 dX12_often_14 rfl ?_
    refine z_iaddN (M := M_X12_often) 16 dX12_often_16 (by omega) (by omega) ?_
    refine z_iconst (M := M_X12_often) 17 dX12_often_17 ?_
    refine z_iaddN (M := M_X12_often) 18 dX12_often_18 (by omega) (by omega) ?_
    refine z_iconst (M := M_X12_often) 19 dX12_often_19 ?_
    refine z_idivN (M := M_X12_often) 20 dX12_often_20 (by omega) (by omega) ?_
    refine z_topBI (lo := 1) (hi := 4000001) ⟨by omega, by omega⟩ (fun x10 ex10 ax10 bx10 => ?_)
    refine z_istore (M := M_X12_often) 21 dX12_often_21 (ls' := [some (mR 108), some (mI a1), some (mI a2), some (mI l3), some (mI l4), some (mI x10)]) (by decide) rfl ?_
    refine z_aload_n (M := M_X12_often) 23 dX12_often_23 rfl ?_
    refine z_aload_n (M := M_X12_often) 24 dX12_often_24 rfl ?_
    refine z_getR (M := M_X12_often) 25 dX12_often_25 f_X12_109 o_108 rfl (g_108_49 G) ?_
    refine z_vV (M := M_X12_often) 28 dX12_often_28 t_X12_copyTen l_X12_451 (m_rr_of rfl) (rest := []) (c_X12_copyTen4 h 140 (Or.inr (Or.inl rfl)) G (by decide)) o_108 rfl rfl rfl (Nat.le_of_ble_eq_true rfl) ⟨rfl, rfl⟩ (fun h4 qx11 => ?_)
    obtain ⟨G4, S4, e4_⟩ := qx11
    have k4_ := dg_of (f := h4 141) (g := h0 140) (fun j hj => by rw [e4_ j hj, r0_]) d2
    have m4_ := mul_bd (Int.le_of_lt hL.1) (Int.le_of_lt hL.2) (show 0 ≤ x10 by omega) (show x10 ≤ 4000001 by omega)
    have R4 := R.call S4 (by decide +kernel)
    refine z_aload_n (M := M_X12_often) 31 dX12_often_31 rfl ?_
    refine z_aload_n (M := M_X12_often) 32 dX12_often_32 rfl ?_
    refine z_getR (M := M_X12_often) 33 dX12_often_33 f_X12_112 o_108 rfl (g_108_50 G4) ?_
    refine z_iload (M := M_X12_often) 36 dX12_often_36 rfl ?_
    refine z_i2l (M := M_X12_often) 38 dX12_often_38 ?_
    refine z_vV (M := M_X12_often) 39 dX12_often_39 t_X12_multiply l_X12_447 (m_rr_of rfl) (rest := []) (c_X12_multiply4 h4 141 x10 (Or.inr (Or.inr rfl)) G4 k4_.1 ⟨by omega, by omega⟩ (by rw [k4_.2]; omega) (by rw [k4_.2]; omega)) o_108 rfl rfl rfl (Nat.le_of_ble_eq_true rfl) ⟨rfl, rfl⟩ (fun h5 qx12 => ?_)
    obtain ⟨G5, S5, d5_, v5_⟩ := qx12
    rw [k4_.2] at v5_
    have u5_ : h5 139 = h0 139 := (FR.row S5 (fun _ => rfl)).trans ((FR.row S4 (fun _ => rfl)).trans r9_)
    have R5 := R4.call S5 (by decide +kernel)
    refine z_aload_n (M := M_X12_often) 42 dX12_often_42 rfl ?_
    refine z_getR (M := M_X12_often) 43 dX12_often_43 f_X12_112 o_108 rfl (g_108_50 G5) ?_
    refine z_aload_n (M := M_X12_often) 46 dX12_often_46 rfl ?_
    refine z_getR (M := M_X12_often) 47 dX12_often_47 f_X12_106 o_108 rfl (g_108_48 G5) ?_
    refine z_sI (M := M_X12_often) 50 dX12_often_50 t_X12_besideTen l_X12_455 (m_rr_of rfl) (rest := []) (c_X12_besideTen4 h5 141 139 (Or.inr (Or.inr rfl)) (Or.inl rfl) G5 d5_ (by rw [u5_]; exact d1)) rfl rfl (Nat.le_of_ble_eq_true rfl) ⟨rfl, rfl⟩ (fun x13 h6 qx13 => ?_)
    obtain ⟨G6, S6, ax13, bx13, fx13⟩ := qx13
    rw [v5_, u5_] at fx13
    unfold cmpQ at fx13
    have R6 := R5.call S6 (by decide +kernel)
    refine z_if_gt (M := M_X12_often) 53 dX12_often_53 62 rfl (fun c14 => ?_) (fun c14 => ?_)
    · refine z_iload (M := M_X12_often) 62 dX12_often_62 rfl ?_
      refine z_iconst (M := M_X12_often) 64 dX12_often_64 ?_
      refine z_isubN (M := M_X12_often) 65 dX12_often_65 (by omega) (by omega) ?_
      refine z_istore (M := M_X12_often) 66 dX12_often_66 (ls' := [some (mR 108), some (mI a1), some (mI a2), some (mI l3), some (mI (x10 - 1)), some (mI x10)]) (by decide) rfl ?_
      refine z_goto (M := M_X12_often) 68 dX12_often_68 7 rfl ?_
      exact z_mask [true, true, true, true, true, false] rfl (ih l3 (x10 - 1) h6 G6 R6 (by omega) (by omega) (by omega) (by omega) (by omega) (of_n i1 (by omega) (by omega)) (by omega))
    · refine z_iload (M := M_X12_often) 56 dX12_often_56 rfl ?_
      refine z_istore_n (M := M_X12_often) 58 dX12_often_58 (ls' := [some (mR 108), some (mI a1), some (mI a2), some (mI x10), some (mI l4), some (mI x10)]) (by decide) rfl ?_
      refine z_goto (M := M_X12_often) 59 dX12_often_59 68 rfl ?_
      refine z_goto (M := M_X12_often) 68 dX12_often_68 7 rfl ?_
      exact z_mask [true, true, true, true, true, false] rfl (ih x10 l4 h6 G6 R6 (by omega) (by omega) (by omega) (by omega) (by omega) (of_y i1 (by omega) (by omega)) (by omega))
theorem a_X12_often4 (h0 : m_H) (a1 a2 : Int) (G0 : GI h0) (pa1 : 0 ≤ a1 ∧ a1 ≤ 4000000) (pa2 : 0 ≤ a2 ∧ a2 ≤ 1) (d1 : dg10 (h0 139)) (d2 : dg10 (h0 140)) (hL : 0 < (vS (h0 140) 0 10) ∧ (vS (h0 140) 0 10) < 10000000000000000000000000000000000000000) : ∀ n, q_X12_often4 h0 a1 a2 n := by
  intro n
  induction n with
  | zero => unfold q_X12_often4; intros; omega
  | succ n ih => exact s_X12_often4_7 h0 a1 a2 G0 pa1 pa2 d1 d2 hL n ih
set_option maxHeartbeats 4000000 in
set_option maxRecDepth 100000 in
theorem c_X12_often4 (h0 : m_H) (a1 a2 : Int) (G0 : GI h0) (pa1 : 0 ≤ a1 ∧ a1 ≤ 4000000) (pa2 : 0 ≤ a2 ∧ a2 ≤ 1) (d1 : dg10 (h0 139)) (d2 : dg10 (h0 140)) (hL : 0 < (vS (h0 140) 0 10) ∧ (vS (h0 140) 0 10) < 10000000000000000000000000000000000000000) : m_CI M_X12_often [mR 108, mI a1, mI a2] h0 (P_X12_often4 h0 a1 a2) := by
  refine m_CI_of ⟨by decide, rfl, by simp [m_arg, m_isL, M_X12_often], ⟨rfl, rfl⟩, rfl, rfl⟩ (ls := [some (mR 108), some (mI a1), some (mI a2), none, none, none]) rfl ?_
  have ih := a_X12_often4 h0 a1 a2 G0 pa1 pa2 d1 d2 hL 8000010
  refine z_iconst (M := M_X12_often) 0 dX12_often_0 ?_
  refine z_istore_n (M := M_X12_often) 1 dX12_often_1 (ls' := [some (mR 108), some (mI a1), some (mI a2), some (mI 0), none, none]) (by decide) rfl ?_
  refine z_iload_n (M := M_X12_often) 2 dX12_often_2 rfl ?_
  refine z_iconst (M := M_X12_often) 3 dX12_often_3 ?_
  refine z_iaddN (M := M_X12_often) 4 dX12_often_4 (by omega) (by omega) ?_
  refine z_istore (M := M_X12_often) 5 dX12_often_5 (ls' := [some (mR 108), some (mI a1), some (mI a2), some (mI 0), some (mI (a1 + 1)), none]) (by decide) rfl ?_
  exact z_mask [true, true, true, true, true, false] rfl (ih 0 (a1 + 1) h0 G0 (FR.rf (cs := [141, 142]) (ss := []) (h := h0)) (by omega) (by omega) (by omega) (by omega) (by omega) (of_0 (vS_p d1 (by decide)) pa1.1) (by omega))
