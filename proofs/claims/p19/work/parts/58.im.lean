/-- which images are kept -/
def KP (h : m_H) : Prop := ∀ k, k < 2 → h 34 k = h 112 k
theorem KP.call {h h' : m_H} (K : KP h) (a : ∀ k, h' 34 k = h 34 k) (b : ∀ k, h' 112 k = h 112 k) : KP h' := fun k hk => by rw [a, b]; exact K k hk
def imQ (c : Nat) (a1 x : Int) (h0 h' : m_H) : Prop := ((a1 < 0 ∨ 1 < a1) ∧ x = -1 ∧ ∀ j, h' c j = h0 c j) ∨ (0 ≤ a1 ∧ a1 ≤ 1 ∧ x = 0 ∧ h' c a1.toNat = 1 ∧ ∀ j, j ≠ a1.toNat → h' c j = h0 c j)
def bkQ (c : Nat) (a1 x : Int) (h0 : m_H) : Prop := ((a1 < 0 ∨ 1 < a1) ∧ x = -1) ∨ (0 ≤ a1 ∧ a1 ≤ 1 ∧ h0 c a1.toNat = 0 ∧ x = -2) ∨ (0 ≤ a1 ∧ a1 ≤ 1 ∧ h0 c a1.toNat ≠ 0 ∧ x = 0)
theorem imKP {a1 x y : Int} {h h1 h2 : m_H} (K : KP h) (A : imQ 34 a1 x h h1) (B : imQ 112 a1 y h1 h2) (e1 : ∀ j, h1 112 j = h 112 j) (e2 : ∀ j, h2 34 j = h1 34 j) : KP h2 ∧ x = y := by
  rcases A with ⟨a, b, c⟩ | ⟨a, b, c, d, e⟩
  · rcases B with ⟨a', b', c'⟩ | ⟨a', b', c', d', e'⟩
    · exact ⟨fun k hk => by rw [e2, c, c', e1]; exact K k hk, by omega⟩
    · omega
  · rcases B with ⟨a', b', c'⟩ | ⟨a', b', c', d', e'⟩
    · omega
    · refine ⟨fun k hk => ?_, by omega⟩
      by_cases q : k = a1.toNat
      · rw [e2, q, d, d']
      · rw [e2, e k q, e' k q, e1]; exact K k hk
theorem bkE {a1 x y : Int} {h h1 : m_H} (K : KP h) (A : bkQ 34 a1 x h) (B : bkQ 112 a1 y h1) (e1 : ∀ j, h1 112 j = h 112 j) : x = y := by
  by_cases q : a1 < 0 ∨ 1 < a1
  · rcases A with ⟨_, a⟩ | ⟨a, b, _, _⟩ | ⟨a, b, _, _⟩
    · rcases B with ⟨_, c⟩ | ⟨c, d, _, _⟩ | ⟨c, d, _, _⟩ <;> omega
    · omega
    · omega
  · have z := K a1.toNat (by omega)
    have w := e1 a1.toNat
    rcases A with ⟨a, _⟩ | ⟨_, _, a, b⟩ | ⟨_, _, a, b⟩
    · omega
    · rcases B with ⟨c, _⟩ | ⟨_, _, c, d⟩ | ⟨_, _, c, d⟩
      · omega
      · omega
      · exact absurd (w.trans (z.symm.trans a)) c
    · rcases B with ⟨c, _⟩ | ⟨_, _, c, d⟩ | ⟨_, _, c, d⟩
      · omega
      · exact absurd (z.trans (w.symm.trans c)) a
      · omega
/-! the ledgers of images, rows of images -/
def out (a b : Nat) (cs : List Nat) (ss : List (Nat × Nat)) : Bool := cs.all (fun c => decide (c < a) || decide (b < c)) && ss.all (fun p => decide (p.1 < a) || decide (b < p.1))
theorem fr_out {a b : Nat} {cs : List Nat} {ss : List (Nat × Nat)} (H : out a b cs ss = true) {c : Nat} (ha : a ≤ c) (hb : c ≤ b) (j : Nat) : fr cs ss c j = false := by
  unfold out at H
  rw [Bool.and_eq_true, List.all_eq_true, List.all_eq_true] at H
  unfold fr
  rw [Bool.or_eq_false_iff, List.any_eq_false, List.any_eq_false]
  refine ⟨fun d hd => ?_, fun p hp => ?_⟩
  · have z := H.1 d hd
    simp only [Bool.or_eq_true, decide_eq_true_eq] at z
    simp only [beq_iff_eq]; omega
  · have z := H.2 p hp
    simp only [Bool.or_eq_true, decide_eq_true_eq] at z
    simp only [Bool.and_eq_true, beq_iff_eq]; omega
theorem fr_ne {k : Nat} {cs : List Nat} {ss : List (Nat × Nat)} (h1 : ∀ c ∈ cs, c ≠ k) (h2 : ∀ p ∈ ss, p.1 ≠ k) (j : Nat) : fr cs ss k j = false := by
  unfold fr
  rw [Bool.or_eq_false_iff, List.any_eq_false, List.any_eq_false]
  refine ⟨fun d hd => ?_, fun p hp => ?_⟩
  · simp only [beq_iff_eq]; exact h1 d hd
  · simp only [Bool.and_eq_true, beq_iff_eq]; exact fun z => h2 p hp z.1
theorem LC.to {L K : Nat} {h0 h h' : m_H} (C : LC L K h0 h) (e : ∀ i, i < 8 → ∀ j, h' (L + i) j = h (L + i) j) : LC L K h0 h' := by
  obtain ⟨c1, c2, c3, c4, c5, c6, c7, c8, c9, c10⟩ := C
  exact ⟨fun j hj => (e 1 (by decide) j).trans (c1 j hj), fun j hj => (e 2 (by decide) j).trans (c2 j hj), fun j hj => (e 3 (by decide) j).trans (c3 j hj), fun j hj => (e 4 (by decide) j).trans (c4 j hj), fun j hj => (e 5 (by decide) j).trans (c5 j hj), fun j hj => (e 6 (by decide) j).trans (c6 j hj), fun j hj => (e 7 (by decide) j).trans (c7 j hj), (e 0 (by decide) 7).trans c8, (e 0 (by decide) 8).trans c9, (e 0 (by decide) 9).trans c10⟩
def imC (a1 : Int) (h0 h' : m_H) : Prop := (0 ≤ a1 → a1 ≤ 1 → LC (18 + 8 * a1.toNat) 1 h0 h') ∧ ∀ k : Nat, k < 2 → (k : Int) ≠ a1 → ∀ i, i < 8 → ∀ j, h' (18 + 8 * k + i) j = h0 (18 + 8 * k + i) j
theorem imC_ok {a1 : Int} {h0 h2 h3 h4 : m_H} {L : Nat} {v : Int} {cs : List Nat} {ss : List (Nat × Nat)} (ha : 0 ≤ a1) (hb : a1 ≤ 1) (hL : L = 18 + 8 * a1.toNat) (S2 : FR [(L + 1), (L + 2), (L + 3), (L + 4), (L + 5), (L + 6), (L + 7)] [(L, 7), (L, 8), (L, 9)] h0 h2) (C2 : LC L 1 h0 h2) (E3 : h3 = m_up h2 34 a1.toNat v) (S4 : FR cs ss h3 h4) (o : out 18 33 cs ss = true) : imC a1 h0 h4 := by
  have st : ∀ c, 18 ≤ c → c ≤ 33 → ∀ j, h4 c j = h2 c j := fun c x y j => (S4 c j (fr_out o x y j)).trans (tl_o E3 (by omega) j)
  refine ⟨fun _ _ => hL ▸ C2.to (fun i hi j => st _ (by omega) (by omega) j), fun k hk hne i hi j => (st _ (by omega) (by omega) j).trans (S2 _ j (fr_ne ?_ ?_ j))⟩
  · intro c hc
    simp only [List.mem_cons, List.not_mem_nil, or_false] at hc
    omega
  · intro p hp
    simp only [List.mem_cons, List.not_mem_nil, or_false] at hp
    rcases hp with rfl | rfl | rfl
    · show L ≠ _; omega
    · show L ≠ _; omega
    · show L ≠ _; omega
theorem imC_no {a1 : Int} {h0 h' : m_H} {cs : List Nat} {ss : List (Nat × Nat)} (ha : a1 < 0 ∨ 1 < a1) (S : FR cs ss h0 h') (o : out 18 33 cs ss = true) : imC a1 h0 h' := ⟨fun _ _ => by omega, fun k hk _ i hi j => S _ j (fr_out o (by omega) (by omega) j)⟩
def imM (a1 : Int) (h0 h' : m_H) : Prop := (0 ≤ a1 → a1 ≤ 1 → ∀ j, j < 200 → h' 111 (200 * a1.toNat + j) = h0 110 j) ∧ ∀ k : Nat, k < 2 → (k : Int) ≠ a1 → ∀ j, j < 200 → h' 111 (200 * k + j) = h0 111 (200 * k + j)
theorem imM_ok {a1 l : Int} {h0 h h1 h' : m_H} {v : Int} {cs : List Nat} {ss : List (Nat × Nat)} (ha : 0 ≤ a1) (hb : a1 ≤ 1) (I : NIm h0 h a1.toNat l) (hl : 200 ≤ l) (E : h1 = m_up h 112 a1.toNat v) (S : FR cs ss h1 h') (o : out 111 111 cs ss = true) : imM a1 h0 h' := by
  obtain ⟨i1, i2, i3, i4⟩ := I
  have st : ∀ j, h' 111 j = h 111 j := fun j => (S 111 j (fr_out o (Nat.le_refl _) (Nat.le_refl _) j)).trans (tl_o E (by decide) j)
  exact ⟨fun _ _ j hj => (st _).trans (i4 j (by omega)), fun k hk hne j hj => (st _).trans (i3 _ (by omega))⟩
theorem imM_no {a1 : Int} {h0 h1 h' : m_H} {i : Nat} {v : Int} {cs : List Nat} {ss : List (Nat × Nat)} (ha : a1 < 0 ∨ 1 < a1) (E : h1 = m_up h0 108 i v) (S : FR cs ss h1 h') (o : out 111 111 cs ss = true) : imM a1 h0 h' := ⟨fun _ _ => by omega, fun k hk _ j _ => (S 111 _ (fr_out o (Nat.le_refl _) (Nat.le_refl _) _)).trans (tl_o E (by decide) _)⟩
def bkC (a1 x : Int) (h0 h' : m_H) : Prop := (x = 0 → 0 ≤ a1 ∧ a1 ≤ 1 ∧ LC 1 (18 + 8 * a1.toNat) h0 h') ∧ (x ≠ 0 → ∀ i, i < 8 → ∀ j, h' (1 + i) j = h0 (1 + i) j)
theorem bkC_ok {a1 : Int} {h0 h2 h3 : m_H} {cs : List Nat} {ss : List (Nat × Nat)} (ha : 0 ≤ a1) (hb : a1 ≤ 1) (C2 : LC 1 (18 + 8 * a1.toNat) h0 h2) (S : FR cs ss h2 h3) (o : out 1 8 cs ss = true) : bkC a1 0 h0 h3 := ⟨fun _ => ⟨ha, hb, C2.to (fun i hi j => S _ j (fr_out o (by omega) (by omega) j))⟩, fun q => absurd rfl q⟩
theorem bkC_no {a1 x : Int} {h0 h' : m_H} {cs : List Nat} {ss : List (Nat × Nat)} (hx : x ≠ 0) (S : FR cs ss h0 h') (o : out 1 8 cs ss = true) : bkC a1 x h0 h' := ⟨fun q => absurd q hx, fun _ i hi j => S _ j (fr_out o (by omega) (by omega) j)⟩
def bkM (a1 x : Int) (h0 h' : m_H) : Prop := (x = 0 → 0 ≤ a1 ∧ a1 ≤ 1 ∧ ∀ j, j < 200 → h' 110 j = h0 111 (200 * a1.toNat + j)) ∧ (x ≠ 0 → ∀ j, h' 110 j = h0 110 j)
theorem bkM_ok {a1 l : Int} {h0 h h' : m_H} {cs : List Nat} {ss : List (Nat × Nat)} (ha : 0 ≤ a1) (hb : a1 ≤ 1) (I : NBk h0 h a1.toNat l) (hl : 200 ≤ l) (S : FR cs ss h h') (o : out 110 110 cs ss = true) : bkM a1 0 h0 h' := ⟨fun _ => ⟨ha, hb, fun j hj => (S 110 j (fr_out o (Nat.le_refl _) (Nat.le_refl _) j)).trans (I.2.2 j (by omega))⟩, fun q => absurd rfl q⟩
theorem bkM_no {a1 x : Int} {h0 h1 h' : m_H} {i : Nat} {v : Int} {cs : List Nat} {ss : List (Nat × Nat)} (hx : x ≠ 0) (E : h1 = m_up h0 108 i v) (S : FR cs ss h1 h') (o : out 110 110 cs ss = true) : bkM a1 x h0 h' := ⟨fun q => absurd q hx, fun _ j => (S 110 j (fr_out o (Nat.le_refl _) (Nat.le_refl _) j)).trans (tl_o E (by decide) j)⟩
theorem upo1 {h h' : m_H} {c j : Nat} {v : Int} (E : h' = m_up h c j v) {k : Nat} (hk : k ≠ c) (i : Nat) : h' k i = h k i := by rw [E, m_up_ne1 hk]
abbrev P_X11_image2 (h0 : m_H) (a1 : Int) : Int → m_H → Prop := fun x h' => GI h' ∧ FR [18, 19, 20, 21, 22, 23, 24, 25, 26, 27, 28, 29, 30, 31, 32, 33, 34, 107] [(0, 14), (0, 15), (0, 16)] h0 h' ∧ imQ 34 a1 x h0 h' ∧ imC a1 h0 h'
set_option maxHeartbeats 4000000 in
set_option maxRecDepth 100000 in
theorem c_X11_image2 (h0 : m_H) (a1 : Int) (G0 : GI h0) : m_CI M_X11_image [mR 0, mI a1] h0 (P_X11_image2 h0 a1) := by
  refine m_CI_of ⟨by decide, rfl, by simp [m_arg, m_isL, M_X11_image], ⟨rfl, rfl⟩, rfl, rfl⟩ (ls := [some (mR 0), some (mI a1)]) rfl ?_
  refine z_ok (fun _ _ ok => ?_)
  have oa1 : m_32 a1 := ok 1 _ rfl
  unfold m_32 at oa1
  refine z_iload_n (M := M_X11_image) 0 dX11_image_0 rfl ?_
  refine z_iconst (M := M_X11_image) 1 dX11_image_1 ?_
  refine z_iconst (M := M_X11_image) 2 dX11_image_2 ?_
  refine z_sI (M := M_X11_image) 3 dX11_image_3 t_X11_within l_X11_112 (m_rr_of rfl) (rest := []) (c_X11_within h0 a1 0 1 G0) rfl rfl (Nat.le_of_ble_eq_true rfl) ⟨rfl, rfl⟩ (fun x1 h1 qx1 => ?_)
  obtain ⟨rfl, ⟨rfl, cx1⟩ | ⟨rfl, cx1⟩⟩ := qx1
  · refine z_if_ne_T (M := M_X11_image) 6 dX11_image_6 15 rfl (by omega) ?_
    refine z_aload_n (M := M_X11_image) 15 dX11_image_15 rfl ?_
    refine z_getR (M := M_X11_image) 16 dX11_image_16 f_X11_19 o_0 rfl (g_0_2 G0) ?_
    refine z_iload_n (M := M_X11_image) 19 dX11_image_19 rfl ?_
    have hi2 := isL_17 (i := a1) (by omega) (by omega)
    refine z_aaldL (M := M_X11_image) 20 dX11_image_20 o_17 (by omega) (by omega) (g_17 G0 (by omega)) ?_
    refine z_aload_n (M := M_X11_image) 21 dX11_image_21 rfl ?_
    refine z_getR (M := M_X11_image) 22 dX11_image_22 f_X11_12 o_0 rfl (g_0_0 G0) ?_
    refine z_vV (M := M_X11_image) 25 dX11_image_25 t_X4_copyFrom l_X11_197 (m_rr_of rfl) (rest := []) (c_X4_copyFrom2 h0 (18 + 8 * (a1).toNat) 1 hi2 (Or.inl rfl) G0) (oL hi2) rfl rfl rfl (Nat.le_of_ble_eq_true rfl) ⟨rfl, rfl⟩ (fun h2 qx3 => ?_)
    obtain ⟨G2, S2, C2⟩ := qx3
    have R2 := (FR.rf (cs := [18, 19, 20, 21, 22, 23, 24, 25, 26, 27, 28, 29, 30, 31, 32, 33, 34, 107]) (ss := [(0, 14), (0, 15), (0, 16)]) (h := h0)).call S2 (by rcases (show a1 = 0 ∨ a1 = 1 by omega) with rfl | rfl <;> decide +kernel)
    refine z_aload_n (M := M_X11_image) 28 dX11_image_28 rfl ?_
    refine z_getR (M := M_X11_image) 29 dX11_image_29 f_X11_23 o_0 rfl (g_0_3 G2) ?_
    refine z_iload_n (M := M_X11_image) 32 dX11_image_32 rfl ?_
    refine z_iconst (M := M_X11_image) 33 dX11_image_33 ?_
    refine z_zastH (M := M_X11_image) 34 dX11_image_34 o_34 (by omega) (by omega) (by omega) (u_34 G2 (by omega) (by omega)) (R2.up rfl) (fun h3 E3 G3 R3 => ?_)
    refine z_aload_n (M := M_X11_image) 35 dX11_image_35 rfl ?_
    refine z_iconst (M := M_X11_image) 36 dX11_image_36 ?_
    refine z_vI (M := M_X11_image) 37 dX11_image_37 t_X11_accept l_X11_123 (m_rr_of rfl) (rest := []) (c_X11_accept h3 0 G3) o_0 rfl rfl rfl (Nat.le_of_ble_eq_true rfl) ⟨rfl, rfl⟩ (fun x4 h4 qx4 => ?_)
    obtain ⟨G4, S4, rfl⟩ := qx4
    have R4 := R3.call S4 (by decide +kernel)
    exact z_retI (M := M_X11_image) 40 dX11_image_40 rfl ⟨G4, R4, Or.inr ⟨by omega, by omega, rfl, (S4 34 _ rfl).trans (upE E3), fun j hj => ((S4 34 j rfl).trans (upN E3 (fun q => hj q.2))).trans (S2 34 j (by rcases (show a1 = 0 ∨ a1 = 1 by omega) with rfl | rfl <;> rfl))⟩, imC_ok (by omega) (by omega) rfl S2 C2 E3 S4 (by decide)⟩
  · refine z_if_ne_F (M := M_X11_image) 6 dX11_image_6 15 rfl (by omega) ?_
    refine z_aload_n (M := M_X11_image) 9 dX11_image_9 rfl ?_
    refine z_iconst (M := M_X11_image) 10 dX11_image_10 ?_
    refine z_vI (M := M_X11_image) 11 dX11_image_11 t_X11_refuse l_X11_116 (m_rr_of rfl) (rest := []) (c_X11_refuse h0 (-1) G0 ⟨by omega, by omega⟩) o_0 rfl rfl rfl (Nat.le_of_ble_eq_true rfl) ⟨rfl, rfl⟩ (fun x5 h5 qx5 => ?_)
    obtain ⟨G5, S5, rfl⟩ := qx5
    have R5 := (FR.rf (cs := [18, 19, 20, 21, 22, 23, 24, 25, 26, 27, 28, 29, 30, 31, 32, 33, 34, 107]) (ss := [(0, 14), (0, 15), (0, 16)]) (h := h0)).call S5 (by decide +kernel)
    exact z_retI (M := M_X11_image) 14 dX11_image_14 rfl ⟨G5, R5, Or.inl ⟨by omega, rfl, fun j => S5 34 j rfl⟩, imC_no (by omega) S5 (by decide)⟩
abbrev P_X11_back2 (h0 : m_H) (a1 : Int) : Int → m_H → Prop := fun x h' => GI h' ∧ FR [2, 3, 4, 5, 6, 7, 8, 107] [(0, 14), (1, 7), (1, 8), (1, 9)] h0 h' ∧ bkQ 34 a1 x h0 ∧ bkC a1 x h0 h'
set_option maxHeartbeats 4000000 in
set_option maxRecDepth 100000 in
theorem c_X11_back2 (h0 : m_H) (a1 : Int) (G0 : GI h0) : m_CI M_X11_back [mR 0, mI a1] h0 (P_X11_back2 h0 a1) := by
  refine m_CI_of ⟨by decide, rfl, by simp [m_arg, m_isL, M_X11_back], ⟨rfl, rfl⟩, rfl, rfl⟩ (ls := [some (mR 0), some (mI a1)]) rfl ?_
  refine z_ok (fun _ _ ok => ?_)
  have oa1 : m_32 a1 := ok 1 _ rfl
  unfold m_32 at oa1
  refine z_iload_n (M := M_X11_back) 0 dX11_back_0 rfl ?_
  refine z_iconst (M := M_X11_back) 1 dX11_back_1 ?_
  refine z_iconst (M := M_X11_back) 2 dX11_back_2 ?_
  refine z_sI (M := M_X11_back) 3 dX11_back_3 t_X11_within l_X11_112 (m_rr_of rfl) (rest := []) (c_X11_within h0 a1 0 1 G0) rfl rfl (Nat.le_of_ble_eq_true rfl) ⟨rfl, rfl⟩ (fun x1 h1 qx1 => ?_)
  obtain ⟨rfl, ⟨rfl, cx1⟩ | ⟨rfl, cx1⟩⟩ := qx1
  · refine z_if_ne_T (M := M_X11_back) 6 dX11_back_6 15 rfl (by omega) ?_
    refine z_aload_n (M := M_X11_back) 15 dX11_back_15 rfl ?_
    refine z_getR (M := M_X11_back) 16 dX11_back_16 f_X11_23 o_0 rfl (g_0_3 G0) ?_
    refine z_iload_n (M := M_X11_back) 19 dX11_back_19 rfl ?_
    refine z_zaldG (M := M_X11_back) 20 dX11_back_20 o_34 (by omega) (by omega) (g_34 G0 (by omega)) (fun x2 ex2 ax2 bx2 => ?_)
    refine z_if_ne (M := M_X11_back) 21 dX11_back_21 31 rfl (fun c3 => ?_) (fun c3 => ?_)
    · refine z_aload_n (M := M_X11_back) 31 dX11_back_31 rfl ?_
      refine z_getR (M := M_X11_back) 32 dX11_back_32 f_X11_12 o_0 rfl (g_0_0 G0) ?_
      refine z_aload_n (M := M_X11_back) 35 dX11_back_35 rfl ?_
      refine z_getR (M := M_X11_back) 36 dX11_back_36 f_X11_19 o_0 rfl (g_0_2 G0) ?_
      refine z_iload_n (M := M_X11_back) 39 dX11_back_39 rfl ?_
      have hi4 := isL_17 (i := a1) (by omega) (by omega)
      refine z_aaldL (M := M_X11_back) 40 dX11_back_40 o_17 (by omega) (by omega) (g_17 G0 (by omega)) ?_
      refine z_vV (M := M_X11_back) 41 dX11_back_41 t_X4_copyFrom l_X11_197 (m_rr_of rfl) (rest := []) (c_X4_copyFrom2 h0 1 (18 + 8 * (a1).toNat) (Or.inl rfl) hi4 G0) o_1 rfl rfl rfl (Nat.le_of_ble_eq_true rfl) ⟨rfl, rfl⟩ (fun h2 qx5 => ?_)
      obtain ⟨G2, S2, C2⟩ := qx5
      have R2 := (FR.rf (cs := [2, 3, 4, 5, 6, 7, 8, 107]) (ss := [(0, 14), (1, 7), (1, 8), (1, 9)]) (h := h0)).call S2 (by decide +kernel)
      refine z_aload_n (M := M_X11_back) 44 dX11_back_44 rfl ?_
      refine z_iconst (M := M_X11_back) 45 dX11_back_45 ?_
      refine z_vI (M := M_X11_back) 46 dX11_back_46 t_X11_accept l_X11_123 (m_rr_of rfl) (rest := []) (c_X11_accept h2 0 G2) o_0 rfl rfl rfl (Nat.le_of_ble_eq_true rfl) ⟨rfl, rfl⟩ (fun x6 h3 qx6 => ?_)
      obtain ⟨G3, S3, rfl⟩ := qx6
      have R3 := R2.call S3 (by decide +kernel)
      exact z_retI (M := M_X11_back) 49 dX11_back_49 rfl ⟨G3, R3, Or.inr (Or.inr ⟨by omega, by omega, by omega, rfl⟩), bkC_ok (by omega) (by omega) C2 S3 (by decide)⟩
    · refine z_aload_n (M := M_X11_back) 24 dX11_back_24 rfl ?_
      refine z_bipush (M := M_X11_back) 25 dX11_back_25 ?_
      refine z_vI (M := M_X11_back) 27 dX11_back_27 t_X11_refuse l_X11_116 (m_rr_of rfl) (rest := []) (c_X11_refuse h0 (-2) G0 ⟨by omega, by omega⟩) o_0 rfl rfl rfl (Nat.le_of_ble_eq_true rfl) ⟨rfl, rfl⟩ (fun x7 h4 qx7 => ?_)
      obtain ⟨G4, S4, rfl⟩ := qx7
      have R4 := (FR.rf (cs := [2, 3, 4, 5, 6, 7, 8, 107]) (ss := [(0, 14), (1, 7), (1, 8), (1, 9)]) (h := h0)).call S4 (by decide +kernel)
      exact z_retI (M := M_X11_back) 30 dX11_back_30 rfl ⟨G4, R4, Or.inr (Or.inl ⟨by omega, by omega, by omega, rfl⟩), bkC_no (by decide) S4 (by decide)⟩
  · refine z_if_ne_F (M := M_X11_back) 6 dX11_back_6 15 rfl (by omega) ?_
    refine z_aload_n (M := M_X11_back) 9 dX11_back_9 rfl ?_
    refine z_iconst (M := M_X11_back) 10 dX11_back_10 ?_
    refine z_vI (M := M_X11_back) 11 dX11_back_11 t_X11_refuse l_X11_116 (m_rr_of rfl) (rest := []) (c_X11_refuse h0 (-1) G0 ⟨by omega, by omega⟩) o_0 rfl rfl rfl (Nat.le_of_ble_eq_true rfl) ⟨rfl, rfl⟩ (fun x8 h5 qx8 => ?_)
    obtain ⟨G5, S5, rfl⟩ := qx8
    have R5 := (FR.rf (cs := [2, 3, 4, 5, 6, 7, 8, 107]) (ss := [(0, 14), (1, 7), (1, 8), (1, 9)]) (h := h0)).call S5 (by decide +kernel)
    exact z_retI (M := M_X11_back) 14 dX11_back_14 rfl ⟨G5, R5, Or.inl ⟨by omega, rfl⟩, bkC_no (by decide) S5 (by decide)⟩
abbrev P_X12_image2 (h0 : m_H) (a1 : Int) : Int → m_H → Prop := fun x h' => GI h' ∧ FR [109, 111, 112] [(108, 0), (108, 1)] h0 h' ∧ imQ 112 a1 x h0 h' ∧ imM a1 h0 h' ∧ NPi h0 h'
def q_X12_image2 (h0 : m_H) (a1 : Int) (n : Nat) : Prop := (∀ (l2 : Int) (h : m_H), GI h → FR [109, 111, 112] [(108, 0), (108, 1)] h0 h → 0 ≤ l2 → l2 ≤ 200 → 0 ≤ a1 → a1 ≤ 1 → (∀ j : Nat, (j : Int) < l2 → r_lo j ≤ h 111 (200 * a1.toNat + j) ∧ h 111 (200 * a1.toNat + j) ≤ r_hi j) → (NIm h0 h a1.toNat l2) → (∀ j, h 112 j = h0 112 j) → 2 * (200 - l2) + (1) ≤ (n : Int) → m_Z oF M_X12_image 23 [some (mR 108), some (mI a1), some (mI l2)] [] h (m_QI (P_X12_image2 h0 a1)))
set_option maxHeartbeats 4000000 in
set_option maxRecDepth 100000 in
theorem s_X12_image2_23 (h0 : m_H) (a1 : Int) (G0 : GI h0) (n : Nat) (ih : q_X12_image2 h0 a1 n) : ∀ (l2 : Int) (h : m_H), GI h → FR [109, 111, 112] [(108, 0), (108, 1)] h0 h → 0 ≤ l2 → l2 ≤ 200 → 0 ≤ a1 → a1 ≤ 1 → (∀ j : Nat, (j : Int) < l2 → r_lo j ≤ h 111 (200 * a1.toNat + j) ∧ h 111 (200 * a1.toNat + j) ≤ r_hi j) → (NIm h0 h a1.toNat l2) → (∀ j, h 112 j = h0 112 j) → 2 * (200 - l2) + (1) ≤ ((n + 1 : Nat) : Int) → m_Z oF M_X12_image 23 [some (mR 108), some (mI a1), some (mI l2)] [] h (m_QI (P_X12_image2 h0 a1)) := by
  intro l2 h G R v0 v1 v2 v3 i0 i1 i2 hr
  refine z_iload_n (M := M_X12_image) 23 dX12_image_23 rfl ?_
  refine z_sipush (M := M_X12_image) 24 dX12_image_24 ?_
  refine z_icmp_ge (M := M_X12_image) 27 dX12_image_27 54 rfl (fun c1 => ?_) (fun c1 => ?_)
  · refine z_aload_n (M := M_X12_image) 54 dX12_image_54 rfl ?_
    refine z_getR (M := M_X12_image) 55 dX12_image_55 f_X12_19 o_108 rfl (g_108_5 G) ?_
    refine z_iload_n (M := M_X12_image) 58 dX12_image_58 rfl ?_
    refine z_iconst (M := M_X12_image) 59 dX12_image_59 ?_
    refine z_zastH (M := M_X12_image) 60 dX12_image_60 o_112 (by omega) (by omega) (by omega) (ux_112 G (by omega) (by omega) (fun i hi => i0 i (by omega))) (R.up rfl) (fun h1 E1 G1 R1 => ?_)
    refine z_aload_n (M := M_X12_image) 61 dX12_image_61 rfl ?_
    refine z_iconst (M := M_X12_image) 62 dX12_image_62 ?_
    refine z_vI (M := M_X12_image) 63 dX12_image_63 t_X12_answer l_X12_147 (m_rr_of rfl) (rest := []) (c_X12_answer h1 0 G1 ⟨by omega, by omega⟩) o_108 rfl rfl rfl (Nat.le_of_ble_eq_true rfl) ⟨rfl, rfl⟩ (fun x2 h2 qx2 => ?_)
    obtain ⟨G2, S2, rfl⟩ := qx2
    have R2 := R1.call S2 (by decide +kernel)
    exact z_retI (M := M_X12_image) 66 dX12_image_66 rfl ⟨G2, R2, Or.inr ⟨by omega, by omega, rfl, (S2 112 _ rfl).trans (upE E1), fun j hj => ((S2 112 j rfl).trans (upN E1 (fun q => hj q.2))).trans (i2 j)⟩, imM_ok (by omega) (by omega) i1 (by omega) E1 S2 (by decide), (NIm_end G0 (by omega) (by omega) i1 (by omega) E1 S2 (fun _ => rfl) (fun _ => rfl) (fun _ => rfl))⟩
  · refine z_aload_n (M := M_X12_image) 30 dX12_image_30 rfl ?_
    refine z_getR (M := M_X12_image) 31 dX12_image_31 f_X12_16 o_108 rfl (g_108_4 G) ?_
    refine z_sipush (M := M_X12_image) 34 dX12_image_34 ?_
    refine z_iload_n (M := M_X12_image) 37 dX12_image_37 rfl ?_
    refine z_imulN (M := M_X12_image) 38 dX12_image_38 (by omega) (by omega) ?_
    refine z_iload_n (M := M_X12_image) 39 dX12_image_39 rfl ?_
    refine z_iaddN (M := M_X12_image) 40 dX12_image_40 (by omega) (by omega) ?_
    refine z_aload_n (M := M_X12_image) 41 dX12_image_41 rfl ?_
    refine z_getR (M := M_X12_image) 42 dX12_image_42 f_X12_13 o_108 rfl (g_108_3 G) ?_
    refine z_iload_n (M := M_X12_image) 45 dX12_image_45 rfl ?_
    refine z_ialdV (M := M_X12_image) 46 dX12_image_46 o_110 (by omega) (by omega) (fun x3 ex3 => ?_)
    refine z_ok (fun ox3 _ _ => ?_)
    have ox3 := ox3.1; unfold m_ok m_32 at ox3
    refine z_iastH (M := M_X12_image) 47 dX12_image_47 o_111 (by omega) (by omega) (ux_111 G (by rw [show (200 * a1 + l2).toNat % 200 = l2.toNat by omega]; exact ex3 ▸ g_110 G (by omega))) (R.up rfl) (fun h3 E3 G3 R3 => ?_)
    refine z_iincN (M := M_X12_image) 48 dX12_image_48 (ls' := [some (mR 108), some (mI a1), some (mI (l2 + 1))]) (by decide) rfl (by (unfold m_32; decide)) (by omega) (by omega) rfl ?_
    refine z_goto (M := M_X12_image) 51 dX12_image_51 23 rfl ?_
    exact z_mask [true, true, true] rfl (ih (l2 + 1) h3 G3 R3 (by omega) (by omega) (by omega) (by omega) (im_step (by omega) (by omega) (by omega) E3 (ex3 ▸ g_110 G (by omega)) i0) (NIm_step (by omega) (by omega) (by omega) i1 E3 ex3) (fun j => (upo1 E3 (by decide) j).trans (i2 j)) (by omega))
theorem a_X12_image2 (h0 : m_H) (a1 : Int) (G0 : GI h0) : ∀ n, q_X12_image2 h0 a1 n := by
  intro n
  induction n with
  | zero => unfold q_X12_image2; intros; omega
  | succ n ih => exact s_X12_image2_23 h0 a1 G0 n ih
set_option maxHeartbeats 4000000 in
set_option maxRecDepth 100000 in
theorem c_X12_image2 (h0 : m_H) (a1 : Int) (G0 : GI h0) : m_CI M_X12_image [mR 108, mI a1] h0 (P_X12_image2 h0 a1) := by
  refine m_CI_of ⟨by decide, rfl, by simp [m_arg, m_isL, M_X12_image], ⟨rfl, rfl⟩, rfl, rfl⟩ (ls := [some (mR 108), some (mI a1), none]) rfl ?_
  have ih := a_X12_image2 h0 a1 G0 408
  refine z_ok (fun _ _ ok => ?_)
  have oa1 : m_32 a1 := ok 1 _ rfl
  unfold m_32 at oa1
  refine z_aload_n (M := M_X12_image) 0 dX12_image_0 rfl ?_
  refine z_iconst (M := M_X12_image) 1 dX12_image_1 ?_
  refine z_putIH (M := M_X12_image) 2 dX12_image_2 p_X12_133 o_108 rfl (u_108_0 G0) ((FR.rf (cs := [109, 111, 112]) (ss := [(108, 0), (108, 1)]) (h := h0)).up rfl) (fun h1 E1 G1 R1 => ?_)
  refine z_iload_n (M := M_X12_image) 5 dX12_image_5 rfl ?_
  refine z_i2l (M := M_X12_image) 6 dX12_image_6 ?_
  refine z_lconst (M := M_X12_image) 7 dX12_image_7 (v := 0) ?_
  refine z_lconst (M := M_X12_image) 8 dX12_image_8 (v := 1) ?_
  refine z_sI (M := M_X12_image) 9 dX12_image_9 t_X12_in l_X12_143 (m_rr_of rfl) (rest := []) (c_X12_in h1 a1 0 1 G1) rfl rfl (Nat.le_of_ble_eq_true rfl) ⟨rfl, rfl⟩ (fun x1 h2 qx1 => ?_)
  obtain ⟨rfl, ⟨rfl, cx1⟩ | ⟨rfl, cx1⟩⟩ := qx1
  · refine z_if_ne_T (M := M_X12_image) 12 dX12_image_12 21 rfl (by omega) ?_
    refine z_iconst (M := M_X12_image) 21 dX12_image_21 ?_
    refine z_istore_n (M := M_X12_image) 22 dX12_image_22 (ls' := [some (mR 108), some (mI a1), some (mI 0)]) (by decide) rfl ?_
    exact z_mask [true, true, true] rfl (ih 0 h1 G1 R1 (by omega) (by omega) (by omega) (by omega) (fun j hj => by omega) (NIm_0 E1) (upo1 E1 (by decide)) (by omega))
  · refine z_if_ne_F (M := M_X12_image) 12 dX12_image_12 21 rfl (by omega) ?_
    refine z_aload_n (M := M_X12_image) 15 dX12_image_15 rfl ?_
    refine z_iconst (M := M_X12_image) 16 dX12_image_16 ?_
    refine z_vI (M := M_X12_image) 17 dX12_image_17 t_X12_answer l_X12_147 (m_rr_of rfl) (rest := []) (c_X12_answer h1 (-1) G1 ⟨by omega, by omega⟩) o_108 rfl rfl rfl (Nat.le_of_ble_eq_true rfl) ⟨rfl, rfl⟩ (fun x2 h3 qx2 => ?_)
    obtain ⟨G3, S3, rfl⟩ := qx2
    have R3 := R1.call S3 (by decide +kernel)
    exact z_retI (M := M_X12_image) 20 dX12_image_20 rfl ⟨G3, R3, Or.inl ⟨by omega, rfl, fun j => (S3 112 j rfl).trans (upo1 E1 (by decide) j)⟩, imM_no (by omega) E1 S3 (by decide), (NPi.call (NPi.put NPi.rf E1 (by decide)) S3 (fun _ => rfl) (fun _ => rfl) (fun _ => rfl))⟩
abbrev P_X12_back2 (h0 : m_H) (a1 : Int) : Int → m_H → Prop := fun x h' => GI h' ∧ FR [109, 110] [(108, 0), (108, 1)] h0 h' ∧ bkQ 112 a1 x h0 ∧ bkM a1 x h0 h' ∧ NQi h0 h'
def q_X12_back2 (h0 : m_H) (a1 : Int) (n : Nat) : Prop := (∀ (l2 : Int) (h : m_H), GI h → FR [109, 110] [(108, 0), (108, 1)] h0 h → 0 ≤ l2 → l2 ≤ 200 → 0 ≤ a1 → a1 ≤ 1 → (h 112 a1.toNat ≠ 0) → (NBk h0 h a1.toNat l2) → h0 112 a1.toNat ≠ 0 → 2 * (200 - l2) + (1) ≤ (n : Int) → m_Z oF M_X12_back 39 [some (mR 108), some (mI a1), some (mI l2)] [] h (m_QI (P_X12_back2 h0 a1)))
set_option maxHeartbeats 4000000 in
set_option maxRecDepth 100000 in
theorem s_X12_back2_39 (h0 : m_H) (a1 : Int) (G0 : GI h0) (n : Nat) (ih : q_X12_back2 h0 a1 n) : ∀ (l2 : Int) (h : m_H), GI h → FR [109, 110] [(108, 0), (108, 1)] h0 h → 0 ≤ l2 → l2 ≤ 200 → 0 ≤ a1 → a1 ≤ 1 → (h 112 a1.toNat ≠ 0) → (NBk h0 h a1.toNat l2) → h0 112 a1.toNat ≠ 0 → 2 * (200 - l2) + (1) ≤ ((n + 1 : Nat) : Int) → m_Z oF M_X12_back 39 [some (mR 108), some (mI a1), some (mI l2)] [] h (m_QI (P_X12_back2 h0 a1)) := by
  intro l2 h G R v0 v1 v2 v3 i0 i1 i2 hr
  refine z_iload_n (M := M_X12_back) 39 dX12_back_39 rfl ?_
  refine z_sipush (M := M_X12_back) 40 dX12_back_40 ?_
  refine z_icmp_ge (M := M_X12_back) 43 dX12_back_43 70 rfl (fun c1 => ?_) (fun c1 => ?_)
  · refine z_aload_n (M := M_X12_back) 70 dX12_back_70 rfl ?_
    refine z_iconst (M := M_X12_back) 71 dX12_back_71 ?_
    refine z_vI (M := M_X12_back) 72 dX12_back_72 t_X12_answer l_X12_147 (m_rr_of rfl) (rest := []) (c_X12_answer h 0 G ⟨by omega, by omega⟩) o_108 rfl rfl rfl (Nat.le_of_ble_eq_true rfl) ⟨rfl, rfl⟩ (fun x2 h1 qx2 => ?_)
    obtain ⟨G1, S1, rfl⟩ := qx2
    have R1 := R.call S1 (by decide +kernel)
    exact z_retI (M := M_X12_back) 75 dX12_back_75 rfl ⟨G1, R1, Or.inr (Or.inr ⟨by omega, by omega, i2, rfl⟩), bkM_ok (by omega) (by omega) i1 (by omega) S1 (by decide), (NBk_end G (by omega) (by omega) i1 (by omega) i0 S1 (fun _ => rfl) (fun _ => rfl) (fun _ => rfl))⟩
  · refine z_aload_n (M := M_X12_back) 46 dX12_back_46 rfl ?_
    refine z_getR (M := M_X12_back) 47 dX12_back_47 f_X12_13 o_108 rfl (g_108_3 G) ?_
    refine z_iload_n (M := M_X12_back) 50 dX12_back_50 rfl ?_
    refine z_aload_n (M := M_X12_back) 51 dX12_back_51 rfl ?_
    refine z_getR (M := M_X12_back) 52 dX12_back_52 f_X12_16 o_108 rfl (g_108_4 G) ?_
    refine z_sipush (M := M_X12_back) 55 dX12_back_55 ?_
    refine z_iload_n (M := M_X12_back) 58 dX12_back_58 rfl ?_
    refine z_imulN (M := M_X12_back) 59 dX12_back_59 (by omega) (by omega) ?_
    refine z_iload_n (M := M_X12_back) 60 dX12_back_60 rfl ?_
    refine z_iaddN (M := M_X12_back) 61 dX12_back_61 (by omega) (by omega) ?_
    refine z_ialdV (M := M_X12_back) 62 dX12_back_62 o_111 (by omega) (by omega) (fun x3 ex3 => ?_)
    refine z_ok (fun ox3 _ _ => ?_)
    have ox3 := ox3.1; unfold m_ok m_32 at ox3
    refine z_iastH (M := M_X12_back) 63 dX12_back_63 o_110 (by omega) (by omega) (u_110 G (ex3 ▸ (bk_b G (by omega) (by omega) (by omega) (by omega) i0).1) (ex3 ▸ (bk_b G (by omega) (by omega) (by omega) (by omega) i0).2)) (R.up rfl) (fun h2 E2 G2 R2 => ?_)
    refine z_iincN (M := M_X12_back) 64 dX12_back_64 (ls' := [some (mR 108), some (mI a1), some (mI (l2 + 1))]) (by decide) rfl (by (unfold m_32; decide)) (by omega) (by omega) rfl ?_
    refine z_goto (M := M_X12_back) 67 dX12_back_67 39 rfl ?_
    exact z_mask [true, true, true] rfl (ih (l2 + 1) h2 G2 R2 (by omega) (by omega) (by omega) (by omega) (by rw [E2, m_up_ne1 (by decide)]; exact i0) (NBk_step (by omega) (by omega) i1 E2 ex3) i2 (by omega))
theorem a_X12_back2 (h0 : m_H) (a1 : Int) (G0 : GI h0) : ∀ n, q_X12_back2 h0 a1 n := by
  intro n
  induction n with
  | zero => unfold q_X12_back2; intros; omega
  | succ n ih => exact s_X12_back2_39 h0 a1 G0 n ih
set_option maxHeartbeats 4000000 in
set_option maxRecDepth 100000 in
theorem c_X12_back2 (h0 : m_H) (a1 : Int) (G0 : GI h0) : m_CI M_X12_back [mR 108, mI a1] h0 (P_X12_back2 h0 a1) := by
  refine m_CI_of ⟨by decide, rfl, by simp [m_arg, m_isL, M_X12_back], ⟨rfl, rfl⟩, rfl, rfl⟩ (ls := [some (mR 108), some (mI a1), none]) rfl ?_
  have ih := a_X12_back2 h0 a1 G0 408
  refine z_ok (fun _ _ ok => ?_)
  have oa1 : m_32 a1 := ok 1 _ rfl
  unfold m_32 at oa1
  refine z_aload_n (M := M_X12_back) 0 dX12_back_0 rfl ?_
  refine z_iconst (M := M_X12_back) 1 dX12_back_1 ?_
  refine z_putIH (M := M_X12_back) 2 dX12_back_2 p_X12_133 o_108 rfl (u_108_0 G0) ((FR.rf (cs := [109, 110]) (ss := [(108, 0), (108, 1)]) (h := h0)).up rfl) (fun h1 E1 G1 R1 => ?_)
  refine z_iload_n (M := M_X12_back) 5 dX12_back_5 rfl ?_
  refine z_i2l (M := M_X12_back) 6 dX12_back_6 ?_
  refine z_lconst (M := M_X12_back) 7 dX12_back_7 (v := 0) ?_
  refine z_lconst (M := M_X12_back) 8 dX12_back_8 (v := 1) ?_
  refine z_sI (M := M_X12_back) 9 dX12_back_9 t_X12_in l_X12_143 (m_rr_of rfl) (rest := []) (c_X12_in h1 a1 0 1 G1) rfl rfl (Nat.le_of_ble_eq_true rfl) ⟨rfl, rfl⟩ (fun x1 h2 qx1 => ?_)
  obtain ⟨rfl, ⟨rfl, cx1⟩ | ⟨rfl, cx1⟩⟩ := qx1
  · refine z_if_ne_T (M := M_X12_back) 12 dX12_back_12 21 rfl (by omega) ?_
    refine z_aload_n (M := M_X12_back) 21 dX12_back_21 rfl ?_
    refine z_getR (M := M_X12_back) 22 dX12_back_22 f_X12_19 o_108 rfl (g_108_5 G1) ?_
    refine z_iload_n (M := M_X12_back) 25 dX12_back_25 rfl ?_
    refine z_zaldG (M := M_X12_back) 26 dX12_back_26 o_112 (by omega) (by omega) (g_112 G1 (by omega)) (fun x2 ex2 ax2 bx2 => ?_)
    refine z_if_ne (M := M_X12_back) 27 dX12_back_27 37 rfl (fun c3 => ?_) (fun c3 => ?_)
    · refine z_iconst (M := M_X12_back) 37 dX12_back_37 ?_
      refine z_istore_n (M := M_X12_back) 38 dX12_back_38 (ls' := [some (mR 108), some (mI a1), some (mI 0)]) (by decide) rfl ?_
      exact z_mask [true, true, true] rfl (ih 0 h1 G1 R1 (by omega) (by omega) (by omega) (by omega) (fun q => by omega) (NBk_0 E1) (fun q => by have z := upo1 E1 (by decide : (112 : Nat) ≠ 108) a1.toNat; omega) (by omega))
    · refine z_aload_n (M := M_X12_back) 30 dX12_back_30 rfl ?_
      refine z_bipush (M := M_X12_back) 31 dX12_back_31 ?_
      refine z_vI (M := M_X12_back) 33 dX12_back_33 t_X12_answer l_X12_147 (m_rr_of rfl) (rest := []) (c_X12_answer h1 (-2) G1 ⟨by omega, by omega⟩) o_108 rfl rfl rfl (Nat.le_of_ble_eq_true rfl) ⟨rfl, rfl⟩ (fun x4 h3 qx4 => ?_)
      obtain ⟨G3, S3, rfl⟩ := qx4
      have R3 := R1.call S3 (by decide +kernel)
      exact z_retI (M := M_X12_back) 36 dX12_back_36 rfl ⟨G3, R3, Or.inr (Or.inl ⟨by omega, by omega, (upo1 E1 (by decide) _).symm.trans (by omega), rfl⟩), bkM_no (by decide) E1 S3 (by decide), (NQi.call (NQi.put NQi.rf E1 (by decide)) S3 (fun _ => rfl) (fun _ => rfl) (fun _ => rfl))⟩
  · refine z_if_ne_F (M := M_X12_back) 12 dX12_back_12 21 rfl (by omega) ?_
    refine z_aload_n (M := M_X12_back) 15 dX12_back_15 rfl ?_
    refine z_iconst (M := M_X12_back) 16 dX12_back_16 ?_
    refine z_vI (M := M_X12_back) 17 dX12_back_17 t_X12_answer l_X12_147 (m_rr_of rfl) (rest := []) (c_X12_answer h1 (-1) G1 ⟨by omega, by omega⟩) o_108 rfl rfl rfl (Nat.le_of_ble_eq_true rfl) ⟨rfl, rfl⟩ (fun x5 h4 qx5 => ?_)
    obtain ⟨G4, S4, rfl⟩ := qx5
    have R4 := R1.call S4 (by decide +kernel)
    exact z_retI (M := M_X12_back) 20 dX12_back_20 rfl ⟨G4, R4, Or.inl ⟨by omega, rfl⟩, bkM_no (by decide) E1 S4 (by decide), (NQi.call (NQi.put NQi.rf E1 (by decide)) S4 (fun _ => rfl) (fun _ => rfl) (fun _ => rfl))⟩
