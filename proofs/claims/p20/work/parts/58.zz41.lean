/-! ask -/
def TM (r : Nat → Int) (h : m_H) : Prop := ∃ g s, TY r s g ∧ ∀ c, c ≠ 94 → c ≠ 95 → h c = g c
theorem TM.step {r : Nat → Int} {h h' : m_H} (T : TM r h) (e : ∀ c, c ≠ 94 → c ≠ 95 → h' c = h c) : TM r h' := by
  obtain ⟨g, s, Y, E⟩ := T
  exact ⟨g, s, Y, fun c c1 c2 => (e c c1 c2).trans (E c c1 c2)⟩
theorem lm_same {h g : m_H} (E : ∀ c, c ≠ 94 → c ≠ 95 → h c = g c) (a b : Int) : ∀ n, n ≤ 16 → lmN h a b n = lmN g a b n
  | 0, _ => rfl
  | n + 1, hn => by
    have i := lm_same E a b n (by omega)
    show lmS h a b (n : Int) (lmN h a b n) = lmS g a b (n : Int) (lmN g a b n)
    rw [i]
    unfold lmS cnd hiV loV
    rw [E 39 (by decide) (by decide), E 40 (by decide) (by decide), E 41 (by decide) (by decide), E (77 + (n : Int).toNat) (by omega) (by omega)]
theorem TM.H {r : Nat → Int} {h : m_H} (T : TM r h) : bkH h := by
  obtain ⟨g, s, ⟨D, _, X⟩, E⟩ := T
  have b := X.1.1
  unfold bkH at b ⊢
  rw [E 39 (by decide) (by decide), E 41 (by decide) (by decide)]; exact b
theorem TM.R {r : Nat → Int} {h : m_H} (T : TM r h) : bkR h := by
  obtain ⟨g, s, ⟨D, _, X⟩, E⟩ := T
  have b := bkR_X X
  intro p hp
  have q := b p hp
  unfold bd at q ⊢
  rw [E (77 + p) (by omega) (by omega)]; exact q
theorem TM.cp {h : m_H} {a b : Int} {B : Int × Int × Int} (G : GI h) (N : NP h) (T : TM (h 110) h) (ng : ¬ gain (bR (h 110))) (ta : thr (h 110) a) (tb : thr (h 110) b) (e : B = if a = b then (1, 1, 0) else lmN h a b 16) (o : B.2.2 = 0 ∨ B.2.2 = 1) : cpB (h 110) a b B := by
  obtain ⟨g, s, Y, E⟩ := T
  exact cp_of G N Y ng ta tb (by rw [e, lm_same E a b 16 (Nat.le_refl _)]) o
def mwQ (r : Nat → Int) (a f y : Int) : Prop := (¬ thr r a ∧ y = -1) ∨ (thr r a ∧ ∃ B C fo la, nmE r a f 1 B C fo la ∧ nmN fo la = y)
theorem mw_eq {r : Nat → Int} (hE : ∀ e ∈ bR r, gEo e) {a f x y : Int} (h : mwQ r a f x) (h' : mwQ r a f y) : x = y := by
  rcases h with ⟨n, e⟩ | ⟨t, B, C, fo, la, i, v⟩
  · rcases h' with ⟨_, e'⟩ | ⟨t', _⟩
    · omega
    · exact absurd t' n
  · rcases h' with ⟨n', _⟩ | ⟨_, B', C', fo', la', i', v'⟩
    · exact absurd t n'
    · obtain ⟨e1, e2⟩ := nmE_eq hE i i'
      have f1 := i.2.2.1
      subst e1
      rw [← v, ← v']
      rcases e2 with z | z
      · rw [z]
      · unfold nmN; rw [if_neg (by omega), if_neg (by omega)]
def akV (r : Nat → Int) (i y : Int) : Prop := mwQ r (i / 4) (i % 4) y
def akB (r : Nat → Int) (m p v : Int) : Prop := (m = 0 ∧ v = -1) ∨ ((0 < m ∧ 0 ≤ p ∧ p < m ∧ 0 ≤ v) ∧ akV r p v ∧ (∀ i y, 0 ≤ i → i < m → akV r i y → y ≤ v) ∧ ∀ i y, 0 ≤ i → i < p → akV r i y → y < v)
theorem mwz_0 {r : Nat → Int} {f y : Int} (h : mwQ r 0 f y) : 0 ≤ y := by
  rcases h with ⟨n, _⟩ | ⟨_, B, C, fo, la, i, v⟩
  · exact absurd ⟨by decide, by decide, Or.inl (by decide)⟩ n
  · rw [← v]; unfold nmN; split <;> omega
theorem akB_y {r : Nat → Int} (hE : ∀ e ∈ bR r, gEo e) {m p v y : Int} (hm : 0 ≤ m) (I : akB r m p v) (V : akV r m y) (c : v < y) : akB r (m + 1) m y := by
  have one : ∀ i z, 0 ≤ i → i < m → akV r i z → z < y := fun i z i0 i1 q => by
    rcases I with ⟨e, _⟩ | ⟨_, _, a, _⟩
    · omega
    · have := a i z i0 i1 q; omega
  have y0 : 0 ≤ y := by
    rcases I with ⟨e, _⟩ | ⟨⟨_, _, _, z⟩, _⟩
    · subst e; exact mwz_0 V
    · omega
  refine Or.inr ⟨⟨by omega, hm, by omega, y0⟩, V, fun i z i0 i1 q => ?_, one⟩
  by_cases g : i = m
  · subst g; have := mw_eq hE q V; omega
  · have := one i z i0 (by omega) q; omega
theorem akB_n {r : Nat → Int} (hE : ∀ e ∈ bR r, gEo e) {m p v y : Int} (hm : 0 ≤ m) (I : akB r m p v) (V : akV r m y) (c : y ≤ v) : akB r (m + 1) p v := by
  rcases I with ⟨e, e2⟩ | ⟨⟨a1, a2, a3, a4⟩, b, d, f⟩
  · subst e
    have := mwz_0 V
    omega
  · refine Or.inr ⟨⟨by omega, a2, by omega, a4⟩, b, fun i z i0 i1 q => ?_, f⟩
    by_cases g : i = m
    · subst g; have := mw_eq hE q V; omega
    · exact d i z i0 (by omega) q
theorem akB_p {r : Nat → Int} {m p v : Int} (I : akB r m p v) (hm : 0 < m) : 0 ≤ p ∧ p < m := by
  rcases I with ⟨e, _⟩ | ⟨⟨_, a, b, _⟩, _⟩
  · omega
  · exact ⟨a, b⟩
theorem akB_eq {r : Nat → Int} (hE : ∀ e ∈ bR r, gEo e) {m p v p' v' : Int} (hm : 0 < m) (I : akB r m p v) (J : akB r m p' v') : p = p' ∧ v = v' := by
  rcases I with ⟨e, _⟩ | ⟨⟨_, a2, a3, _⟩, b, d, f⟩
  · omega
  · rcases J with ⟨e, _⟩ | ⟨⟨_, a2', a3', _⟩, b', d', f'⟩
    · omega
    · have x1 := d p' v' a2' a3' b'
      have x2 := d' p v a2 a3 b
      refine ⟨?_, by omega⟩
      rcases Int.lt_trichotomy p p' with z | z | z
      · have := f' p v a2 z b; omega
      · exact z
      · have := f p' v' a2' z b'; omega
/-- a length that isn't there -/
theorem akB_k {r : Nat → Int} (hE : ∀ e ∈ bR r, gEo e) {l j p v : Int} (hl : 0 ≤ l) (n : ¬ thr r l) (h0 : 0 ≤ j) (h4 : j ≤ 4) (hv : -1 ≤ v) (I : akB r (4 * l + j) p v) : akB r (4 * (l + 1)) p v := by
  have st : ∀ i, 0 ≤ i → i ≤ 3 → akB r (4 * l + i) p v → akB r (4 * l + (i + 1)) p v := fun i i0 i3 q => by
    have V : akV r (4 * l + i) (-1) := Or.inl ⟨by rw [show (4 * l + i) / 4 = l by omega]; exact n, rfl⟩
    have z := akB_n hE (by omega) q V hv
    rw [show 4 * l + i + 1 = 4 * l + (i + 1) by omega] at z
    exact z
  have k : ∀ t : Nat, ∀ i : Int, 0 ≤ i → i + (t : Int) = 4 → akB r (4 * l + i) p v → akB r (4 * (l + 1)) p v := by
    intro t
    induction t with
    | zero => intro i _ e q; rw [show i = 4 by omega] at q; rw [show 4 * (l + 1) = 4 * l + 4 by omega]; exact q
    | succ t ih => intro i i0 e q; exact ih (i + 1) (by omega) (by omega) (st i i0 (by omega) q)
  exact k (4 - j).toNat j h0 (by omega) I
def aqQ (r : Nat → Int) (w x : Int) : Prop := (¬ ((0 ≤ w ∧ w ≤ 2) ∧ ¬ gain (bR r)) ∧ x = -1) ∨ (((0 ≤ w ∧ w ≤ 2) ∧ ¬ gain (bR r)) ∧ ∃ p v, akB r 48 p v ∧ ((w = 0 ∧ x = p / 4) ∨ (w = 1 ∧ x = p % 4) ∨ (w = 2 ∧ x = v)))
theorem as_eq {r : Nat → Int} (hE : ∀ e ∈ bR r, gEo e) {w x y : Int} (h : aqQ r w x) (h' : aqQ r w y) : x = y := by
  rcases h with ⟨n, e⟩ | ⟨K, p, v, i, a⟩
  · rcases h' with ⟨_, e'⟩ | ⟨K', _⟩
    · omega
    · exact absurd K' n
  · rcases h' with ⟨n', _⟩ | ⟨_, p', v', i', a'⟩
    · exact absurd K n'
    · obtain ⟨e1, e2⟩ := akB_eq hE (by decide) i i'
      subst e1
      subst e2
      omega
theorem LX.ask {h h1 : m_H} {w x y : Int} {cs : List Nat} {ss : List (Nat × Nat)} (G : GI h) (N : NP h) (S1 : FR cs ss h h1) (A : aqQ (h 110) w x) (B : aqQ (h1 110) w y) (o : out 110 110 cs ss = true) : x = y := by
  rw [rowz S1 (fr_out o (by decide) (by decide))] at B
  exact as_eq (bR_ok G N) A B
abbrev P_X11_manyWholes3 (h0 : m_H) (a1 a2 : Int) : Int → m_H → Prop := fun x h' => GI h' ∧ FR (csB ++ []) [] h0 h' ∧ (-1) ≤ x ∧ x ≤ 2147483647 ∧ (∀ c, c ≠ 94 → c ≠ 95 → h' c = h0 c) ∧ mwQ (h0 110) a1 a2 x
set_option maxHeartbeats 4000000 in
set_option maxRecDepth 100000 in
theorem c_X11_manyWholes3 (h0 : m_H) (a1 a2 : Int) (G0 : GI h0) (pa1 : 0 ≤ a1 ∧ a1 ≤ 11) (pa2 : 0 ≤ a2 ∧ a2 ≤ 3) (hR : LR 1 h0 (h0 110)) (hN : NP h0) (hT : TM (h0 110) h0) (ng : ¬ gain (bR (h0 110))) : m_CI M_X11_manyWholes [mR 0, mI a1, mI a2] h0 (P_X11_manyWholes3 h0 a1 a2) := by
  refine m_CI_of ⟨by decide, rfl, by simp [m_arg, m_isL, M_X11_manyWholes], ⟨rfl, rfl⟩, rfl, rfl⟩ (ls := [some (mR 0), some (mI a1), some (mI a2)]) rfl ?_
  refine z_aload_n (M := M_X11_manyWholes) 0 dX11_manyWholes_0 rfl ?_
  refine z_getR (M := M_X11_manyWholes) 1 dX11_manyWholes_1 f_X11_12 o_0 rfl (g_0_0 G0) ?_
  refine z_iload_n (M := M_X11_manyWholes) 4 dX11_manyWholes_4 rfl ?_
  refine z_vI (M := M_X11_manyWholes) 5 dX11_manyWholes_5 t_X4_isThere l_X11_329 (m_rr_of rfl) (rest := []) (c_X4_isThere h0 1 a1 (Or.inl rfl) G0) o_1 rfl rfl rfl (Nat.le_of_ble_eq_true rfl) ⟨rfl, rfl⟩ (fun x1 h1 qx1 => ?_)
  obtain ⟨rfl, ⟨rfl, cx1⟩ | ⟨rfl, cx1⟩⟩ := qx1
  · refine z_if_ne_T (M := M_X11_manyWholes) 8 dX11_manyWholes_8 13 rfl (by omega) ?_
    refine z_aload_n (M := M_X11_manyWholes) 13 dX11_manyWholes_13 rfl ?_
    refine z_getR (M := M_X11_manyWholes) 14 dX11_manyWholes_14 f_X11_53 o_0 rfl (g_0_7 G0) ?_
    refine z_aload_n (M := M_X11_manyWholes) 17 dX11_manyWholes_17 rfl ?_
    refine z_getR (M := M_X11_manyWholes) 18 dX11_manyWholes_18 f_X11_46 o_0 rfl (g_0_6 G0) ?_
    refine z_iload_n (M := M_X11_manyWholes) 21 dX11_manyWholes_21 rfl ?_
    refine z_bipush (M := M_X11_manyWholes) 22 dX11_manyWholes_22 ?_
    refine z_iload_n (M := M_X11_manyWholes) 24 dX11_manyWholes_24 rfl ?_
    refine z_iaddN (M := M_X11_manyWholes) 25 dX11_manyWholes_25 (by omega) (by omega) ?_
    refine z_vV (M := M_X11_manyWholes) 26 dX11_manyWholes_26 t_X7_measure l_X11_427 (m_rr_of rfl) (rest := []) (c_X7_measure2 h0 a1 (12 + a2) G0 ⟨by omega, by omega⟩ ⟨by omega, by omega⟩ hT.H hT.R) o_93 rfl rfl rfl (Nat.le_of_ble_eq_true rfl) ⟨rfl, rfl⟩ (fun h2 qx2 => ?_)
    obtain ⟨G2, S2, M1, M2, M3⟩ := qx2
    have t1_ : thr (h0 110) a1 := (thr_c hR).mp cx1
    have t2_ : thr (h0 110) (12 + a2) := ⟨by omega, by omega, Or.inr (Or.inl (by omega))⟩
    have c1_ := hT.cp G0 hN ng t1_ t2_ M2 (by have z := g_95_2 G2; show h2 95 2 = 0 ∨ h2 95 2 = 1; omega)
    have c2_ := hT.cp G0 hN ng t2_ t1_ M3 (by have z := g_94_2 G2; show h2 94 2 = 0 ∨ h2 94 2 = 1; omega)
    have pb1_ : (1 ≤ h2 95 0 ∧ h2 95 0 ≤ 1600000000) ∧ (0 ≤ h2 95 1 ∧ h2 95 1 ≤ 1600000000) := by have z := c1_.2.1; unfold pBb bd at z; simp only at z; omega
    have pb2_ : (1 ≤ h2 94 0 ∧ h2 94 0 ≤ 1600000000) ∧ (0 ≤ h2 94 1 ∧ h2 94 1 ≤ 1600000000) := by have z := c2_.2.1; unfold pBb bd at z; simp only at z; omega
    have R2 := (FR.rf (cs := (csB ++ [])) (ss := []) (h := h0)).call S2 (by decide +kernel)
    refine z_aload_n (M := M_X11_manyWholes) 29 dX11_manyWholes_29 rfl ?_
    refine z_getR (M := M_X11_manyWholes) 30 dX11_manyWholes_30 f_X11_53 o_0 rfl (g_0_7 G2) ?_
    refine z_iconst (M := M_X11_manyWholes) 33 dX11_manyWholes_33 ?_
    refine z_vI (M := M_X11_manyWholes) 34 dX11_manyWholes_34 t_X7_manyNumbers l_X11_310 (m_rr_of rfl) (rest := []) (c_X7_manyNumbers4 h2 1 G2 ⟨by omega, by omega⟩ pb2_ pb1_) o_93 rfl rfl rfl (Nat.le_of_ble_eq_true rfl) ⟨rfl, rfl⟩ (fun x3 h3 qx3 => ?_)
    obtain ⟨G3, S3, ax3, bx3, fo, la, nm_, nx_⟩ := qx3
    have R3 := R2.call S3 (by decide +kernel)
    exact z_retI (M := M_X11_manyWholes) 37 dX11_manyWholes_37 rfl ⟨G3, R3, by omega, by omega, fun c d1 d2 => (by rw [frE S3]; exact M1 c d1 d2), Or.inr ⟨t1_, _, _, fo, la, ⟨⟨c2_.1, c2_.2.2.1⟩, ⟨c1_.1, c1_.2.2.1⟩, nm_⟩, nx_⟩⟩
  · refine z_if_ne_F (M := M_X11_manyWholes) 8 dX11_manyWholes_8 13 rfl (by omega) ?_
    refine z_iconst (M := M_X11_manyWholes) 11 dX11_manyWholes_11 ?_
    exact z_retI (M := M_X11_manyWholes) 12 dX11_manyWholes_12 rfl ⟨G0, (FR.rf (cs := (csB ++ [])) (ss := []) (h := h0)), by omega, by omega, fun _ _ _ => rfl, Or.inl ⟨fun z => cx1 ((thr_c hR).mpr z), rfl⟩⟩
abbrev P_X11_ask3 (h0 : m_H) (a1 : Int) : Int → m_H → Prop := fun x h' => GI h' ∧ FR (csB ++ [39, 40, 41]) [] h0 h' ∧ (-1) ≤ x ∧ x ≤ 2147483647 ∧ aqQ (h0 110) a1 x
def q_X11_ask3 (h0 : m_H) (a1 : Int) (n : Nat) : Prop := (∀ (l2 l3 l4 : Int) (h : m_H), GI h → FR (csB ++ [39, 40, 41]) [] h0 h → (-1) ≤ l2 → l2 ≤ 2147483647 → 0 ≤ l3 → l3 ≤ 47 → 0 ≤ l4 → l4 ≤ 48 → 0 ≤ a1 → a1 ≤ 2 → (TM (h0 110) h ∧ ¬ gain (bR (h0 110)) ∧ akB (h0 110) l4 l3 l2) → 2 * (48 - l4) + (1) ≤ (n : Int) → m_Z oF M_X11_ask 25 [some (mR 0), some (mI a1), some (mI l2), some (mI l3), some (mI l4), none] [] h (m_QI (P_X11_ask3 h0 a1)))
set_option maxHeartbeats 4000000 in
set_option maxRecDepth 100000 in
theorem s_X11_ask3_25 (h0 : m_H) (a1 : Int) (G0 : GI h0) (hR : LR 1 h0 (h0 110)) (hN : NP h0) (n : Nat) (ih : q_X11_ask3 h0 a1 n) : ∀ (l2 l3 l4 : Int) (h : m_H), GI h → FR (csB ++ [39, 40, 41]) [] h0 h → (-1) ≤ l2 → l2 ≤ 2147483647 → 0 ≤ l3 → l3 ≤ 47 → 0 ≤ l4 → l4 ≤ 48 → 0 ≤ a1 → a1 ≤ 2 → (TM (h0 110) h ∧ ¬ gain (bR (h0 110)) ∧ akB (h0 110) l4 l3 l2) → 2 * (48 - l4) + (1) ≤ ((n + 1 : Nat) : Int) → m_Z oF M_X11_ask 25 [some (mR 0), some (mI a1), some (mI l2), some (mI l3), some (mI l4), none] [] h (m_QI (P_X11_ask3 h0 a1)) := by
  intro l2 l3 l4 h G R v0 v1 v2 v3 v4 v5 v6 v7 i1 hr
  have r_ : h 110 = h0 110 := FR.row R (fun _ => rfl)
  have R_ : LR 1 h (h 110) := by rw [r_]; exact LR.S hR R (by decide)
  have N_ : NP h := NP.call hN R (fun _ => rfl) (fun _ => rfl) (fun _ => rfl)
  have T_ : TM (h 110) h := by rw [r_]; exact i1.1
  have g_ : ¬ gain (bR (h 110)) := by rw [r_]; exact i1.2.1
  have E_ := bR_ok G0 hN
  refine z_iload (M := M_X11_ask) 25 dX11_ask_25 rfl ?_
  refine z_bipush (M := M_X11_ask) 27 dX11_ask_27 ?_
  refine z_icmp_ge (M := M_X11_ask) 29 dX11_ask_29 64 rfl (fun c1 => ?_) (fun c1 => ?_)
  · refine z_iload_n (M := M_X11_ask) 64 dX11_ask_64 rfl ?_
    refine z_iconst (M := M_X11_ask) 65 dX11_ask_65 ?_
    refine z_icmp_ne (M := M_X11_ask) 66 dX11_ask_66 71 rfl (fun c2 => ?_) (fun c2 => ?_)
    · refine z_iload_n (M := M_X11_ask) 71 dX11_ask_71 rfl ?_
      refine z_if_ne (M := M_X11_ask) 72 dX11_ask_72 81 rfl (fun c3 => ?_) (fun c3 => ?_)
      · refine z_iload_n (M := M_X11_ask) 81 dX11_ask_81 rfl ?_
        refine z_iconst (M := M_X11_ask) 82 dX11_ask_82 ?_
        refine z_iremN (M := M_X11_ask) 83 dX11_ask_83 (by omega) (by omega) ?_
        refine z_topBI (lo := 0) (hi := 3) ⟨by omega, by omega⟩ (fun x4 ex4 ax4 bx4 => ?_)
        exact z_retI (M := M_X11_ask) 84 dX11_ask_84 rfl ⟨G, R, by omega, by omega, Or.inr ⟨⟨⟨by omega, by omega⟩, i1.2.1⟩, l3, l2, by have z := i1.2.2; rw [show l4 = 48 by omega] at z; exact z, Or.inr (Or.inl ⟨by omega, ex4.symm⟩)⟩⟩
      · refine z_iload_n (M := M_X11_ask) 75 dX11_ask_75 rfl ?_
        refine z_iconst (M := M_X11_ask) 76 dX11_ask_76 ?_
        refine z_idivN (M := M_X11_ask) 77 dX11_ask_77 (by omega) (by omega) ?_
        refine z_topBI (lo := 0) (hi := 11) ⟨by omega, by omega⟩ (fun x5 ex5 ax5 bx5 => ?_)
        refine z_goto (M := M_X11_ask) 78 dX11_ask_78 84 rfl ?_
        exact z_retI (M := M_X11_ask) 84 dX11_ask_84 rfl ⟨G, R, by omega, by omega, Or.inr ⟨⟨⟨by omega, by omega⟩, i1.2.1⟩, l3, l2, by have z := i1.2.2; rw [show l4 = 48 by omega] at z; exact z, Or.inl ⟨by omega, ex5.symm⟩⟩⟩
    · refine z_iload_n (M := M_X11_ask) 69 dX11_ask_69 rfl ?_
      exact z_retI (M := M_X11_ask) 70 dX11_ask_70 rfl ⟨G, R, by omega, by omega, Or.inr ⟨⟨⟨by omega, by omega⟩, i1.2.1⟩, l3, l2, by have z := i1.2.2; rw [show l4 = 48 by omega] at z; exact z, Or.inr (Or.inr ⟨by omega, rfl⟩)⟩⟩
  · refine z_aload_n (M := M_X11_ask) 32 dX11_ask_32 rfl ?_
    refine z_iload (M := M_X11_ask) 33 dX11_ask_33 rfl ?_
    refine z_iconst (M := M_X11_ask) 35 dX11_ask_35 ?_
    refine z_idivN (M := M_X11_ask) 36 dX11_ask_36 (by omega) (by omega) ?_
    refine z_topBI (lo := 0) (hi := 11) ⟨by omega, by omega⟩ (fun x6 ex6 ax6 bx6 => ?_)
    refine z_iload (M := M_X11_ask) 37 dX11_ask_37 rfl ?_
    refine z_iconst (M := M_X11_ask) 39 dX11_ask_39 ?_
    refine z_iremN (M := M_X11_ask) 40 dX11_ask_40 (by omega) (by omega) ?_
    refine z_topBI (lo := 0) (hi := 3) ⟨by omega, by omega⟩ (fun x7 ex7 ax7 bx7 => ?_)
    refine z_vI (M := M_X11_ask) 41 dX11_ask_41 t_X11_manyWholes l_X11_319 (m_rr_of rfl) (rest := []) (c_X11_manyWholes3 h x6 x7 G ⟨by omega, by omega⟩ ⟨by omega, by omega⟩ R_ N_ T_ g_) o_0 rfl rfl rfl (Nat.le_of_ble_eq_true rfl) ⟨rfl, rfl⟩ (fun x8 h1 qx8 => ?_)
    obtain ⟨G1, S1, ax8, bx8, e_, m_⟩ := qx8
    rw [r_] at m_
    have v_ : akV (h0 110) l4 x8 := by unfold akV; rw [ex6, ex7]; exact m_
    have R1 := R.call S1 (by decide +kernel)
    refine z_istore (M := M_X11_ask) 44 dX11_ask_44 (ls' := [some (mR 0), some (mI a1), some (mI l2), some (mI l3), some (mI l4), some (mI x8)]) (by decide) rfl ?_
    refine z_iload (M := M_X11_ask) 46 dX11_ask_46 rfl ?_
    refine z_iload_n (M := M_X11_ask) 48 dX11_ask_48 rfl ?_
    refine z_icmp_le (M := M_X11_ask) 49 dX11_ask_49 58 rfl (fun c9 => ?_) (fun c9 => ?_)
    · refine z_iincN (M := M_X11_ask) 58 dX11_ask_58 (ls' := [some (mR 0), some (mI a1), some (mI l2), some (mI l3), some (mI (l4 + 1)), some (mI x8)]) (by decide) rfl (by (unfold m_32; decide)) (by omega) (by omega) rfl ?_
      refine z_goto (M := M_X11_ask) 61 dX11_ask_61 25 rfl ?_
      exact z_mask [true, true, true, true, true, false] rfl (ih l2 l3 (l4 + 1) h1 G1 R1 (by omega) (by omega) (by omega) (by omega) (by omega) (by omega) (by omega) (by omega) ⟨i1.1.step e_, i1.2.1, akB_n E_ (by omega) i1.2.2 v_ (by omega)⟩ (by omega))
    · refine z_iload (M := M_X11_ask) 52 dX11_ask_52 rfl ?_
      refine z_istore_n (M := M_X11_ask) 54 dX11_ask_54 (ls' := [some (mR 0), some (mI a1), some (mI x8), some (mI l3), some (mI l4), some (mI x8)]) (by decide) rfl ?_
      refine z_iload (M := M_X11_ask) 55 dX11_ask_55 rfl ?_
      refine z_istore_n (M := M_X11_ask) 57 dX11_ask_57 (ls' := [some (mR 0), some (mI a1), some (mI x8), some (mI l4), some (mI l4), some (mI x8)]) (by decide) rfl ?_
      refine z_iincN (M := M_X11_ask) 58 dX11_ask_58 (ls' := [some (mR 0), some (mI a1), some (mI x8), some (mI l4), some (mI (l4 + 1)), some (mI x8)]) (by decide) rfl (by (unfold m_32; decide)) (by omega) (by omega) rfl ?_
      refine z_goto (M := M_X11_ask) 61 dX11_ask_61 25 rfl ?_
      exact z_mask [true, true, true, true, true, false] rfl (ih x8 l4 (l4 + 1) h1 G1 R1 (by omega) (by omega) (by omega) (by omega) (by omega) (by omega) (by omega) (by omega) ⟨i1.1.step e_, i1.2.1, akB_y E_ (by omega) i1.2.2 v_ (by omega)⟩ (by omega))
theorem a_X11_ask3 (h0 : m_H) (a1 : Int) (G0 : GI h0) (hR : LR 1 h0 (h0 110)) (hN : NP h0) : ∀ n, q_X11_ask3 h0 a1 n := by
  intro n
  induction n with
  | zero => unfold q_X11_ask3; intros; omega
  | succ n ih => exact s_X11_ask3_25 h0 a1 G0 hR hN n ih
set_option maxHeartbeats 4000000 in
set_option maxRecDepth 100000 in
theorem c_X11_ask3 (h0 : m_H) (a1 : Int) (G0 : GI h0) (hR : LR 1 h0 (h0 110)) (hN : NP h0) : m_CI M_X11_ask [mR 0, mI a1] h0 (P_X11_ask3 h0 a1) := by
  refine m_CI_of ⟨by decide, rfl, by simp [m_arg, m_isL, M_X11_ask], ⟨rfl, rfl⟩, rfl, rfl⟩ (ls := [some (mR 0), some (mI a1), none, none, none, none]) rfl ?_
  have ih := a_X11_ask3 h0 a1 G0 hR hN 104
  refine z_ok (fun _ _ ok => ?_)
  have oa1 : m_32 a1 := ok 1 _ rfl
  unfold m_32 at oa1
  refine z_iload_n (M := M_X11_ask) 0 dX11_ask_0 rfl ?_
  refine z_iconst (M := M_X11_ask) 1 dX11_ask_1 ?_
  refine z_iconst (M := M_X11_ask) 2 dX11_ask_2 ?_
  refine z_sI (M := M_X11_ask) 3 dX11_ask_3 t_X11_within l_X11_112 (m_rr_of rfl) (rest := []) (c_X11_within h0 a1 0 2 G0) rfl rfl (Nat.le_of_ble_eq_true rfl) ⟨rfl, rfl⟩ (fun x1 h1 qx1 => ?_)
  obtain ⟨rfl, ⟨rfl, cx1⟩ | ⟨rfl, cx1⟩⟩ := qx1
  · refine z_if_eq_F (M := M_X11_ask) 6 dX11_ask_6 16 rfl (by omega) ?_
    refine z_aload_n (M := M_X11_ask) 9 dX11_ask_9 rfl ?_
    refine z_vI (M := M_X11_ask) 10 dX11_ask_10 t_X11_canBe l_X11_208 (m_rr_of rfl) (rest := []) (c_X11_canBe2 h0 G0 hR hN) o_0 rfl rfl rfl (Nat.le_of_ble_eq_true rfl) ⟨rfl, rfl⟩ (fun x2 h2 qx2 => ?_)
    obtain ⟨G2, S2, ax2, bx2, fx2⟩ := qx2
    have R2 := (FR.rf (cs := (csB ++ [39, 40, 41])) (ss := []) (h := h0)).call S2 (by decide +kernel)
    refine z_if_ne (M := M_X11_ask) 13 dX11_ask_13 18 rfl (fun c3 => ?_) (fun c3 => ?_)
    · refine z_iconst (M := M_X11_ask) 18 dX11_ask_18 ?_
      refine z_istore_n (M := M_X11_ask) 19 dX11_ask_19 (ls' := [some (mR 0), some (mI a1), some (mI (-1)), none, none, none]) (by decide) rfl ?_
      refine z_iconst (M := M_X11_ask) 20 dX11_ask_20 ?_
      refine z_istore_n (M := M_X11_ask) 21 dX11_ask_21 (ls' := [some (mR 0), some (mI a1), some (mI (-1)), some (mI 0), none, none]) (by decide) rfl ?_
      refine z_iconst (M := M_X11_ask) 22 dX11_ask_22 ?_
      refine z_istore (M := M_X11_ask) 23 dX11_ask_23 (ls' := [some (mR 0), some (mI a1), some (mI (-1)), some (mI 0), some (mI 0), none]) (by decide) rfl ?_
      exact z_mask [true, true, true, true, true, false] rfl (ih (-1) 0 0 h2 G2 R2 (by omega) (by omega) (by omega) (by omega) (by omega) (by omega) (by omega) (by omega) ⟨⟨h2, _, fx2.2 (by omega), fun _ _ _ => rfl⟩, fx2.1.mp (by omega), Or.inl ⟨rfl, rfl⟩⟩ (by omega))
    · refine z_iconst (M := M_X11_ask) 16 dX11_ask_16 ?_
      exact z_retI (M := M_X11_ask) 17 dX11_ask_17 rfl ⟨G2, R2, by omega, by omega, Or.inl ⟨fun z => absurd (fx2.1.mpr z.2) (by omega), rfl⟩⟩
  · refine z_if_eq_T (M := M_X11_ask) 6 dX11_ask_6 16 rfl (by omega) ?_
    refine z_iconst (M := M_X11_ask) 16 dX11_ask_16 ?_
    exact z_retI (M := M_X11_ask) 17 dX11_ask_17 rfl ⟨G0, (FR.rf (cs := (csB ++ [39, 40, 41])) (ss := []) (h := h0)), by omega, by omega, Or.inl ⟨fun z => cx1 z.1, rfl⟩⟩
abbrev P_X12_ask3 (h0 : m_H) (a1 : Int) : Int → m_H → Prop := fun x h' => GI h' ∧ FR [115, 116, 117, 118, 119, 120, 121, 122, 123, 124, 125, 126, 127, 128, 129, 130, 131, 132, 133, 134, 135, 136, 138] [(108, 0), (108, 21), (108, 44), (108, 45), (108, 46), (108, 47)] h0 h' ∧ aqQ (h0 110) a1 x
def q_X12_ask3 (h0 : m_H) (a1 : Int) (n : Nat) : Prop := (∀ (l2 l3 l4 : Int) (h : m_H), GI h → FR [115, 116, 117, 118, 119, 120, 121, 122, 123, 124, 125, 126, 127, 128, 129, 130, 131, 132, 133, 134, 135, 136, 138] [(108, 0), (108, 21), (108, 44), (108, 45), (108, 46), (108, 47)] h0 h → (-1) ≤ l2 → l2 ≤ 47 → (-1) ≤ l3 → l3 ≤ 2147483647 → 0 ≤ l4 → l4 ≤ 12 → 0 ≤ a1 → a1 ≤ 2 → (gG (bR (h0 110))) → (akB (h0 110) (4 * l4) l2 l3) → 13 * (12 - l4) + (12) ≤ (n : Int) → m_Z oF M_X12_ask 33 [some (mR 108), some (mI a1), some (mI l2), some (mI l3), some (mI l4), none, none] [] h (m_QI (P_X12_ask3 h0 a1))) ∧ (∀ (l2 l3 l4 l5 : Int) (h : m_H), GI h → FR [115, 116, 117, 118, 119, 120, 121, 122, 123, 124, 125, 126, 127, 128, 129, 130, 131, 132, 133, 134, 135, 136, 138] [(108, 0), (108, 21), (108, 44), (108, 45), (108, 46), (108, 47)] h0 h → (-1) ≤ l2 → l2 ≤ 47 → (-1) ≤ l3 → l3 ≤ 2147483647 → 0 ≤ l4 → l4 ≤ 11 → 0 ≤ l5 → l5 ≤ 4 → 0 ≤ a1 → a1 ≤ 2 → (gG (bR (h0 110))) → (akB (h0 110) (4 * l4 + l5) l2 l3) → 13 * (12 - l4) + 2 * (4 - l5) + (1) ≤ (n : Int) → m_Z oF M_X12_ask 43 [some (mR 108), some (mI a1), some (mI l2), some (mI l3), some (mI l4), some (mI l5), none] [] h (m_QI (P_X12_ask3 h0 a1)))
set_option maxHeartbeats 4000000 in
set_option maxRecDepth 100000 in
theorem s_X12_ask3_33 (h0 : m_H) (a1 : Int) (G0 : GI h0) (hN : NP h0) (n : Nat) (ih : q_X12_ask3 h0 a1 n) : ∀ (l2 l3 l4 : Int) (h : m_H), GI h → FR [115, 116, 117, 118, 119, 120, 121, 122, 123, 124, 125, 126, 127, 128, 129, 130, 131, 132, 133, 134, 135, 136, 138] [(108, 0), (108, 21), (108, 44), (108, 45), (108, 46), (108, 47)] h0 h → (-1) ≤ l2 → l2 ≤ 47 → (-1) ≤ l3 → l3 ≤ 2147483647 → 0 ≤ l4 → l4 ≤ 12 → 0 ≤ a1 → a1 ≤ 2 → (gG (bR (h0 110))) → (akB (h0 110) (4 * l4) l2 l3) → 13 * (12 - l4) + (12) ≤ ((n + 1 : Nat) : Int) → m_Z oF M_X12_ask 33 [some (mR 108), some (mI a1), some (mI l2), some (mI l3), some (mI l4), none, none] [] h (m_QI (P_X12_ask3 h0 a1)) := by
  intro l2 l3 l4 h G R v0 v1 v2 v3 v4 v5 v6 v7 i0 i1 hr
  have ng_ := gG_no (bR_ok G0 hN) i0
  refine z_iload (M := M_X12_ask) 33 dX12_ask_33 rfl ?_
  refine z_bipush (M := M_X12_ask) 35 dX12_ask_35 ?_
  refine z_icmp_ge (M := M_X12_ask) 37 dX12_ask_37 116 rfl (fun c1 => ?_) (fun c1 => ?_)
  · have p_ := akB_p i1 (by omega)
    refine z_iload_n (M := M_X12_ask) 116 dX12_ask_116 rfl ?_
    refine z_if_ne (M := M_X12_ask) 117 dX12_ask_117 126 rfl (fun c2 => ?_) (fun c2 => ?_)
    · refine z_iload_n (M := M_X12_ask) 126 dX12_ask_126 rfl ?_
      refine z_iconst (M := M_X12_ask) 127 dX12_ask_127 ?_
      refine z_icmp_ne (M := M_X12_ask) 128 dX12_ask_128 137 rfl (fun c3 => ?_) (fun c3 => ?_)
      · refine z_iload_n (M := M_X12_ask) 137 dX12_ask_137 rfl ?_
        exact z_retI (M := M_X12_ask) 138 dX12_ask_138 rfl ⟨G, R, Or.inr ⟨⟨⟨by omega, by omega⟩, ng_⟩, l2, l3, by have z := i1; rw [show 4 * l4 = 48 by omega] at z; exact z, Or.inr (Or.inr ⟨by omega, rfl⟩)⟩⟩
      · refine z_iload_n (M := M_X12_ask) 131 dX12_ask_131 rfl ?_
        refine z_iconst (M := M_X12_ask) 132 dX12_ask_132 ?_
        refine z_iremN (M := M_X12_ask) 133 dX12_ask_133 (by omega) (by omega) ?_
        refine z_goto (M := M_X12_ask) 134 dX12_ask_134 138 rfl ?_
        exact z_retI (M := M_X12_ask) 138 dX12_ask_138 rfl ⟨G, R, Or.inr ⟨⟨⟨by omega, by omega⟩, ng_⟩, l2, l3, by have z := i1; rw [show 4 * l4 = 48 by omega] at z; exact z, Or.inr (Or.inl ⟨by omega, rfl⟩)⟩⟩
    · refine z_iload_n (M := M_X12_ask) 120 dX12_ask_120 rfl ?_
      refine z_iconst (M := M_X12_ask) 121 dX12_ask_121 ?_
      refine z_idivN (M := M_X12_ask) 122 dX12_ask_122 (by omega) (by omega) ?_
      refine z_goto (M := M_X12_ask) 123 dX12_ask_123 138 rfl ?_
      exact z_retI (M := M_X12_ask) 138 dX12_ask_138 rfl ⟨G, R, Or.inr ⟨⟨⟨by omega, by omega⟩, ng_⟩, l2, l3, by have z := i1; rw [show 4 * l4 = 48 by omega] at z; exact z, Or.inl ⟨by omega, rfl⟩⟩⟩
  · refine z_iconst (M := M_X12_ask) 40 dX12_ask_40 ?_
    refine z_istore (M := M_X12_ask) 41 dX12_ask_41 (ls' := [some (mR 108), some (mI a1), some (mI l2), some (mI l3), some (mI l4), some (mI 0), none]) (by decide) rfl ?_
    exact z_mask [true, true, true, true, true, true, false] rfl (ih.2 l2 l3 l4 0 h G R (by omega) (by omega) (by omega) (by omega) (by omega) (by omega) (by omega) (by omega) (by omega) (by omega) i0 (by rw [show 4 * l4 + 0 = 4 * l4 by omega]; exact i1) (by omega))
set_option maxHeartbeats 4000000 in
set_option maxRecDepth 100000 in
theorem s_X12_ask3_43 (h0 : m_H) (a1 : Int) (G0 : GI h0) (hN : NP h0) (n : Nat) (ih : q_X12_ask3 h0 a1 n) : ∀ (l2 l3 l4 l5 : Int) (h : m_H), GI h → FR [115, 116, 117, 118, 119, 120, 121, 122, 123, 124, 125, 126, 127, 128, 129, 130, 131, 132, 133, 134, 135, 136, 138] [(108, 0), (108, 21), (108, 44), (108, 45), (108, 46), (108, 47)] h0 h → (-1) ≤ l2 → l2 ≤ 47 → (-1) ≤ l3 → l3 ≤ 2147483647 → 0 ≤ l4 → l4 ≤ 11 → 0 ≤ l5 → l5 ≤ 4 → 0 ≤ a1 → a1 ≤ 2 → (gG (bR (h0 110))) → (akB (h0 110) (4 * l4 + l5) l2 l3) → 13 * (12 - l4) + 2 * (4 - l5) + (1) ≤ ((n + 1 : Nat) : Int) → m_Z oF M_X12_ask 43 [some (mR 108), some (mI a1), some (mI l2), some (mI l3), some (mI l4), some (mI l5), none] [] h (m_QI (P_X12_ask3 h0 a1)) := by
  intro l2 l3 l4 l5 h G R v0 v1 v2 v3 v4 v5 v6 v7 v8 v9 i0 i1 hr
  have r_ : h 110 = h0 110 := FR.row R (fun _ => rfl)
  have E_ := bR_ok G0 hN
  refine z_iload (M := M_X12_ask) 43 dX12_ask_43 rfl ?_
  refine z_iconst (M := M_X12_ask) 45 dX12_ask_45 ?_
  refine z_icmp_ge (M := M_X12_ask) 46 dX12_ask_46 110 rfl (fun c1 => ?_) (fun c1 => ?_)
  · refine z_iincN (M := M_X12_ask) 110 dX12_ask_110 (ls' := [some (mR 108), some (mI a1), some (mI l2), some (mI l3), some (mI (l4 + 1)), some (mI l5), none]) (by decide) rfl (by (unfold m_32; decide)) (by omega) (by omega) rfl ?_
    refine z_goto (M := M_X12_ask) 113 dX12_ask_113 33 rfl ?_
    exact z_mask [true, true, true, true, true, false, false] rfl (ih.1 l2 l3 (l4 + 1) h G R (by omega) (by omega) (by omega) (by omega) (by omega) (by omega) (by omega) (by omega) i0 (by rw [show 4 * (l4 + 1) = 4 * l4 + l5 by omega]; exact i1) (by omega))
  · refine z_aload_n (M := M_X12_ask) 49 dX12_ask_49 rfl ?_
    refine z_iload (M := M_X12_ask) 50 dX12_ask_50 rfl ?_
    refine z_vI (M := M_X12_ask) 52 dX12_ask_52 t_X12_isLength l_X12_391 (m_rr_of rfl) (rest := []) (c_X12_isLength2 h l4 G) o_108 rfl rfl rfl (Nat.le_of_ble_eq_true rfl) ⟨rfl, rfl⟩ (fun x2 h1 qx2 => ?_)
    obtain ⟨G1, S1, ax2, bx2, fx2_0, fx2_1⟩ := qx2
    rw [r_] at fx2_1
    have R1 := R.call S1 (by decide +kernel)
    refine z_if_eq (M := M_X12_ask) 55 dX12_ask_55 110 rfl (fun c3 => ?_) (fun c3 => ?_)
    · refine z_iincN (M := M_X12_ask) 110 dX12_ask_110 (ls' := [some (mR 108), some (mI a1), some (mI l2), some (mI l3), some (mI (l4 + 1)), some (mI l5), none]) (by decide) rfl (by (unfold m_32; decide)) (by omega) (by omega) rfl ?_
      refine z_goto (M := M_X12_ask) 113 dX12_ask_113 33 rfl ?_
      exact z_mask [true, true, true, true, true, false, false] rfl (ih.1 l2 l3 (l4 + 1) h1 G1 R1 (by omega) (by omega) (by omega) (by omega) (by omega) (by omega) (by omega) (by omega) i0 (akB_k E_ (by omega) (fun z => absurd (fx2_1.mpr z) (by omega)) (by omega) (by omega) (by omega) i1) (by omega))
    · refine z_aload_n (M := M_X12_ask) 58 dX12_ask_58 rfl ?_
      refine z_iload (M := M_X12_ask) 59 dX12_ask_59 rfl ?_
      refine z_iload (M := M_X12_ask) 61 dX12_ask_61 rfl ?_
      refine z_vV (M := M_X12_ask) 63 dX12_ask_63 t_X12_findEnds l_X12_428 (m_rr_of rfl) (rest := []) (c_X12_findEnds4 h1 l4 l5 G1 ⟨by omega, by omega⟩ ⟨by omega, by omega⟩ (NP.call hN R1 (fun _ => rfl) (fun _ => rfl) (fun _ => rfl)) (gG_f i0 R1 (fun _ => rfl))) o_108 rfl rfl rfl (Nat.le_of_ble_eq_true rfl) ⟨rfl, rfl⟩ (fun h2 qx4 => ?_)
      obtain ⟨G2, S2, fx4_0, fx4_1, fx4_2⟩ := qx4
      unfold lP at fx4_1
      unfold hP at fx4_2
      rw [(FR.row R1 (fun _ => rfl) : h1 110 = h0 110)] at fx4_1 fx4_2
      obtain ⟨fo, la, nm_⟩ := nmI_ex (k := 1) fx4_1.1.1.1.1 fx4_2.1.1.1.1 fx4_2.1.1.1.2 ⟨by omega, by omega⟩
      have R2 := R1.call S2 (by decide +kernel)
      refine z_aload_n (M := M_X12_ask) 66 dX12_ask_66 rfl ?_
      refine z_iconst (M := M_X12_ask) 67 dX12_ask_67 ?_
      refine z_vI (M := M_X12_ask) 68 dX12_ask_68 t_X12_numbersOf l_X12_434 (m_rr_of rfl) (rest := []) (c_X12_numbersOf4 h2 1 fo la G2 ⟨by omega, by omega⟩ ⟨fx4_1.2, fx4_2.2⟩ nm_) o_108 rfl rfl rfl (Nat.le_of_ble_eq_true rfl) ⟨rfl, rfl⟩ (fun x5 h3 qx5 => ?_)
      obtain ⟨G3, S3, bx5, fx5⟩ := qx5
      have v_ : akV (h0 110) (4 * l4 + l5) x5 := by
        unfold akV
        rw [show (4 * l4 + l5) / 4 = l4 by omega, show (4 * l4 + l5) % 4 = l5 by omega]
        exact Or.inr ⟨fx2_1.mp (by omega), _, _, fo, la, ⟨fx4_1.1, fx4_2.1, nm_⟩, fx5⟩
      have R3 := R2.call S3 (by decide +kernel)
      refine z_ok (fun ox5 _ _ => ?_)
      have ox5 := ox5.1; unfold m_ok m_32 at ox5
      refine z_istore (M := M_X12_ask) 71 dX12_ask_71 (ls' := [some (mR 108), some (mI a1), some (mI l2), some (mI l3), some (mI l4), some (mI l5), some (mI x5)]) (by decide) rfl ?_
      refine z_iload (M := M_X12_ask) 73 dX12_ask_73 rfl ?_
      refine z_iload_n (M := M_X12_ask) 75 dX12_ask_75 rfl ?_
      refine z_icmp_le (M := M_X12_ask) 76 dX12_ask_76 89 rfl (fun c6 => ?_) (fun c6 => ?_)
      · refine z_iload_n (M := M_X12_ask) 89 dX12_ask_89 rfl ?_
        refine z_istore_n (M := M_X12_ask) 90 dX12_ask_90 (ls' := [some (mR 108), some (mI a1), some (mI l2), some (mI l3), some (mI l4), some (mI l5), some (mI x5)]) (by decide) rfl ?_
        refine z_iload (M := M_X12_ask) 91 dX12_ask_91 rfl ?_
        refine z_iload_n (M := M_X12_ask) 93 dX12_ask_93 rfl ?_
        refine z_icmp_le (M := M_X12_ask) 94 dX12_ask_94 102 rfl (fun c7 => ?_) (fun c7 => ?_)
        · refine z_iload_n (M := M_X12_ask) 102 dX12_ask_102 rfl ?_
          refine z_istore_n (M := M_X12_ask) 103 dX12_ask_103 (ls' := [some (mR 108), some (mI a1), some (mI l2), some (mI l3), some (mI l4), some (mI l5), some (mI x5)]) (by decide) rfl ?_
          refine z_iincN (M := M_X12_ask) 104 dX12_ask_104 (ls' := [some (mR 108), some (mI a1), some (mI l2), some (mI l3), some (mI l4), some (mI (l5 + 1)), some (mI x5)]) (by decide) rfl (by (unfold m_32; decide)) (by omega) (by omega) rfl ?_
          refine z_goto (M := M_X12_ask) 107 dX12_ask_107 43 rfl ?_
          exact z_mask [true, true, true, true, true, true, false] rfl (ih.2 l2 l3 l4 (l5 + 1) h3 G3 R3 (by omega) (by omega) (by omega) (by omega) (by omega) (by omega) (by omega) (by omega) (by omega) (by omega) i0 (by rw [show 4 * l4 + (l5 + 1) = 4 * l4 + l5 + 1 by omega]; exact akB_n E_ (by omega) i1 v_ (by omega)) (by omega))
        · refine z_iload (M := M_X12_ask) 97 dX12_ask_97 rfl ?_
          refine z_goto (M := M_X12_ask) 99 dX12_ask_99 103 rfl ?_
          refine z_istore_n (M := M_X12_ask) 103 dX12_ask_103 (ls' := [some (mR 108), some (mI a1), some (mI l2), some (mI x5), some (mI l4), some (mI l5), some (mI x5)]) (by decide) rfl ?_
          refine z_iincN (M := M_X12_ask) 104 dX12_ask_104 (ls' := [some (mR 108), some (mI a1), some (mI l2), some (mI x5), some (mI l4), some (mI (l5 + 1)), some (mI x5)]) (by decide) rfl (by (unfold m_32; decide)) (by omega) (by omega) rfl ?_
          refine z_goto (M := M_X12_ask) 107 dX12_ask_107 43 rfl ?_
          exact z_mask [true, true, true, true, true, true, false] rfl (ih.2 l2 x5 l4 (l5 + 1) h3 G3 R3 (by omega) (by omega) (by omega) (by omega) (by omega) (by omega) (by omega) (by omega) (by omega) (by omega) i0 (False.elim (by omega)) (by omega))
      · refine z_iconst (M := M_X12_ask) 79 dX12_ask_79 ?_
        refine z_iload (M := M_X12_ask) 80 dX12_ask_80 rfl ?_
        refine z_imulN (M := M_X12_ask) 82 dX12_ask_82 (by omega) (by omega) ?_
        refine z_iload (M := M_X12_ask) 83 dX12_ask_83 rfl ?_
        refine z_iaddN (M := M_X12_ask) 85 dX12_ask_85 (by omega) (by omega) ?_
        refine z_goto (M := M_X12_ask) 86 dX12_ask_86 90 rfl ?_
        refine z_istore_n (M := M_X12_ask) 90 dX12_ask_90 (ls' := [some (mR 108), some (mI a1), some (mI ((4 * l4) + l5)), some (mI l3), some (mI l4), some (mI l5), some (mI x5)]) (by decide) rfl ?_
        refine z_iload (M := M_X12_ask) 91 dX12_ask_91 rfl ?_
        refine z_iload_n (M := M_X12_ask) 93 dX12_ask_93 rfl ?_
        refine z_icmp_le (M := M_X12_ask) 94 dX12_ask_94 102 rfl (fun c8 => ?_) (fun c8 => ?_)
        · refine z_iload_n (M := M_X12_ask) 102 dX12_ask_102 rfl ?_
          refine z_istore_n (M := M_X12_ask) 103 dX12_ask_103 (ls' := [some (mR 108), some (mI a1), some (mI ((4 * l4) + l5)), some (mI l3), some (mI l4), some (mI l5), some (mI x5)]) (by decide) rfl ?_
          refine z_iincN (M := M_X12_ask) 104 dX12_ask_104 (ls' := [some (mR 108), some (mI a1), some (mI ((4 * l4) + l5)), some (mI l3), some (mI l4), some (mI (l5 + 1)), some (mI x5)]) (by decide) rfl (by (unfold m_32; decide)) (by omega) (by omega) rfl ?_
          refine z_goto (M := M_X12_ask) 107 dX12_ask_107 43 rfl ?_
          exact z_mask [true, true, true, true, true, true, false] rfl (ih.2 ((4 * l4) + l5) l3 l4 (l5 + 1) h3 G3 R3 (by omega) (by omega) (by omega) (by omega) (by omega) (by omega) (by omega) (by omega) (by omega) (by omega) i0 (False.elim (by omega)) (by omega))
        · refine z_iload (M := M_X12_ask) 97 dX12_ask_97 rfl ?_
          refine z_goto (M := M_X12_ask) 99 dX12_ask_99 103 rfl ?_
          refine z_istore_n (M := M_X12_ask) 103 dX12_ask_103 (ls' := [some (mR 108), some (mI a1), some (mI ((4 * l4) + l5)), some (mI x5), some (mI l4), some (mI l5), some (mI x5)]) (by decide) rfl ?_
          refine z_iincN (M := M_X12_ask) 104 dX12_ask_104 (ls' := [some (mR 108), some (mI a1), some (mI ((4 * l4) + l5)), some (mI x5), some (mI l4), some (mI (l5 + 1)), some (mI x5)]) (by decide) rfl (by (unfold m_32; decide)) (by omega) (by omega) rfl ?_
          refine z_goto (M := M_X12_ask) 107 dX12_ask_107 43 rfl ?_
          exact z_mask [true, true, true, true, true, true, false] rfl (ih.2 ((4 * l4) + l5) x5 l4 (l5 + 1) h3 G3 R3 (by omega) (by omega) (by omega) (by omega) (by omega) (by omega) (by omega) (by omega) (by omega) (by omega) i0 (by rw [show 4 * l4 + (l5 + 1) = 4 * l4 + l5 + 1 by omega]; exact akB_y E_ (by omega) i1 v_ (by omega)) (by omega))
theorem a_X12_ask3 (h0 : m_H) (a1 : Int) (G0 : GI h0) (hN : NP h0) : ∀ n, q_X12_ask3 h0 a1 n := by
  intro n
  induction n with
  | zero => unfold q_X12_ask3; refine ⟨?_, ?_⟩ <;> (intros; omega)
  | succ n ih => exact ⟨s_X12_ask3_33 h0 a1 G0 hN n ih, s_X12_ask3_43 h0 a1 G0 hN n ih⟩
set_option maxHeartbeats 4000000 in
set_option maxRecDepth 100000 in
theorem c_X12_ask3 (h0 : m_H) (a1 : Int) (G0 : GI h0) (hN : NP h0) : m_CI M_X12_ask [mR 108, mI a1] h0 (P_X12_ask3 h0 a1) := by
  refine m_CI_of ⟨by decide, rfl, by simp [m_arg, m_isL, M_X12_ask], ⟨rfl, rfl⟩, rfl, rfl⟩ (ls := [some (mR 108), some (mI a1), none, none, none, none, none]) rfl ?_
  have ih := a_X12_ask3 h0 a1 G0 hN 175
  refine z_ok (fun _ _ ok => ?_)
  have oa1 : m_32 a1 := ok 1 _ rfl
  unfold m_32 at oa1
  refine z_aload_n (M := M_X12_ask) 0 dX12_ask_0 rfl ?_
  refine z_iconst (M := M_X12_ask) 1 dX12_ask_1 ?_
  refine z_putIH (M := M_X12_ask) 2 dX12_ask_2 p_X12_133 o_108 rfl (u_108_0 G0) ((FR.rf (cs := [115, 116, 117, 118, 119, 120, 121, 122, 123, 124, 125, 126, 127, 128, 129, 130, 131, 132, 133, 134, 135, 136, 138]) (ss := [(108, 0), (108, 21), (108, 44), (108, 45), (108, 46), (108, 47)]) (h := h0)).up rfl) (fun h1 E1 G1 R1 => ?_)
  refine z_iload_n (M := M_X12_ask) 5 dX12_ask_5 rfl ?_
  refine z_i2l (M := M_X12_ask) 6 dX12_ask_6 ?_
  refine z_lconst (M := M_X12_ask) 7 dX12_ask_7 (v := 0) ?_
  refine z_ldc2 (M := M_X12_ask) 8 dX12_ask_8 k_X12_182 ?_
  refine z_sI (M := M_X12_ask) 11 dX12_ask_11 t_X12_in l_X12_143 (m_rr_of rfl) (rest := []) (c_X12_in h1 a1 0 2 G1) rfl rfl (Nat.le_of_ble_eq_true rfl) ⟨rfl, rfl⟩ (fun x1 h2 qx1 => ?_)
  obtain ⟨rfl, ⟨rfl, cx1⟩ | ⟨rfl, cx1⟩⟩ := qx1
  · refine z_if_eq_F (M := M_X12_ask) 14 dX12_ask_14 24 rfl (by omega) ?_
    refine z_aload_n (M := M_X12_ask) 17 dX12_ask_17 rfl ?_
    refine z_vI (M := M_X12_ask) 18 dX12_ask_18 t_X12_canBeNow l_X12_377 (m_rr_of rfl) (rest := []) (c_X12_canBeNow2 h1 G1 (NP.call hN R1 (fun _ => rfl) (fun _ => rfl) (fun _ => rfl))) o_108 rfl rfl rfl (Nat.le_of_ble_eq_true rfl) ⟨rfl, rfl⟩ (fun x2 h3 qx2 => ?_)
    obtain ⟨G3, S3, ax2, bx2, fx2_0, fx2_1⟩ := qx2
    rw [(FR.row R1 (fun _ => rfl) : h1 110 = h0 110)] at fx2_1
    have R3 := R1.call S3 (by decide +kernel)
    refine z_if_ne (M := M_X12_ask) 21 dX12_ask_21 26 rfl (fun c3 => ?_) (fun c3 => ?_)
    · have an := fx2_0 (by omega)
      refine z_iconst (M := M_X12_ask) 26 dX12_ask_26 ?_
      refine z_istore_n (M := M_X12_ask) 27 dX12_ask_27 (ls' := [some (mR 108), some (mI a1), some (mI (-1)), none, none, none, none]) (by decide) rfl ?_
      refine z_iconst (M := M_X12_ask) 28 dX12_ask_28 ?_
      refine z_istore_n (M := M_X12_ask) 29 dX12_ask_29 (ls' := [some (mR 108), some (mI a1), some (mI (-1)), some (mI (-1)), none, none, none]) (by decide) rfl ?_
      refine z_iconst (M := M_X12_ask) 30 dX12_ask_30 ?_
      refine z_istore (M := M_X12_ask) 31 dX12_ask_31 (ls' := [some (mR 108), some (mI a1), some (mI (-1)), some (mI (-1)), some (mI 0), none, none]) (by decide) rfl ?_
      exact z_mask [true, true, true, true, true, false, false] rfl (ih.1 (-1) (-1) 0 h3 G3 R3 (by omega) (by omega) (by omega) (by omega) (by omega) (by omega) (by omega) (by omega) (gG_b an R1 (fun _ => rfl)) (Or.inl ⟨rfl, rfl⟩) (by omega))
    · refine z_iconst (M := M_X12_ask) 24 dX12_ask_24 ?_
      exact z_retI (M := M_X12_ask) 25 dX12_ask_25 rfl ⟨G3, R3, Or.inl ⟨fun z => absurd (fx2_1 (by omega)) z.2, rfl⟩⟩
  · refine z_if_eq_T (M := M_X12_ask) 14 dX12_ask_14 24 rfl (by omega) ?_
    refine z_iconst (M := M_X12_ask) 24 dX12_ask_24 ?_
    exact z_retI (M := M_X12_ask) 25 dX12_ask_25 rfl ⟨G1, R1, Or.inl ⟨fun z => cx1 z.1, rfl⟩⟩
/-! part: reduced ratios -/
def gd (a b : Int) : Int := ((Nat.gcd a.toNat b.toNat : Nat) : Int)
theorem gd_0 {x : Int} (h : 0 ≤ x) : gd x 0 = x := by
  unfold gd
  rw [show (0 : Int).toNat = 0 from rfl, Nat.gcd_zero_right]; omega
theorem gd_c (a b : Int) : gd a b = gd b a := by unfold gd; rw [Nat.gcd_comm]
theorem gd_s {x y : Int} (hx : 0 ≤ x) (hy : 0 ≤ y) : gd y (x % y) = gd x y := by
  unfold gd
  rw [Int.toNat_emod hx hy, Nat.gcd_comm x.toNat, Nat.gcd_rec y.toNat x.toNat, Nat.gcd_comm]
theorem gd_p {a b : Int} (ha : 0 < a) : 0 < gd a b := by
  unfold gd
  have := Nat.gcd_pos_of_pos_left b.toNat (show 0 < a.toNat by omega)
  omega
theorem gd_m {m a b : Int} (hm : 0 ≤ m) (ha : 0 ≤ a) (hb : 0 ≤ b) : gd (m * a) (m * b) = m * gd a b := by
  unfold gd
  rw [Int.toNat_mul hm ha, Int.toNat_mul hm hb, Nat.gcd_mul_left, Int.natCast_mul, Int.toNat_of_nonneg hm]
theorem gd_dv {a : Int} (b : Int) (ha : 0 ≤ a) : ∃ k, a = gd a b * k := by
  obtain ⟨k, hk⟩ := Nat.gcd_dvd_left a.toNat b.toNat
  refine ⟨(k : Int), ?_⟩
  have e : ((a.toNat : Nat) : Int) = ((Nat.gcd a.toNat b.toNat * k : Nat) : Int) := congrArg _ hk
  rw [Int.natCast_mul, Int.toNat_of_nonneg ha] at e
  exact e
theorem gd_x {a : Int} (b : Int) (ha : 0 < a) : gd a b * (a / gd a b) = a := by
  obtain ⟨k, hk⟩ := gd_dv b (Int.le_of_lt ha)
  have g := gd_p (b := b) ha
  have q : a / gd a b = k := by
    have z := Int.mul_ediv_cancel_left k (Int.ne_of_gt g)
    rw [← hk] at z; exact z
  rw [q]; exact hk.symm
theorem rd_eq {t l t' l' : Int} (ht : 0 < t) (ht' : 0 < t') (hl : 0 ≤ l) (hl' : 0 ≤ l') (e : t * l' = t' * l) : t / gd t l = t' / gd t' l' ∧ l / gd t l = l' / gd t' l' := by
  have g := gd_p (b := l) ht
  have g' := gd_p (b := l') ht'
  have k : t * gd t' l' = t' * gd t l := by
    rw [← gd_m (Int.le_of_lt ht) (Int.le_of_lt ht') hl', ← gd_m (Int.le_of_lt ht') (Int.le_of_lt ht) hl, e, Int.mul_comm t t']
  refine ⟨sc_div g g' ?_, sc_div g g' ?_⟩
  · rw [Int.mul_comm (gd t l), Int.mul_comm (gd t' l')]; exact k.symm
  · refine Int.eq_of_mul_eq_mul_left (Int.ne_of_gt ht) ?_
    have k1 : t * (gd t l * l') = gd t l * (t * l') := by ac_rfl
    have k2 : t * (gd t' l' * l) = l * (t * gd t' l') := by ac_rfl
    rw [k1, k2, e, k]; ac_rfl
/-- Euclid's steps: few -/
def cdI (a b x y i : Int) : Prop := (0 ≤ x ∧ 0 ≤ y) ∧ gd x y = gd a b ∧ ((i = 0 ∧ x ≤ 1600000000 ∧ y ≤ 1600000000) ∨ (1 ≤ i ∧ y ≤ x ∧ x * y * (2 : Int) ^ (i - 1).toNat ≤ 4611686018427387904))
theorem cdI_s {a b x y i r : Int} (I : cdI a b x y i) (hy : y ≠ 0) (hi : 0 ≤ i) (e : x % y = r) : cdI a b y r (i + 1) := by
  obtain ⟨⟨x0, y0⟩, g, c⟩ := I
  have y1 : 0 < y := by omega
  have r0 := Int.emod_nonneg x hy
  have r1 := Int.emod_lt_of_pos x y1
  rw [e] at r0 r1
  refine ⟨⟨y0, r0⟩, by rw [← e, gd_s x0 y0]; exact g, Or.inr ⟨by omega, by omega, ?_⟩⟩
  rw [show i + 1 - 1 = i by omega]
  rcases c with ⟨i0, xw, yw⟩ | ⟨i1, yx, p⟩
  · subst i0
    have m := mul_bd y0 yw r0 (show r ≤ 1600000000 by omega)
    show y * r * (2 : Int) ^ 0 ≤ _
    rw [Int.pow_zero, Int.mul_one]
    omega
  · have hr : 2 * r ≤ x := by
      have d := Int.emod_def x y
      rw [e] at d
      have q : 1 ≤ x / y := Int.le_ediv_of_mul_le y1 (by omega)
      have m := Int.mul_le_mul_of_nonneg_left q y0
      omega
    have m := Int.mul_le_mul_of_nonneg_left hr y0
    have k : i.toNat = (i - 1).toNat + 1 := by omega
    rw [k, Int.pow_succ]
    have p2 : (0 : Int) ≤ (2 : Int) ^ (i - 1).toNat := Int.le_of_lt (Int.pow_pos (by decide))
    have m2 := Int.mul_le_mul_of_nonneg_right m p2
    have k1 : y * r * ((2 : Int) ^ (i - 1).toNat * 2) = y * (2 * r) * (2 : Int) ^ (i - 1).toNat := by ac_rfl
    rw [k1]
    rw [Int.mul_comm y x] at m2
    omega
theorem cdI_e {a b x y i : Int} (I : cdI a b x y i) (h : i = 200 ∨ y = 0) : gd a b = x := by
  obtain ⟨⟨x0, y0⟩, g, c⟩ := I
  have yz : y = 0 := by
    rcases h with z | z
    · subst z
      rcases c with ⟨z, _⟩ | ⟨_, yx, p⟩
      · omega
      · by_cases q : y = 0
        · exact q
        · exfalso
          have m := Int.mul_le_mul (show 1 ≤ x by omega) (show 1 ≤ y by omega) (by decide) x0
          have p2 : (0 : Int) ≤ (2 : Int) ^ (200 - 1 : Int).toNat := Int.le_of_lt (Int.pow_pos (by decide))
          have m2 := Int.mul_le_mul_of_nonneg_right m p2
          have k : (4611686018427387904 : Int) < (2 : Int) ^ (200 - 1 : Int).toNat := by decide
          omega
    · exact z
  rw [← g, yz, gd_0 x0]
abbrev P_X11_commonDivisor4 (h0 : m_H) (a0 a1 : Int) : Int → m_H → Prop := fun x h' => GI h' ∧ FR [] [] h0 h' ∧ gd a0 a1 = x
def q_X11_commonDivisor4 (h0 : m_H) (a0 a1 : Int) (n : Nat) : Prop := (∀ (l4 l6 l8 : Int) (h : m_H), GI h → FR [] [] h0 h → 0 ≤ l8 → l8 ≤ 200 → (cdI a0 a1 l4 l6 l8) → 2 * (200 - l8) + (1) ≤ (n : Int) → m_Z oF M_X11_commonDivisor 9 [none, none, none, none, some (mJ l4), none, some (mJ l6), none, some (mI l8), none, none] [] h (m_QJ (P_X11_commonDivisor4 h0 a0 a1)))
set_option maxHeartbeats 4000000 in
set_option maxRecDepth 100000 in
theorem s_X11_commonDivisor4_9 (h0 : m_H) (a0 a1 : Int) (G0 : GI h0) (p0 : 0 ≤ a0 ∧ a0 ≤ 1600000000) (p1 : 0 ≤ a1 ∧ a1 ≤ 1600000000) (n : Nat) (ih : q_X11_commonDivisor4 h0 a0 a1 n) : ∀ (l4 l6 l8 : Int) (h : m_H), GI h → FR [] [] h0 h → 0 ≤ l8 → l8 ≤ 200 → (cdI a0 a1 l4 l6 l8) → 2 * (200 - l8) + (1) ≤ ((n + 1 : Nat) : Int) → m_Z oF M_X11_commonDivisor 9 [none, none, none, none, some (mJ l4), none, some (mJ l6), none, some (mI l8), none, none] [] h (m_QJ (P_X11_commonDivisor4 h0 a0 a1)) := by
  intro l4 l6 l8 h G R v0 v1 i0 hr
  have i1 := i0.1
  refine z_iload (M := M_X11_commonDivisor) 9 dX11_commonDivisor_9 rfl ?_
  refine z_sipush (M := M_X11_commonDivisor) 11 dX11_commonDivisor_11 ?_
  refine z_icmp_ge (M := M_X11_commonDivisor) 14 dX11_commonDivisor_14 45 rfl (fun c1 => ?_) (fun c1 => ?_)
  · refine z_lload (M := M_X11_commonDivisor) 45 dX11_commonDivisor_45 rfl ?_
    exact z_retJ (M := M_X11_commonDivisor) 47 dX11_commonDivisor_47 rfl ⟨G, R, cdI_e i0 (Or.inl (by omega))⟩
  · refine z_lload (M := M_X11_commonDivisor) 17 dX11_commonDivisor_17 rfl ?_
    refine z_lconst (M := M_X11_commonDivisor) 19 dX11_commonDivisor_19 (v := 0) ?_
    refine z_lcmp (M := M_X11_commonDivisor) 20 dX11_commonDivisor_20 ?_
    refine z_if_eq (M := M_X11_commonDivisor) 21 dX11_commonDivisor_21 45 rfl (fun c2 => ?_) (fun c2 => ?_)
    · rw [m_cmp_eq] at c2
      refine z_lload (M := M_X11_commonDivisor) 45 dX11_commonDivisor_45 rfl ?_
      exact z_retJ (M := M_X11_commonDivisor) 47 dX11_commonDivisor_47 rfl ⟨G, R, cdI_e i0 (Or.inr (by omega))⟩
    · rw [m_cmp_eq] at c2
      refine z_lload (M := M_X11_commonDivisor) 24 dX11_commonDivisor_24 rfl ?_
      refine z_lload (M := M_X11_commonDivisor) 26 dX11_commonDivisor_26 rfl ?_
      refine z_lremN (M := M_X11_commonDivisor) 28 dX11_commonDivisor_28 (by omega) (by omega) ?_
      refine z_topJ (fun x3 ex3 => ?_)
      refine z_lstore (M := M_X11_commonDivisor) 29 dX11_commonDivisor_29 (ls' := [none, none, none, none, some (mJ l4), none, some (mJ l6), none, some (mI l8), some (mJ x3), none]) (by decide) rfl ?_
      refine z_lload (M := M_X11_commonDivisor) 31 dX11_commonDivisor_31 rfl ?_
      refine z_lstore (M := M_X11_commonDivisor) 33 dX11_commonDivisor_33 (ls' := [none, none, none, none, some (mJ l6), none, some (mJ l6), none, some (mI l8), some (mJ x3), none]) (by decide) rfl ?_
      refine z_lload (M := M_X11_commonDivisor) 35 dX11_commonDivisor_35 rfl ?_
      refine z_lstore (M := M_X11_commonDivisor) 37 dX11_commonDivisor_37 (ls' := [none, none, none, none, some (mJ l6), none, some (mJ x3), none, some (mI l8), some (mJ x3), none]) (by decide) rfl ?_
      refine z_iincN (M := M_X11_commonDivisor) 39 dX11_commonDivisor_39 (ls' := [none, none, none, none, some (mJ l6), none, some (mJ x3), none, some (mI (l8 + 1)), some (mJ x3), none]) (by decide) rfl (by (unfold m_32; decide)) (by omega) (by omega) rfl ?_
      refine z_goto (M := M_X11_commonDivisor) 42 dX11_commonDivisor_42 9 rfl ?_
      exact z_mask [false, false, false, false, true, false, true, false, true, false, false] rfl (ih l6 x3 (l8 + 1) h G R (by omega) (by omega) (cdI_s i0 (by omega) (by omega) ex3) (by omega))
theorem a_X11_commonDivisor4 (h0 : m_H) (a0 a1 : Int) (G0 : GI h0) (p0 : 0 ≤ a0 ∧ a0 ≤ 1600000000) (p1 : 0 ≤ a1 ∧ a1 ≤ 1600000000) : ∀ n, q_X11_commonDivisor4 h0 a0 a1 n := by
  intro n
  induction n with
  | zero => unfold q_X11_commonDivisor4; intros; omega
  | succ n ih => exact s_X11_commonDivisor4_9 h0 a0 a1 G0 p0 p1 n ih
set_option maxHeartbeats 4000000 in
set_option maxRecDepth 100000 in
theorem c_X11_commonDivisor4 (h0 : m_H) (a0 a1 : Int) (G0 : GI h0) (p0 : 0 ≤ a0 ∧ a0 ≤ 1600000000) (p1 : 0 ≤ a1 ∧ a1 ≤ 1600000000) : m_CJ M_X11_commonDivisor [mJ a0, mJ a1] h0 (P_X11_commonDivisor4 h0 a0 a1) := by
  refine m_CJ_of ⟨by decide, rfl, by simp [m_arg, m_isL, M_X11_commonDivisor], ⟨rfl, rfl⟩, rfl, rfl⟩ (ls := [some (mJ a0), none, some (mJ a1), none, none, none, none, none, none, none, none]) rfl ?_
  have ih := a_X11_commonDivisor4 h0 a0 a1 G0 p0 p1 408
  refine z_lload_n (M := M_X11_commonDivisor) 0 dX11_commonDivisor_0 rfl ?_
  refine z_lstore (M := M_X11_commonDivisor) 1 dX11_commonDivisor_1 (ls' := [some (mJ a0), none, some (mJ a1), none, some (mJ a0), none, none, none, none, none, none]) (by decide) rfl ?_
  refine z_lload_n (M := M_X11_commonDivisor) 3 dX11_commonDivisor_3 rfl ?_
  refine z_lstore (M := M_X11_commonDivisor) 4 dX11_commonDivisor_4 (ls' := [some (mJ a0), none, some (mJ a1), none, some (mJ a0), none, some (mJ a1), none, none, none, none]) (by decide) rfl ?_
  refine z_iconst (M := M_X11_commonDivisor) 6 dX11_commonDivisor_6 ?_
  refine z_istore (M := M_X11_commonDivisor) 7 dX11_commonDivisor_7 (ls' := [some (mJ a0), none, some (mJ a1), none, some (mJ a0), none, some (mJ a1), none, some (mI 0), none, none]) (by decide) rfl ?_
  exact z_mask [false, false, false, false, true, false, true, false, true, false, false] rfl (ih a0 a1 0 h0 G0 (FR.rf (cs := []) (ss := []) (h := h0)) (by omega) (by omega) ⟨⟨by omega, by omega⟩, rfl, Or.inl ⟨rfl, by omega, by omega⟩⟩ (by omega))
abbrev P_X7_isTheSame4 (h0 : m_H) : Int → m_H → Prop := fun x h' => GI h' ∧ FR [] [] h0 h' ∧ 0 ≤ x ∧ x ≤ 1 ∧ (x = 1 ↔ (bd h0 95).1 * (bd h0 94).1 = (bd h0 95).2.1 * (bd h0 94).2.1)
set_option maxHeartbeats 4000000 in
set_option maxRecDepth 100000 in
theorem c_X7_isTheSame4 (h0 : m_H) (G0 : GI h0) (q95 : (0 < h0 95 0 ∧ h0 95 0 ≤ 1600000000) ∧ 0 ≤ h0 95 1 ∧ h0 95 1 ≤ 1600000000) (q94 : (0 < h0 94 0 ∧ h0 94 0 ≤ 1600000000) ∧ 0 ≤ h0 94 1 ∧ h0 94 1 ≤ 1600000000) : m_CI M_X7_isTheSame [mR 93] h0 (P_X7_isTheSame4 h0) := by
  refine m_CI_of ⟨by decide, rfl, by simp [m_arg, m_isL, M_X7_isTheSame], ⟨rfl, rfl⟩, rfl, rfl⟩ (ls := [some (mR 93)]) rfl ?_
  refine z_aload_n (M := M_X7_isTheSame) 0 dX7_isTheSame_0 rfl ?_
  refine z_getR (M := M_X7_isTheSame) 1 dX7_isTheSame_1 f_X7_18 o_93 rfl (g_93_1 G0) ?_
  refine z_getJV (M := M_X7_isTheSame) 4 dX7_isTheSame_4 f_X7_33 o_95 rfl (fun x1 ex1 => ?_)
  rw [ex1] at q95
  refine z_aload_n (M := M_X7_isTheSame) 7 dX7_isTheSame_7 rfl ?_
  refine z_getR (M := M_X7_isTheSame) 8 dX7_isTheSame_8 f_X7_12 o_93 rfl (g_93_0 G0) ?_
  refine z_getJV (M := M_X7_isTheSame) 11 dX7_isTheSame_11 f_X7_33 o_94 rfl (fun x2 ex2 => ?_)
  rw [ex2] at q94
  have mx3 := mul_bd (x := x1) (y := x2) (X := 1600000000) (Y := 1600000000) (by omega) (by omega) (by omega) (by omega)
  refine z_lmulN (M := M_X7_isTheSame) 14 dX7_isTheSame_14 (by omega) (by omega) ?_
  refine z_topBJ (lo := 0) (hi := 2560000000000000000) ⟨by omega, by omega⟩ (fun x3 ex3 ax3 bx3 => ?_)
  refine z_aload_n (M := M_X7_isTheSame) 15 dX7_isTheSame_15 rfl ?_
  refine z_getR (M := M_X7_isTheSame) 16 dX7_isTheSame_16 f_X7_18 o_93 rfl (g_93_1 G0) ?_
  refine z_getJV (M := M_X7_isTheSame) 19 dX7_isTheSame_19 f_X7_29 o_95 rfl (fun x4 ex4 => ?_)
  rw [ex4] at q95
  refine z_aload_n (M := M_X7_isTheSame) 22 dX7_isTheSame_22 rfl ?_
  refine z_getR (M := M_X7_isTheSame) 23 dX7_isTheSame_23 f_X7_12 o_93 rfl (g_93_0 G0) ?_
  refine z_getJV (M := M_X7_isTheSame) 26 dX7_isTheSame_26 f_X7_29 o_94 rfl (fun x5 ex5 => ?_)
  rw [ex5] at q94
  have mx6 := mul_bd (x := x4) (y := x5) (X := 1600000000) (Y := 1600000000) (by omega) (by omega) (by omega) (by omega)
  refine z_lmulN (M := M_X7_isTheSame) 29 dX7_isTheSame_29 (by omega) (by omega) ?_
  refine z_topBJ (lo := 0) (hi := 2560000000000000000) ⟨by omega, by omega⟩ (fun x6 ex6 ax6 bx6 => ?_)
  refine z_lcmp (M := M_X7_isTheSame) 30 dX7_isTheSame_30 ?_
  refine z_if_ne (M := M_X7_isTheSame) 31 dX7_isTheSame_31 38 rfl (fun c7 => ?_) (fun c7 => ?_)
  · rw [m_cmp_eq] at c7
    refine z_iconst (M := M_X7_isTheSame) 38 dX7_isTheSame_38 ?_
    exact z_retZ (M := M_X7_isTheSame) 39 dX7_isTheSame_39 rfl (by omega) ⟨G0, (FR.rf (cs := []) (ss := []) (h := h0)), by omega, by omega, ⟨fun z => absurd z (by decide), fun z => absurd ((show h0 95 0 * h0 94 0 = h0 95 1 * h0 94 1 ↔ x3 = x6 by rw [ex1, ex2, ex4, ex5, ex3, ex6]).mp z) c7⟩⟩
  · rw [m_cmp_eq] at c7
    refine z_iconst (M := M_X7_isTheSame) 34 dX7_isTheSame_34 ?_
    refine z_goto (M := M_X7_isTheSame) 35 dX7_isTheSame_35 39 rfl ?_
    exact z_retZ (M := M_X7_isTheSame) 39 dX7_isTheSame_39 rfl (by omega) ⟨G0, (FR.rf (cs := []) (ss := []) (h := h0)), by omega, by omega, ⟨fun _ => (show h0 95 0 * h0 94 0 = h0 95 1 * h0 94 1 ↔ x3 = x6 by rw [ex1, ex2, ex4, ex5, ex3, ex6]).mpr (by omega), fun _ => rfl⟩⟩
def ptK (r : Nat → Int) (a b w : Int) : Prop := (0 ≤ w ∧ w ≤ 1) ∧ thr r a ∧ thr r b ∧ ¬ gain (bR r)
def ptV (B C : Int × Int × Int) (w x : Int) : Prop := (¬ C.1 * B.1 = C.2.1 * B.2.1 ∧ x = 0) ∨ (C.1 * B.1 = C.2.1 * B.2.1 ∧ ((w = 0 ∧ C.1 / gd C.1 C.2.1 = x) ∨ (w = 1 ∧ C.2.1 / gd C.1 C.2.1 = x)))
def ptQ (r : Nat → Int) (a b w x : Int) : Prop := (¬ ptK r a b w ∧ x = -2) ∨ (ptK r a b w ∧ ∃ B, BW (bR r) b.toNat a.toNat B ∧ ((B.2.1 = 0 ∧ x = 0) ∨ (B.2.1 ≠ 0 ∧ ∃ C, BW (bR r) a.toNat b.toNat C ∧ ptV B C w x)))
theorem pt_same {Ls : List gE} (hE : ∀ e ∈ Ls, gEo e) {a b : Nat} {B B' C C' : Int × Int × Int} (h : BW Ls b a B) (h' : BW Ls b a B') (g : BW Ls a b C) (g' : BW Ls a b C') (e : C.1 * B.1 = C.2.1 * B.2.1) : C'.1 * B'.1 = C'.2.1 * B'.2.1 := by
  have z1 := (BW_eq hE h h').2.1
  have z2 := (BW_eq hE g g').2.1
  have p : 0 < C.1 * B.1 := Int.mul_pos g.1.1 h.1.1
  have k1 : (C.1 * B.1) * (C'.2.1 * B'.2.1) = (C.1 * C'.2.1) * (B.1 * B'.2.1) := by ac_rfl
  have k2 : (C'.1 * C.2.1) * (B'.1 * B.2.1) = (C.2.1 * B.2.1) * (C'.1 * B'.1) := by ac_rfl
  rw [z1, z2, k2, ← e] at k1
  exact (Int.eq_of_mul_eq_mul_left (Int.ne_of_gt p) k1).symm
theorem pt_eq {r : Nat → Int} (hE : ∀ e ∈ bR r, gEo e) {a b w x y : Int} (h : ptQ r a b w x) (h' : ptQ r a b w y) : x = y := by
  rcases h with ⟨n, e⟩ | ⟨K, B, bb, h⟩
  · rcases h' with ⟨_, e'⟩ | ⟨K', _⟩
    · omega
    · exact absurd K' n
  · rcases h' with ⟨n', _⟩ | ⟨_, B', bb', h'⟩
    · exact absurd K n'
    · have z := (BW_eq hE bb bb').1
      rcases h with ⟨e, q⟩ | ⟨e, C, cc, v⟩ <;> rcases h' with ⟨e', q'⟩ | ⟨e', C', cc', v'⟩
      · omega
      · exact absurd (z.mp e) e'
      · exact absurd (z.mpr e') e
      · have rd := rd_eq cc.1.1 cc'.1.1 cc.1.2 cc'.1.2 (BW_eq hE cc cc').2.1
        rcases v with ⟨s, q⟩ | ⟨s, q⟩ <;> rcases v' with ⟨s', q'⟩ | ⟨s', q'⟩
        · omega
        · exact absurd (pt_same hE bb' bb cc' cc s') s
        · exact absurd (pt_same hE bb bb' cc cc' s) s'
        · rcases q with ⟨w0, q⟩ | ⟨w0, q⟩ <;> rcases q' with ⟨w1, q'⟩ | ⟨w1, q'⟩
          · rw [← q, ← q']; exact rd.1
          · omega
          · omega
          · rw [← q, ← q']; exact rd.2
theorem LX.part {h h1 : m_H} {a b w x y : Int} {cs : List Nat} {ss : List (Nat × Nat)} (G : GI h) (N : NP h) (S1 : FR cs ss h h1) (A : ptQ (h 110) a b w x) (B : ptQ (h1 110) a b w y) (o : out 110 110 cs ss = true) : x = y := by
  rw [rowz S1 (fr_out o (by decide) (by decide))] at B
  exact pt_eq (bR_ok G N) A B
theorem pt_of {B C : Int × Int × Int} {r : Nat → Int} {a b w x : Int} (K : ptK r a b w) (b1 : BW (bR r) b.toNat a.toNat B) (c1 : BW (bR r) a.toNat b.toNat C) (v : ptV B C w x) : ptQ r a b w x := by
  by_cases q : B.2.1 = 0
  · refine Or.inr ⟨K, B, b1, Or.inl ⟨q, ?_⟩⟩
    rcases v with ⟨_, e⟩ | ⟨e, _⟩
    · exact e
    · have p : 0 < C.1 * B.1 := Int.mul_pos c1.1.1 b1.1.1
      rw [q, Int.mul_zero] at e
      omega
  · exact Or.inr ⟨K, B, b1, Or.inr ⟨q, C, c1, v⟩⟩
abbrev P_X11_part3 (h0 : m_H) (a1 a2 a3 : Int) : Int → m_H → Prop := fun x h' => GI h' ∧ FR (csB ++ [39, 40, 41]) [] h0 h' ∧ ptQ (h0 110) a1 a2 a3 x
set_option maxHeartbeats 4000000 in
set_option maxRecDepth 100000 in
theorem c_X11_part3 (h0 : m_H) (a1 a2 a3 : Int) (G0 : GI h0) (hR : LR 1 h0 (h0 110)) (hN : NP h0) : m_CJ M_X11_part [mR 0, mI a1, mI a2, mI a3] h0 (P_X11_part3 h0 a1 a2 a3) := by
  refine m_CJ_of ⟨by decide, rfl, by simp [m_arg, m_isL, M_X11_part], ⟨rfl, rfl⟩, rfl, rfl⟩ (ls := [some (mR 0), some (mI a1), some (mI a2), some (mI a3), none]) rfl ?_
  refine z_ok (fun _ _ ok => ?_)
  have oa1 : m_32 a1 := ok 1 _ rfl
  unfold m_32 at oa1
  have oa2 : m_32 a2 := ok 2 _ rfl
  unfold m_32 at oa2
  have oa3 : m_32 a3 := ok 3 _ rfl
  unfold m_32 at oa3
  refine z_iload_n (M := M_X11_part) 0 dX11_part_0 rfl ?_
  refine z_iconst (M := M_X11_part) 1 dX11_part_1 ?_
  refine z_iconst (M := M_X11_part) 2 dX11_part_2 ?_
  refine z_sI (M := M_X11_part) 3 dX11_part_3 t_X11_within l_X11_112 (m_rr_of rfl) (rest := []) (c_X11_within h0 a3 0 1 G0) rfl rfl (Nat.le_of_ble_eq_true rfl) ⟨rfl, rfl⟩ (fun x1 h1 qx1 => ?_)
  obtain ⟨rfl, ⟨rfl, cx1⟩ | ⟨rfl, cx1⟩⟩ := qx1
  · refine z_if_eq_F (M := M_X11_part) 6 dX11_part_6 18 rfl (by omega) ?_
    refine z_aload_n (M := M_X11_part) 9 dX11_part_9 rfl ?_
    refine z_iload_n (M := M_X11_part) 10 dX11_part_10 rfl ?_
    refine z_iload_n (M := M_X11_part) 11 dX11_part_11 rfl ?_
    refine z_vI (M := M_X11_part) 12 dX11_part_12 t_X11_compare l_X11_211 (m_rr_of rfl) (rest := []) (c_X11_compare2 h0 a1 a2 G0 hR hN) o_0 rfl rfl rfl (Nat.le_of_ble_eq_true rfl) ⟨rfl, rfl⟩ (fun x2 h2 qx2 => ?_)
    obtain ⟨G2, S2, ax2, bx2, fx2⟩ := qx2
    have R2 := (FR.rf (cs := (csB ++ [39, 40, 41])) (ss := []) (h := h0)).call S2 (by decide +kernel)
    refine z_if_ne (M := M_X11_part) 15 dX11_part_15 22 rfl (fun c3 => ?_) (fun c3 => ?_)
    · have k_ : ptK (h0 110) a1 a2 a3 := ⟨cx1, fx2.1.mp (by omega)⟩
      have p_ := fx2.2 (by omega)
      have pb1_ : (0 < h2 95 0 ∧ h2 95 0 ≤ 1600000000) ∧ 0 ≤ h2 95 1 ∧ h2 95 1 ≤ 1600000000 := p_.1.2.1
      have pb2_ : (0 < h2 94 0 ∧ h2 94 0 ≤ 1600000000) ∧ 0 ≤ h2 94 1 ∧ h2 94 1 ≤ 1600000000 := p_.2.2.1
      refine z_aload_n (M := M_X11_part) 22 dX11_part_22 rfl ?_
      refine z_getR (M := M_X11_part) 23 dX11_part_23 f_X11_53 o_0 rfl (g_0_7 G2) ?_
      refine z_vI (M := M_X11_part) 26 dX11_part_26 t_X7_isTheSame l_X11_261 (m_rr_of rfl) (rest := []) (c_X7_isTheSame4 h2 G2 pb1_ pb2_) o_93 rfl rfl rfl (Nat.le_of_ble_eq_true rfl) ⟨rfl, rfl⟩ (fun x4 h3 qx4 => ?_)
      obtain ⟨G3, S3, ax4, bx4, fx4⟩ := qx4
      have e3_ := frE S3
      have R3 := R2.call S3 (by decide +kernel)
      refine z_if_ne (M := M_X11_part) 29 dX11_part_29 34 rfl (fun c5 => ?_) (fun c5 => ?_)
      · refine z_aload_n (M := M_X11_part) 34 dX11_part_34 rfl ?_
        refine z_getR (M := M_X11_part) 35 dX11_part_35 f_X11_53 o_0 rfl (g_0_7 G3) ?_
        refine z_getR (M := M_X11_part) 38 dX11_part_38 f_X11_237 o_93 rfl (g_93_1 G3) ?_
        refine z_astore (M := M_X11_part) 41 dX11_part_41 (ls' := [some (mR 0), some (mI a1), some (mI a2), some (mI a3), some (mR 95)]) (by decide) rfl ?_
        refine z_iload_n (M := M_X11_part) 43 dX11_part_43 rfl ?_
        refine z_if_ne (M := M_X11_part) 44 dX11_part_44 55 rfl (fun c6 => ?_) (fun c6 => ?_)
        · refine z_aload (M := M_X11_part) 55 dX11_part_55 rfl ?_
          refine z_getJV (M := M_X11_part) 57 dX11_part_57 f_X11_268 o_95 rfl (fun x7 ex7 => ?_)
          have ex7' := ex7
          rw [e3_] at ex7'
          have u7_ := pb1_
          rw [ex7'] at u7_
          refine z_aload (M := M_X11_part) 60 dX11_part_60 rfl ?_
          refine z_getJV (M := M_X11_part) 62 dX11_part_62 f_X11_264 o_95 rfl (fun x8 ex8 => ?_)
          have ex8' := ex8
          rw [e3_] at ex8'
          rw [ex8'] at u7_
          refine z_aload (M := M_X11_part) 65 dX11_part_65 rfl ?_
          refine z_getJE (M := M_X11_part) 67 dX11_part_67 f_X11_268 o_95 rfl ex7 ?_
          refine z_sJ (M := M_X11_part) 70 dX11_part_70 t_X11_commonDivisor l_X11_271 (m_rr_of rfl) (rest := [mJ x7]) (c_X11_commonDivisor4 h3 x8 x7 G3 ⟨by omega, by omega⟩ ⟨by omega, by omega⟩) rfl rfl (Nat.le_of_ble_eq_true rfl) ⟨rfl, rfl⟩ (fun x9 h4 qx9 => ?_)
          obtain ⟨G4, S4, fx9⟩ := qx9
          have gp_ := gd_p (a := x8) (b := x7) (by omega)
          have R4 := R3.call S4 (by decide +kernel)
          refine z_sJ (M := M_X11_part) 73 dX11_part_73 t_X11_quotient l_X11_275 (m_rr_of rfl) (rest := []) (c_X11_quotientQ h4 x7 x9 G4 (by omega) (by omega)) rfl rfl (Nat.le_of_ble_eq_true rfl) ⟨rfl, rfl⟩ (fun x10 h5 qx10 => ?_)
          obtain ⟨G5, S5, fx10⟩ := qx10
          have R5 := R4.call S5 (by decide +kernel)
          exact z_retJ (M := M_X11_part) 76 dX11_part_76 rfl ⟨G5, R5, pt_of k_ p_.2.1 p_.1.1 (Or.inr ⟨fx4.mp (by omega), Or.inr ⟨by omega, by show h2 95 1 / gd (h2 95 0) (h2 95 1) = _; rw [ex7', ex8', fx9]; exact fx10⟩⟩)⟩
        · refine z_aload (M := M_X11_part) 47 dX11_part_47 rfl ?_
          refine z_getJV (M := M_X11_part) 49 dX11_part_49 f_X11_264 o_95 rfl (fun x11 ex11 => ?_)
          have ex11' := ex11
          rw [e3_] at ex11'
          have u7_ := pb1_
          rw [ex11'] at u7_
          refine z_goto (M := M_X11_part) 52 dX11_part_52 60 rfl ?_
          refine z_aload (M := M_X11_part) 60 dX11_part_60 rfl ?_
          refine z_getJE (M := M_X11_part) 62 dX11_part_62 f_X11_264 o_95 rfl ex11 ?_
          refine z_aload (M := M_X11_part) 65 dX11_part_65 rfl ?_
          refine z_getJV (M := M_X11_part) 67 dX11_part_67 f_X11_268 o_95 rfl (fun x12 ex12 => ?_)
          have ex12' := ex12
          rw [e3_] at ex12'
          rw [ex12'] at u7_
          refine z_sJ (M := M_X11_part) 70 dX11_part_70 t_X11_commonDivisor l_X11_271 (m_rr_of rfl) (rest := [mJ x11]) (c_X11_commonDivisor4 h3 x11 x12 G3 ⟨by omega, by omega⟩ ⟨by omega, by omega⟩) rfl rfl (Nat.le_of_ble_eq_true rfl) ⟨rfl, rfl⟩ (fun x13 h6 qx13 => ?_)
          obtain ⟨G6, S6, fx13⟩ := qx13
          have gp_ := gd_p (a := x11) (b := x12) (by omega)
          have R6 := R3.call S6 (by decide +kernel)
          refine z_sJ (M := M_X11_part) 73 dX11_part_73 t_X11_quotient l_X11_275 (m_rr_of rfl) (rest := []) (c_X11_quotientQ h6 x11 x13 G6 (by omega) (by omega)) rfl rfl (Nat.le_of_ble_eq_true rfl) ⟨rfl, rfl⟩ (fun x14 h7 qx14 => ?_)
          obtain ⟨G7, S7, fx14⟩ := qx14
          have R7 := R6.call S7 (by decide +kernel)
          exact z_retJ (M := M_X11_part) 76 dX11_part_76 rfl ⟨G7, R7, pt_of k_ p_.2.1 p_.1.1 (Or.inr ⟨fx4.mp (by omega), Or.inl ⟨by omega, by show h2 95 0 / gd (h2 95 0) (h2 95 1) = _; rw [ex11', ex12', fx13]; exact fx14⟩⟩)⟩
      · refine z_lconst (M := M_X11_part) 32 dX11_part_32 (v := 0) ?_
        exact z_retJ (M := M_X11_part) 33 dX11_part_33 rfl ⟨G3, R3, pt_of k_ p_.2.1 p_.1.1 (Or.inl ⟨fun z => absurd (fx4.mpr z) (by omega), rfl⟩)⟩
    · refine z_ldc2 (M := M_X11_part) 18 dX11_part_18 k_X11_259 ?_
      exact z_retJ (M := M_X11_part) 21 dX11_part_21 rfl ⟨G2, R2, Or.inl ⟨fun z => absurd (fx2.1.mpr z.2) (by omega), rfl⟩⟩
  · refine z_if_eq_T (M := M_X11_part) 6 dX11_part_6 18 rfl (by omega) ?_
    refine z_ldc2 (M := M_X11_part) 18 dX11_part_18 k_X11_259 ?_
    exact z_retJ (M := M_X11_part) 21 dX11_part_21 rfl ⟨G0, (FR.rf (cs := (csB ++ [39, 40, 41])) (ss := []) (h := h0)), Or.inl ⟨fun z => cx1 z.1, rfl⟩⟩
theorem vS_three {f : Nat → Int} {a : Nat} (hd : ∀ j, j < 5 → 0 ≤ f (a + j) ∧ f (a + j) ≤ 99999999) (h2 : vS f a 5 ≤ 25091827216) : f (a + 2) = 0 ∧ f a + 100000000 * f (a + 1) = vS f a 5 ∧ f (a + 1) ≤ 251 := by
  have d0 : 0 ≤ f a ∧ f a ≤ 99999999 := hd 0 (by omega)
  have d1 := hd 1 (by omega); have d2 := hd 2 (by omega); have d3 := hd 3 (by omega); have d4 := hd 4 (by omega)
  simp only [vS, Nat.add_zero] at h2 ⊢
  omega
abbrev P_X12_whole124x (h0 : m_H) (a1 : Int) : Int → m_H → Prop := fun x h' => GI h' ∧ FR [] [] h0 h' ∧ x = vS (h0 124) a1.toNat 5
set_option maxHeartbeats 4000000 in
set_option maxRecDepth 100000 in
theorem c_X12_whole124x (h0 : m_H) (a1 : Int) (G0 : GI h0) (pa1 : 0 ≤ a1 ∧ a1 ≤ 77) (h75 : a1 ≤ 75) (hv : vS (h0 124) a1.toNat 5 ≤ 25091827216) : m_CJ M_X12_whole [mR 124, mI a1] h0 (P_X12_whole124x h0 a1) := by
  refine m_CJ_of ⟨by decide, rfl, by simp [m_arg, m_isL, M_X12_whole], ⟨rfl, rfl⟩, rfl, rfl⟩ (ls := [some (mR 124), some (mI a1)]) rfl ?_
  refine z_aload_n (M := M_X12_whole) 0 dX12_whole_0 rfl ?_
  refine z_iload_n (M := M_X12_whole) 1 dX12_whole_1 rfl ?_
  refine z_laldG (M := M_X12_whole) 2 dX12_whole_2 o_124 (by omega) (by omega) (g_124 G0 (by omega)) (fun x1 ex1 ax1 bx1 => ?_)
  refine z_ldc2 (M := M_X12_whole) 3 dX12_whole_3 k_X12_327 ?_
  refine z_aload_n (M := M_X12_whole) 6 dX12_whole_6 rfl ?_
  refine z_iload_n (M := M_X12_whole) 7 dX12_whole_7 rfl ?_
  refine z_iconst (M := M_X12_whole) 8 dX12_whole_8 ?_
  refine z_iaddN (M := M_X12_whole) 9 dX12_whole_9 (by omega) (by omega) ?_
  refine z_laldG (M := M_X12_whole) 10 dX12_whole_10 o_124 (by omega) (by omega) (g_124 G0 (by omega)) (fun x2 ex2 ax2 bx2 => ?_)
  refine z_ldc2 (M := M_X12_whole) 11 dX12_whole_11 k_X12_327 ?_
  refine z_aload_n (M := M_X12_whole) 14 dX12_whole_14 rfl ?_
  refine z_iload_n (M := M_X12_whole) 15 dX12_whole_15 rfl ?_
  refine z_iconst (M := M_X12_whole) 16 dX12_whole_16 ?_
  refine z_iaddN (M := M_X12_whole) 17 dX12_whole_17 (by omega) (by omega) ?_
  refine z_laldG (M := M_X12_whole) 18 dX12_whole_18 o_124 (by omega) (by omega) (g_124 G0 (by omega)) (fun x3 ex3 ax3 bx3 => ?_)
  obtain ⟨t1_, t2_, t3_⟩ := vS_three (fun j hj => g_124 G0 (by omega)) hv
  rw [show a1.toNat + 2 = (a1 + 2).toNat by omega, ex3] at t1_
  rw [show a1.toNat + 1 = (a1 + 1).toNat by omega, ex2] at t3_
  rw [show a1.toNat + 1 = (a1 + 1).toNat by omega, ex1, ex2] at t2_
  refine z_lmulN (M := M_X12_whole) 19 dX12_whole_19 (by omega) (by omega) ?_
  refine z_laddN (M := M_X12_whole) 20 dX12_whole_20 (by omega) (by omega) ?_
  refine z_lmulN (M := M_X12_whole) 21 dX12_whole_21 (by omega) (by omega) ?_
  refine z_laddN (M := M_X12_whole) 22 dX12_whole_22 (by omega) (by omega) ?_
  exact z_retJ (M := M_X12_whole) 23 dX12_whole_23 rfl ⟨G0, (FR.rf (cs := []) (ss := []) (h := h0)), by rw [← t2_, t1_]; omega⟩
abbrev P_X12_whole125x (h0 : m_H) (a1 : Int) : Int → m_H → Prop := fun x h' => GI h' ∧ FR [] [] h0 h' ∧ x = vS (h0 125) a1.toNat 5
set_option maxHeartbeats 4000000 in
set_option maxRecDepth 100000 in
theorem c_X12_whole125x (h0 : m_H) (a1 : Int) (G0 : GI h0) (pa1 : 0 ≤ a1 ∧ a1 ≤ 77) (h75 : a1 ≤ 75) (hv : vS (h0 125) a1.toNat 5 ≤ 25091827216) : m_CJ M_X12_whole [mR 125, mI a1] h0 (P_X12_whole125x h0 a1) := by
  refine m_CJ_of ⟨by decide, rfl, by simp [m_arg, m_isL, M_X12_whole], ⟨rfl, rfl⟩, rfl, rfl⟩ (ls := [some (mR 125), some (mI a1)]) rfl ?_
  refine z_aload_n (M := M_X12_whole) 0 dX12_whole_0 rfl ?_
  refine z_iload_n (M := M_X12_whole) 1 dX12_whole_1 rfl ?_
  refine z_laldG (M := M_X12_whole) 2 dX12_whole_2 o_125 (by omega) (by omega) (g_125 G0 (by omega)) (fun x1 ex1 ax1 bx1 => ?_)
  refine z_ldc2 (M := M_X12_whole) 3 dX12_whole_3 k_X12_327 ?_
  refine z_aload_n (M := M_X12_whole) 6 dX12_whole_6 rfl ?_
  refine z_iload_n (M := M_X12_whole) 7 dX12_whole_7 rfl ?_
  refine z_iconst (M := M_X12_whole) 8 dX12_whole_8 ?_
  refine z_iaddN (M := M_X12_whole) 9 dX12_whole_9 (by omega) (by omega) ?_
  refine z_laldG (M := M_X12_whole) 10 dX12_whole_10 o_125 (by omega) (by omega) (g_125 G0 (by omega)) (fun x2 ex2 ax2 bx2 => ?_)
  refine z_ldc2 (M := M_X12_whole) 11 dX12_whole_11 k_X12_327 ?_
  refine z_aload_n (M := M_X12_whole) 14 dX12_whole_14 rfl ?_
  refine z_iload_n (M := M_X12_whole) 15 dX12_whole_15 rfl ?_
  refine z_iconst (M := M_X12_whole) 16 dX12_whole_16 ?_
  refine z_iaddN (M := M_X12_whole) 17 dX12_whole_17 (by omega) (by omega) ?_
  refine z_laldG (M := M_X12_whole) 18 dX12_whole_18 o_125 (by omega) (by omega) (g_125 G0 (by omega)) (fun x3 ex3 ax3 bx3 => ?_)
  obtain ⟨t1_, t2_, t3_⟩ := vS_three (fun j hj => g_125 G0 (by omega)) hv
  rw [show a1.toNat + 2 = (a1 + 2).toNat by omega, ex3] at t1_
  rw [show a1.toNat + 1 = (a1 + 1).toNat by omega, ex2] at t3_
  rw [show a1.toNat + 1 = (a1 + 1).toNat by omega, ex1, ex2] at t2_
  refine z_lmulN (M := M_X12_whole) 19 dX12_whole_19 (by omega) (by omega) ?_
  refine z_laddN (M := M_X12_whole) 20 dX12_whole_20 (by omega) (by omega) ?_
  refine z_lmulN (M := M_X12_whole) 21 dX12_whole_21 (by omega) (by omega) ?_
  refine z_laddN (M := M_X12_whole) 22 dX12_whole_22 (by omega) (by omega) ?_
  exact z_retJ (M := M_X12_whole) 23 dX12_whole_23 rfl ⟨G0, (FR.rf (cs := []) (ss := []) (h := h0)), by rw [← t2_, t1_]; omega⟩
abbrev P_X12_whole138x (h0 : m_H) (a1 : Int) : Int → m_H → Prop := fun x h' => GI h' ∧ FR [] [] h0 h' ∧ x = vS (h0 138) a1.toNat 5
set_option maxHeartbeats 4000000 in
set_option maxRecDepth 100000 in
theorem c_X12_whole138x (h0 : m_H) (a1 : Int) (G0 : GI h0) (pa1 : 0 ≤ a1 ∧ a1 ≤ 17) (h75 : a1 ≤ 15) (hv : vS (h0 138) a1.toNat 5 ≤ 25091827216) : m_CJ M_X12_whole [mR 138, mI a1] h0 (P_X12_whole138x h0 a1) := by
  refine m_CJ_of ⟨by decide, rfl, by simp [m_arg, m_isL, M_X12_whole], ⟨rfl, rfl⟩, rfl, rfl⟩ (ls := [some (mR 138), some (mI a1)]) rfl ?_
  refine z_aload_n (M := M_X12_whole) 0 dX12_whole_0 rfl ?_
  refine z_iload_n (M := M_X12_whole) 1 dX12_whole_1 rfl ?_
  refine z_laldG (M := M_X12_whole) 2 dX12_whole_2 o_138 (by omega) (by omega) (g_138 G0 (by omega)) (fun x1 ex1 ax1 bx1 => ?_)
  refine z_ldc2 (M := M_X12_whole) 3 dX12_whole_3 k_X12_327 ?_
  refine z_aload_n (M := M_X12_whole) 6 dX12_whole_6 rfl ?_
  refine z_iload_n (M := M_X12_whole) 7 dX12_whole_7 rfl ?_
  refine z_iconst (M := M_X12_whole) 8 dX12_whole_8 ?_
  refine z_iaddN (M := M_X12_whole) 9 dX12_whole_9 (by omega) (by omega) ?_
  refine z_laldG (M := M_X12_whole) 10 dX12_whole_10 o_138 (by omega) (by omega) (g_138 G0 (by omega)) (fun x2 ex2 ax2 bx2 => ?_)
  refine z_ldc2 (M := M_X12_whole) 11 dX12_whole_11 k_X12_327 ?_
  refine z_aload_n (M := M_X12_whole) 14 dX12_whole_14 rfl ?_
  refine z_iload_n (M := M_X12_whole) 15 dX12_whole_15 rfl ?_
  refine z_iconst (M := M_X12_whole) 16 dX12_whole_16 ?_
  refine z_iaddN (M := M_X12_whole) 17 dX12_whole_17 (by omega) (by omega) ?_
  refine z_laldG (M := M_X12_whole) 18 dX12_whole_18 o_138 (by omega) (by omega) (g_138 G0 (by omega)) (fun x3 ex3 ax3 bx3 => ?_)
  obtain ⟨t1_, t2_, t3_⟩ := vS_three (fun j hj => g_138 G0 (by omega)) hv
  rw [show a1.toNat + 2 = (a1 + 2).toNat by omega, ex3] at t1_
  rw [show a1.toNat + 1 = (a1 + 1).toNat by omega, ex2] at t3_
  rw [show a1.toNat + 1 = (a1 + 1).toNat by omega, ex1, ex2] at t2_
  refine z_lmulN (M := M_X12_whole) 19 dX12_whole_19 (by omega) (by omega) ?_
  refine z_laddN (M := M_X12_whole) 20 dX12_whole_20 (by omega) (by omega) ?_
  refine z_lmulN (M := M_X12_whole) 21 dX12_whole_21 (by omega) (by omega) ?_
  refine z_laddN (M := M_X12_whole) 22 dX12_whole_22 (by omega) (by omega) ?_
  exact z_retJ (M := M_X12_whole) 23 dX12_whole_23 rfl ⟨G0, (FR.rf (cs := []) (ss := []) (h := h0)), by rw [← t2_, t1_]; omega⟩
abbrev P_X12_common4 (h0 : m_H) (a0 a1 : Int) : Int → m_H → Prop := fun x h' => GI h' ∧ FR [] [] h0 h' ∧ gd a0 a1 = x
def q_X12_common4 (h0 : m_H) (a0 a1 : Int) (n : Nat) : Prop := (∀ (l4 l6 : Int) (h : m_H), GI h → FR [] [] h0 h → ((0 ≤ l4 ∧ 0 ≤ l6) ∧ gd l4 l6 = gd a0 a1) → 2 * (((l6.natAbs : Nat) : Int)) + (1) ≤ (n : Int) → m_Z oF M_X12_common 6 [none, none, none, none, some (mJ l4), none, some (mJ l6), none, none, none] [] h (m_QJ (P_X12_common4 h0 a0 a1)))
set_option maxHeartbeats 4000000 in
set_option maxRecDepth 100000 in
theorem s_X12_common4_6 (h0 : m_H) (a0 a1 : Int) (G0 : GI h0) (p0 : 0 ≤ a0) (p1 : 0 ≤ a1) (n : Nat) (ih : q_X12_common4 h0 a0 a1 n) : ∀ (l4 l6 : Int) (h : m_H), GI h → FR [] [] h0 h → ((0 ≤ l4 ∧ 0 ≤ l6) ∧ gd l4 l6 = gd a0 a1) → 2 * (((l6.natAbs : Nat) : Int)) + (1) ≤ ((n + 1 : Nat) : Int) → m_Z oF M_X12_common 6 [none, none, none, none, some (mJ l4), none, some (mJ l6), none, none, none] [] h (m_QJ (P_X12_common4 h0 a0 a1)) := by
  intro l4 l6 h G R i0 hr
  refine z_lload (M := M_X12_common) 6 dX12_common_6 rfl ?_
  refine z_lconst (M := M_X12_common) 8 dX12_common_8 (v := 0) ?_
  refine z_lcmp (M := M_X12_common) 9 dX12_common_9 ?_
  refine z_if_eq (M := M_X12_common) 10 dX12_common_10 31 rfl (fun c1 => ?_) (fun c1 => ?_)
  · rw [m_cmp_eq] at c1
    refine z_lload (M := M_X12_common) 31 dX12_common_31 rfl ?_
    exact z_retJ (M := M_X12_common) 33 dX12_common_33 rfl ⟨G, R, by rw [← i0.2, show l6 = 0 by omega, gd_0 i0.1.1]⟩
  · rw [m_cmp_eq] at c1
    refine z_lload (M := M_X12_common) 13 dX12_common_13 rfl ?_
    refine z_lload (M := M_X12_common) 15 dX12_common_15 rfl ?_
    refine z_lrem (M := M_X12_common) 17 dX12_common_17 (by omega) ?_
    refine z_topJ (fun x2 ex2 => ?_)
    have tm := tm_lt (by omega) ex2
    refine z_lstore (M := M_X12_common) 18 dX12_common_18 (ls' := [none, none, none, none, some (mJ l4), none, some (mJ l6), none, some (mJ x2), none]) (by decide) rfl ?_
    refine z_lload (M := M_X12_common) 20 dX12_common_20 rfl ?_
    refine z_lstore (M := M_X12_common) 22 dX12_common_22 (ls' := [none, none, none, none, some (mJ l6), none, some (mJ l6), none, some (mJ x2), none]) (by decide) rfl ?_
    refine z_lload (M := M_X12_common) 24 dX12_common_24 rfl ?_
    refine z_lstore (M := M_X12_common) 26 dX12_common_26 (ls' := [none, none, none, none, some (mJ l6), none, some (mJ x2), none, some (mJ x2), none]) (by decide) rfl ?_
    refine z_goto (M := M_X12_common) 28 dX12_common_28 6 rfl ?_
    exact z_mask [false, false, false, false, true, false, true, false, false, false] rfl (ih l6 x2 h G R ⟨⟨i0.1.2, by rw [← ex2, Int.tmod_eq_emod_of_nonneg i0.1.1]; exact Int.emod_nonneg _ (by omega)⟩, by rw [← ex2, Int.tmod_eq_emod_of_nonneg i0.1.1, gd_s i0.1.1 i0.1.2]; exact i0.2⟩ (by omega))
theorem a_X12_common4 (h0 : m_H) (a0 a1 : Int) (G0 : GI h0) (p0 : 0 ≤ a0) (p1 : 0 ≤ a1) : ∀ n, q_X12_common4 h0 a0 a1 n := by
  intro n
  induction n with
  | zero => unfold q_X12_common4; intros; omega
  | succ n ih => exact s_X12_common4_6 h0 a0 a1 G0 p0 p1 n ih
set_option maxHeartbeats 4000000 in
set_option maxRecDepth 100000 in
theorem c_X12_common4 (h0 : m_H) (a0 a1 : Int) (G0 : GI h0) (p0 : 0 ≤ a0) (p1 : 0 ≤ a1) : m_CJ M_X12_common [mJ a0, mJ a1] h0 (P_X12_common4 h0 a0 a1) := by
  refine m_CJ_of ⟨by decide, rfl, by simp [m_arg, m_isL, M_X12_common], ⟨rfl, rfl⟩, rfl, rfl⟩ (ls := [some (mJ a0), none, some (mJ a1), none, none, none, none, none, none, none]) rfl ?_
  have ih := a_X12_common4 h0 a0 a1 G0 p0 p1 18446744073709551624
  refine z_ok (fun _ _ ok => ?_)
  have oa1 : m_64 a1 := ok 2 _ rfl
  unfold m_64 at oa1
  refine z_lload_n (M := M_X12_common) 0 dX12_common_0 rfl ?_
  refine z_lstore (M := M_X12_common) 1 dX12_common_1 (ls' := [some (mJ a0), none, some (mJ a1), none, some (mJ a0), none, none, none, none, none]) (by decide) rfl ?_
  refine z_lload_n (M := M_X12_common) 3 dX12_common_3 rfl ?_
  refine z_lstore (M := M_X12_common) 4 dX12_common_4 (ls' := [some (mJ a0), none, some (mJ a1), none, some (mJ a0), none, some (mJ a1), none, none, none]) (by decide) rfl ?_
  exact z_mask [false, false, false, false, true, false, true, false, false, false] rfl (ih a0 a1 h0 G0 (FR.rf (cs := []) (ss := []) (h := h0)) ⟨⟨p0, p1⟩, rfl⟩ (by omega))
theorem pt_ref {L1 T1 L2 T2 : Int} (a : 0 < L1) (b : 0 < T1) (c : 0 < L2) (d : 0 < T2) : (T2 * T1 = L2 * L1 ↔ (L1 / gd L1 T1 = T2 / gd T2 L2 ∧ T1 / gd L1 T1 = L2 / gd T2 L2)) := by
  constructor
  · intro e
    exact rd_eq a d (Int.le_of_lt b) (Int.le_of_lt c) (by rw [Int.mul_comm L1 L2]; exact e.symm)
  · rintro ⟨e1, e2⟩
    have x1 := gd_x T1 a
    have x2 := gd_x L1 b
    have x3 := gd_x L2 d
    have x4 := gd_x T2 c
    rw [gd_c T1 L1, e2] at x2
    rw [e1] at x1
    rw [gd_c L2 T2] at x4
    generalize T2 / gd T2 L2 = p at *
    generalize L2 / gd T2 L2 = q at *
    generalize gd L1 T1 = u at *
    generalize gd T2 L2 = v at *
    rw [← x1, ← x2, ← x3, ← x4]
    ac_rfl
abbrev P_X12_part3 (h0 : m_H) (a1 a2 a3 : Int) : Int → m_H → Prop := fun x h' => GI h' ∧ FR [115, 116, 117, 118, 119, 120, 121, 122, 123, 124, 125, 126, 127, 128, 129, 130, 131, 132, 133, 134] [(108, 0), (108, 21)] h0 h' ∧ ptQ (h0 110) a1 a2 a3 x
set_option maxHeartbeats 4000000 in
set_option maxRecDepth 100000 in
theorem c_X12_part3 (h0 : m_H) (a1 a2 a3 : Int) (G0 : GI h0) (hN : NP h0) : m_CJ M_X12_part [mR 108, mI a1, mI a2, mI a3] h0 (P_X12_part3 h0 a1 a2 a3) := by
  refine m_CJ_of ⟨by decide, rfl, by simp [m_arg, m_isL, M_X12_part], ⟨rfl, rfl⟩, rfl, rfl⟩ (ls := [some (mR 108), some (mI a1), some (mI a2), some (mI a3), none, none, none, none, none, none, none, none, none, none, none, none]) rfl ?_
  refine z_ok (fun _ _ ok => ?_)
  have oa1 : m_32 a1 := ok 1 _ rfl
  unfold m_32 at oa1
  have oa2 : m_32 a2 := ok 2 _ rfl
  unfold m_32 at oa2
  have oa3 : m_32 a3 := ok 3 _ rfl
  unfold m_32 at oa3
  refine z_aload_n (M := M_X12_part) 0 dX12_part_0 rfl ?_
  refine z_iconst (M := M_X12_part) 1 dX12_part_1 ?_
  refine z_putIH (M := M_X12_part) 2 dX12_part_2 p_X12_133 o_108 rfl (u_108_0 G0) ((FR.rf (cs := [115, 116, 117, 118, 119, 120, 121, 122, 123, 124, 125, 126, 127, 128, 129, 130, 131, 132, 133, 134]) (ss := [(108, 0), (108, 21)]) (h := h0)).up rfl) (fun h1 E1 G1 R1 => ?_)
  refine z_iload_n (M := M_X12_part) 5 dX12_part_5 rfl ?_
  refine z_i2l (M := M_X12_part) 6 dX12_part_6 ?_
  refine z_lconst (M := M_X12_part) 7 dX12_part_7 (v := 0) ?_
  refine z_lconst (M := M_X12_part) 8 dX12_part_8 (v := 1) ?_
  refine z_sI (M := M_X12_part) 9 dX12_part_9 t_X12_in l_X12_143 (m_rr_of rfl) (rest := []) (c_X12_in h1 a3 0 1 G1) rfl rfl (Nat.le_of_ble_eq_true rfl) ⟨rfl, rfl⟩ (fun x1 h2 qx1 => ?_)
  obtain ⟨rfl, ⟨rfl, cx1⟩ | ⟨rfl, cx1⟩⟩ := qx1
  · refine z_if_eq_F (M := M_X12_part) 12 dX12_part_12 24 rfl (by omega) ?_
    refine z_aload_n (M := M_X12_part) 15 dX12_part_15 rfl ?_
    refine z_iload_n (M := M_X12_part) 16 dX12_part_16 rfl ?_
    refine z_iload_n (M := M_X12_part) 17 dX12_part_17 rfl ?_
    refine z_vI (M := M_X12_part) 18 dX12_part_18 t_X12_isAnswered l_X12_394 (m_rr_of rfl) (rest := []) (c_X12_isAnswered2 h1 a1 a2 G1 (NP.call hN R1 (fun _ => rfl) (fun _ => rfl) (fun _ => rfl))) o_108 rfl rfl rfl (Nat.le_of_ble_eq_true rfl) ⟨rfl, rfl⟩ (fun x2 h3 qx2 => ?_)
    obtain ⟨G3, S3, ax2, bx2, fx2_0, fx2_1⟩ := qx2
    have R3 := R1.call S3 (by decide +kernel)
    rw [(FR.row R1 (fun _ => rfl) : h1 110 = h0 110)] at fx2_1
    have e3_ : h3 110 = h0 110 := FR.row R3 (fun _ => rfl)
    refine z_if_ne (M := M_X12_part) 21 dX12_part_21 28 rfl (fun c3 => ?_) (fun c3 => ?_)
    · have an := fx2_0 (by omega)
      have an1 := an.1
      have an2 := an.2.1
      refine z_aload_n (M := M_X12_part) 28 dX12_part_28 rfl ?_
      refine z_iload_n (M := M_X12_part) 29 dX12_part_29 rfl ?_
      refine z_vV (M := M_X12_part) 30 dX12_part_30 t_X12_goFrom l_X12_397 (m_rr_of rfl) (rest := []) (c_X12_goFrom2 h3 a2 G3 ⟨by omega, by omega⟩ (NP.call hN R3 (fun _ => rfl) (fun _ => rfl) (fun _ => rfl)) (gG_f (gG_b an.2.2 R1 (fun _ => rfl)) R3 (fun _ => rfl))) o_108 rfl rfl rfl (Nat.le_of_ble_eq_true rfl) ⟨rfl, rfl⟩ (fun h4 qx4 => ?_)
      obtain ⟨G4, S4, fx4_0, fx4_1⟩ := qx4
      rw [e3_] at fx4_1
      have b_ := fx4_1 a1.toNat (by omega)
      have g_ := fx4_0 a1.toNat (by omega)
      have k_ : ptK (h0 110) a1 a2 a3 := ⟨cx1, fx2_1.mp (by omega)⟩
      have R4 := R3.call S4 (by decide +kernel)
      refine z_aload_n (M := M_X12_part) 33 dX12_part_33 rfl ?_
      refine z_getR (M := M_X12_part) 34 dX12_part_34 f_X12_70 o_108 rfl (g_108_32 G4) ?_
      refine z_iload_n (M := M_X12_part) 37 dX12_part_37 rfl ?_
      refine z_zaldG (M := M_X12_part) 38 dX12_part_38 o_127 (by omega) (by omega) (g_127 G4 (by omega)) (fun x5 ex5 ax5 bx5 => ?_)
      refine z_if_ne (M := M_X12_part) 39 dX12_part_39 44 rfl (fun c6 => ?_) (fun c6 => ?_)
      · have u_ := g_.2.2 (ex5.trans (by omega))
        have u1_ : 1 ≤ vS (h4 124) (5 * a1.toNat) 5 := u_.1.1
        have u2_ : vS (h4 124) (5 * a1.toNat) 5 ≤ 25091827216 := u_.1.2
        have u3_ : 1 ≤ vS (h4 125) (5 * a1.toNat) 5 := u_.2.1
        have u4_ : vS (h4 125) (5 * a1.toNat) 5 ≤ 25091827216 := u_.2.2
        rw [bOf_y ex5 (by omega)] at b_
        have a5_ : (5 * a1).toNat = 5 * a1.toNat := at5 (by omega)
        refine z_aload_n (M := M_X12_part) 44 dX12_part_44 rfl ?_
        refine z_getR (M := M_X12_part) 45 dX12_part_45 f_X12_61 o_108 rfl (g_108_29 G4) ?_
        refine z_iconst (M := M_X12_part) 48 dX12_part_48 ?_
        refine z_iload_n (M := M_X12_part) 49 dX12_part_49 rfl ?_
        refine z_imulN (M := M_X12_part) 50 dX12_part_50 (by omega) (by omega) ?_
        refine z_sJ (M := M_X12_part) 51 dX12_part_51 t_X12_whole l_X12_439 (m_rr_of rfl) (rest := []) (c_X12_whole124x h4 (5 * a1) G4 ⟨by omega, by omega⟩ (by omega) (by rw [a5_]; exact u2_)) rfl rfl (Nat.le_of_ble_eq_true rfl) ⟨rfl, rfl⟩ (fun x7 h5 qx7 => ?_)
        obtain ⟨G5, S5, fx7_0⟩ := qx7
        rw [a5_] at fx7_0
        have e5_ := frE S5
        have R5 := R4.call S5 (by decide +kernel)
        refine z_lstore (M := M_X12_part) 54 dX12_part_54 (ls' := [some (mR 108), some (mI a1), some (mI a2), some (mI a3), some (mJ x7), none, none, none, none, none, none, none, none, none, none, none]) (by decide) rfl ?_
        refine z_aload_n (M := M_X12_part) 56 dX12_part_56 rfl ?_
        refine z_getR (M := M_X12_part) 57 dX12_part_57 f_X12_64 o_108 rfl (g_108_30 G5) ?_
        refine z_iconst (M := M_X12_part) 60 dX12_part_60 ?_
        refine z_iload_n (M := M_X12_part) 61 dX12_part_61 rfl ?_
        refine z_imulN (M := M_X12_part) 62 dX12_part_62 (by omega) (by omega) ?_
        refine z_sJ (M := M_X12_part) 63 dX12_part_63 t_X12_whole l_X12_439 (m_rr_of rfl) (rest := []) (c_X12_whole125x h5 (5 * a1) G5 ⟨by omega, by omega⟩ (by omega) (by rw [a5_, e5_]; exact u4_)) rfl rfl (Nat.le_of_ble_eq_true rfl) ⟨rfl, rfl⟩ (fun x8 h6 qx8 => ?_)
        obtain ⟨G6, S6, fx8_0⟩ := qx8
        rw [a5_, e5_] at fx8_0
        rw [← fx7_0, ← fx8_0] at b_
        rw [← fx7_0] at u1_ u2_
        rw [← fx8_0] at u3_ u4_
        have R6 := R5.call S6 (by decide +kernel)
        refine z_lstore (M := M_X12_part) 66 dX12_part_66 (ls' := [some (mR 108), some (mI a1), some (mI a2), some (mI a3), some (mJ x7), none, some (mJ x8), none, none, none, none, none, none, none, none, none]) (by decide) rfl ?_
        refine z_lload (M := M_X12_part) 68 dX12_part_68 rfl ?_
        refine z_lload (M := M_X12_part) 70 dX12_part_70 rfl ?_
        refine z_sJ (M := M_X12_part) 72 dX12_part_72 t_X12_common l_X12_443 (m_rr_of rfl) (rest := []) (c_X12_common4 h6 x7 x8 G6 (by omega) (by omega)) rfl rfl (Nat.le_of_ble_eq_true rfl) ⟨rfl, rfl⟩ (fun x9 h7 qx9 => ?_)
        obtain ⟨G7, S7, fx9_0⟩ := qx9
        have gp_ := gd_p (a := x7) (b := x8) (by omega)
        have R7 := R6.call S7 (by decide +kernel)
        refine z_lstore (M := M_X12_part) 75 dX12_part_75 (ls' := [some (mR 108), some (mI a1), some (mI a2), some (mI a3), some (mJ x7), none, some (mJ x8), none, some (mJ x9), none, none, none, none, none, none, none]) (by decide) rfl ?_
        have du := (ga_dgi G4 fx4_0 (by omega) (by omega) ex5 (by omega)).1
        have wu := u1_
        have wc : x9 ≠ 0 := by omega
        have e7_ : h7 110 = h0 110 := FR.row R7 (fun _ => rfl)
        refine z_aload_n (M := M_X12_part) 77 dX12_part_77 rfl ?_
        refine z_iload_n (M := M_X12_part) 78 dX12_part_78 rfl ?_
        refine z_vV (M := M_X12_part) 79 dX12_part_79 t_X12_goFrom l_X12_397 (m_rr_of rfl) (rest := []) (c_X12_goFrom2 h7 a1 G7 ⟨by omega, by omega⟩ (NP.call hN R7 (fun _ => rfl) (fun _ => rfl) (fun _ => rfl)) (gG_f (gG_b an.2.2 R1 (fun _ => rfl)) R7 (fun _ => rfl))) o_108 rfl rfl rfl (Nat.le_of_ble_eq_true rfl) ⟨rfl, rfl⟩ (fun h8 qx10 => ?_)
        obtain ⟨G8, S8, fx10_0, fx10_1⟩ := qx10
        rw [e7_] at fx10_1
        have d_ := fx10_1 a2.toNat (by omega)
        have g2_ := fx10_0 a2.toNat (by omega)
        have R8 := R7.call S8 (by decide +kernel)
        refine z_aload_n (M := M_X12_part) 82 dX12_part_82 rfl ?_
        refine z_getR (M := M_X12_part) 83 dX12_part_83 f_X12_70 o_108 rfl (g_108_32 G8) ?_
        refine z_iload_n (M := M_X12_part) 86 dX12_part_86 rfl ?_
        refine z_zaldG (M := M_X12_part) 87 dX12_part_87 o_127 (by omega) (by omega) (g_127 G8 (by omega)) (fun x11 ex11 ax11 bx11 => ?_)
        refine z_if_ne (M := M_X12_part) 88 dX12_part_88 93 rfl (fun c12 => ?_) (fun c12 => ?_)
        · have v_ := g2_.2.2 (ex11.trans (by omega))
          have v1_ : 1 ≤ vS (h8 124) (5 * a2.toNat) 5 := v_.1.1
          have v2_ : vS (h8 124) (5 * a2.toNat) 5 ≤ 25091827216 := v_.1.2
          have v3_ : 1 ≤ vS (h8 125) (5 * a2.toNat) 5 := v_.2.1
          have v4_ : vS (h8 125) (5 * a2.toNat) 5 ≤ 25091827216 := v_.2.2
          rw [bOf_y ex11 (by omega)] at d_
          have a6_ : (5 * a2).toNat = 5 * a2.toNat := at5 (by omega)
          refine z_aload_n (M := M_X12_part) 93 dX12_part_93 rfl ?_
          refine z_getR (M := M_X12_part) 94 dX12_part_94 f_X12_61 o_108 rfl (g_108_29 G8) ?_
          refine z_iconst (M := M_X12_part) 97 dX12_part_97 ?_
          refine z_iload_n (M := M_X12_part) 98 dX12_part_98 rfl ?_
          refine z_imulN (M := M_X12_part) 99 dX12_part_99 (by omega) (by omega) ?_
          refine z_sJ (M := M_X12_part) 100 dX12_part_100 t_X12_whole l_X12_439 (m_rr_of rfl) (rest := []) (c_X12_whole124x h8 (5 * a2) G8 ⟨by omega, by omega⟩ (by omega) (by rw [a6_]; exact v2_)) rfl rfl (Nat.le_of_ble_eq_true rfl) ⟨rfl, rfl⟩ (fun x13 h9 qx13 => ?_)
          obtain ⟨G9, S9, fx13_0⟩ := qx13
          rw [a6_] at fx13_0
          have e9_ := frE S9
          have R9 := R8.call S9 (by decide +kernel)
          refine z_lstore (M := M_X12_part) 103 dX12_part_103 (ls' := [some (mR 108), some (mI a1), some (mI a2), some (mI a3), some (mJ x7), none, some (mJ x8), none, some (mJ x9), none, some (mJ x13), none, none, none, none, none]) (by decide) rfl ?_
          refine z_aload_n (M := M_X12_part) 105 dX12_part_105 rfl ?_
          refine z_getR (M := M_X12_part) 106 dX12_part_106 f_X12_64 o_108 rfl (g_108_30 G9) ?_
          refine z_iconst (M := M_X12_part) 109 dX12_part_109 ?_
          refine z_iload_n (M := M_X12_part) 110 dX12_part_110 rfl ?_
          refine z_imulN (M := M_X12_part) 111 dX12_part_111 (by omega) (by omega) ?_
          refine z_sJ (M := M_X12_part) 112 dX12_part_112 t_X12_whole l_X12_439 (m_rr_of rfl) (rest := []) (c_X12_whole125x h9 (5 * a2) G9 ⟨by omega, by omega⟩ (by omega) (by rw [a6_, e9_]; exact v4_)) rfl rfl (Nat.le_of_ble_eq_true rfl) ⟨rfl, rfl⟩ (fun x14 h10 qx14 => ?_)
          obtain ⟨G10, S10, fx14_0⟩ := qx14
          rw [a6_, e9_] at fx14_0
          rw [← fx13_0, ← fx14_0] at d_
          rw [← fx13_0] at v1_ v2_
          rw [← fx14_0] at v3_ v4_
          have R10 := R9.call S10 (by decide +kernel)
          refine z_lstore (M := M_X12_part) 115 dX12_part_115 (ls' := [some (mR 108), some (mI a1), some (mI a2), some (mI a3), some (mJ x7), none, some (mJ x8), none, some (mJ x9), none, some (mJ x13), none, some (mJ x14), none, none, none]) (by decide) rfl ?_
          refine z_lload (M := M_X12_part) 117 dX12_part_117 rfl ?_
          refine z_lload (M := M_X12_part) 119 dX12_part_119 rfl ?_
          refine z_sJ (M := M_X12_part) 121 dX12_part_121 t_X12_common l_X12_443 (m_rr_of rfl) (rest := []) (c_X12_common4 h10 x13 x14 G10 (by omega) (by omega)) rfl rfl (Nat.le_of_ble_eq_true rfl) ⟨rfl, rfl⟩ (fun x15 h11 qx15 => ?_)
          obtain ⟨G11, S11, fx15_0⟩ := qx15
          have gp2_ := gd_p (a := x13) (b := x14) (by omega)
          have R11 := R10.call S11 (by decide +kernel)
          refine z_lstore (M := M_X12_part) 124 dX12_part_124 (ls' := [some (mR 108), some (mI a1), some (mI a2), some (mI a3), some (mJ x7), none, some (mJ x8), none, some (mJ x9), none, some (mJ x13), none, some (mJ x14), none, some (mJ x15), none]) (by decide) rfl ?_
          have db := (ga_dgi G8 fx10_0 (by omega) (by omega) ex11 (by omega)).1
          have wb := v1_
          have wd : x15 ≠ 0 := by omega
          have pe_ := pt_ref (L1 := x7) (T1 := x8) (L2 := x13) (T2 := x14) (by omega) (by omega) (by omega) (by omega)
          rw [fx9_0, gd_c x14 x13, fx15_0] at pe_
          refine z_lload (M := M_X12_part) 126 dX12_part_126 rfl ?_
          refine z_lload (M := M_X12_part) 128 dX12_part_128 rfl ?_
          refine z_ldivN (M := M_X12_part) 130 dX12_part_130 (by omega) (by omega) ?_
          refine z_topJ (fun x16 ex16 => ?_)
          refine z_lload (M := M_X12_part) 131 dX12_part_131 rfl ?_
          refine z_lload (M := M_X12_part) 133 dX12_part_133 rfl ?_
          refine z_ldivN (M := M_X12_part) 135 dX12_part_135 (by omega) (by omega) ?_
          refine z_topJ (fun x17 ex17 => ?_)
          refine z_lcmp (M := M_X12_part) 136 dX12_part_136 ?_
          refine z_if_ne (M := M_X12_part) 137 dX12_part_137 154 rfl (fun c18 => ?_) (fun c18 => ?_)
          · rw [m_cmp_eq] at c18
            refine z_lconst (M := M_X12_part) 154 dX12_part_154 (v := 0) ?_
            exact z_retJ (M := M_X12_part) 155 dX12_part_155 rfl ⟨G11, R11, pt_of k_ b_ d_ (Or.inl ⟨fun z => absurd (by have y := (pe_.mp z).1; rw [ex16, ex17] at y; exact y) c18, rfl⟩)⟩
          · rw [m_cmp_eq] at c18
            refine z_lload (M := M_X12_part) 140 dX12_part_140 rfl ?_
            refine z_lload (M := M_X12_part) 142 dX12_part_142 rfl ?_
            refine z_ldivN (M := M_X12_part) 144 dX12_part_144 (by omega) (by omega) ?_
            refine z_topJ (fun x19 ex19 => ?_)
            refine z_lload (M := M_X12_part) 145 dX12_part_145 rfl ?_
            refine z_lload (M := M_X12_part) 147 dX12_part_147 rfl ?_
            refine z_ldivN (M := M_X12_part) 149 dX12_part_149 (by omega) (by omega) ?_
            refine z_topJ (fun x20 ex20 => ?_)
            refine z_lcmp (M := M_X12_part) 150 dX12_part_150 ?_
            refine z_if_eq (M := M_X12_part) 151 dX12_part_151 156 rfl (fun c21 => ?_) (fun c21 => ?_)
            · rw [m_cmp_eq] at c21
              refine z_iload_n (M := M_X12_part) 156 dX12_part_156 rfl ?_
              refine z_if_ne (M := M_X12_part) 157 dX12_part_157 168 rfl (fun c22 => ?_) (fun c22 => ?_)
              · refine z_lload (M := M_X12_part) 168 dX12_part_168 rfl ?_
                refine z_lload (M := M_X12_part) 170 dX12_part_170 rfl ?_
                refine z_ldivN (M := M_X12_part) 172 dX12_part_172 (by omega) (by omega) ?_
                refine z_topJ (fun x23 ex23 => ?_)
                exact z_retJ (M := M_X12_part) 173 dX12_part_173 rfl ⟨G11, R11, pt_of k_ b_ d_ (Or.inr ⟨(show x14 * x8 = x13 * x7 from pe_.mpr ⟨by rw [ex16, ex17]; omega, by rw [ex19, ex20]; omega⟩), Or.inr ⟨by omega, by show x13 / gd x14 x13 = _; rw [(show gd x14 x13 = x15 by rw [gd_c]; exact fx15_0), ex20, ← ex23, ex19]; omega⟩⟩)⟩
              · refine z_lload (M := M_X12_part) 160 dX12_part_160 rfl ?_
                refine z_lload (M := M_X12_part) 162 dX12_part_162 rfl ?_
                refine z_ldivN (M := M_X12_part) 164 dX12_part_164 (by omega) (by omega) ?_
                refine z_topJ (fun x24 ex24 => ?_)
                refine z_goto (M := M_X12_part) 165 dX12_part_165 173 rfl ?_
                exact z_retJ (M := M_X12_part) 173 dX12_part_173 rfl ⟨G11, R11, pt_of k_ b_ d_ (Or.inr ⟨(show x14 * x8 = x13 * x7 from pe_.mpr ⟨by rw [ex16, ex17]; omega, by rw [ex19, ex20]; omega⟩), Or.inl ⟨by omega, by show x14 / gd x14 x13 = _; rw [(show gd x14 x13 = x15 by rw [gd_c]; exact fx15_0), ex17, ← ex24, ex16]; omega⟩⟩)⟩
            · rw [m_cmp_eq] at c21
              refine z_lconst (M := M_X12_part) 154 dX12_part_154 (v := 0) ?_
              exact z_retJ (M := M_X12_part) 155 dX12_part_155 rfl ⟨G11, R11, pt_of k_ b_ d_ (Or.inl ⟨fun z => absurd (by have y := (pe_.mp z).2; rw [ex19, ex20] at y; exact y) c21, rfl⟩)⟩
        · refine z_lconst (M := M_X12_part) 91 dX12_part_91 (v := 0) ?_
          exact z_retJ (M := M_X12_part) 92 dX12_part_92 rfl ⟨G8, R8, pt_of k_ b_ (by have z := d_; rw [bOf_n ex11 (by omega)] at z; exact z) (Or.inl ⟨fun z => by have y : (1 : Int) * x8 = 0 * x7 := z; omega, rfl⟩)⟩
      · refine z_lconst (M := M_X12_part) 42 dX12_part_42 (v := 0) ?_
        exact z_retJ (M := M_X12_part) 43 dX12_part_43 rfl ⟨G4, R4, Or.inr ⟨k_, _, b_, Or.inl ⟨by rw [bOf_n ex5 (by omega)], rfl⟩⟩⟩
    · refine z_ldc2 (M := M_X12_part) 24 dX12_part_24 k_X12_437 ?_
      exact z_retJ (M := M_X12_part) 27 dX12_part_27 rfl ⟨G3, R3, Or.inl ⟨fun z => absurd (fx2_1.mpr z.2) (by omega), rfl⟩⟩
  · refine z_if_eq_T (M := M_X12_part) 12 dX12_part_12 24 rfl (by omega) ?_
    refine z_ldc2 (M := M_X12_part) 24 dX12_part_24 k_X12_437 ?_
    exact z_retJ (M := M_X12_part) 27 dX12_part_27 rfl ⟨G1, R1, Or.inl ⟨fun z => cx1 z.1, rfl⟩⟩
/-! lay, area: fractions compared quotient by quotient -/
def sg3 (u v : Int) : Int := if u < v then -1 else if u = v then 0 else 1
theorem sg3_a (k u v : Int) : sg3 (k + u) (k + v) = sg3 u v := by
  unfold sg3
  by_cases c : u < v
  · rw [if_pos c, if_pos (by omega)]
  · rw [if_neg c, if_neg (by omega)]
    by_cases d : u = v
    · rw [if_pos d, if_pos (by omega)]
    · rw [if_neg d, if_neg (by omega)]
theorem sg3_n (u v : Int) : sg3 v u = -(sg3 u v) := by
  unfold sg3
  split <;> split <;> (try split) <;> (try split) <;> omega
theorem sg3_b (u v : Int) : -1 ≤ sg3 u v ∧ sg3 u v ≤ 1 := by
  unfold sg3
  split
  · omega
  · split <;> omega
theorem cf_lt {x y z w : Int} (hy : 1 ≤ y) (hw : 1 ≤ w) (h : x / y < z / w) : x * w < z * y := by
  have h1 := Int.lt_mul_ediv_self_add (x := x) (k := y) (by omega)
  have h2 := Int.mul_ediv_self_le (x := z) (k := w) (by omega)
  have m1 := Int.mul_le_mul_of_nonneg_left (show x / y + 1 ≤ z / w by omega) (show 0 ≤ y by omega)
  rw [Int.mul_add, Int.mul_one] at m1
  have m2 := Int.mul_le_mul_of_nonneg_right (show x + 1 ≤ y * (z / w) by omega) (show 0 ≤ w by omega)
  rw [Int.add_mul, Int.one_mul] at m2
  have m3 := Int.mul_le_mul_of_nonneg_left h2 (show 0 ≤ y by omega)
  have k : y * (z / w) * w = y * (w * (z / w)) := by ac_rfl
  rw [k] at m2
  rw [Int.mul_comm z y]
  omega
theorem cf_q {x y z w : Int} (hy : 1 ≤ y) (hw : 1 ≤ w) (h : x / y ≠ z / w) : sg3 (x * w) (z * y) = sg3 (x / y) (z / w) := by
  unfold sg3
  rcases Int.lt_trichotomy (x / y) (z / w) with g | g | g
  · rw [if_pos g, if_pos (cf_lt hy hw g)]
  · exact absurd g h
  · have a := cf_lt hw hy g
    rw [if_neg (by omega), if_neg (by omega), if_neg (by omega), if_neg (by omega)]
theorem cf_r {x y z w : Int} (h : x / y = z / w) : sg3 (x * w) (z * y) = sg3 (x % y * w) (z % w * y) := by
  have e1 := Int.mul_ediv_add_emod x y
  have e2 := Int.mul_ediv_add_emod z w
  have k1 : x * w = y * w * (z / w) + x % y * w := by
    conv => lhs; rw [← e1, Int.add_mul, h]
    rw [Int.mul_right_comm]
  have k2 : z * y = y * w * (z / w) + z % w * y := by
    conv => lhs; rw [← e2, Int.add_mul]
    congr 1
    ac_rfl
  rw [k1, k2, sg3_a]
theorem cf_0 {a b y w : Int} (hy : 1 ≤ y) (hw : 1 ≤ w) (ha : 0 ≤ a) (hb : 0 ≤ b) (h : a = 0 ∨ b = 0) : sg3 (a * w) (b * y) = sg3 a b := by
  rcases h with h | h
  · subst h
    rw [Int.zero_mul]
    by_cases g : b = 0
    · subst g; rw [Int.zero_mul]
    · have m := Int.mul_pos (show 0 < b by omega) (show 0 < y by omega)
      unfold sg3
      rw [if_pos m, if_pos (by omega)]
  · subst h
    rw [Int.zero_mul]
    by_cases g : a = 0
    · subst g; rw [Int.zero_mul]
    · have m := Int.mul_pos (show 0 < a by omega) (show 0 < w by omega)
      unfold sg3
      rw [if_neg (by omega), if_neg (by omega), if_neg (by omega), if_neg (by omega)]
def cfI (a b c d x y z w s i : Int) : Prop := ((0 ≤ x ∧ 1 ≤ y) ∧ 0 ≤ z ∧ 1 ≤ w) ∧ ((s = 1 ∨ s = -1) ∧ s * sg3 (x * w) (z * y) = sg3 (a * d) (c * b)) ∧ ((i = 0 ∧ x ≤ 4611686018427387904 ∧ y ≤ 4611686018427387904) ∨ (1 ≤ i ∧ y ≤ x ∧ x * y * (2 : Int) ^ (i - 1).toNat ≤ 21267647932558653966460912964485513216))
theorem cfI_x {a b c d x y z w s i : Int} (I : cfI a b c d x y z w s i) (h : 200 ≤ i) : False := by
  obtain ⟨⟨⟨x0, y0⟩, _⟩, _, c⟩ := I
  rcases c with ⟨q, _⟩ | ⟨_, yx, p⟩
  · omega
  · have m := Int.mul_le_mul (show 1 ≤ x by omega) y0 (by decide) x0
    have p2 : (0 : Int) ≤ (2 : Int) ^ (i - 1).toNat := Int.le_of_lt (Int.pow_pos (by decide))
    have m2 := Int.mul_le_mul_of_nonneg_right m p2
    have k : (i - 1).toNat = 199 + (i - 200).toNat := by omega
    have m3 : (1 : Int) ≤ (2 : Int) ^ (i - 200).toNat := by have := Int.pow_pos (n := 2) (m := (i - 200).toNat) (by decide); omega
    have m4 := Int.mul_le_mul_of_nonneg_left m3 (show (0 : Int) ≤ (2 : Int) ^ 199 by decide)
    rw [k, Int.pow_add] at m2 p
    have k2 : (21267647932558653966460912964485513216 : Int) < (2 : Int) ^ 199 := by decide
    omega
theorem cf_w {s y : Int} (hs : s = 1 ∨ s = -1) (h : -1 ≤ y ∧ y ≤ 1) : m_w (s * y) = s * y := by
  rcases hs with e | e <;> subst e
  · rw [Int.one_mul]; exact m_w_id (by omega) (by omega)
  · rw [Int.neg_mul, Int.one_mul]; exact m_w_id (by omega) (by omega)
theorem cfI_q {a b c d x y z w s i q1 q2 o v : Int} (I : cfI a b c d x y z w s i) (e1 : x / y = q1) (e2 : z / w = q2) (eo : o = sg3 q1 q2) (n : ¬ o = 0) (ev : m_w (s * o) = v) : v = sg3 (a * d) (c * b) := by
  obtain ⟨⟨⟨x0, y0⟩, z0, w0⟩, ⟨hs, h⟩, _⟩ := I
  have ne : x / y ≠ z / w := fun g => n (by rw [eo, ← e1, ← e2, g]; unfold sg3; rw [if_neg (by omega), if_pos rfl])
  rw [← ev, cf_w hs (by rw [eo]; exact sg3_b _ _), ← h, cf_q y0 w0 ne, e1, e2, eo]
theorem cf_eq {q1 q2 o : Int} (eo : o = sg3 q1 q2) (z : o = 0) : q1 = q2 := by
  rw [z] at eo
  unfold sg3 at eo
  by_cases c : q1 < q2
  · rw [if_pos c] at eo; omega
  · rw [if_neg c] at eo
    by_cases d : q1 = q2
    · exact d
    · rw [if_neg d] at eo; omega
theorem cfI_0 {a b c d x y z w s i q1 q2 o r1 r2 u v : Int} (I : cfI a b c d x y z w s i) (e1 : x / y = q1) (e2 : z / w = q2) (eo : o = sg3 q1 q2) (n : o = 0) (f1 : x % y = r1) (f2 : z % w = r2) (g : r1 = 0 ∨ r2 = 0) (eu : u = sg3 r1 r2) (ev : m_w (s * u) = v) : v = sg3 (a * d) (c * b) := by
  obtain ⟨⟨⟨x0, y0⟩, z0, w0⟩, ⟨hs, h⟩, _⟩ := I
  have eq := cf_eq eo n
  have p1 := Int.emod_nonneg x (show y ≠ 0 by omega)
  have p2 := Int.emod_nonneg z (show w ≠ 0 by omega)
  rw [← ev, cf_w hs (by rw [eu]; exact sg3_b _ _), ← h, cf_r (by rw [e1, e2, eq]), f1, f2, cf_0 y0 w0 (by omega) (by omega) g, eu]
theorem cfI_s {a b c d x y z w s i q1 q2 o r1 r2 : Int} (I : cfI a b c d x y z w s i) (hi : 0 ≤ i) (e1 : x / y = q1) (e2 : z / w = q2) (eo : o = sg3 q1 q2) (n : o = 0) (f1 : x % y = r1) (f2 : z % w = r2) (g1 : ¬ r1 = 0) (g2 : ¬ r2 = 0) : cfI a b c d y r1 w r2 (-s) (i + 1) := by
  obtain ⟨⟨⟨x0, y0⟩, z0, w0⟩, ⟨hs, h⟩, k⟩ := I
  have eq := cf_eq eo n
  have p1 := Int.emod_nonneg x (show y ≠ 0 by omega)
  have p2 := Int.emod_nonneg z (show w ≠ 0 by omega)
  have l1 := Int.emod_lt_of_pos x (show 0 < y by omega)
  rw [f1] at p1 l1
  rw [f2] at p2
  refine ⟨⟨⟨by omega, by omega⟩, by omega, by omega⟩, ⟨by omega, ?_⟩, Or.inr ⟨by omega, by omega, ?_⟩⟩
  · rw [← h, cf_r (x := x) (y := y) (z := z) (w := w) (by rw [e1, e2, eq]), f1, f2, Int.mul_comm y r2, Int.mul_comm w r1, sg3_n]
    rw [Int.neg_mul_neg]
  · rw [show i + 1 - 1 = i by omega]
    rcases k with ⟨i0, xw, yw⟩ | ⟨i1, yx, p⟩
    · subst i0
      have m := mul_bd (X := 4611686018427387904) (Y := 4611686018427387904) (show 0 ≤ y by omega) yw p1 (show r1 ≤ 4611686018427387904 by omega)
      show y * r1 * (2 : Int) ^ 0 ≤ _
      rw [Int.pow_zero, Int.mul_one]
      omega
    · have hr : 2 * r1 ≤ x := by
        have d := Int.emod_def x y
        rw [f1] at d
        have q : 1 ≤ x / y := Int.le_ediv_of_mul_le (by omega) (by omega)
        have m := Int.mul_le_mul_of_nonneg_left q (show 0 ≤ y by omega)
        omega
      have m := Int.mul_le_mul_of_nonneg_left hr (show 0 ≤ y by omega)
      have k : i.toNat = (i - 1).toNat + 1 := by omega
      rw [k, Int.pow_succ]
      have pp : (0 : Int) ≤ (2 : Int) ^ (i - 1).toNat := Int.le_of_lt (Int.pow_pos (by decide))
      have m2 := Int.mul_le_mul_of_nonneg_right m pp
      have k1 : y * r1 * ((2 : Int) ^ (i - 1).toNat * 2) = y * (2 * r1) * (2 : Int) ^ (i - 1).toNat := by ac_rfl
      rw [k1]
      rw [Int.mul_comm y x] at m2
      omega
abbrev P_J13_compare2 (h0 : m_H) (a0 a1 : Int) : Int → m_H → Prop := fun x h' => GI h' ∧ FR [] [] h0 h' ∧ (-1) ≤ x ∧ x ≤ 1 ∧ x = sg3 a0 a1
set_option maxHeartbeats 4000000 in
set_option maxRecDepth 100000 in
theorem c_J13_compare2 (h0 : m_H) (a0 a1 : Int) (G0 : GI h0) : m_CI M_J13_compare_74951 [mJ a0, mJ a1] h0 (P_J13_compare2 h0 a0 a1) := by
  refine m_CI_of ⟨by decide, rfl, by simp [m_arg, m_isL, M_J13_compare_74951], ⟨rfl, rfl⟩, rfl, rfl⟩ (ls := [some (mJ a0), none, some (mJ a1), none]) rfl ?_
  refine z_lload_n (M := M_J13_compare_74951) 0 dJ13_compare_74951_0 rfl ?_
  refine z_lload_n (M := M_J13_compare_74951) 1 dJ13_compare_74951_1 rfl ?_
  refine z_lcmp (M := M_J13_compare_74951) 2 dJ13_compare_74951_2 ?_
  refine z_if_ge (M := M_J13_compare_74951) 3 dJ13_compare_74951_3 10 rfl (fun c1 => ?_) (fun c1 => ?_)
  · rw [m_cmp_ge] at c1
    refine z_lload_n (M := M_J13_compare_74951) 10 dJ13_compare_74951_10 rfl ?_
    refine z_lload_n (M := M_J13_compare_74951) 11 dJ13_compare_74951_11 rfl ?_
    refine z_lcmp (M := M_J13_compare_74951) 12 dJ13_compare_74951_12 ?_
    refine z_if_ne (M := M_J13_compare_74951) 13 dJ13_compare_74951_13 20 rfl (fun c2 => ?_) (fun c2 => ?_)
    · rw [m_cmp_eq] at c2
      refine z_iconst (M := M_J13_compare_74951) 20 dJ13_compare_74951_20 ?_
      exact z_retI (M := M_J13_compare_74951) 21 dJ13_compare_74951_21 rfl ⟨G0, (FR.rf (cs := []) (ss := []) (h := h0)), by omega, by omega, (by unfold sg3; rw [if_neg (by omega), if_neg (by omega)])⟩
    · rw [m_cmp_eq] at c2
      refine z_iconst (M := M_J13_compare_74951) 16 dJ13_compare_74951_16 ?_
      refine z_goto (M := M_J13_compare_74951) 17 dJ13_compare_74951_17 21 rfl ?_
      exact z_retI (M := M_J13_compare_74951) 21 dJ13_compare_74951_21 rfl ⟨G0, (FR.rf (cs := []) (ss := []) (h := h0)), by omega, by omega, (by unfold sg3; rw [if_neg (by omega), if_pos (by omega)])⟩
  · rw [m_cmp_ge] at c1
    refine z_iconst (M := M_J13_compare_74951) 6 dJ13_compare_74951_6 ?_
    refine z_goto (M := M_J13_compare_74951) 7 dJ13_compare_74951_7 21 rfl ?_
    exact z_retI (M := M_J13_compare_74951) 21 dJ13_compare_74951_21 rfl ⟨G0, (FR.rf (cs := []) (ss := []) (h := h0)), by omega, by omega, (by unfold sg3; rw [if_pos (by omega)])⟩
abbrev P_X11_compareFractions2 (h0 : m_H) (a0 a1 a2 a3 : Int) : Int → m_H → Prop := fun x h' => GI h' ∧ FR [] [] h0 h' ∧ x = sg3 (a0 * a3) (a2 * a1)
def q_X11_compareFractions2 (h0 : m_H) (a0 a1 a2 a3 : Int) (n : Nat) : Prop := (∀ (l8 l10 l12 l14 l16 l17 : Int) (h : m_H), GI h → FR [] [] h0 h → (-1) ≤ l16 → l16 ≤ 1 → 0 ≤ l17 → l17 ≤ 200 → (cfI a0 a1 a2 a3 l8 l10 l12 l14 l16 l17) → 2 * (200 - l17) + (1) ≤ (n : Int) → m_Z oF M_X11_compareFractions 20 [none, none, none, none, none, none, none, none, some (mJ l8), none, some (mJ l10), none, some (mJ l12), none, some (mJ l14), none, some (mI l16), some (mI l17), none, none, none, none, none] [] h (m_QI (P_X11_compareFractions2 h0 a0 a1 a2 a3)))
set_option maxHeartbeats 4000000 in
set_option maxRecDepth 100000 in
theorem s_X11_compareFractions2_20 (h0 : m_H) (a0 a1 a2 a3 : Int) (G0 : GI h0) (p0 : 0 ≤ a0 ∧ a0 ≤ 4611686018427387904) (p1 : 1 ≤ a1 ∧ a1 ≤ 4611686018427387904) (p2 : 0 ≤ a2) (p3 : 1 ≤ a3) (n : Nat) (ih : q_X11_compareFractions2 h0 a0 a1 a2 a3 n) : ∀ (l8 l10 l12 l14 l16 l17 : Int) (h : m_H), GI h → FR [] [] h0 h → (-1) ≤ l16 → l16 ≤ 1 → 0 ≤ l17 → l17 ≤ 200 → (cfI a0 a1 a2 a3 l8 l10 l12 l14 l16 l17) → 2 * (200 - l17) + (1) ≤ ((n + 1 : Nat) : Int) → m_Z oF M_X11_compareFractions 20 [none, none, none, none, none, none, none, none, some (mJ l8), none, some (mJ l10), none, some (mJ l12), none, some (mJ l14), none, some (mI l16), some (mI l17), none, none, none, none, none] [] h (m_QI (P_X11_compareFractions2 h0 a0 a1 a2 a3)) := by
  intro l8 l10 l12 l14 l16 l17 h G R v0 v1 v2 v3 i1 hr
  have i2 := i1.1
  refine z_iload (M := M_X11_compareFractions) 20 dX11_compareFractions_20 rfl ?_
  refine z_sipush (M := M_X11_compareFractions) 22 dX11_compareFractions_22 ?_
  refine z_icmp_ge (M := M_X11_compareFractions) 25 dX11_compareFractions_25 134 rfl (fun c1 => ?_) (fun c1 => ?_)
  · refine z_iconst (M := M_X11_compareFractions) 134 dX11_compareFractions_134 ?_
    exact z_retI (M := M_X11_compareFractions) 135 dX11_compareFractions_135 rfl ⟨G, R, (cfI_x i1 (by omega)).elim⟩
  · refine z_lload (M := M_X11_compareFractions) 28 dX11_compareFractions_28 rfl ?_
    refine z_lconst (M := M_X11_compareFractions) 30 dX11_compareFractions_30 (v := 0) ?_
    refine z_lcmp (M := M_X11_compareFractions) 31 dX11_compareFractions_31 ?_
    refine z_if_le (M := M_X11_compareFractions) 32 dX11_compareFractions_32 134 rfl (fun c2 => ?_) (fun c2 => ?_)
    · rw [m_cmp_le] at c2
      refine z_iconst (M := M_X11_compareFractions) 134 dX11_compareFractions_134 ?_
      exact z_retI (M := M_X11_compareFractions) 135 dX11_compareFractions_135 rfl ⟨G, R, absurd i1.1.1.2 (by omega)⟩
    · rw [m_cmp_le] at c2
      refine z_lload (M := M_X11_compareFractions) 35 dX11_compareFractions_35 rfl ?_
      refine z_lconst (M := M_X11_compareFractions) 37 dX11_compareFractions_37 (v := 0) ?_
      refine z_lcmp (M := M_X11_compareFractions) 38 dX11_compareFractions_38 ?_
      refine z_if_le (M := M_X11_compareFractions) 39 dX11_compareFractions_39 134 rfl (fun c3 => ?_) (fun c3 => ?_)
      · rw [m_cmp_le] at c3
        refine z_iconst (M := M_X11_compareFractions) 134 dX11_compareFractions_134 ?_
        exact z_retI (M := M_X11_compareFractions) 135 dX11_compareFractions_135 rfl ⟨G, R, absurd i1.1.2.2 (by omega)⟩
      · rw [m_cmp_le] at c3
        refine z_lload (M := M_X11_compareFractions) 42 dX11_compareFractions_42 rfl ?_
        refine z_lload (M := M_X11_compareFractions) 44 dX11_compareFractions_44 rfl ?_
        refine z_ldivN (M := M_X11_compareFractions) 46 dX11_compareFractions_46 (by omega) (by omega) ?_
        refine z_topJ (fun x4 ex4 => ?_)
        refine z_lload (M := M_X11_compareFractions) 47 dX11_compareFractions_47 rfl ?_
        refine z_lload (M := M_X11_compareFractions) 49 dX11_compareFractions_49 rfl ?_
        refine z_ldivN (M := M_X11_compareFractions) 51 dX11_compareFractions_51 (by omega) (by omega) ?_
        refine z_topJ (fun x5 ex5 => ?_)
        refine z_sI (M := M_X11_compareFractions) 52 dX11_compareFractions_52 t_J13_compare_74951 l_X11_443 (m_rr_of rfl) (rest := []) (c_J13_compare2 h x4 x5 G) rfl rfl (Nat.le_of_ble_eq_true rfl) ⟨rfl, rfl⟩ (fun x6 h1 qx6 => ?_)
        obtain ⟨G1, S1, ax6, bx6, fx6⟩ := qx6
        have R1 := R.call S1 (by decide +kernel)
        refine z_istore (M := M_X11_compareFractions) 55 dX11_compareFractions_55 (ls' := [none, none, none, none, none, none, none, none, some (mJ l8), none, some (mJ l10), none, some (mJ l12), none, some (mJ l14), none, some (mI l16), some (mI l17), some (mI x6), none, none, none, none]) (by decide) rfl ?_
        refine z_lload (M := M_X11_compareFractions) 57 dX11_compareFractions_57 rfl ?_
        refine z_lload (M := M_X11_compareFractions) 59 dX11_compareFractions_59 rfl ?_
        refine z_lremN (M := M_X11_compareFractions) 61 dX11_compareFractions_61 (by omega) (by omega) ?_
        refine z_topJ (fun x7 ex7 => ?_)
        refine z_lstore (M := M_X11_compareFractions) 62 dX11_compareFractions_62 (ls' := [none, none, none, none, none, none, none, none, some (mJ l8), none, some (mJ l10), none, some (mJ l12), none, some (mJ l14), none, some (mI l16), some (mI l17), some (mI x6), some (mJ x7), none, none, none]) (by decide) rfl ?_
        refine z_lload (M := M_X11_compareFractions) 64 dX11_compareFractions_64 rfl ?_
        refine z_lload (M := M_X11_compareFractions) 66 dX11_compareFractions_66 rfl ?_
        refine z_lremN (M := M_X11_compareFractions) 68 dX11_compareFractions_68 (by omega) (by omega) ?_
        refine z_topJ (fun x8 ex8 => ?_)
        refine z_lstore (M := M_X11_compareFractions) 69 dX11_compareFractions_69 (ls' := [none, none, none, none, none, none, none, none, some (mJ l8), none, some (mJ l10), none, some (mJ l12), none, some (mJ l14), none, some (mI l16), some (mI l17), some (mI x6), some (mJ x7), none, some (mJ x8), none]) (by decide) rfl ?_
        refine z_iload (M := M_X11_compareFractions) 71 dX11_compareFractions_71 rfl ?_
        refine z_if_eq (M := M_X11_compareFractions) 73 dX11_compareFractions_73 82 rfl (fun c9 => ?_) (fun c9 => ?_)
        · refine z_lload (M := M_X11_compareFractions) 82 dX11_compareFractions_82 rfl ?_
          refine z_lconst (M := M_X11_compareFractions) 84 dX11_compareFractions_84 (v := 0) ?_
          refine z_lcmp (M := M_X11_compareFractions) 85 dX11_compareFractions_85 ?_
          refine z_if_eq (M := M_X11_compareFractions) 86 dX11_compareFractions_86 96 rfl (fun c10 => ?_) (fun c10 => ?_)
          · rw [m_cmp_eq] at c10
            refine z_iload (M := M_X11_compareFractions) 96 dX11_compareFractions_96 rfl ?_
            refine z_lload (M := M_X11_compareFractions) 98 dX11_compareFractions_98 rfl ?_
            refine z_lload (M := M_X11_compareFractions) 100 dX11_compareFractions_100 rfl ?_
            refine z_sI (M := M_X11_compareFractions) 102 dX11_compareFractions_102 t_J13_compare_74951 l_X11_443 (m_rr_of rfl) (rest := [mI l16]) (c_J13_compare2 h1 x7 x8 G1) rfl rfl (Nat.le_of_ble_eq_true rfl) ⟨rfl, rfl⟩ (fun x11 h2 qx11 => ?_)
            obtain ⟨G2, S2, ax11, bx11, fx11⟩ := qx11
            have R2 := R1.call S2 (by decide +kernel)
            refine z_imul (M := M_X11_compareFractions) 105 dX11_compareFractions_105 ?_
            refine z_topm (fun x12 ex12 ox12 => ?_)
            unfold m_32 at ox12
            exact z_retI (M := M_X11_compareFractions) 106 dX11_compareFractions_106 rfl ⟨G2, R2, cfI_0 i1 ex4 ex5 fx6 c9 ex7 ex8 (Or.inl c10) fx11 ex12⟩
          · rw [m_cmp_eq] at c10
            refine z_lload (M := M_X11_compareFractions) 89 dX11_compareFractions_89 rfl ?_
            refine z_lconst (M := M_X11_compareFractions) 91 dX11_compareFractions_91 (v := 0) ?_
            refine z_lcmp (M := M_X11_compareFractions) 92 dX11_compareFractions_92 ?_
            refine z_if_ne (M := M_X11_compareFractions) 93 dX11_compareFractions_93 107 rfl (fun c13 => ?_) (fun c13 => ?_)
            · rw [m_cmp_eq] at c13
              refine z_lload (M := M_X11_compareFractions) 107 dX11_compareFractions_107 rfl ?_
              refine z_lstore (M := M_X11_compareFractions) 109 dX11_compareFractions_109 (ls' := [none, none, none, none, none, none, none, none, some (mJ l10), none, some (mJ l10), none, some (mJ l12), none, some (mJ l14), none, some (mI l16), some (mI l17), some (mI x6), some (mJ x7), none, some (mJ x8), none]) (by decide) rfl ?_
              refine z_lload (M := M_X11_compareFractions) 111 dX11_compareFractions_111 rfl ?_
              refine z_lstore (M := M_X11_compareFractions) 113 dX11_compareFractions_113 (ls' := [none, none, none, none, none, none, none, none, some (mJ l10), none, some (mJ l10), none, some (mJ l14), none, some (mJ l14), none, some (mI l16), some (mI l17), some (mI x6), some (mJ x7), none, some (mJ x8), none]) (by decide) rfl ?_
              refine z_lload (M := M_X11_compareFractions) 115 dX11_compareFractions_115 rfl ?_
              refine z_lstore (M := M_X11_compareFractions) 117 dX11_compareFractions_117 (ls' := [none, none, none, none, none, none, none, none, some (mJ l10), none, some (mJ x7), none, some (mJ l14), none, some (mJ l14), none, some (mI l16), some (mI l17), some (mI x6), some (mJ x7), none, some (mJ x8), none]) (by decide) rfl ?_
              refine z_lload (M := M_X11_compareFractions) 119 dX11_compareFractions_119 rfl ?_
              refine z_lstore (M := M_X11_compareFractions) 121 dX11_compareFractions_121 (ls' := [none, none, none, none, none, none, none, none, some (mJ l10), none, some (mJ x7), none, some (mJ l14), none, some (mJ x8), none, some (mI l16), some (mI l17), some (mI x6), some (mJ x7), none, some (mJ x8), none]) (by decide) rfl ?_
              refine z_iload (M := M_X11_compareFractions) 123 dX11_compareFractions_123 rfl ?_
              refine z_inegN (M := M_X11_compareFractions) 125 dX11_compareFractions_125 (by omega) (by omega) ?_
              refine z_istore (M := M_X11_compareFractions) 126 dX11_compareFractions_126 (ls' := [none, none, none, none, none, none, none, none, some (mJ l10), none, some (mJ x7), none, some (mJ l14), none, some (mJ x8), none, some (mI (-l16)), some (mI l17), some (mI x6), some (mJ x7), none, some (mJ x8), none]) (by decide) rfl ?_
              refine z_iincN (M := M_X11_compareFractions) 128 dX11_compareFractions_128 (ls' := [none, none, none, none, none, none, none, none, some (mJ l10), none, some (mJ x7), none, some (mJ l14), none, some (mJ x8), none, some (mI (-l16)), some (mI (l17 + 1)), some (mI x6), some (mJ x7), none, some (mJ x8), none]) (by decide) rfl (by (unfold m_32; decide)) (by omega) (by omega) rfl ?_
              refine z_goto (M := M_X11_compareFractions) 131 dX11_compareFractions_131 20 rfl ?_
              exact z_mask [false, false, false, false, false, false, false, false, true, false, true, false, true, false, true, false, true, true, false, false, false, false, false] rfl (ih l10 x7 l14 x8 (-l16) (l17 + 1) h1 G1 R1 (by omega) (by omega) (by omega) (by omega) (cfI_s i1 (by omega) ex4 ex5 fx6 c9 ex7 ex8 c10 c13) (by omega))
            · rw [m_cmp_eq] at c13
              refine z_iload (M := M_X11_compareFractions) 96 dX11_compareFractions_96 rfl ?_
              refine z_lload (M := M_X11_compareFractions) 98 dX11_compareFractions_98 rfl ?_
              refine z_lload (M := M_X11_compareFractions) 100 dX11_compareFractions_100 rfl ?_
              refine z_sI (M := M_X11_compareFractions) 102 dX11_compareFractions_102 t_J13_compare_74951 l_X11_443 (m_rr_of rfl) (rest := [mI l16]) (c_J13_compare2 h1 x7 x8 G1) rfl rfl (Nat.le_of_ble_eq_true rfl) ⟨rfl, rfl⟩ (fun x14 h3 qx14 => ?_)
              obtain ⟨G3, S3, ax14, bx14, fx14⟩ := qx14
              have R3 := R1.call S3 (by decide +kernel)
              refine z_imul (M := M_X11_compareFractions) 105 dX11_compareFractions_105 ?_
              refine z_topm (fun x15 ex15 ox15 => ?_)
              unfold m_32 at ox15
              exact z_retI (M := M_X11_compareFractions) 106 dX11_compareFractions_106 rfl ⟨G3, R3, cfI_0 i1 ex4 ex5 fx6 c9 ex7 ex8 (Or.inr c13) fx14 ex15⟩
        · refine z_iload (M := M_X11_compareFractions) 76 dX11_compareFractions_76 rfl ?_
          refine z_iload (M := M_X11_compareFractions) 78 dX11_compareFractions_78 rfl ?_
          refine z_imul (M := M_X11_compareFractions) 80 dX11_compareFractions_80 ?_
          refine z_topm (fun x16 ex16 ox16 => ?_)
          unfold m_32 at ox16
          exact z_retI (M := M_X11_compareFractions) 81 dX11_compareFractions_81 rfl ⟨G1, R1, cfI_q i1 ex4 ex5 fx6 c9 ex16⟩
theorem a_X11_compareFractions2 (h0 : m_H) (a0 a1 a2 a3 : Int) (G0 : GI h0) (p0 : 0 ≤ a0 ∧ a0 ≤ 4611686018427387904) (p1 : 1 ≤ a1 ∧ a1 ≤ 4611686018427387904) (p2 : 0 ≤ a2) (p3 : 1 ≤ a3) : ∀ n, q_X11_compareFractions2 h0 a0 a1 a2 a3 n := by
  intro n
  induction n with
  | zero => unfold q_X11_compareFractions2; intros; omega
  | succ n ih => exact s_X11_compareFractions2_20 h0 a0 a1 a2 a3 G0 p0 p1 p2 p3 n ih
set_option maxHeartbeats 4000000 in
set_option maxRecDepth 100000 in
theorem c_X11_compareFractions2 (h0 : m_H) (a0 a1 a2 a3 : Int) (G0 : GI h0) (p0 : 0 ≤ a0 ∧ a0 ≤ 4611686018427387904) (p1 : 1 ≤ a1 ∧ a1 ≤ 4611686018427387904) (p2 : 0 ≤ a2) (p3 : 1 ≤ a3) : m_CI M_X11_compareFractions [mJ a0, mJ a1, mJ a2, mJ a3] h0 (P_X11_compareFractions2 h0 a0 a1 a2 a3) := by
  refine m_CI_of ⟨by decide, rfl, by simp [m_arg, m_isL, M_X11_compareFractions], ⟨rfl, rfl⟩, rfl, rfl⟩ (ls := [some (mJ a0), none, some (mJ a1), none, some (mJ a2), none, some (mJ a3), none, none, none, none, none, none, none, none, none, none, none, none, none, none, none, none]) rfl ?_
  have ih := a_X11_compareFractions2 h0 a0 a1 a2 a3 G0 p0 p1 p2 p3 408
  refine z_lload_n (M := M_X11_compareFractions) 0 dX11_compareFractions_0 rfl ?_
  refine z_lstore (M := M_X11_compareFractions) 1 dX11_compareFractions_1 (ls' := [some (mJ a0), none, some (mJ a1), none, some (mJ a2), none, some (mJ a3), none, some (mJ a0), none, none, none, none, none, none, none, none, none, none, none, none, none, none]) (by decide) rfl ?_
  refine z_lload_n (M := M_X11_compareFractions) 3 dX11_compareFractions_3 rfl ?_
  refine z_lstore (M := M_X11_compareFractions) 4 dX11_compareFractions_4 (ls' := [some (mJ a0), none, some (mJ a1), none, some (mJ a2), none, some (mJ a3), none, some (mJ a0), none, some (mJ a1), none, none, none, none, none, none, none, none, none, none, none, none]) (by decide) rfl ?_
  refine z_lload (M := M_X11_compareFractions) 6 dX11_compareFractions_6 rfl ?_
  refine z_lstore (M := M_X11_compareFractions) 8 dX11_compareFractions_8 (ls' := [some (mJ a0), none, some (mJ a1), none, some (mJ a2), none, some (mJ a3), none, some (mJ a0), none, some (mJ a1), none, some (mJ a2), none, none, none, none, none, none, none, none, none, none]) (by decide) rfl ?_
  refine z_lload (M := M_X11_compareFractions) 10 dX11_compareFractions_10 rfl ?_
  refine z_lstore (M := M_X11_compareFractions) 12 dX11_compareFractions_12 (ls' := [some (mJ a0), none, some (mJ a1), none, some (mJ a2), none, some (mJ a3), none, some (mJ a0), none, some (mJ a1), none, some (mJ a2), none, some (mJ a3), none, none, none, none, none, none, none, none]) (by decide) rfl ?_
  refine z_iconst (M := M_X11_compareFractions) 14 dX11_compareFractions_14 ?_
  refine z_istore (M := M_X11_compareFractions) 15 dX11_compareFractions_15 (ls' := [some (mJ a0), none, some (mJ a1), none, some (mJ a2), none, some (mJ a3), none, some (mJ a0), none, some (mJ a1), none, some (mJ a2), none, some (mJ a3), none, some (mI 1), none, none, none, none, none, none]) (by decide) rfl ?_
  refine z_iconst (M := M_X11_compareFractions) 17 dX11_compareFractions_17 ?_
  refine z_istore (M := M_X11_compareFractions) 18 dX11_compareFractions_18 (ls' := [some (mJ a0), none, some (mJ a1), none, some (mJ a2), none, some (mJ a3), none, some (mJ a0), none, some (mJ a1), none, some (mJ a2), none, some (mJ a3), none, some (mI 1), some (mI 0), none, none, none, none, none]) (by decide) rfl ?_
  exact z_mask [false, false, false, false, false, false, false, false, true, false, true, false, true, false, true, false, true, true, false, false, false, false, false] rfl (ih a0 a1 a2 a3 1 0 h0 G0 (FR.rf (cs := []) (ss := []) (h := h0)) (by omega) (by omega) (by omega) (by omega) ⟨⟨⟨by omega, by omega⟩, by omega, by omega⟩, ⟨Or.inl rfl, Int.one_mul _⟩, Or.inl ⟨rfl, by omega, by omega⟩⟩ (by omega))
abbrev P_X11_remainder2 (h0 : m_H) (a0 a1 : Int) : Int → m_H → Prop := fun x h' => GI h' ∧ FR [] [] h0 h' ∧ a0 % a1 = x
set_option maxHeartbeats 4000000 in
set_option maxRecDepth 100000 in
theorem c_X11_remainder2 (h0 : m_H) (a0 a1 : Int) (G0 : GI h0) (q0 : 0 ≤ a0) (q1 : 0 < a1) : m_CJ M_X11_remainder [mJ a0, mJ a1] h0 (P_X11_remainder2 h0 a0 a1) := by
  refine m_CJ_of ⟨by decide, rfl, by simp [m_arg, m_isL, M_X11_remainder], ⟨rfl, rfl⟩, rfl, rfl⟩ (ls := [some (mJ a0), none, some (mJ a1), none]) rfl ?_
  refine z_lload_n (M := M_X11_remainder) 0 dX11_remainder_0 rfl ?_
  refine z_lconst (M := M_X11_remainder) 1 dX11_remainder_1 (v := 0) ?_
  refine z_lcmp (M := M_X11_remainder) 2 dX11_remainder_2 ?_
  refine z_if_ne (M := M_X11_remainder) 3 dX11_remainder_3 10 rfl (fun c1 => ?_) (fun c1 => ?_)
  · rw [m_cmp_eq] at c1
    refine z_lload_n (M := M_X11_remainder) 10 dX11_remainder_10 rfl ?_
    refine z_lload_n (M := M_X11_remainder) 11 dX11_remainder_11 rfl ?_
    refine z_lremN (M := M_X11_remainder) 12 dX11_remainder_12 q0 (by omega) ?_
    refine z_topJ (fun x2 ex2 => ?_)
    exact z_retJ (M := M_X11_remainder) 13 dX11_remainder_13 rfl ⟨G0, (FR.rf (cs := []) (ss := []) (h := h0)), ex2⟩
  · rw [m_cmp_eq] at c1
    refine z_lconst (M := M_X11_remainder) 6 dX11_remainder_6 (v := 0) ?_
    refine z_goto (M := M_X11_remainder) 7 dX11_remainder_7 13 rfl ?_
    exact z_retJ (M := M_X11_remainder) 13 dX11_remainder_13 rfl ⟨G0, (FR.rf (cs := []) (ss := []) (h := h0)), absurd c1 (by omega)⟩
/-! the total -/
def toT (h : m_H) (k : Int) (P Q : Nat → Int) (o : Int) : Prop := h 96 2 = k ∧ (∀ j : Nat, j < 3 → h 97 j = P j ∧ h 98 j = Q j) ∧ h 96 3 = o
def toU (P : Nat → Int) (k a : Int) : Nat → Int := fun j => if j = k.toNat then a else P j
def toO (o a : Int) : Int := if o ≠ 0 then 1 else if a = 0 then 0 else 1
def adQ (a b c : Int) (h0 h' : m_H) : Prop := (b = 0 ∧ h' 96 4 = 1) ∨ (b ≠ 0 ∧ h' 96 4 = h0 96 4 ∧ ∀ (k : Int) (P Q : Nat → Int) (o : Int), toT h0 k P Q o → 0 ≤ k → k ≤ 2 → toT h' (k + 1) (toU P k a) (toU Q k b) (toO o c))
theorem ad_ok {h0 h1 h2 h3 h4 : m_H} {a b c x v : Int} (E1 : h1 = m_up h0 97 x.toNat a) (E2 : h2 = m_up h1 98 x.toNat b) (E3 : h3 = m_up h2 96 3 v) (E4 : h4 = m_up h3 96 2 (x + 1)) (ex : h0 96 2 = x) (ev : v = toO (h0 96 3) c) (n : b ≠ 0) : adQ a b c h0 h4 := by
  refine Or.inr ⟨n, ?_, fun k P Q o T k0 k2 => ?_⟩
  · rw [upN E4 (by decide), upN E3 (by decide), upN E2 (fun q => absurd q.1 (by decide)), upN E1 (fun q => absurd q.1 (by decide))]
  · obtain ⟨t1, t2, t3⟩ := T
    have kx : k = x := t1.symm.trans ex
    subst kx
    refine ⟨upE E4, fun j hj => ?_, ?_⟩
    · obtain ⟨u1, u2⟩ := t2 j hj
      unfold toU
      constructor
      · rw [upN E4 (fun q => absurd q.1 (by decide)), upN E3 (fun q => absurd q.1 (by decide)), upN E2 (fun q => absurd q.1 (by decide))]
        by_cases g : j = k.toNat
        · rw [if_pos g, g]; exact upE E1
        · rw [if_neg g, upN E1 (fun q => g q.2)]; exact u1
      · rw [upN E4 (fun q => absurd q.1 (by decide)), upN E3 (fun q => absurd q.1 (by decide))]
        by_cases g : j = k.toNat
        · rw [if_pos g, g]; exact upE E2
        · rw [if_neg g, upN E2 (fun q => g q.2), upN E1 (fun q => absurd q.1 (by decide))]; exact u2
    · rw [upN E4 (by decide), upE E3, ev, t3]
abbrev P_X10_clear2 (h0 : m_H) : m_H → Prop := fun h' => GI h' ∧ FR [97, 98] [(96, 2), (96, 3), (96, 4)] h0 h' ∧ toT h' 0 (fun _ => 0) (fun _ => 1) 0 ∧ h' 96 4 = 0
def q_X10_clear2 (h0 : m_H) (n : Nat) : Prop := (∀ (l1 : Int) (h : m_H), GI h → FR [97, 98] [(96, 2), (96, 3), (96, 4)] h0 h → 0 ≤ l1 → l1 ≤ 3 → (∀ j : Nat, (j : Int) < l1 → h 97 j = 0 ∧ h 98 j = 1) → 2 * (3 - l1) + (1) ≤ (n : Int) → m_Z oF M_X10_clear 2 [some (mR 96), some (mI l1)] [] h (m_QV (P_X10_clear2 h0)))
set_option maxHeartbeats 4000000 in
set_option maxRecDepth 100000 in
theorem s_X10_clear2_2 (h0 : m_H) (G0 : GI h0) (n : Nat) (ih : q_X10_clear2 h0 n) : ∀ (l1 : Int) (h : m_H), GI h → FR [97, 98] [(96, 2), (96, 3), (96, 4)] h0 h → 0 ≤ l1 → l1 ≤ 3 → (∀ j : Nat, (j : Int) < l1 → h 97 j = 0 ∧ h 98 j = 1) → 2 * (3 - l1) + (1) ≤ ((n + 1 : Nat) : Int) → m_Z oF M_X10_clear 2 [some (mR 96), some (mI l1)] [] h (m_QV (P_X10_clear2 h0)) := by
  intro l1 h G R v0 v1 i1 hr
  refine z_iload_n (M := M_X10_clear) 2 dX10_clear_2 rfl ?_
  refine z_iconst (M := M_X10_clear) 3 dX10_clear_3 ?_
  refine z_icmp_ge (M := M_X10_clear) 4 dX10_clear_4 27 rfl (fun c1 => ?_) (fun c1 => ?_)
  · refine z_aload_n (M := M_X10_clear) 27 dX10_clear_27 rfl ?_
    refine z_iconst (M := M_X10_clear) 28 dX10_clear_28 ?_
    refine z_putIH (M := M_X10_clear) 29 dX10_clear_29 p_X10_18 o_96 rfl (u_96_2 G (by omega) (by omega)) (R.up rfl) (fun h1 E1 G1 R1 => ?_)
    refine z_aload_n (M := M_X10_clear) 32 dX10_clear_32 rfl ?_
    refine z_iconst (M := M_X10_clear) 33 dX10_clear_33 ?_
    refine z_putZH (M := M_X10_clear) 34 dX10_clear_34 p_X10_22 o_96 rfl (by omega) (u_96_3 G1 (by omega) (by omega)) (R1.up rfl) (fun h2 E2 G2 R2 => ?_)
    refine z_aload_n (M := M_X10_clear) 37 dX10_clear_37 rfl ?_
    refine z_iconst (M := M_X10_clear) 38 dX10_clear_38 ?_
    refine z_putZH (M := M_X10_clear) 39 dX10_clear_39 p_X10_26 o_96 rfl (by omega) (u_96_4 G2 (by omega) (by omega)) (R2.up rfl) (fun h3 E3 G3 R3 => ?_)
    exact z_retV (M := M_X10_clear) 42 dX10_clear_42 rfl ⟨G3, R3, ⟨(upN E3 (by decide)).trans ((upN E2 (by decide)).trans (upE E1)), fun j hj => (by rw [upN E3 (fun q => absurd q.1 (by decide)), upN E2 (fun q => absurd q.1 (by decide)), upN E1 (fun q => absurd q.1 (by decide)), upN E3 (fun q => absurd q.1 (by decide)), upN E2 (fun q => absurd q.1 (by decide)), upN E1 (fun q => absurd q.1 (by decide))]; exact i1 j (by omega)), (upN E3 (by decide)).trans (upE E2)⟩, upE E3⟩
  · refine z_aload_n (M := M_X10_clear) 7 dX10_clear_7 rfl ?_
    refine z_getR (M := M_X10_clear) 8 dX10_clear_8 f_X10_9 o_96 rfl (g_96_0 G) ?_
    refine z_iload_n (M := M_X10_clear) 11 dX10_clear_11 rfl ?_
    refine z_lconst (M := M_X10_clear) 12 dX10_clear_12 (v := 0) ?_
    refine z_lastH (M := M_X10_clear) 13 dX10_clear_13 o_97 (by omega) (by omega) (u_97 G) (R.up rfl) (fun h4 E4 G4 R4 => ?_)
    refine z_aload_n (M := M_X10_clear) 14 dX10_clear_14 rfl ?_
    refine z_getR (M := M_X10_clear) 15 dX10_clear_15 f_X10_15 o_96 rfl (g_96_1 G4) ?_
    refine z_iload_n (M := M_X10_clear) 18 dX10_clear_18 rfl ?_
    refine z_lconst (M := M_X10_clear) 19 dX10_clear_19 (v := 1) ?_
    refine z_lastH (M := M_X10_clear) 20 dX10_clear_20 o_98 (by omega) (by omega) (u_98 G4) (R4.up rfl) (fun h5 E5 G5 R5 => ?_)
    refine z_iincN (M := M_X10_clear) 21 dX10_clear_21 (ls' := [some (mR 96), some (mI (l1 + 1))]) (by decide) rfl (by (unfold m_32; decide)) (by omega) (by omega) rfl ?_
    refine z_goto (M := M_X10_clear) 24 dX10_clear_24 2 rfl ?_
    exact z_mask [true, true] rfl (ih (l1 + 1) h5 G5 R5 (by omega) (by omega) (fun j hj => by by_cases g : j = l1.toNat; rw [g, upN E5 (fun q => absurd q.1 (by decide)), upE E4, upE E5]; exact ⟨rfl, rfl⟩; rw [upN E5 (fun q => absurd q.1 (by decide)), upN E4 (fun q => g q.2), upN E5 (fun q => g q.2), upN E4 (fun q => absurd q.1 (by decide))]; exact i1 j (by omega)) (by omega))
theorem a_X10_clear2 (h0 : m_H) (G0 : GI h0) : ∀ n, q_X10_clear2 h0 n := by
  intro n
  induction n with
  | zero => unfold q_X10_clear2; intros; omega
  | succ n ih => exact s_X10_clear2_2 h0 G0 n ih
set_option maxHeartbeats 4000000 in
set_option maxRecDepth 100000 in
theorem c_X10_clear2 (h0 : m_H) (G0 : GI h0) : m_CV M_X10_clear [mR 96] h0 (P_X10_clear2 h0) := by
  refine m_CV_of ⟨by decide, rfl, by simp [m_arg, m_isL, M_X10_clear], ⟨rfl, rfl⟩, rfl, rfl⟩ (ls := [some (mR 96), none]) rfl ?_
  have ih := a_X10_clear2 h0 G0 14
  refine z_iconst (M := M_X10_clear) 0 dX10_clear_0 ?_
  refine z_istore_n (M := M_X10_clear) 1 dX10_clear_1 (ls' := [some (mR 96), some (mI 0)]) (by decide) rfl ?_
  exact z_mask [true, true] rfl (ih 0 h0 G0 (FR.rf (cs := [97, 98]) (ss := [(96, 2), (96, 3), (96, 4)]) (h := h0)) (by omega) (by omega) (fun j hj => by omega) (by omega))
abbrev P_X10_add2 (h0 : m_H) (a1 a2 a3 : Int) : m_H → Prop := fun h' => GI h' ∧ FR [97, 98] [(96, 2), (96, 3), (96, 4)] h0 h' ∧ adQ a1 a2 a3 h0 h'
set_option maxHeartbeats 4000000 in
set_option maxRecDepth 100000 in
theorem c_X10_add2 (h0 : m_H) (a1 a2 a3 : Int) (G0 : GI h0) (pa3 : 0 ≤ a3 ∧ a3 ≤ 1) : m_CV M_X10_add [mR 96, mJ a1, mJ a2, mI a3] h0 (P_X10_add2 h0 a1 a2 a3) := by
  refine m_CV_of ⟨by decide, rfl, by simp [m_arg, m_isL, M_X10_add], ⟨rfl, rfl⟩, rfl, rfl⟩ (ls := [some (mR 96), some (mJ a1), none, some (mJ a2), none, some (mI a3)]) rfl ?_
  refine z_lload_n (M := M_X10_add) 0 dX10_add_0 rfl ?_
  refine z_lconst (M := M_X10_add) 1 dX10_add_1 (v := 0) ?_
  refine z_lcmp (M := M_X10_add) 2 dX10_add_2 ?_
  refine z_if_ne (M := M_X10_add) 3 dX10_add_3 14 rfl (fun c1 => ?_) (fun c1 => ?_)
  · rw [m_cmp_eq] at c1
    refine z_aload_n (M := M_X10_add) 14 dX10_add_14 rfl ?_
    refine z_getIG (M := M_X10_add) 15 dX10_add_15 f_X10_18 o_96 (by decide) (g_96_2 G0) (fun x2 ex2 ax2 bx2 => ?_)
    refine z_iconst (M := M_X10_add) 18 dX10_add_18 ?_
    refine z_icmp_ge (M := M_X10_add) 19 dX10_add_19 73 rfl (fun c3 => ?_) (fun c3 => ?_)
    · exact z_retV (M := M_X10_add) 73 dX10_add_73 rfl ⟨G0, (FR.rf (cs := [97, 98]) (ss := [(96, 2), (96, 3), (96, 4)]) (h := h0)), Or.inr ⟨c1, rfl, fun k P Q o T k0 k2 => absurd T.1 (by omega)⟩⟩
    · refine z_aload_n (M := M_X10_add) 22 dX10_add_22 rfl ?_
      refine z_getR (M := M_X10_add) 23 dX10_add_23 f_X10_9 o_96 rfl (g_96_0 G0) ?_
      refine z_aload_n (M := M_X10_add) 26 dX10_add_26 rfl ?_
      refine z_getIE (M := M_X10_add) 27 dX10_add_27 f_X10_18 o_96 (by decide) ex2 ?_
      refine z_lload_n (M := M_X10_add) 30 dX10_add_30 rfl ?_
      refine z_lastH (M := M_X10_add) 31 dX10_add_31 o_97 (by omega) (by omega) (u_97 G0) ((FR.rf (cs := [97, 98]) (ss := [(96, 2), (96, 3), (96, 4)]) (h := h0)).up rfl) (fun h1 E1 G1 R1 => ?_)
      refine z_aload_n (M := M_X10_add) 32 dX10_add_32 rfl ?_
      refine z_getR (M := M_X10_add) 33 dX10_add_33 f_X10_15 o_96 rfl (g_96_1 G1) ?_
      refine z_aload_n (M := M_X10_add) 36 dX10_add_36 rfl ?_
      refine z_getIE (M := M_X10_add) 37 dX10_add_37 f_X10_18 o_96 (by decide) ((upN E1 (fun q => absurd q.1 (by decide))).trans ex2) ?_
      refine z_lload_n (M := M_X10_add) 40 dX10_add_40 rfl ?_
      refine z_lastH (M := M_X10_add) 41 dX10_add_41 o_98 (by omega) (by omega) (u_98 G1) (R1.up rfl) (fun h2 E2 G2 R2 => ?_)
      refine z_aload_n (M := M_X10_add) 42 dX10_add_42 rfl ?_
      refine z_aload_n (M := M_X10_add) 43 dX10_add_43 rfl ?_
      refine z_getIG (M := M_X10_add) 44 dX10_add_44 f_X10_22 o_96 (by decide) (g_96_3 G2) (fun x4 ex4 ax4 bx4 => ?_)
      refine z_if_ne (M := M_X10_add) 47 dX10_add_47 55 rfl (fun c5 => ?_) (fun c5 => ?_)
      · refine z_iconst (M := M_X10_add) 55 dX10_add_55 ?_
        refine z_goto (M := M_X10_add) 56 dX10_add_56 60 rfl ?_
        refine z_putZH (M := M_X10_add) 60 dX10_add_60 p_X10_22 o_96 rfl (by omega) (u_96_3 G2 (by omega) (by omega)) (R2.up rfl) (fun h3 E3 G3 R3 => ?_)
        refine z_aload_n (M := M_X10_add) 63 dX10_add_63 rfl ?_
        refine z_dup (M := M_X10_add) 64 dX10_add_64 rfl ?_
        refine z_getIE (M := M_X10_add) 65 dX10_add_65 f_X10_18 o_96 (by decide) ((upN E3 (fun q => absurd q.2 (by decide))).trans ((upN E2 (fun q => absurd q.1 (by decide))).trans ((upN E1 (fun q => absurd q.1 (by decide))).trans ex2))) ?_
        refine z_iconst (M := M_X10_add) 68 dX10_add_68 ?_
        refine z_iaddN (M := M_X10_add) 69 dX10_add_69 (by omega) (by omega) ?_
        refine z_putIH (M := M_X10_add) 70 dX10_add_70 p_X10_18 o_96 rfl (u_96_2 G3 (by omega) (by omega)) (R3.up rfl) (fun h4 E4 G4 R4 => ?_)
        exact z_retV (M := M_X10_add) 73 dX10_add_73 rfl ⟨G4, R4, ad_ok E1 E2 E3 E4 ex2 (by have z : h0 96 3 = x4 := ((upN E1 (fun q => absurd q.1 (by decide))).symm.trans ((upN E2 (fun q => absurd q.1 (by decide))).symm.trans ex4)); unfold toO; rw [z]; rw [if_pos c5]) c1⟩
      · refine z_iload (M := M_X10_add) 50 dX10_add_50 rfl ?_
        refine z_if_eq (M := M_X10_add) 52 dX10_add_52 59 rfl (fun c6 => ?_) (fun c6 => ?_)
        · refine z_iconst (M := M_X10_add) 59 dX10_add_59 ?_
          refine z_putZH (M := M_X10_add) 60 dX10_add_60 p_X10_22 o_96 rfl (by omega) (u_96_3 G2 (by omega) (by omega)) (R2.up rfl) (fun h5 E5 G5 R5 => ?_)
          refine z_aload_n (M := M_X10_add) 63 dX10_add_63 rfl ?_
          refine z_dup (M := M_X10_add) 64 dX10_add_64 rfl ?_
          refine z_getIE (M := M_X10_add) 65 dX10_add_65 f_X10_18 o_96 (by decide) ((upN E5 (fun q => absurd q.2 (by decide))).trans ((upN E2 (fun q => absurd q.1 (by decide))).trans ((upN E1 (fun q => absurd q.1 (by decide))).trans ex2))) ?_
          refine z_iconst (M := M_X10_add) 68 dX10_add_68 ?_
          refine z_iaddN (M := M_X10_add) 69 dX10_add_69 (by omega) (by omega) ?_
          refine z_putIH (M := M_X10_add) 70 dX10_add_70 p_X10_18 o_96 rfl (u_96_2 G5 (by omega) (by omega)) (R5.up rfl) (fun h6 E6 G6 R6 => ?_)
          exact z_retV (M := M_X10_add) 73 dX10_add_73 rfl ⟨G6, R6, ad_ok E1 E2 E5 E6 ex2 (by have z : h0 96 3 = x4 := ((upN E1 (fun q => absurd q.1 (by decide))).symm.trans ((upN E2 (fun q => absurd q.1 (by decide))).symm.trans ex4)); unfold toO; rw [z]; rw [if_neg (by omega), if_pos c6]) c1⟩
        · refine z_iconst (M := M_X10_add) 55 dX10_add_55 ?_
          refine z_goto (M := M_X10_add) 56 dX10_add_56 60 rfl ?_
          refine z_putZH (M := M_X10_add) 60 dX10_add_60 p_X10_22 o_96 rfl (by omega) (u_96_3 G2 (by omega) (by omega)) (R2.up rfl) (fun h7 E7 G7 R7 => ?_)
          refine z_aload_n (M := M_X10_add) 63 dX10_add_63 rfl ?_
          refine z_dup (M := M_X10_add) 64 dX10_add_64 rfl ?_
          refine z_getIE (M := M_X10_add) 65 dX10_add_65 f_X10_18 o_96 (by decide) ((upN E7 (fun q => absurd q.2 (by decide))).trans ((upN E2 (fun q => absurd q.1 (by decide))).trans ((upN E1 (fun q => absurd q.1 (by decide))).trans ex2))) ?_
          refine z_iconst (M := M_X10_add) 68 dX10_add_68 ?_
          refine z_iaddN (M := M_X10_add) 69 dX10_add_69 (by omega) (by omega) ?_
          refine z_putIH (M := M_X10_add) 70 dX10_add_70 p_X10_18 o_96 rfl (u_96_2 G7 (by omega) (by omega)) (R7.up rfl) (fun h8 E8 G8 R8 => ?_)
          exact z_retV (M := M_X10_add) 73 dX10_add_73 rfl ⟨G8, R8, ad_ok E1 E2 E7 E8 ex2 (by have z : h0 96 3 = x4 := ((upN E1 (fun q => absurd q.1 (by decide))).symm.trans ((upN E2 (fun q => absurd q.1 (by decide))).symm.trans ex4)); unfold toO; rw [z]; rw [if_neg (by omega), if_neg c6]) c1⟩
  · rw [m_cmp_eq] at c1
    refine z_aload_n (M := M_X10_add) 6 dX10_add_6 rfl ?_
    refine z_iconst (M := M_X10_add) 7 dX10_add_7 ?_
    refine z_putZH (M := M_X10_add) 8 dX10_add_8 p_X10_26 o_96 rfl (by omega) (u_96_4 G0 (by omega) (by omega)) ((FR.rf (cs := [97, 98]) (ss := [(96, 2), (96, 3), (96, 4)]) (h := h0)).up rfl) (fun h9 E9 G9 R9 => ?_)
    refine z_goto (M := M_X10_add) 11 dX10_add_11 73 rfl ?_
    exact z_retV (M := M_X10_add) 73 dX10_add_73 rfl ⟨G9, R9, Or.inl ⟨c1, upE E9⟩⟩
/-! the sum of three fractions, in wholes -/
def suN (P Q : Nat → Int) : Int := P 0 * (Q 1 * Q 2) + P 1 * (Q 0 * Q 2) + P 2 * (Q 0 * Q 1)
def suD (Q : Nat → Int) : Int := Q 0 * Q 1 * Q 2
def suB (P Q : Nat → Int) : Prop := ∀ j : Nat, j < 3 → (0 ≤ P j ∧ P j ≤ 1600000000) ∧ 1 ≤ Q j ∧ Q j ≤ 1600000000
def suW (P Q : Nat → Int) (l v : Int) : Prop := (l = 0 ∧ v = 0) ∨ (l = 1 ∧ v = P 0 / Q 0) ∨ (l = 2 ∧ v = P 0 / Q 0 + P 1 / Q 1) ∨ (l = 3 ∧ v = P 0 / Q 0 + P 1 / Q 1 + P 2 / Q 2)
theorem su_q {P Q : Nat → Int} (B : suB P Q) {j : Nat} (hj : j < 3) : 0 ≤ P j / Q j ∧ P j / Q j ≤ 1600000000 := by
  obtain ⟨⟨a, b⟩, c, d⟩ := B j hj
  have e := Int.ediv_nonneg a (show 0 ≤ Q j by omega)
  have f := Int.ediv_le_self (a := P j) (Q j) a
  omega
theorem suW_b {P Q : Nat → Int} {l v : Int} (B : suB P Q) (I : suW P Q l v) : 0 ≤ v ∧ v ≤ 1600000000 * l := by
  have q0 := su_q B (j := 0) (by decide)
  have q1 := su_q B (j := 1) (by decide)
  have q2 := su_q B (j := 2) (by decide)
  rcases I with ⟨a, b⟩ | ⟨a, b⟩ | ⟨a, b⟩ | ⟨a, b⟩ <;> subst a <;> omega
theorem suW_s {P Q : Nat → Int} {l v x : Int} (I : suW P Q l v) (h0 : 0 ≤ l) (h : l ≤ 2) (e : P l.toNat / Q l.toNat = x) : suW P Q (l + 1) (v + x) := by
  rcases I with ⟨a, b⟩ | ⟨a, b⟩ | ⟨a, b⟩ | ⟨a, b⟩ <;> subst a
  · exact Or.inr (Or.inl ⟨rfl, by rw [← e, b, Int.zero_add]; rfl⟩)
  · exact Or.inr (Or.inr (Or.inl ⟨rfl, by rw [← e, b]; rfl⟩))
  · exact Or.inr (Or.inr (Or.inr ⟨rfl, by rw [← e, b]; rfl⟩))
  · omega
theorem su_sum {t0 l0 t1 l1 t2 l2 q0 q1 q2 r0 r1 r2 q r : Int} (e0 : l0 * q0 + r0 = t0) (e1 : l1 * q1 + r1 = t1) (e2 : l2 * q2 + r2 = t2) (e : l0 * l1 * q + r = r0 * l1 + r1 * l0) : t0 * (l1 * l2) + t1 * (l0 * l2) + t2 * (l0 * l1) = (q0 + q1 + q2 + q) * (l0 * l1 * l2) + (r * l2 + r2 * (l0 * l1)) := by
  have k : (r0 * l1 + r1 * l0) * l2 = (l0 * l1 * q + r) * l2 := by rw [e]
  rw [← e0, ← e1, ← e2]
  simp only [Int.add_mul, Int.mul_add] at k ⊢
  have c1 : l0 * q0 * (l1 * l2) = q0 * (l0 * l1 * l2) := by ac_rfl
  have c2 : l1 * q1 * (l0 * l2) = q1 * (l0 * l1 * l2) := by ac_rfl
  have c3 : l2 * q2 * (l0 * l1) = q2 * (l0 * l1 * l2) := by ac_rfl
  have c4 : r0 * (l1 * l2) = r0 * l1 * l2 := by ac_rfl
  have c5 : r1 * (l0 * l2) = r1 * l0 * l2 := by ac_rfl
  have c6 : l0 * l1 * q * l2 = q * (l0 * l1 * l2) := by ac_rfl
  rw [c1, c2, c3, c4, c5]
  rw [c6] at k
  omega
theorem gn_val {N D V u o : Int} (hD : 0 < D) (e : N = V * D + u) (u0 : 0 ≤ u) (u2 : u < 2 * D) : gnG N D o = if D ≤ u then (if u = D ∧ o = 1 then V else V + 1) else (if u = 0 ∧ o = 1 then V - 1 else V) := by
  have dv : ∀ {v : Int}, v * D ≤ N → N < (v + 1) * D → N / D = v := fun {v} h1 h2 => dv_eq hD (by rw [Int.mul_comm]; exact h1) (by rw [Int.mul_comm]; exact h2)
  unfold gnG
  by_cases c : D ≤ u
  · have q : N / D = V + 1 := dv (by rw [Int.add_mul, Int.one_mul]; omega) (by rw [Int.add_mul, Int.one_mul, Int.add_mul, Int.one_mul]; omega)
    rw [q, if_pos c, Int.add_mul, Int.one_mul]
    by_cases d : u = D
    · by_cases f : o = 1
      · rw [if_pos ⟨f, by omega⟩, if_pos ⟨d, f⟩]; omega
      · rw [if_neg (fun z => f z.1), if_neg (fun z => f z.2)]
    · rw [if_neg (fun z => d (by omega)), if_neg (fun z => d z.1)]
  · have q : N / D = V := dv (by omega) (by rw [Int.add_mul, Int.one_mul]; omega)
    rw [q, if_neg c]
    by_cases d : u = 0
    · by_cases f : o = 1
      · rw [if_pos ⟨f, by omega⟩, if_pos ⟨d, f⟩]
      · rw [if_neg (fun z => f z.1), if_neg (fun z => f z.2)]
    · rw [if_neg (fun z => d (by omega)), if_neg (fun z => d z.1)]
theorem su_ng {x14 x16 x18 x11 x17 x19 : Int} (f : x19 = sg3 (x14 * x16) (x18 * x11)) (e : x16 - x17 = x18) (h1 : 0 < x11) (h2 : 0 < x16) : x14 = 0 → x17 = 0 → x19 < 0 := by
  intro a b
  have m := Int.mul_pos (show 0 < x18 by omega) h1
  rw [f, a, Int.zero_mul]
  unfold sg3
  rw [if_pos m]
  decide
theorem su_val {P Q : Nat → Int} {o t0 l0 t1 l1 t2 l2 v r0 r1 a c rs lo q V rest lr d s : Int} (B : suB P Q) (I : suW P Q 3 v) (p0 : P 0 = t0) (q0 : Q 0 = l0) (p1 : P 1 = t1) (q1 : Q 1 = l1) (p2 : P 2 = t2) (q2 : Q 2 = l2) (f0 : t0 % l0 = r0) (f1 : t1 % l1 = r1) (ea : r0 * l1 = a) (ec : r1 * l0 = c) (ers : a + c = rs) (elo : l0 * l1 = lo) (eq : rs / lo = q) (eV : v + q = V) (er : rs % lo = rest) (f2 : t2 % l2 = lr) (ed : l2 - lr = d) (es : s = sg3 (rest * l2) (d * lo)) : gnG (suN P Q) (suD Q) o = if 0 ≤ s then (if s = 0 ∧ o = 1 then V else V + 1) else (if (rest = 0 ∧ lr = 0) ∧ o = 1 then V - 1 else V) := by
  obtain ⟨⟨b1, b2⟩, b3, b4⟩ := B 0 (by decide)
  obtain ⟨⟨c1, c2⟩, c3, c4⟩ := B 1 (by decide)
  obtain ⟨⟨d1, d2⟩, d3, d4⟩ := B 2 (by decide)
  rw [p0] at b1 b2
  rw [q0] at b3 b4
  rw [p1] at c1 c2
  rw [q1] at c3 c4
  rw [p2] at d1 d2
  rw [q2] at d3 d4
  have V' : v = t0 / l0 + t1 / l1 + t2 / l2 := by
    rcases I with ⟨z, _⟩ | ⟨z, _⟩ | ⟨z, _⟩ | ⟨_, z⟩
    · omega
    · omega
    · omega
    · rw [z, p0, q0, p1, q1, p2, q2]
  have hlo : 0 < lo := by rw [← elo]; exact Int.mul_pos (by omega) (by omega)
  have m0 := Int.emod_nonneg t0 (show l0 ≠ 0 by omega)
  have n0 := Int.emod_lt_of_pos t0 (show 0 < l0 by omega)
  have m1 := Int.emod_nonneg t1 (show l1 ≠ 0 by omega)
  have n1 := Int.emod_lt_of_pos t1 (show 0 < l1 by omega)
  have m2 := Int.emod_nonneg t2 (show l2 ≠ 0 by omega)
  have n2 := Int.emod_lt_of_pos t2 (show 0 < l2 by omega)
  have m3 := Int.emod_nonneg rs (show lo ≠ 0 by omega)
  have n3 := Int.emod_lt_of_pos rs hlo
  rw [f0] at m0 n0
  rw [f1] at m1 n1
  rw [f2] at m2 n2
  rw [er] at m3 n3
  have e := su_sum (Int.mul_ediv_add_emod t0 l0) (Int.mul_ediv_add_emod t1 l1) (Int.mul_ediv_add_emod t2 l2) (show l0 * l1 * (rs / lo) + rs % lo = (t0 % l0) * l1 + (t1 % l1) * l0 by rw [elo, Int.mul_ediv_add_emod, f0, f1, ea, ec, ers])
  rw [eq, er, f2, elo, ← V', eV] at e
  have hD : 0 < lo * l2 := Int.mul_pos hlo (by omega)
  have u1 := Int.mul_nonneg m3 (show 0 ≤ l2 by omega)
  have u2 := Int.mul_nonneg m2 (show 0 ≤ lo by omega)
  have u3 := Int.mul_le_mul_of_nonneg_right (show rest + 1 ≤ lo by omega) (show 0 ≤ l2 by omega)
  have u4 := Int.mul_le_mul_of_nonneg_right (show lr + 1 ≤ l2 by omega) (show 0 ≤ lo by omega)
  rw [Int.add_mul, Int.one_mul] at u3 u4
  rw [Int.mul_comm l2 lo] at u4
  have ed' : d * lo = lo * l2 - lr * lo := by rw [← ed, Int.sub_mul, Int.mul_comm l2 lo]
  have G := gn_val (N := suN P Q) (D := suD Q) (V := V) (u := rest * l2 + lr * lo) (o := o) (by unfold suD; rw [q0, q1, q2, elo]; exact hD) (by unfold suN suD; rw [p0, q0, p1, q1, p2, q2, elo]; exact e) (by omega) (by unfold suD; rw [q0, q1, q2, elo]; omega)
  have hDe : suD Q = lo * l2 := by unfold suD; rw [q0, q1, q2, elo]
  rw [hDe] at G
  rw [hDe, G]
  have s1 : (0 ≤ s ↔ lo * l2 ≤ rest * l2 + lr * lo) ∧ (s = 0 ↔ rest * l2 + lr * lo = lo * l2) := by
    rw [es, ed']
    unfold sg3
    by_cases g : rest * l2 < lo * l2 - lr * lo
    · rw [if_pos g]; constructor <;> constructor <;> intro z <;> omega
    · rw [if_neg g]
      by_cases f : rest * l2 = lo * l2 - lr * lo
      · rw [if_pos f]; constructor <;> constructor <;> intro z <;> omega
      · rw [if_neg f]; constructor <;> constructor <;> intro z <;> omega
  have s2 : rest * l2 + lr * lo = 0 ↔ (rest = 0 ∧ lr = 0) := by
    constructor
    · intro z
      have z1 : rest * l2 = 0 := by omega
      have z2 : lr * lo = 0 := by omega
      exact ⟨(Int.mul_eq_zero.mp z1).elim id (fun y => by omega), (Int.mul_eq_zero.mp z2).elim id (fun y => by omega)⟩
    · rintro ⟨z1, z2⟩
      rw [z1, z2, Int.zero_mul, Int.zero_mul]; rfl
  by_cases g : 0 ≤ s
  · rw [if_pos g, if_pos (s1.1.mp g)]
    by_cases f : s = 0 ∧ o = 1
    · rw [if_pos f, if_pos ⟨s1.2.mp f.1, f.2⟩]
    · rw [if_neg f, if_neg (fun z => f ⟨s1.2.mpr z.1, z.2⟩)]
  · rw [if_neg g, if_neg (fun z => g (s1.1.mpr z))]
    by_cases f : (rest = 0 ∧ lr = 0) ∧ o = 1
    · rw [if_pos f, if_pos ⟨s2.mpr f.1, f.2⟩]
    · rw [if_neg f, if_neg (fun z => f ⟨s2.mp z.1, z.2⟩)]
abbrev P_X10_sum2 (h0 : m_H) : Int → m_H → Prop := fun x h' => GI h' ∧ FR [] [] h0 h' ∧ ((h0 96 4 ≠ 0 ∧ x = -1) ∨ (h0 96 4 = 0 ∧ x = gnG (suN (h0 97) (h0 98)) (suD (h0 98)) (h0 96 3)))
def q_X10_sum2 (h0 : m_H) (n : Nat) : Prop := (∀ (l1 l3 : Int) (h : m_H), GI h → FR [] [] h0 h → 0 ≤ l3 → l3 ≤ 3 → (h0 96 4 = 0 ∧ suW (h0 97) (h0 98) l3 l1) → 2 * (3 - l3) + (2) ≤ (n : Int) → m_Z oF M_X10_sum 15 [some (mR 96), some (mJ l1), none, some (mI l3), none, none, none, none, none, none, none, none, none] [] h (m_QJ (P_X10_sum2 h0))) ∧ (∀ (l1 : Int) (h : m_H), GI h → FR [] [] h0 h → (h0 96 4 = 0 ∧ l1 = gnG (suN (h0 97) (h0 98)) (suD (h0 98)) (h0 96 3)) → (1) ≤ (n : Int) → m_Z oF M_X10_sum 220 [none, some (mJ l1), none, none, none, none, none, none, none, none, none, none, none] [] h (m_QJ (P_X10_sum2 h0)))
set_option maxHeartbeats 4000000 in
set_option maxRecDepth 100000 in
theorem s_X10_sum2_15 (h0 : m_H) (G0 : GI h0) (hb : h0 96 4 = 0 → suB (h0 97) (h0 98)) (n : Nat) (ih : q_X10_sum2 h0 n) : ∀ (l1 l3 : Int) (h : m_H), GI h → FR [] [] h0 h → 0 ≤ l3 → l3 ≤ 3 → (h0 96 4 = 0 ∧ suW (h0 97) (h0 98) l3 l1) → 2 * (3 - l3) + (2) ≤ ((n + 1 : Nat) : Int) → m_Z oF M_X10_sum 15 [some (mR 96), some (mJ l1), none, some (mI l3), none, none, none, none, none, none, none, none, none] [] h (m_QJ (P_X10_sum2 h0)) := by
  intro l1 l3 h G R v0 v1 i1 hr
  have e_ := frE R
  have b_ := hb i1.1
  have w_ := suW_b b_ i1.2
  refine z_iload_n (M := M_X10_sum) 15 dX10_sum_15 rfl ?_
  refine z_iconst (M := M_X10_sum) 16 dX10_sum_16 ?_
  refine z_icmp_ge (M := M_X10_sum) 17 dX10_sum_17 44 rfl (fun c1 => ?_) (fun c1 => ?_)
  · refine z_aload_n (M := M_X10_sum) 44 dX10_sum_44 rfl ?_
    refine z_getR (M := M_X10_sum) 45 dX10_sum_45 f_X10_9 o_96 rfl (g_96_0 G) ?_
    refine z_iconst (M := M_X10_sum) 48 dX10_sum_48 ?_
    refine z_laldV (M := M_X10_sum) 49 dX10_sum_49 o_97 (by omega) (by omega) (fun x2 ex2 => ?_)
    have v2_ : h0 97 0 = x2 := (by have z := ex2; rw [e_] at z; exact z)
    have p2_ := (b_ 0 (by omega)).1; rw [v2_] at p2_
    refine z_aload_n (M := M_X10_sum) 50 dX10_sum_50 rfl ?_
    refine z_getR (M := M_X10_sum) 51 dX10_sum_51 f_X10_15 o_96 rfl (g_96_1 G) ?_
    refine z_iconst (M := M_X10_sum) 54 dX10_sum_54 ?_
    refine z_laldV (M := M_X10_sum) 55 dX10_sum_55 o_98 (by omega) (by omega) (fun x3 ex3 => ?_)
    have v3_ : h0 98 0 = x3 := (by have z := ex3; rw [e_] at z; exact z)
    have p3_ := (b_ 0 (by omega)).2; rw [v3_] at p3_
    refine z_nJ (M := M_X10_sum) 56 dX10_sum_56 t_X11_remainder l_X10_35 (m_rr_of rfl) (rest := []) (c_X11_remainder2 h x2 x3 G (by omega) (by omega)) rfl rfl (Nat.le_of_ble_eq_true rfl) ⟨rfl, rfl⟩ (fun x4 h1 qx4 => ?_)
    obtain ⟨G1, S1, fx4⟩ := qx4
    have m4_ := Int.emod_nonneg x2 (show x3 ≠ 0 by omega)
    have n4_ := Int.emod_lt_of_pos x2 (show 0 < x3 by omega)
    rw [fx4] at m4_ n4_
    have R1 := R.call S1 (by decide +kernel)
    refine z_aload_n (M := M_X10_sum) 59 dX10_sum_59 rfl ?_
    refine z_getR (M := M_X10_sum) 60 dX10_sum_60 f_X10_15 o_96 rfl (g_96_1 G1) ?_
    refine z_iconst (M := M_X10_sum) 63 dX10_sum_63 ?_
    refine z_laldV (M := M_X10_sum) 64 dX10_sum_64 o_98 (by omega) (by omega) (fun x5 ex5 => ?_)
    have v5_ : h0 98 1 = x5 := (by have z := ex5; rw [frE S1] at z; rw [e_] at z; exact z)
    have p5_ := (b_ 1 (by omega)).2; rw [v5_] at p5_
    have mx6 := mul_bd (x := x4) (y := x5) (X := 1600000000) (Y := 1600000000) (by omega) (by omega) (by omega) (by omega)
    refine z_lmulN (M := M_X10_sum) 65 dX10_sum_65 (by omega) (by omega) ?_
    refine z_topBJ (lo := 0) (hi := 2560000000000000000) ⟨by omega, by omega⟩ (fun x6 ex6 ax6 bx6 => ?_)
    refine z_aload_n (M := M_X10_sum) 66 dX10_sum_66 rfl ?_
    refine z_getR (M := M_X10_sum) 67 dX10_sum_67 f_X10_9 o_96 rfl (g_96_0 G1) ?_
    refine z_iconst (M := M_X10_sum) 70 dX10_sum_70 ?_
    refine z_laldV (M := M_X10_sum) 71 dX10_sum_71 o_97 (by omega) (by omega) (fun x7 ex7 => ?_)
    have v7_ : h0 97 1 = x7 := (by have z := ex7; rw [frE S1] at z; rw [e_] at z; exact z)
    have p7_ := (b_ 1 (by omega)).1; rw [v7_] at p7_
    refine z_aload_n (M := M_X10_sum) 72 dX10_sum_72 rfl ?_
    refine z_getR (M := M_X10_sum) 73 dX10_sum_73 f_X10_15 o_96 rfl (g_96_1 G1) ?_
    refine z_iconst (M := M_X10_sum) 76 dX10_sum_76 ?_
    refine z_laldE (M := M_X10_sum) 77 dX10_sum_77 o_98 (by omega) (by omega) ex5 ?_
    refine z_nJ (M := M_X10_sum) 78 dX10_sum_78 t_X11_remainder l_X10_35 (m_rr_of rfl) (rest := [mJ x6]) (c_X11_remainder2 h1 x7 x5 G1 (by omega) (by omega)) rfl rfl (Nat.le_of_ble_eq_true rfl) ⟨rfl, rfl⟩ (fun x8 h2 qx8 => ?_)
    obtain ⟨G2, S2, fx8⟩ := qx8
    have m8_ := Int.emod_nonneg x7 (show x5 ≠ 0 by omega)
    have n8_ := Int.emod_lt_of_pos x7 (show 0 < x5 by omega)
    rw [fx8] at m8_ n8_
    have R2 := R1.call S2 (by decide +kernel)
    refine z_aload_n (M := M_X10_sum) 81 dX10_sum_81 rfl ?_
    refine z_getR (M := M_X10_sum) 82 dX10_sum_82 f_X10_15 o_96 rfl (g_96_1 G2) ?_
    refine z_iconst (M := M_X10_sum) 85 dX10_sum_85 ?_
    refine z_laldE (M := M_X10_sum) 86 dX10_sum_86 o_98 (by omega) (by omega) ((S2 98 0 rfl).trans ((S1 98 0 rfl).trans ex3)) ?_
    have mx9 := mul_bd (x := x8) (y := x3) (X := 1600000000) (Y := 1600000000) (by omega) (by omega) (by omega) (by omega)
    refine z_lmulN (M := M_X10_sum) 87 dX10_sum_87 (by omega) (by omega) ?_
    refine z_topBJ (lo := 0) (hi := 2560000000000000000) ⟨by omega, by omega⟩ (fun x9 ex9 ax9 bx9 => ?_)
    refine z_laddN (M := M_X10_sum) 88 dX10_sum_88 (by omega) (by omega) ?_
    refine z_topJ (fun x10 ex10 => ?_)
    refine z_lstore_n (M := M_X10_sum) 89 dX10_sum_89 (ls' := [some (mR 96), some (mJ l1), none, some (mJ x10), none, none, none, none, none, none, none, none, none]) (by decide) rfl ?_
    refine z_aload_n (M := M_X10_sum) 90 dX10_sum_90 rfl ?_
    refine z_getR (M := M_X10_sum) 91 dX10_sum_91 f_X10_15 o_96 rfl (g_96_1 G2) ?_
    refine z_iconst (M := M_X10_sum) 94 dX10_sum_94 ?_
    refine z_laldE (M := M_X10_sum) 95 dX10_sum_95 o_98 (by omega) (by omega) ((S2 98 0 rfl).trans ((S1 98 0 rfl).trans ex3)) ?_
    refine z_aload_n (M := M_X10_sum) 96 dX10_sum_96 rfl ?_
    refine z_getR (M := M_X10_sum) 97 dX10_sum_97 f_X10_15 o_96 rfl (g_96_1 G2) ?_
    refine z_iconst (M := M_X10_sum) 100 dX10_sum_100 ?_
    refine z_laldE (M := M_X10_sum) 101 dX10_sum_101 o_98 (by omega) (by omega) ((S2 98 1 rfl).trans ex5) ?_
    have mx11 := mul_bd (x := x3) (y := x5) (X := 1600000000) (Y := 1600000000) (by omega) (by omega) (by omega) (by omega)
    refine z_lmulN (M := M_X10_sum) 102 dX10_sum_102 (by omega) (by omega) ?_
    refine z_topBJ (lo := 0) (hi := 2560000000000000000) ⟨by omega, by omega⟩ (fun x11 ex11 ax11 bx11 => ?_)
    have p11_ : 0 < x11 := (by rw [← ex11]; exact Int.mul_pos (by omega) (by omega))
    refine z_lstore (M := M_X10_sum) 103 dX10_sum_103 (ls' := [some (mR 96), some (mJ l1), none, some (mJ x10), none, some (mJ x11), none, none, none, none, none, none, none]) (by decide) rfl ?_
    refine z_lload_n (M := M_X10_sum) 105 dX10_sum_105 rfl ?_
    refine z_lload_n (M := M_X10_sum) 106 dX10_sum_106 rfl ?_
    refine z_lload (M := M_X10_sum) 107 dX10_sum_107 rfl ?_
    refine z_nJ (M := M_X10_sum) 109 dX10_sum_109 t_X11_quotient l_X10_31 (m_rr_of rfl) (rest := [mJ l1]) (c_X11_quotientQ h2 x10 x11 G2 (by omega) (by omega)) rfl rfl (Nat.le_of_ble_eq_true rfl) ⟨rfl, rfl⟩ (fun x12 h3 qx12 => ?_)
    obtain ⟨G3, S3, fx12⟩ := qx12
    have q12_ := ediv_bd (x := x10) (y := x11) (hi := 5120000000000000000) (by omega) (by omega) (by omega)
    rw [fx12] at q12_
    have R3 := R2.call S3 (by decide +kernel)
    refine z_laddN (M := M_X10_sum) 112 dX10_sum_112 (by omega) (by omega) ?_
    refine z_topJ (fun x13 ex13 => ?_)
    refine z_lstore_n (M := M_X10_sum) 113 dX10_sum_113 (ls' := [some (mR 96), some (mJ x13), none, some (mJ x10), none, some (mJ x11), none, none, none, none, none, none, none]) (by decide) rfl ?_
    refine z_lload_n (M := M_X10_sum) 114 dX10_sum_114 rfl ?_
    refine z_lload (M := M_X10_sum) 115 dX10_sum_115 rfl ?_
    refine z_nJ (M := M_X10_sum) 117 dX10_sum_117 t_X11_remainder l_X10_35 (m_rr_of rfl) (rest := []) (c_X11_remainder2 h3 x10 x11 G3 (by omega) (by omega)) rfl rfl (Nat.le_of_ble_eq_true rfl) ⟨rfl, rfl⟩ (fun x14 h4 qx14 => ?_)
    obtain ⟨G4, S4, fx14⟩ := qx14
    have m14_ := Int.emod_nonneg x10 (show x11 ≠ 0 by omega)
    have n14_ := Int.emod_lt_of_pos x10 (show 0 < x11 by omega)
    rw [fx14] at m14_ n14_
    have R4 := R3.call S4 (by decide +kernel)
    refine z_lstore (M := M_X10_sum) 120 dX10_sum_120 (ls' := [some (mR 96), some (mJ x13), none, some (mJ x10), none, some (mJ x11), none, some (mJ x14), none, none, none, none, none]) (by decide) rfl ?_
    refine z_aload_n (M := M_X10_sum) 122 dX10_sum_122 rfl ?_
    refine z_getR (M := M_X10_sum) 123 dX10_sum_123 f_X10_9 o_96 rfl (g_96_0 G4) ?_
    refine z_iconst (M := M_X10_sum) 126 dX10_sum_126 ?_
    refine z_laldV (M := M_X10_sum) 127 dX10_sum_127 o_97 (by omega) (by omega) (fun x15 ex15 => ?_)
    have v15_ : h0 97 2 = x15 := (by have z := ex15; rw [frE S4] at z; rw [frE S3] at z; rw [frE S2] at z; rw [frE S1] at z; rw [e_] at z; exact z)
    have p15_ := (b_ 2 (by omega)).1; rw [v15_] at p15_
    refine z_aload_n (M := M_X10_sum) 128 dX10_sum_128 rfl ?_
    refine z_getR (M := M_X10_sum) 129 dX10_sum_129 f_X10_15 o_96 rfl (g_96_1 G4) ?_
    refine z_iconst (M := M_X10_sum) 132 dX10_sum_132 ?_
    refine z_laldV (M := M_X10_sum) 133 dX10_sum_133 o_98 (by omega) (by omega) (fun x16 ex16 => ?_)
    have v16_ : h0 98 2 = x16 := (by have z := ex16; rw [frE S4] at z; rw [frE S3] at z; rw [frE S2] at z; rw [frE S1] at z; rw [e_] at z; exact z)
    have p16_ := (b_ 2 (by omega)).2; rw [v16_] at p16_
    refine z_nJ (M := M_X10_sum) 134 dX10_sum_134 t_X11_remainder l_X10_35 (m_rr_of rfl) (rest := []) (c_X11_remainder2 h4 x15 x16 G4 (by omega) (by omega)) rfl rfl (Nat.le_of_ble_eq_true rfl) ⟨rfl, rfl⟩ (fun x17 h5 qx17 => ?_)
    obtain ⟨G5, S5, fx17⟩ := qx17
    have m17_ := Int.emod_nonneg x15 (show x16 ≠ 0 by omega)
    have n17_ := Int.emod_lt_of_pos x15 (show 0 < x16 by omega)
    rw [fx17] at m17_ n17_
    have R5 := R4.call S5 (by decide +kernel)
    refine z_lstore (M := M_X10_sum) 137 dX10_sum_137 (ls' := [some (mR 96), some (mJ x13), none, some (mJ x10), none, some (mJ x11), none, some (mJ x14), none, some (mJ x17), none, none, none]) (by decide) rfl ?_
    refine z_lload (M := M_X10_sum) 139 dX10_sum_139 rfl ?_
    refine z_lload (M := M_X10_sum) 141 dX10_sum_141 rfl ?_
    refine z_aload_n (M := M_X10_sum) 143 dX10_sum_143 rfl ?_
    refine z_getR (M := M_X10_sum) 144 dX10_sum_144 f_X10_15 o_96 rfl (g_96_1 G5) ?_
    refine z_iconst (M := M_X10_sum) 147 dX10_sum_147 ?_
    refine z_laldE (M := M_X10_sum) 148 dX10_sum_148 o_98 (by omega) (by omega) ((S5 98 2 rfl).trans ex16) ?_
    refine z_lload (M := M_X10_sum) 149 dX10_sum_149 rfl ?_
    refine z_lsubN (M := M_X10_sum) 151 dX10_sum_151 (by omega) (by omega) ?_
    refine z_topJ (fun x18 ex18 => ?_)
    refine z_aload_n (M := M_X10_sum) 152 dX10_sum_152 rfl ?_
    refine z_getR (M := M_X10_sum) 153 dX10_sum_153 f_X10_15 o_96 rfl (g_96_1 G5) ?_
    refine z_iconst (M := M_X10_sum) 156 dX10_sum_156 ?_
    refine z_laldE (M := M_X10_sum) 157 dX10_sum_157 o_98 (by omega) (by omega) ((S5 98 2 rfl).trans ex16) ?_
    refine z_nI (M := M_X10_sum) 158 dX10_sum_158 t_X11_compareFractions l_X10_38 (m_rr_of rfl) (rest := []) (c_X11_compareFractions2 h5 x14 x11 x18 x16 G5 ⟨by omega, by omega⟩ ⟨by omega, by omega⟩ (by omega) (by omega)) rfl rfl (Nat.le_of_ble_eq_true rfl) ⟨rfl, rfl⟩ (fun x19 h6 qx19 => ?_)
    obtain ⟨G6, S6, fx19⟩ := qx19
    have sb_ := sg3_b (x14 * x16) (x18 * x11)
    rw [← fx19] at sb_
    have i2_ := i1.2
    rw [show l3 = 3 by omega] at i2_
    have o_ : h6 96 3 = h0 96 3 := (by rw [frE S6, frE S5, frE S4, frE S3, frE S2, frE S1, e_])
    have sv_ := su_val (o := h0 96 3) b_ i2_ v2_ v3_ v7_ v5_ v15_ v16_ fx4 fx8 ex6 ex9 ex10 ex11 fx12 ex13 fx14 fx17 ex18 fx19
    have z19_ := su_ng fx19 ex18 p11_ (by omega)
    have R6 := R5.call S6 (by decide +kernel)
    refine z_ok (fun ox19 _ _ => ?_)
    have ox19 := ox19.1; unfold m_ok m_32 at ox19
    refine z_istore (M := M_X10_sum) 161 dX10_sum_161 (ls' := [some (mR 96), some (mJ x13), none, some (mJ x10), none, some (mJ x11), none, some (mJ x14), none, some (mJ x17), none, some (mI x19), none]) (by decide) rfl ?_
    refine z_iload (M := M_X10_sum) 163 dX10_sum_163 rfl ?_
    refine z_if_eq (M := M_X10_sum) 165 dX10_sum_165 182 rfl (fun c20 => ?_) (fun c20 => ?_)
    · refine z_iconst (M := M_X10_sum) 182 dX10_sum_182 ?_
      refine z_goto (M := M_X10_sum) 183 dX10_sum_183 187 rfl ?_
      refine z_istore (M := M_X10_sum) 187 dX10_sum_187 (ls' := [some (mR 96), some (mJ x13), none, some (mJ x10), none, some (mJ x11), none, some (mJ x14), none, some (mJ x17), none, some (mI x19), some (mI 1)]) (by decide) rfl ?_
      refine z_lload_n (M := M_X10_sum) 189 dX10_sum_189 rfl ?_
      refine z_iload (M := M_X10_sum) 190 dX10_sum_190 rfl ?_
      refine z_if_lt_F (M := M_X10_sum) 192 dX10_sum_192 199 rfl (by omega) ?_
      refine z_lconst (M := M_X10_sum) 195 dX10_sum_195 (v := 1) ?_
      refine z_goto (M := M_X10_sum) 196 dX10_sum_196 200 rfl ?_
      refine z_laddN (M := M_X10_sum) 200 dX10_sum_200 (by omega) (by omega) ?_
      refine z_topJ (fun x21 ex21 => ?_)
      refine z_lstore_n (M := M_X10_sum) 201 dX10_sum_201 (ls' := [some (mR 96), some (mJ x21), none, some (mJ x10), none, some (mJ x11), none, some (mJ x14), none, some (mJ x17), none, some (mI x19), some (mI 1)]) (by decide) rfl ?_
      refine z_aload_n (M := M_X10_sum) 202 dX10_sum_202 rfl ?_
      refine z_getIG (M := M_X10_sum) 203 dX10_sum_203 f_X10_22 o_96 (by decide) (g_96_3 G6) (fun x22 ex22 ax22 bx22 => ?_)
      refine z_if_eq (M := M_X10_sum) 206 dX10_sum_206 220 rfl (fun c23 => ?_) (fun c23 => ?_)
      · exact z_mask [false, true, false, false, false, false, false, false, false, false, false, false, false] rfl (ih.2 x21 h6 G6 R6 ⟨i1.1, (by rw [sv_]; split <;> split <;> omega)⟩ (by omega))
      · refine z_iload (M := M_X10_sum) 209 dX10_sum_209 rfl ?_
        refine z_if_eq_F (M := M_X10_sum) 211 dX10_sum_211 220 rfl (by omega) ?_
        refine z_lload_n (M := M_X10_sum) 214 dX10_sum_214 rfl ?_
        refine z_lconst (M := M_X10_sum) 215 dX10_sum_215 (v := 1) ?_
        refine z_lsubN (M := M_X10_sum) 216 dX10_sum_216 (by omega) (by omega) ?_
        refine z_topJ (fun x24 ex24 => ?_)
        refine z_goto (M := M_X10_sum) 217 dX10_sum_217 221 rfl ?_
        exact z_retJ (M := M_X10_sum) 221 dX10_sum_221 rfl ⟨G6, R6, Or.inr ⟨i1.1, (by rw [sv_]; split <;> split <;> omega)⟩⟩
    · refine z_lload (M := M_X10_sum) 168 dX10_sum_168 rfl ?_
      refine z_lconst (M := M_X10_sum) 170 dX10_sum_170 (v := 0) ?_
      refine z_lcmp (M := M_X10_sum) 171 dX10_sum_171 ?_
      refine z_if_ne (M := M_X10_sum) 172 dX10_sum_172 186 rfl (fun c25 => ?_) (fun c25 => ?_)
      · rw [m_cmp_eq] at c25
        refine z_iconst (M := M_X10_sum) 186 dX10_sum_186 ?_
        refine z_istore (M := M_X10_sum) 187 dX10_sum_187 (ls' := [some (mR 96), some (mJ x13), none, some (mJ x10), none, some (mJ x11), none, some (mJ x14), none, some (mJ x17), none, some (mI x19), some (mI 0)]) (by decide) rfl ?_
        refine z_lload_n (M := M_X10_sum) 189 dX10_sum_189 rfl ?_
        refine z_iload (M := M_X10_sum) 190 dX10_sum_190 rfl ?_
        refine z_if_lt (M := M_X10_sum) 192 dX10_sum_192 199 rfl (fun c26 => ?_) (fun c26 => ?_)
        · refine z_lconst (M := M_X10_sum) 199 dX10_sum_199 (v := 0) ?_
          refine z_laddN (M := M_X10_sum) 200 dX10_sum_200 (by omega) (by omega) ?_
          refine z_topJ (fun x27 ex27 => ?_)
          refine z_lstore_n (M := M_X10_sum) 201 dX10_sum_201 (ls' := [some (mR 96), some (mJ x27), none, some (mJ x10), none, some (mJ x11), none, some (mJ x14), none, some (mJ x17), none, some (mI x19), some (mI 0)]) (by decide) rfl ?_
          refine z_aload_n (M := M_X10_sum) 202 dX10_sum_202 rfl ?_
          refine z_getIG (M := M_X10_sum) 203 dX10_sum_203 f_X10_22 o_96 (by decide) (g_96_3 G6) (fun x28 ex28 ax28 bx28 => ?_)
          refine z_if_eq (M := M_X10_sum) 206 dX10_sum_206 220 rfl (fun c29 => ?_) (fun c29 => ?_)
          · exact z_mask [false, true, false, false, false, false, false, false, false, false, false, false, false] rfl (ih.2 x27 h6 G6 R6 ⟨i1.1, (by rw [sv_]; split <;> split <;> omega)⟩ (by omega))
          · refine z_iload (M := M_X10_sum) 209 dX10_sum_209 rfl ?_
            refine z_if_eq_T (M := M_X10_sum) 211 dX10_sum_211 220 rfl (by omega) ?_
            exact z_mask [false, true, false, false, false, false, false, false, false, false, false, false, false] rfl (ih.2 x27 h6 G6 R6 ⟨i1.1, (by rw [sv_]; split <;> split <;> omega)⟩ (by omega))
        · refine z_lconst (M := M_X10_sum) 195 dX10_sum_195 (v := 1) ?_
          refine z_goto (M := M_X10_sum) 196 dX10_sum_196 200 rfl ?_
          refine z_laddN (M := M_X10_sum) 200 dX10_sum_200 (by omega) (by omega) ?_
          refine z_topJ (fun x30 ex30 => ?_)
          refine z_lstore_n (M := M_X10_sum) 201 dX10_sum_201 (ls' := [some (mR 96), some (mJ x30), none, some (mJ x10), none, some (mJ x11), none, some (mJ x14), none, some (mJ x17), none, some (mI x19), some (mI 0)]) (by decide) rfl ?_
          refine z_aload_n (M := M_X10_sum) 202 dX10_sum_202 rfl ?_
          refine z_getIG (M := M_X10_sum) 203 dX10_sum_203 f_X10_22 o_96 (by decide) (g_96_3 G6) (fun x31 ex31 ax31 bx31 => ?_)
          refine z_if_eq (M := M_X10_sum) 206 dX10_sum_206 220 rfl (fun c32 => ?_) (fun c32 => ?_)
          · exact z_mask [false, true, false, false, false, false, false, false, false, false, false, false, false] rfl (ih.2 x30 h6 G6 R6 ⟨i1.1, (by rw [sv_]; split <;> split <;> omega)⟩ (by omega))
          · refine z_iload (M := M_X10_sum) 209 dX10_sum_209 rfl ?_
            refine z_if_eq_T (M := M_X10_sum) 211 dX10_sum_211 220 rfl (by omega) ?_
            exact z_mask [false, true, false, false, false, false, false, false, false, false, false, false, false] rfl (ih.2 x30 h6 G6 R6 ⟨i1.1, (by rw [sv_]; split <;> split <;> omega)⟩ (by omega))
      · rw [m_cmp_eq] at c25
        refine z_lload (M := M_X10_sum) 175 dX10_sum_175 rfl ?_
        refine z_lconst (M := M_X10_sum) 177 dX10_sum_177 (v := 0) ?_
        refine z_lcmp (M := M_X10_sum) 178 dX10_sum_178 ?_
        refine z_if_ne (M := M_X10_sum) 179 dX10_sum_179 186 rfl (fun c33 => ?_) (fun c33 => ?_)
        · rw [m_cmp_eq] at c33
          refine z_iconst (M := M_X10_sum) 186 dX10_sum_186 ?_
          refine z_istore (M := M_X10_sum) 187 dX10_sum_187 (ls' := [some (mR 96), some (mJ x13), none, some (mJ x10), none, some (mJ x11), none, some (mJ x14), none, some (mJ x17), none, some (mI x19), some (mI 0)]) (by decide) rfl ?_
          refine z_lload_n (M := M_X10_sum) 189 dX10_sum_189 rfl ?_
          refine z_iload (M := M_X10_sum) 190 dX10_sum_190 rfl ?_
          refine z_if_lt (M := M_X10_sum) 192 dX10_sum_192 199 rfl (fun c34 => ?_) (fun c34 => ?_)
          · refine z_lconst (M := M_X10_sum) 199 dX10_sum_199 (v := 0) ?_
            refine z_laddN (M := M_X10_sum) 200 dX10_sum_200 (by omega) (by omega) ?_
            refine z_topJ (fun x35 ex35 => ?_)
            refine z_lstore_n (M := M_X10_sum) 201 dX10_sum_201 (ls' := [some (mR 96), some (mJ x35), none, some (mJ x10), none, some (mJ x11), none, some (mJ x14), none, some (mJ x17), none, some (mI x19), some (mI 0)]) (by decide) rfl ?_
            refine z_aload_n (M := M_X10_sum) 202 dX10_sum_202 rfl ?_
            refine z_getIG (M := M_X10_sum) 203 dX10_sum_203 f_X10_22 o_96 (by decide) (g_96_3 G6) (fun x36 ex36 ax36 bx36 => ?_)
            refine z_if_eq (M := M_X10_sum) 206 dX10_sum_206 220 rfl (fun c37 => ?_) (fun c37 => ?_)
            · exact z_mask [false, true, false, false, false, false, false, false, false, false, false, false, false] rfl (ih.2 x35 h6 G6 R6 ⟨i1.1, (by rw [sv_]; split <;> split <;> omega)⟩ (by omega))
            · refine z_iload (M := M_X10_sum) 209 dX10_sum_209 rfl ?_
              refine z_if_eq_T (M := M_X10_sum) 211 dX10_sum_211 220 rfl (by omega) ?_
              exact z_mask [false, true, false, false, false, false, false, false, false, false, false, false, false] rfl (ih.2 x35 h6 G6 R6 ⟨i1.1, (by rw [sv_]; split <;> split <;> omega)⟩ (by omega))
          · refine z_lconst (M := M_X10_sum) 195 dX10_sum_195 (v := 1) ?_
            refine z_goto (M := M_X10_sum) 196 dX10_sum_196 200 rfl ?_
            refine z_laddN (M := M_X10_sum) 200 dX10_sum_200 (by omega) (by omega) ?_
            refine z_topJ (fun x38 ex38 => ?_)
            refine z_lstore_n (M := M_X10_sum) 201 dX10_sum_201 (ls' := [some (mR 96), some (mJ x38), none, some (mJ x10), none, some (mJ x11), none, some (mJ x14), none, some (mJ x17), none, some (mI x19), some (mI 0)]) (by decide) rfl ?_
            refine z_aload_n (M := M_X10_sum) 202 dX10_sum_202 rfl ?_
            refine z_getIG (M := M_X10_sum) 203 dX10_sum_203 f_X10_22 o_96 (by decide) (g_96_3 G6) (fun x39 ex39 ax39 bx39 => ?_)
            refine z_if_eq (M := M_X10_sum) 206 dX10_sum_206 220 rfl (fun c40 => ?_) (fun c40 => ?_)
            · exact z_mask [false, true, false, false, false, false, false, false, false, false, false, false, false] rfl (ih.2 x38 h6 G6 R6 ⟨i1.1, (by rw [sv_]; split <;> split <;> omega)⟩ (by omega))
            · refine z_iload (M := M_X10_sum) 209 dX10_sum_209 rfl ?_
              refine z_if_eq_T (M := M_X10_sum) 211 dX10_sum_211 220 rfl (by omega) ?_
              exact z_mask [false, true, false, false, false, false, false, false, false, false, false, false, false] rfl (ih.2 x38 h6 G6 R6 ⟨i1.1, (by rw [sv_]; split <;> split <;> omega)⟩ (by omega))
        · rw [m_cmp_eq] at c33
          refine z_iconst (M := M_X10_sum) 182 dX10_sum_182 ?_
          refine z_goto (M := M_X10_sum) 183 dX10_sum_183 187 rfl ?_
          refine z_istore (M := M_X10_sum) 187 dX10_sum_187 (ls' := [some (mR 96), some (mJ x13), none, some (mJ x10), none, some (mJ x11), none, some (mJ x14), none, some (mJ x17), none, some (mI x19), some (mI 1)]) (by decide) rfl ?_
          refine z_lload_n (M := M_X10_sum) 189 dX10_sum_189 rfl ?_
          refine z_iload (M := M_X10_sum) 190 dX10_sum_190 rfl ?_
          refine z_if_lt (M := M_X10_sum) 192 dX10_sum_192 199 rfl (fun c41 => ?_) (fun c41 => ?_)
          · refine z_lconst (M := M_X10_sum) 199 dX10_sum_199 (v := 0) ?_
            refine z_laddN (M := M_X10_sum) 200 dX10_sum_200 (by omega) (by omega) ?_
            refine z_topJ (fun x42 ex42 => ?_)
            refine z_lstore_n (M := M_X10_sum) 201 dX10_sum_201 (ls' := [some (mR 96), some (mJ x42), none, some (mJ x10), none, some (mJ x11), none, some (mJ x14), none, some (mJ x17), none, some (mI x19), some (mI 1)]) (by decide) rfl ?_
            refine z_aload_n (M := M_X10_sum) 202 dX10_sum_202 rfl ?_
            refine z_getIG (M := M_X10_sum) 203 dX10_sum_203 f_X10_22 o_96 (by decide) (g_96_3 G6) (fun x43 ex43 ax43 bx43 => ?_)
            refine z_if_eq (M := M_X10_sum) 206 dX10_sum_206 220 rfl (fun c44 => ?_) (fun c44 => ?_)
            · exact z_mask [false, true, false, false, false, false, false, false, false, false, false, false, false] rfl (ih.2 x42 h6 G6 R6 ⟨i1.1, (by rw [sv_]; split <;> split <;> omega)⟩ (by omega))
            · refine z_iload (M := M_X10_sum) 209 dX10_sum_209 rfl ?_
              refine z_if_eq_F (M := M_X10_sum) 211 dX10_sum_211 220 rfl (by omega) ?_
              refine z_lload_n (M := M_X10_sum) 214 dX10_sum_214 rfl ?_
              refine z_lconst (M := M_X10_sum) 215 dX10_sum_215 (v := 1) ?_
              refine z_lsubN (M := M_X10_sum) 216 dX10_sum_216 (by omega) (by omega) ?_
              refine z_topJ (fun x45 ex45 => ?_)
              refine z_goto (M := M_X10_sum) 217 dX10_sum_217 221 rfl ?_
              exact z_retJ (M := M_X10_sum) 221 dX10_sum_221 rfl ⟨G6, R6, Or.inr ⟨i1.1, (by rw [sv_]; split <;> split <;> omega)⟩⟩
          · refine z_lconst (M := M_X10_sum) 195 dX10_sum_195 (v := 1) ?_
            refine z_goto (M := M_X10_sum) 196 dX10_sum_196 200 rfl ?_
            refine z_laddN (M := M_X10_sum) 200 dX10_sum_200 (by omega) (by omega) ?_
            refine z_topJ (fun x46 ex46 => ?_)
            refine z_lstore_n (M := M_X10_sum) 201 dX10_sum_201 (ls' := [some (mR 96), some (mJ x46), none, some (mJ x10), none, some (mJ x11), none, some (mJ x14), none, some (mJ x17), none, some (mI x19), some (mI 1)]) (by decide) rfl ?_
            refine z_aload_n (M := M_X10_sum) 202 dX10_sum_202 rfl ?_
            refine z_getIG (M := M_X10_sum) 203 dX10_sum_203 f_X10_22 o_96 (by decide) (g_96_3 G6) (fun x47 ex47 ax47 bx47 => ?_)
            refine z_if_eq (M := M_X10_sum) 206 dX10_sum_206 220 rfl (fun c48 => ?_) (fun c48 => ?_)
            · exact z_mask [false, true, false, false, false, false, false, false, false, false, false, false, false] rfl (ih.2 x46 h6 G6 R6 ⟨i1.1, (by rw [sv_]; split <;> split <;> omega)⟩ (by omega))
            · refine z_iload (M := M_X10_sum) 209 dX10_sum_209 rfl ?_
              refine z_if_eq_F (M := M_X10_sum) 211 dX10_sum_211 220 rfl (by omega) ?_
              refine z_lload_n (M := M_X10_sum) 214 dX10_sum_214 rfl ?_
              refine z_lconst (M := M_X10_sum) 215 dX10_sum_215 (v := 1) ?_
              refine z_lsubN (M := M_X10_sum) 216 dX10_sum_216 (by omega) (by omega) ?_
              refine z_topJ (fun x49 ex49 => ?_)
              refine z_goto (M := M_X10_sum) 217 dX10_sum_217 221 rfl ?_
              exact z_retJ (M := M_X10_sum) 221 dX10_sum_221 rfl ⟨G6, R6, Or.inr ⟨i1.1, (by rw [sv_]; split <;> split <;> omega)⟩⟩
  · refine z_lload_n (M := M_X10_sum) 20 dX10_sum_20 rfl ?_
    refine z_aload_n (M := M_X10_sum) 21 dX10_sum_21 rfl ?_
    refine z_getR (M := M_X10_sum) 22 dX10_sum_22 f_X10_9 o_96 rfl (g_96_0 G) ?_
    refine z_iload_n (M := M_X10_sum) 25 dX10_sum_25 rfl ?_
    refine z_laldV (M := M_X10_sum) 26 dX10_sum_26 o_97 (by omega) (by omega) (fun x50 ex50 => ?_)
    have v50_ : h0 97 l3.toNat = x50 := (by have z := ex50; rw [e_] at z; exact z)
    have p50_ := (b_ l3.toNat (by omega)).1; rw [v50_] at p50_
    refine z_aload_n (M := M_X10_sum) 27 dX10_sum_27 rfl ?_
    refine z_getR (M := M_X10_sum) 28 dX10_sum_28 f_X10_15 o_96 rfl (g_96_1 G) ?_
    refine z_iload_n (M := M_X10_sum) 31 dX10_sum_31 rfl ?_
    refine z_laldV (M := M_X10_sum) 32 dX10_sum_32 o_98 (by omega) (by omega) (fun x51 ex51 => ?_)
    have v51_ : h0 98 l3.toNat = x51 := (by have z := ex51; rw [e_] at z; exact z)
    have p51_ := (b_ l3.toNat (by omega)).2; rw [v51_] at p51_
    refine z_nJ (M := M_X10_sum) 33 dX10_sum_33 t_X11_quotient l_X10_31 (m_rr_of rfl) (rest := [mJ l1]) (c_X11_quotientQ h x50 x51 G (by omega) (by omega)) rfl rfl (Nat.le_of_ble_eq_true rfl) ⟨rfl, rfl⟩ (fun x52 h7 qx52 => ?_)
    obtain ⟨G7, S7, fx52⟩ := qx52
    have q52_ := ediv_bd (x := x50) (y := x51) (hi := 1600000000) (by omega) (by omega) (by omega)
    rw [fx52] at q52_
    have R7 := R.call S7 (by decide +kernel)
    refine z_laddN (M := M_X10_sum) 36 dX10_sum_36 (by omega) (by omega) ?_
    refine z_topJ (fun x53 ex53 => ?_)
    refine z_lstore_n (M := M_X10_sum) 37 dX10_sum_37 (ls' := [some (mR 96), some (mJ x53), none, some (mI l3), none, none, none, none, none, none, none, none, none]) (by decide) rfl ?_
    refine z_iincN (M := M_X10_sum) 38 dX10_sum_38 (ls' := [some (mR 96), some (mJ x53), none, some (mI (l3 + 1)), none, none, none, none, none, none, none, none, none]) (by decide) rfl (by (unfold m_32; decide)) (by omega) (by omega) rfl ?_
    refine z_goto (M := M_X10_sum) 41 dX10_sum_41 15 rfl ?_
    exact z_mask [true, true, false, true, false, false, false, false, false, false, false, false, false] rfl (ih.1 x53 (l3 + 1) h7 G7 R7 (by omega) (by omega) ⟨i1.1, by have z := suW_s (x := x52) i1.2 (by omega) (by omega) (by rw [v50_, v51_]; exact fx52); rw [ex53] at z; exact z⟩ (by omega))
set_option maxHeartbeats 4000000 in
set_option maxRecDepth 100000 in
theorem s_X10_sum2_220 (h0 : m_H) (G0 : GI h0) (hb : h0 96 4 = 0 → suB (h0 97) (h0 98)) (n : Nat) (ih : q_X10_sum2 h0 n) : ∀ (l1 : Int) (h : m_H), GI h → FR [] [] h0 h → (h0 96 4 = 0 ∧ l1 = gnG (suN (h0 97) (h0 98)) (suD (h0 98)) (h0 96 3)) → (1) ≤ ((n + 1 : Nat) : Int) → m_Z oF M_X10_sum 220 [none, some (mJ l1), none, none, none, none, none, none, none, none, none, none, none] [] h (m_QJ (P_X10_sum2 h0)) := by
  intro l1 h G R i1 hr
  refine z_lload_n (M := M_X10_sum) 220 dX10_sum_220 rfl ?_
  exact z_retJ (M := M_X10_sum) 221 dX10_sum_221 rfl ⟨G, R, Or.inr i1⟩
theorem a_X10_sum2 (h0 : m_H) (G0 : GI h0) (hb : h0 96 4 = 0 → suB (h0 97) (h0 98)) : ∀ n, q_X10_sum2 h0 n := by
  intro n
  induction n with
  | zero => unfold q_X10_sum2; refine ⟨?_, ?_⟩ <;> (intros; omega)
  | succ n ih => exact ⟨s_X10_sum2_15 h0 G0 hb n ih, s_X10_sum2_220 h0 G0 hb n ih⟩
set_option maxHeartbeats 4000000 in
set_option maxRecDepth 100000 in
theorem c_X10_sum2 (h0 : m_H) (G0 : GI h0) (hb : h0 96 4 = 0 → suB (h0 97) (h0 98)) : m_CJ M_X10_sum [mR 96] h0 (P_X10_sum2 h0) := by
  refine m_CJ_of ⟨by decide, rfl, by simp [m_arg, m_isL, M_X10_sum], ⟨rfl, rfl⟩, rfl, rfl⟩ (ls := [some (mR 96), none, none, none, none, none, none, none, none, none, none, none, none]) rfl ?_
  have ih := a_X10_sum2 h0 G0 hb 15
  refine z_aload_n (M := M_X10_sum) 0 dX10_sum_0 rfl ?_
  refine z_getIG (M := M_X10_sum) 1 dX10_sum_1 f_X10_26 o_96 (by decide) (g_96_4 G0) (fun x1 ex1 ax1 bx1 => ?_)
  refine z_if_eq (M := M_X10_sum) 4 dX10_sum_4 11 rfl (fun c2 => ?_) (fun c2 => ?_)
  · refine z_lconst (M := M_X10_sum) 11 dX10_sum_11 (v := 0) ?_
    refine z_lstore_n (M := M_X10_sum) 12 dX10_sum_12 (ls' := [some (mR 96), some (mJ 0), none, none, none, none, none, none, none, none, none, none, none]) (by decide) rfl ?_
    refine z_iconst (M := M_X10_sum) 13 dX10_sum_13 ?_
    refine z_istore_n (M := M_X10_sum) 14 dX10_sum_14 (ls' := [some (mR 96), some (mJ 0), none, some (mI 0), none, none, none, none, none, none, none, none, none]) (by decide) rfl ?_
    exact z_mask [true, true, false, true, false, false, false, false, false, false, false, false, false] rfl (ih.1 0 0 h0 G0 (FR.rf (cs := []) (ss := []) (h := h0)) (by omega) (by omega) ⟨ex1.trans c2, Or.inl ⟨rfl, rfl⟩⟩ (by omega))
  · refine z_ldc2 (M := M_X10_sum) 7 dX10_sum_7 k_X10_29 ?_
    exact z_retJ (M := M_X10_sum) 10 dX10_sum_10 rfl ⟨G0, (FR.rf (cs := []) (ss := []) (h := h0)), Or.inl ⟨fun z => c2 (ex1.symm.trans z), rfl⟩⟩
abbrev P_X10_product2 (h0 : m_H) : Int → m_H → Prop := fun x h' => GI h' ∧ FR [] [] h0 h' ∧ ((h0 96 4 ≠ 0 ∧ x = -1) ∨ (h0 96 4 = 0 ∧ x = gnG (h0 97 0 * h0 97 1) (h0 98 0 * h0 98 1) (h0 96 3)))
set_option maxHeartbeats 4000000 in
set_option maxRecDepth 100000 in
theorem c_X10_product2 (h0 : m_H) (G0 : GI h0) (hb : h0 96 4 = 0 → suB (h0 97) (h0 98)) : m_CJ M_X10_product [mR 96] h0 (P_X10_product2 h0) := by
  refine m_CJ_of ⟨by decide, rfl, by simp [m_arg, m_isL, M_X10_product], ⟨rfl, rfl⟩, rfl, rfl⟩ (ls := [some (mR 96), none, none, none, none, none, none]) rfl ?_
  refine z_aload_n (M := M_X10_product) 0 dX10_product_0 rfl ?_
  refine z_getIG (M := M_X10_product) 1 dX10_product_1 f_X10_26 o_96 (by decide) (g_96_4 G0) (fun x1 ex1 ax1 bx1 => ?_)
  refine z_if_eq (M := M_X10_product) 4 dX10_product_4 11 rfl (fun c2 => ?_) (fun c2 => ?_)
  · refine z_aload_n (M := M_X10_product) 11 dX10_product_11 rfl ?_
    refine z_getR (M := M_X10_product) 12 dX10_product_12 f_X10_9 o_96 rfl (g_96_0 G0) ?_
    refine z_iconst (M := M_X10_product) 15 dX10_product_15 ?_
    refine z_laldV (M := M_X10_product) 16 dX10_product_16 o_97 (by omega) (by omega) (fun x3 ex3 => ?_)
    have b_ := hb (ex1.trans c2)
    have v3_ : h0 97 0 = x3 := ex3
    have p3_ := (b_ 0 (by decide)).1; rw [v3_] at p3_
    refine z_aload_n (M := M_X10_product) 17 dX10_product_17 rfl ?_
    refine z_getR (M := M_X10_product) 18 dX10_product_18 f_X10_9 o_96 rfl (g_96_0 G0) ?_
    refine z_iconst (M := M_X10_product) 21 dX10_product_21 ?_
    refine z_laldV (M := M_X10_product) 22 dX10_product_22 o_97 (by omega) (by omega) (fun x4 ex4 => ?_)
    have v4_ : h0 97 1 = x4 := ex4
    have p4_ := (b_ 1 (by decide)).1; rw [v4_] at p4_
    have mx5 := mul_bd (x := x3) (y := x4) (X := 1600000000) (Y := 1600000000) (by omega) (by omega) (by omega) (by omega)
    refine z_lmulN (M := M_X10_product) 23 dX10_product_23 (by omega) (by omega) ?_
    refine z_topBJ (lo := 0) (hi := 2560000000000000000) ⟨by omega, by omega⟩ (fun x5 ex5 ax5 bx5 => ?_)
    refine z_lstore_n (M := M_X10_product) 24 dX10_product_24 (ls' := [some (mR 96), some (mJ x5), none, none, none, none, none]) (by decide) rfl ?_
    refine z_aload_n (M := M_X10_product) 25 dX10_product_25 rfl ?_
    refine z_getR (M := M_X10_product) 26 dX10_product_26 f_X10_15 o_96 rfl (g_96_1 G0) ?_
    refine z_iconst (M := M_X10_product) 29 dX10_product_29 ?_
    refine z_laldV (M := M_X10_product) 30 dX10_product_30 o_98 (by omega) (by omega) (fun x6 ex6 => ?_)
    have v6_ : h0 98 0 = x6 := ex6
    have p6_ := (b_ 0 (by decide)).2; rw [v6_] at p6_
    refine z_aload_n (M := M_X10_product) 31 dX10_product_31 rfl ?_
    refine z_getR (M := M_X10_product) 32 dX10_product_32 f_X10_15 o_96 rfl (g_96_1 G0) ?_
    refine z_iconst (M := M_X10_product) 35 dX10_product_35 ?_
    refine z_laldV (M := M_X10_product) 36 dX10_product_36 o_98 (by omega) (by omega) (fun x7 ex7 => ?_)
    have v7_ : h0 98 1 = x7 := ex7
    have p7_ := (b_ 1 (by decide)).2; rw [v7_] at p7_
    have mx8 := mul_bd (x := x6) (y := x7) (X := 1600000000) (Y := 1600000000) (by omega) (by omega) (by omega) (by omega)
    refine z_lmulN (M := M_X10_product) 37 dX10_product_37 (by omega) (by omega) ?_
    refine z_topBJ (lo := 0) (hi := 2560000000000000000) ⟨by omega, by omega⟩ (fun x8 ex8 ax8 bx8 => ?_)
    have p8_ : 0 < x8 := (by rw [← ex8]; exact Int.mul_pos (by omega) (by omega))
    refine z_lstore_n (M := M_X10_product) 38 dX10_product_38 (ls' := [some (mR 96), some (mJ x5), none, some (mJ x8), none, none, none]) (by decide) rfl ?_
    refine z_lload_n (M := M_X10_product) 39 dX10_product_39 rfl ?_
    refine z_lload_n (M := M_X10_product) 40 dX10_product_40 rfl ?_
    refine z_nJ (M := M_X10_product) 41 dX10_product_41 t_X11_quotient l_X10_31 (m_rr_of rfl) (rest := []) (c_X11_quotientQ h0 x5 x8 G0 (by omega) (by omega)) rfl rfl (Nat.le_of_ble_eq_true rfl) ⟨rfl, rfl⟩ (fun x9 h1 qx9 => ?_)
    obtain ⟨G1, S1, fx9⟩ := qx9
    have q9_ := ediv_bd (x := x5) (y := x8) (hi := 2560000000000000000) (by omega) (by omega) (by omega)
    rw [fx9] at q9_
    have o_ : h1 96 3 = h0 96 3 := S1 96 3 rfl
    have le_ := Int.mul_ediv_self_le (x := x5) (k := x8) (by omega)
    rw [fx9, Int.mul_comm] at le_
    have ge_ := Int.mul_nonneg q9_.1 (Int.le_of_lt p8_)
    have R1 := (FR.rf (cs := []) (ss := []) (h := h0)).call S1 (by decide +kernel)
    refine z_lstore (M := M_X10_product) 44 dX10_product_44 (ls' := [some (mR 96), some (mJ x5), none, some (mJ x8), none, some (mJ x9), none]) (by decide) rfl ?_
    refine z_aload_n (M := M_X10_product) 46 dX10_product_46 rfl ?_
    refine z_getIG (M := M_X10_product) 47 dX10_product_47 f_X10_22 o_96 (by decide) (g_96_3 G1) (fun x10 ex10 ax10 bx10 => ?_)
    refine z_if_eq (M := M_X10_product) 50 dX10_product_50 69 rfl (fun c11 => ?_) (fun c11 => ?_)
    · refine z_lload (M := M_X10_product) 69 dX10_product_69 rfl ?_
      exact z_retJ (M := M_X10_product) 71 dX10_product_71 rfl ⟨G1, R1, Or.inr ⟨ex1.trans c2, by unfold gnG; rw [v3_, v4_, v6_, v7_, ex5, ex8, fx9, ← o_, ex10]; rw [if_neg (fun z => absurd z.1 (by omega))]⟩⟩
    · refine z_lload (M := M_X10_product) 53 dX10_product_53 rfl ?_
      refine z_lload_n (M := M_X10_product) 55 dX10_product_55 rfl ?_
      refine z_lmulN (M := M_X10_product) 56 dX10_product_56 (by omega) (by omega) ?_
      refine z_topJ (fun x12 ex12 => ?_)
      refine z_lload_n (M := M_X10_product) 57 dX10_product_57 rfl ?_
      refine z_lcmp (M := M_X10_product) 58 dX10_product_58 ?_
      refine z_if_ne (M := M_X10_product) 59 dX10_product_59 69 rfl (fun c13 => ?_) (fun c13 => ?_)
      · rw [m_cmp_eq] at c13
        refine z_lload (M := M_X10_product) 69 dX10_product_69 rfl ?_
        exact z_retJ (M := M_X10_product) 71 dX10_product_71 rfl ⟨G1, R1, Or.inr ⟨ex1.trans c2, by unfold gnG; rw [v3_, v4_, v6_, v7_, ex5, ex8, fx9, ← o_, ex10]; rw [if_neg (fun z => c13 (ex12.symm.trans z.2))]⟩⟩
      · rw [m_cmp_eq] at c13
        refine z_lload (M := M_X10_product) 62 dX10_product_62 rfl ?_
        refine z_lconst (M := M_X10_product) 64 dX10_product_64 (v := 1) ?_
        refine z_lsubN (M := M_X10_product) 65 dX10_product_65 (by omega) (by omega) ?_
        refine z_topJ (fun x14 ex14 => ?_)
        refine z_goto (M := M_X10_product) 66 dX10_product_66 71 rfl ?_
        exact z_retJ (M := M_X10_product) 71 dX10_product_71 rfl ⟨G1, R1, Or.inr ⟨ex1.trans c2, by unfold gnG; rw [v3_, v4_, v6_, v7_, ex5, ex8, fx9, ← o_, ex10]; rw [if_pos ⟨by omega, ex12.trans c13⟩]; exact ex14.symm⟩⟩
  · refine z_ldc2 (M := M_X10_product) 7 dX10_product_7 k_X10_29 ?_
    exact z_retJ (M := M_X10_product) 10 dX10_product_10 rfl ⟨G0, (FR.rf (cs := []) (ss := []) (h := h0)), Or.inl ⟨fun z => c2 (ex1.symm.trans z), rfl⟩⟩
/-! lay, area: what stands when it can be, beside spans and totals -/
def TN (r : Nat → Int) (h : m_H) : Prop := ∃ g s, TY r s g ∧ ∀ c, c < 94 → h c = g c
theorem TN.step {r : Nat → Int} {h h' : m_H} (T : TN r h) (e : ∀ c, c < 94 → h' c = h c) : TN r h' := by
  obtain ⟨g, s, Y, E⟩ := T
  exact ⟨g, s, Y, fun c c1 => (e c c1).trans (E c c1)⟩
theorem lm_sam2 {h g : m_H} (E : ∀ c, c < 94 → h c = g c) (a b : Int) : ∀ n, n ≤ 16 → lmN h a b n = lmN g a b n
  | 0, _ => rfl
  | n + 1, hn => by
    have i := lm_sam2 E a b n (by omega)
    show lmS h a b (n : Int) (lmN h a b n) = lmS g a b (n : Int) (lmN g a b n)
    rw [i]
    unfold lmS cnd hiV loV
    rw [E 39 (by decide), E 40 (by decide), E 41 (by decide), E (77 + (n : Int).toNat) (by omega)]
theorem TN.H {r : Nat → Int} {h : m_H} (T : TN r h) : bkH h := by
  obtain ⟨g, s, ⟨D, _, X⟩, E⟩ := T
  have b := X.1.1
  unfold bkH at b ⊢
  rw [E 39 (by decide), E 41 (by decide)]; exact b
theorem TN.R {r : Nat → Int} {h : m_H} (T : TN r h) : bkR h := by
  obtain ⟨g, s, ⟨D, _, X⟩, E⟩ := T
  have b := bkR_X X
  intro p hp
  have q := b p hp
  unfold bd at q ⊢
  rw [E (77 + p) (by omega)]; exact q
theorem TN.cp {h : m_H} {a b : Int} {B : Int × Int × Int} (G : GI h) (N : NP h) (T : TN (h 110) h) (ng : ¬ gain (bR (h 110))) (ta : thr (h 110) a) (tb : thr (h 110) b) (e : B = if a = b then (1, 1, 0) else lmN h a b 16) (o : B.2.2 = 0 ∨ B.2.2 = 1) : cpB (h 110) a b B := by
  obtain ⟨g, s, Y, E⟩ := T
  exact cp_of G N Y ng ta tb (by rw [e, lm_sam2 E a b 16 (Nat.le_refl _)]) o
/-- the least (w 0) or greatest of a length by a foot, as a fraction n / d, left out if o; without d none -/
def fyL (r : Nat → Int) (a f w n d o : Int) : Prop := (w = 0 ∧ ∃ B, BX (bR r) (12 + f).toNat a.toNat B ∧ 0 < d ∧ n * B.1 = d * B.2.1 ∧ o = 0) ∨ (w ≠ 0 ∧ ∃ B, BX (bR r) a.toNat (12 + f).toNat B ∧ ((B.2.1 = 0 ∧ d = 0) ∨ (B.2.1 ≠ 0 ∧ 0 < d ∧ n * B.2.1 = d * B.1)) ∧ (o = 1 ↔ B.2.2 = 1))
theorem fy_x {n d n' d' p q p' q' : Int} (hp : 0 < p) (hp' : 0 < p') (e : n * p = d * q) (e' : n' * p' = d' * q') (x : p * q' = p' * q) : n * d' = n' * d := by
  have k : (n * d') * (p * p') = (n' * d) * (p * p') := by
    have k1 : (n * d') * (p * p') = (n * p) * (d' * p') := by ac_rfl
    have k2 : (n' * d) * (p * p') = (n' * p') * (d * p) := by ac_rfl
    rw [k1, k2, e, e']
    have k3 : d * q * (d' * p') = (p' * q) * (d * d') := by ac_rfl
    have k4 : d' * q' * (d * p) = (p * q') * (d * d') := by ac_rfl
    rw [k3, k4, x]
  exact Int.eq_of_mul_eq_mul_right (Int.ne_of_gt (Int.mul_pos hp hp')) k
theorem fy_eq {r : Nat → Int} (hE : ∀ e ∈ bR r, gEo e) {a f w n d o n' d' o' : Int} (h : fyL r a f w n d o) (k : fyL r a f w n' d' o') : (d = 0 ↔ d' = 0) ∧ (d ≠ 0 → (0 < d ∧ 0 < d') ∧ n * d' = n' * d) ∧ (o = 1 ↔ o' = 1) := by
  rcases h with ⟨h1, B, h2, h3, h4, h5⟩ | ⟨h1, B, h2, h3, h4⟩ <;> rcases k with ⟨k1, C, k2, k3, k4, k5⟩ | ⟨k1, C, k2, k3, k4⟩
  · have z := (BW_eq hE h2.1 k2.1).2.1
    exact ⟨by omega, fun _ => ⟨⟨h3, k3⟩, fy_x h2.1.1.1 k2.1.1.1 h4 k4 z⟩, by omega⟩
  · exact absurd h1 k1
  · exact absurd k1 h1
  · obtain ⟨z1, z2, _⟩ := BW_eq hE h2.1 k2.1
    have z3 := BX_o hE h2 k2
    refine ⟨?_, fun nd => ?_, h4.trans (z3.trans k4.symm)⟩
    · rcases h3 with ⟨x1, x2⟩ | ⟨x1, x2, _⟩ <;> rcases k3 with ⟨y1, y2⟩ | ⟨y1, y2, _⟩
      · omega
      · exact absurd (z1.mp x1) y1
      · exact absurd (z1.mpr y1) x1
      · omega
    · rcases h3 with ⟨x1, x2⟩ | ⟨x1, x2, x3⟩
      · exact absurd x2 nd
      · rcases k3 with ⟨y1, y2⟩ | ⟨y1, y2, y3⟩
        · exact absurd (z1.mpr y1) x1
        · have b1 := h2.1.1.2
          have c1 := k2.1.1.2
          exact ⟨⟨x2, y2⟩, fy_x (by omega) (by omega) x3 y3 (by rw [Int.mul_comm B.2.1, Int.mul_comm C.2.1]; exact z2.symm)⟩
def orO (a b c : Int) : Int := if a = 1 ∨ b = 1 ∨ c = 1 then 1 else 0
def lyV (M n1 d1 o1 n2 d2 o2 n3 d3 o3 x : Int) : Prop := ((d1 = 0 ∨ d2 = 0 ∨ d3 = 0) ∧ x = -1) ∨ ((d1 ≠ 0 ∧ d2 ≠ 0 ∧ d3 ≠ 0) ∧ x = cap M (gnG (n1 * (d2 * d3) + n2 * (d1 * d3) + n3 * (d1 * d2)) (d1 * d2 * d3) (orO o1 o2 o3)))
def lyK (r : Nat → Int) (a b c f w : Int) : Prop := ((0 ≤ a ∧ a ≤ 11) ∧ thr r a) ∧ ((0 ≤ b ∧ b ≤ 11) ∧ thr r b) ∧ (c = -1 ∨ ((0 ≤ c ∧ c ≤ 11) ∧ thr r c)) ∧ (0 ≤ f ∧ f ≤ 3) ∧ (0 ≤ w ∧ w ≤ 1) ∧ ¬ gain (bR r)
def ly3 (r : Nat → Int) (c f w n d o : Int) : Prop := (c = -1 ∧ n = 0 ∧ d = 1 ∧ o = 0) ∨ (c ≠ -1 ∧ fyL r c f w n d o)
def lyQ (r : Nat → Int) (a b c f w x : Int) : Prop := (¬ lyK r a b c f w ∧ x = -2) ∨ (lyK r a b c f w ∧ ∃ n1 d1 o1 n2 d2 o2 n3 d3 o3, (fyL r a f w n1 d1 o1 ∧ fyL r b f w n2 d2 o2 ∧ ly3 r c f w n3 d3 o3) ∧ lyV 6000 n1 d1 o1 n2 d2 o2 n3 d3 o3 x)
theorem ly3_eq {r : Nat → Int} (hE : ∀ e ∈ bR r, gEo e) {a f w n d o n' d' o' : Int} (h : ly3 r a f w n d o) (k : ly3 r a f w n' d' o') : (d = 0 ↔ d' = 0) ∧ (d ≠ 0 → (0 < d ∧ 0 < d') ∧ n * d' = n' * d) ∧ (o = 1 ↔ o' = 1) := by
  rcases h with ⟨h1, h2, h3, h4⟩ | ⟨h1, h2⟩ <;> rcases k with ⟨k1, k2, k3, k4⟩ | ⟨k1, k2⟩
  · subst h2 h3 h4 k2 k3 k4
    exact ⟨Iff.rfl, fun _ => ⟨⟨by decide, by decide⟩, rfl⟩, Iff.rfl⟩
  · exact absurd h1 k1
  · exact absurd k1 h1
  · exact fy_eq hE h2 k2
theorem ly_sum {n1 d1 n2 d2 n3 d3 m1 e1 m2 e2 m3 e3 : Int} (h1 : n1 * e1 = m1 * d1) (h2 : n2 * e2 = m2 * d2) (h3 : n3 * e3 = m3 * d3) : (d1 * d2 * d3) * (m1 * (e2 * e3) + m2 * (e1 * e3) + m3 * (e1 * e2)) = (e1 * e2 * e3) * (n1 * (d2 * d3) + n2 * (d1 * d3) + n3 * (d1 * d2)) := by
  have a1 : (d1 * d2 * d3) * (m1 * (e2 * e3)) = (m1 * d1) * (d2 * d3 * (e2 * e3)) := by ac_rfl
  have a2 : (d1 * d2 * d3) * (m2 * (e1 * e3)) = (m2 * d2) * (d1 * d3 * (e1 * e3)) := by ac_rfl
  have a3 : (d1 * d2 * d3) * (m3 * (e1 * e2)) = (m3 * d3) * (d1 * d2 * (e1 * e2)) := by ac_rfl
  have b1 : (e1 * e2 * e3) * (n1 * (d2 * d3)) = (n1 * e1) * (d2 * d3 * (e2 * e3)) := by ac_rfl
  have b2 : (e1 * e2 * e3) * (n2 * (d1 * d3)) = (n2 * e2) * (d1 * d3 * (e1 * e3)) := by ac_rfl
  have b3 : (e1 * e2 * e3) * (n3 * (d1 * d2)) = (n3 * e3) * (d1 * d2 * (e1 * e2)) := by ac_rfl
  rw [Int.mul_add, Int.mul_add, Int.mul_add, Int.mul_add, a1, a2, a3, b1, b2, b3, h1, h2, h3]
theorem orO_eq {a b c a' b' c' : Int} (h1 : a = 1 ↔ a' = 1) (h2 : b = 1 ↔ b' = 1) (h3 : c = 1 ↔ c' = 1) : orO a b c = orO a' b' c' := by
  unfold orO
  by_cases z : a = 1 ∨ b = 1 ∨ c = 1
  · rw [if_pos z, if_pos (z.elim (fun y => Or.inl (h1.mp y)) (fun y => y.elim (fun x => Or.inr (Or.inl (h2.mp x))) (fun x => Or.inr (Or.inr (h3.mp x)))))]
  · rw [if_neg z, if_neg (fun y => z (y.elim (fun x => Or.inl (h1.mpr x)) (fun x => x.elim (fun t => Or.inr (Or.inl (h2.mpr t))) (fun t => Or.inr (Or.inr (h3.mpr t))))))]
theorem lyV_eq {M n1 d1 o1 n2 d2 o2 n3 d3 o3 m1 e1 p1 m2 e2 p2 m3 e3 p3 x y : Int} (q1 : (d1 = 0 ↔ e1 = 0) ∧ (d1 ≠ 0 → (0 < d1 ∧ 0 < e1) ∧ n1 * e1 = m1 * d1) ∧ (o1 = 1 ↔ p1 = 1)) (q2 : (d2 = 0 ↔ e2 = 0) ∧ (d2 ≠ 0 → (0 < d2 ∧ 0 < e2) ∧ n2 * e2 = m2 * d2) ∧ (o2 = 1 ↔ p2 = 1)) (q3 : (d3 = 0 ↔ e3 = 0) ∧ (d3 ≠ 0 → (0 < d3 ∧ 0 < e3) ∧ n3 * e3 = m3 * d3) ∧ (o3 = 1 ↔ p3 = 1)) (h : lyV M n1 d1 o1 n2 d2 o2 n3 d3 o3 x) (k : lyV M m1 e1 p1 m2 e2 p2 m3 e3 p3 y) : x = y := by
  rcases h with ⟨h1, h2⟩ | ⟨⟨u1, u2, u3⟩, h2⟩ <;> rcases k with ⟨k1, k2⟩ | ⟨⟨v1, v2, v3⟩, k2⟩
  · omega
  · exact absurd (h1.elim (fun z => v1 (q1.1.mp z)) (fun z => z.elim (fun y => v2 (q2.1.mp y)) (fun y => v3 (q3.1.mp y)))) id
  · exact absurd (k1.elim (fun z => u1 (q1.1.mpr z)) (fun z => z.elim (fun y => u2 (q2.1.mpr y)) (fun y => u3 (q3.1.mpr y)))) id
  · obtain ⟨⟨a1, a2⟩, a3⟩ := q1.2.1 u1
    obtain ⟨⟨b1, b2⟩, b3⟩ := q2.2.1 u2
    obtain ⟨⟨c1, c2⟩, c3⟩ := q3.2.1 u3
    rw [h2, k2, orO_eq q1.2.2 q2.2.2 q3.2.2]
    congr 1
    exact gnG_eq (Int.mul_pos (Int.mul_pos a1 b1) c1) (Int.mul_pos (Int.mul_pos a2 b2) c2) (ly_sum a3 b3 c3) Iff.rfl
theorem LX.lay {h h1 : m_H} {a b c f w x y : Int} {cs : List Nat} {ss : List (Nat × Nat)} (G : GI h) (N : NP h) (S1 : FR cs ss h h1) (A : lyQ (h 110) a b c f w x) (B : lyQ (h1 110) a b c f w y) (o : out 110 110 cs ss = true) : x = y := by
  rw [rowz S1 (fr_out o (by decide) (by decide))] at B
  have hE := bR_ok G N
  rcases A with ⟨a1, a2⟩ | ⟨a1, n1, d1, o1, n2, d2, o2, n3, d3, o3, ⟨f1, f2, f3⟩, a2⟩ <;> rcases B with ⟨b1, b2⟩ | ⟨b1, m1, e1, p1, m2, e2, p2, m3, e3, p3, ⟨g1, g2, g3⟩, b2⟩
  · omega
  · exact absurd b1 a1
  · exact absurd a1 b1
  · exact lyV_eq (fy_eq hE f1 g1) (fy_eq hE f2 g2) (ly3_eq hE f3 g3) a2 b2
def arV (M n1 d1 o1 n2 d2 o2 x : Int) : Prop := ((d1 = 0 ∨ d2 = 0) ∧ x = -1) ∨ ((d1 ≠ 0 ∧ d2 ≠ 0) ∧ x = cap M (gnG (n1 * n2) (d1 * d2) (orO o1 o2 0)))
def arK (r : Nat → Int) (a b f w : Int) : Prop := ((0 ≤ a ∧ a ≤ 11) ∧ thr r a) ∧ ((0 ≤ b ∧ b ≤ 11) ∧ thr r b) ∧ (0 ≤ f ∧ f ≤ 3) ∧ (0 ≤ w ∧ w ≤ 1) ∧ ¬ gain (bR r)
def arQ (r : Nat → Int) (a b f w x : Int) : Prop := (¬ arK r a b f w ∧ x = -2) ∨ (arK r a b f w ∧ ∃ n1 d1 o1 n2 d2 o2, (fyL r a f w n1 d1 o1 ∧ fyL r b f w n2 d2 o2) ∧ arV 4000000 n1 d1 o1 n2 d2 o2 x)
theorem LX.area {h h1 : m_H} {a b f w x y : Int} {cs : List Nat} {ss : List (Nat × Nat)} (G : GI h) (N : NP h) (S1 : FR cs ss h h1) (A : arQ (h 110) a b f w x) (B : arQ (h1 110) a b f w y) (o : out 110 110 cs ss = true) : x = y := by
  rw [rowz S1 (fr_out o (by decide) (by decide))] at B
  have hE := bR_ok G N
  rcases A with ⟨a1, a2⟩ | ⟨a1, n1, d1, o1, n2, d2, o2, ⟨f1, f2⟩, a2⟩ <;> rcases B with ⟨b1, b2⟩ | ⟨b1, m1, e1, p1, m2, e2, p2, ⟨g1, g2⟩, b2⟩
  · omega
  · exact absurd b1 a1
  · exact absurd a1 b1
  · obtain ⟨x1, x2, x3⟩ := fy_eq hE f1 g1
    obtain ⟨y1, y2, y3⟩ := fy_eq hE f2 g2
    rcases a2 with ⟨u1, u2⟩ | ⟨⟨u1, u2⟩, u3⟩ <;> rcases b2 with ⟨v1, v2⟩ | ⟨⟨v1, v2⟩, v3⟩
    · omega
    · exact absurd (u1.elim (fun z => v1 (x1.mp z)) (fun z => v2 (y1.mp z))) id
    · exact absurd (v1.elim (fun z => u1 (x1.mpr z)) (fun z => u2 (y1.mpr z))) id
    · obtain ⟨⟨q1, q2⟩, q3⟩ := x2 u1
      obtain ⟨⟨s1, s2⟩, s3⟩ := y2 u2
      rw [u3, v3, orO_eq x3 y3 Iff.rfl]
      congr 1
      refine gnG_eq (Int.mul_pos q1 s1) (Int.mul_pos q2 s2) ?_ Iff.rfl
      have k1 : d1 * d2 * (m1 * m2) = (m1 * d1) * (m2 * d2) := by ac_rfl
      have k2 : e1 * e2 * (n1 * n2) = (n1 * e1) * (n2 * e2) := by ac_rfl
      rw [k1, k2, q3, s3]
/-! the class's total, through its calls -/
def fyB (n d o : Int) : Prop := (0 ≤ n ∧ n ≤ 1600000000) ∧ (0 ≤ d ∧ d ≤ 1600000000) ∧ (o = 0 ∨ o = 1)
theorem adQ_to {a b c : Int} {h0 h1 h2 : m_H} (e96 : h1 96 = h0 96) (e97 : h1 97 = h0 97) (e98 : h1 98 = h0 98) (A : adQ a b c h1 h2) : adQ a b c h0 h2 := by
  unfold adQ toT at A ⊢
  rw [e96, e97, e98] at A
  exact A
theorem la_n {a b c : Int} {h h' : m_H} (A : adQ a b c h h') (u : h 96 4 = 1 ∨ b = 0) : h' 96 4 = 1 := by
  rcases A with ⟨_, z⟩ | ⟨z1, z2, _⟩
  · exact z
  · rcases u with u | u
    · exact z2.trans u
    · exact absurd u z1
theorem toO_b {o a : Int} (ho : o = 0 ∨ o = 1) (ha : a = 0 ∨ a = 1) : (toO o a = 0 ∨ toO o a = 1) ∧ (toO o a = 1 ↔ (o = 1 ∨ a = 1)) := by
  unfold toO
  rcases ho with ho | ho <;> rcases ha with ha | ha <;> subst ho <;> subst ha <;> decide
theorem toT_g {h : m_H} {k : Int} {P Q : Nat → Int} {o : Int} (T : toT h k P Q o) (j : Nat) (hj : j < 3) : h 97 j = P j ∧ h 98 j = Q j := T.2.1 j hj
/-- two taken -/
theorem la_2 {n1 d1 o1 n2 d2 o2 : Int} {h0 h1 h2 : m_H} (T : toT h0 0 (fun _ => 0) (fun _ => 1) 0) (z : h0 96 4 = 0) (A1 : adQ n1 d1 o1 h0 h1) (A2 : adQ n2 d2 o2 h1 h2) (b1 : fyB n1 d1 o1) (b2 : fyB n2 d2 o2) : ((d1 = 0 ∨ d2 = 0) ∧ h2 96 4 = 1) ∨ ((d1 ≠ 0 ∧ d2 ≠ 0) ∧ h2 96 4 = 0 ∧ toT h2 2 (toU (toU (fun _ => 0) 0 n1) 1 n2) (toU (toU (fun _ => 1) 0 d1) 1 d2) (orO o1 o2 0)) := by
  by_cases g1 : d1 = 0
  · exact Or.inl ⟨Or.inl g1, la_n A2 (Or.inl (la_n A1 (Or.inr g1)))⟩
  · by_cases g2 : d2 = 0
    · exact Or.inl ⟨Or.inr g2, la_n A2 (Or.inr g2)⟩
    · refine Or.inr ⟨⟨g1, g2⟩, ?_⟩
      rcases A1 with ⟨q, _⟩ | ⟨_, p1, p2⟩
      · exact absurd q g1
      · rcases A2 with ⟨q, _⟩ | ⟨_, q1, q2⟩
        · exact absurd q g2
        · have t1 := p2 0 _ _ 0 T (by decide) (by decide)
          have t2 := q2 1 _ _ _ t1 (by decide) (by decide)
          refine ⟨q1.trans (p1.trans z), ?_⟩
          have e : toO (toO 0 o1) o2 = orO o1 o2 0 := by
            have x1 := toO_b (Or.inl rfl) b1.2.2
            have x2 := toO_b x1.1 b2.2.2
            unfold orO
            by_cases c : o1 = 1 ∨ o2 = 1
            · rw [if_pos (by omega)]; omega
            · rw [if_neg (by omega)]; omega
          rw [e] at t2
          exact t2
theorem la_3 {n1 d1 o1 n2 d2 o2 n3 d3 o3 : Int} {h0 h1 h2 h3 : m_H} (T : toT h0 0 (fun _ => 0) (fun _ => 1) 0) (z : h0 96 4 = 0) (A1 : adQ n1 d1 o1 h0 h1) (A2 : adQ n2 d2 o2 h1 h2) (A3 : adQ n3 d3 o3 h2 h3) (b1 : fyB n1 d1 o1) (b2 : fyB n2 d2 o2) (b3 : fyB n3 d3 o3) : ((d1 = 0 ∨ d2 = 0 ∨ d3 = 0) ∧ h3 96 4 = 1) ∨ ((d1 ≠ 0 ∧ d2 ≠ 0 ∧ d3 ≠ 0) ∧ h3 96 4 = 0 ∧ toT h3 3 (toU (toU (toU (fun _ => 0) 0 n1) 1 n2) 2 n3) (toU (toU (toU (fun _ => 1) 0 d1) 1 d2) 2 d3) (orO o1 o2 o3)) := by
  rcases la_2 T z A1 A2 b1 b2 with ⟨c1, c2⟩ | ⟨⟨c1, c2⟩, c3, c4⟩
  · exact Or.inl ⟨c1.elim Or.inl (fun y => Or.inr (Or.inl y)), la_n A3 (Or.inl c2)⟩
  · by_cases g3 : d3 = 0
    · exact Or.inl ⟨Or.inr (Or.inr g3), la_n A3 (Or.inr g3)⟩
    · refine Or.inr ⟨⟨c1, c2, g3⟩, ?_⟩
      rcases A3 with ⟨q, _⟩ | ⟨_, q1, q2⟩
      · exact absurd q g3
      · have t3 := q2 2 _ _ _ c4 (by decide) (by decide)
        refine ⟨q1.trans c3, ?_⟩
        have e : toO (orO o1 o2 0) o3 = orO o1 o2 o3 := by
          have x0 : orO o1 o2 0 = 0 ∨ orO o1 o2 0 = 1 := by unfold orO; split <;> omega
          have x1 := toO_b x0 b3.2.2
          have x3 : orO o1 o2 0 = 1 ↔ (o1 = 1 ∨ o2 = 1) := by
            unfold orO
            by_cases c : o1 = 1 ∨ o2 = 1
            · rw [if_pos (by omega)]; omega
            · rw [if_neg (by omega)]; omega
          have b3' := b3.2.2
          conv => rhs; unfold orO
          by_cases c : o1 = 1 ∨ o2 = 1 ∨ o3 = 1
          · rw [if_pos c]; omega
          · rw [if_neg c]; omega
        rw [e] at t3
        exact t3
theorem la_b {h : m_H} {k : Int} {P Q : Nat → Int} {o : Int} (T : toT h k P Q o) (B : suB P Q) : suB (h 97) (h 98) := fun j hj => by
  obtain ⟨t1, t2⟩ := T.2.1 j hj
  rw [t1, t2]
  exact B j hj
theorem su_b2 {n1 d1 o1 n2 d2 o2 : Int} (b1 : fyB n1 d1 o1) (b2 : fyB n2 d2 o2) (g : d1 ≠ 0 ∧ d2 ≠ 0) : suB (toU (toU (fun _ => 0) 0 n1) 1 n2) (toU (toU (fun _ => 1) 0 d1) 1 d2) := fun j hj => by
  obtain ⟨x1, x2, _⟩ := b1
  obtain ⟨y1, y2, _⟩ := b2
  have e : j = 0 ∨ j = 1 ∨ j = 2 := by omega
  rcases e with e | e | e <;> subst e
  · show (0 ≤ n1 ∧ n1 ≤ 1600000000) ∧ 1 ≤ d1 ∧ d1 ≤ 1600000000; omega
  · show (0 ≤ n2 ∧ n2 ≤ 1600000000) ∧ 1 ≤ d2 ∧ d2 ≤ 1600000000; omega
  · show ((0 : Int) ≤ 0 ∧ (0 : Int) ≤ 1600000000) ∧ (1 : Int) ≤ 1 ∧ (1 : Int) ≤ 1600000000; omega
theorem su_b3 {n1 d1 o1 n2 d2 o2 n3 d3 o3 : Int} (b1 : fyB n1 d1 o1) (b2 : fyB n2 d2 o2) (b3 : fyB n3 d3 o3) (g : d1 ≠ 0 ∧ d2 ≠ 0 ∧ d3 ≠ 0) : suB (toU (toU (toU (fun _ => 0) 0 n1) 1 n2) 2 n3) (toU (toU (toU (fun _ => 1) 0 d1) 1 d2) 2 d3) := fun j hj => by
  obtain ⟨x1, x2, _⟩ := b1
  obtain ⟨y1, y2, _⟩ := b2
  obtain ⟨z1, z2, _⟩ := b3
  have e : j = 0 ∨ j = 1 ∨ j = 2 := by omega
  rcases e with e | e | e <;> subst e
  · show (0 ≤ n1 ∧ n1 ≤ 1600000000) ∧ 1 ≤ d1 ∧ d1 ≤ 1600000000; omega
  · show (0 ≤ n2 ∧ n2 ≤ 1600000000) ∧ 1 ≤ d2 ∧ d2 ≤ 1600000000; omega
  · show (0 ≤ n3 ∧ n3 ≤ 1600000000) ∧ 1 ≤ d3 ∧ d3 ≤ 1600000000; omega
theorem su_of {h : m_H} {k : Int} {P Q : Nat → Int} {o : Int} (T : toT h k P Q o) : suN (h 97) (h 98) = suN P Q ∧ suD (h 98) = suD Q ∧ h 96 3 = o := by
  obtain ⟨_, t, e⟩ := T
  obtain ⟨a0, b0⟩ := t 0 (by decide)
  obtain ⟨a1, b1⟩ := t 1 (by decide)
  obtain ⟨a2, b2⟩ := t 2 (by decide)
  unfold suN suD
  rw [a0, a1, a2, b0, b1, b2]
  exact ⟨rfl, rfl, e⟩
/-- the sum of what was laid, capped -/
theorem la_V {n1 d1 o1 n2 d2 o2 n3 d3 o3 s x : Int} {h : m_H} {k : Int} {P Q : Nat → Int} (eN : suN P Q = n1 * (d2 * d3) + n2 * (d1 * d3) + n3 * (d1 * d2)) (eD : suD Q = d1 * d2 * d3) (L : ((d1 = 0 ∨ d2 = 0 ∨ d3 = 0) ∧ h 96 4 = 1) ∨ ((d1 ≠ 0 ∧ d2 ≠ 0 ∧ d3 ≠ 0) ∧ h 96 4 = 0 ∧ toT h k P Q (orO o1 o2 o3))) (S : (h 96 4 ≠ 0 ∧ s = -1) ∨ (h 96 4 = 0 ∧ s = gnG (suN (h 97) (h 98)) (suD (h 98)) (h 96 3))) (e : (if 6000 < s then 6000 else s) = x) : lyV 6000 n1 d1 o1 n2 d2 o2 n3 d3 o3 x := by
  rcases L with ⟨l1, l2⟩ | ⟨l1, l2, l3⟩
  · rcases S with ⟨_, s2⟩ | ⟨s1, _⟩
    · exact Or.inl ⟨l1, by rw [← e, s2]; rfl⟩
    · omega
  · rcases S with ⟨s1, _⟩ | ⟨_, s2⟩
    · omega
    · obtain ⟨u1, u2, u3⟩ := su_of l3
      refine Or.inr ⟨l1, ?_⟩
      rw [← e, s2, u1, u2, u3, eN, eD]
      rfl
theorem la_A {n1 d1 o1 n2 d2 o2 s x : Int} {h : m_H} {k : Int} {P Q : Nat → Int} (eN : P 0 * P 1 = n1 * n2) (eD : Q 0 * Q 1 = d1 * d2) (L : ((d1 = 0 ∨ d2 = 0) ∧ h 96 4 = 1) ∨ ((d1 ≠ 0 ∧ d2 ≠ 0) ∧ h 96 4 = 0 ∧ toT h k P Q (orO o1 o2 0))) (S : (h 96 4 ≠ 0 ∧ s = -1) ∨ (h 96 4 = 0 ∧ s = gnG (h 97 0 * h 97 1) (h 98 0 * h 98 1) (h 96 3))) (e : (if 4000000 < s then 4000000 else s) = x) : arV 4000000 n1 d1 o1 n2 d2 o2 x := by
  rcases L with ⟨l1, l2⟩ | ⟨l1, l2, l3⟩
  · rcases S with ⟨_, s2⟩ | ⟨s1, _⟩
    · exact Or.inl ⟨l1, by rw [← e, s2]; rfl⟩
    · omega
  · rcases S with ⟨s1, _⟩ | ⟨_, s2⟩
    · omega
    · obtain ⟨a0, b0⟩ := l3.2.1 0 (by decide)
      obtain ⟨a1, b1⟩ := l3.2.1 1 (by decide)
      refine Or.inr ⟨l1, ?_⟩
      rw [← e, s2, a0, a1, b0, b1, l3.2.2, eN, eD]
      rfl
theorem gnG_b {T L o : Int} (hT : 0 ≤ T) (hL : 0 ≤ L) : -1 ≤ gnG T L o ∧ gnG T L o ≤ T := by
  have a := Int.ediv_nonneg hT hL
  have b := Int.ediv_le_self (a := T) L hT
  unfold gnG
  split <;> omega
abbrev P_X11_addFeet2 (h0 : m_H) (a1 a2 a3 : Int) : m_H → Prop := fun h' => GI h' ∧ FR (csB ++ [97, 98]) [(96, 2), (96, 3), (96, 4)] h0 h' ∧ (∀ c, c < 94 → h' c = h0 c) ∧ ∃ n d o, (fyL (h0 110) a1 a2 a3 n d o ∧ fyB n d o) ∧ adQ n d o h0 h'
set_option maxHeartbeats 4000000 in
set_option maxRecDepth 100000 in
theorem c_X11_addFeet2 (h0 : m_H) (a1 a2 a3 : Int) (G0 : GI h0) (pa1 : 0 ≤ a1 ∧ a1 ≤ 11) (pa2 : 0 ≤ a2 ∧ a2 ≤ 3) (hR : LR 1 h0 (h0 110)) (hN : NP h0) (hT : TN (h0 110) h0) (ng : ¬ gain (bR (h0 110))) (ta : thr (h0 110) a1) : m_CV M_X11_addFeet [mR 0, mI a1, mI a2, mI a3] h0 (P_X11_addFeet2 h0 a1 a2 a3) := by
  refine m_CV_of ⟨by decide, rfl, by simp [m_arg, m_isL, M_X11_addFeet], ⟨rfl, rfl⟩, rfl, rfl⟩ (ls := [some (mR 0), some (mI a1), some (mI a2), some (mI a3)]) rfl ?_
  refine z_ok (fun _ _ ok => ?_)
  have oa3 : m_32 a3 := ok 3 _ rfl
  unfold m_32 at oa3
  refine z_aload_n (M := M_X11_addFeet) 0 dX11_addFeet_0 rfl ?_
  refine z_getR (M := M_X11_addFeet) 1 dX11_addFeet_1 f_X11_53 o_0 rfl (g_0_7 G0) ?_
  refine z_aload_n (M := M_X11_addFeet) 4 dX11_addFeet_4 rfl ?_
  refine z_getR (M := M_X11_addFeet) 5 dX11_addFeet_5 f_X11_46 o_0 rfl (g_0_6 G0) ?_
  refine z_iload_n (M := M_X11_addFeet) 8 dX11_addFeet_8 rfl ?_
  refine z_bipush (M := M_X11_addFeet) 9 dX11_addFeet_9 ?_
  refine z_iload_n (M := M_X11_addFeet) 11 dX11_addFeet_11 rfl ?_
  refine z_iaddN (M := M_X11_addFeet) 12 dX11_addFeet_12 (by omega) (by omega) ?_
  refine z_vV (M := M_X11_addFeet) 13 dX11_addFeet_13 t_X7_measure l_X11_427 (m_rr_of rfl) (rest := []) (c_X7_measure2 h0 a1 (12 + a2) G0 ⟨by omega, by omega⟩ ⟨by omega, by omega⟩ hT.H hT.R) o_93 rfl rfl rfl (Nat.le_of_ble_eq_true rfl) ⟨rfl, rfl⟩ (fun h1 qx1 => ?_)
  obtain ⟨G1, S1, M1, M2, M3⟩ := qx1
  have tb_ : thr (h0 110) (12 + a2) := ⟨by omega, by omega, Or.inr (Or.inl (by omega))⟩
  have c1_ := hT.cp G0 hN ng ta tb_ M2 (by have z := g_95_2 G1; show h1 95 2 = 0 ∨ h1 95 2 = 1; omega)
  have c2_ := hT.cp G0 hN ng tb_ ta M3 (by have z := g_94_2 G1; show h1 94 2 = 0 ∨ h1 94 2 = 1; omega)
  have pb1_ : (1 ≤ h1 95 0 ∧ h1 95 0 ≤ 1600000000) ∧ (0 ≤ h1 95 1 ∧ h1 95 1 ≤ 1600000000) := by have z := c1_.2.1; unfold pBb bd at z; simp only at z; omega
  have pb2_ : (1 ≤ h1 94 0 ∧ h1 94 0 ≤ 1600000000) ∧ (0 ≤ h1 94 1 ∧ h1 94 1 ≤ 1600000000) := by have z := c2_.2.1; unfold pBb bd at z; simp only at z; omega
  have R1 := (FR.rf (cs := (csB ++ [97, 98])) (ss := [(96, 2), (96, 3), (96, 4)]) (h := h0)).call S1 (by decide +kernel)
  refine z_iload_n (M := M_X11_addFeet) 16 dX11_addFeet_16 rfl ?_
  refine z_if_ne (M := M_X11_addFeet) 17 dX11_addFeet_17 51 rfl (fun c2 => ?_) (fun c2 => ?_)
  · refine z_aload_n (M := M_X11_addFeet) 51 dX11_addFeet_51 rfl ?_
    refine z_getR (M := M_X11_addFeet) 52 dX11_addFeet_52 f_X11_60 o_0 rfl (g_0_8 G1) ?_
    refine z_aload_n (M := M_X11_addFeet) 55 dX11_addFeet_55 rfl ?_
    refine z_getR (M := M_X11_addFeet) 56 dX11_addFeet_56 f_X11_53 o_0 rfl (g_0_7 G1) ?_
    refine z_getR (M := M_X11_addFeet) 59 dX11_addFeet_59 f_X11_237 o_93 rfl (g_93_1 G1) ?_
    refine z_getJV (M := M_X11_addFeet) 62 dX11_addFeet_62 f_X11_264 o_95 rfl (fun x3 ex3 => ?_)
    refine z_aload_n (M := M_X11_addFeet) 65 dX11_addFeet_65 rfl ?_
    refine z_getR (M := M_X11_addFeet) 66 dX11_addFeet_66 f_X11_53 o_0 rfl (g_0_7 G1) ?_
    refine z_getR (M := M_X11_addFeet) 69 dX11_addFeet_69 f_X11_237 o_93 rfl (g_93_1 G1) ?_
    refine z_getJV (M := M_X11_addFeet) 72 dX11_addFeet_72 f_X11_268 o_95 rfl (fun x4 ex4 => ?_)
    refine z_aload_n (M := M_X11_addFeet) 75 dX11_addFeet_75 rfl ?_
    refine z_getR (M := M_X11_addFeet) 76 dX11_addFeet_76 f_X11_53 o_0 rfl (g_0_7 G1) ?_
    refine z_getR (M := M_X11_addFeet) 79 dX11_addFeet_79 f_X11_237 o_93 rfl (g_93_1 G1) ?_
    refine z_getIG (M := M_X11_addFeet) 82 dX11_addFeet_82 f_X11_231 o_95 (by decide) (g_95_2 G1) (fun x5 ex5 ax5 bx5 => ?_)
    refine z_vV (M := M_X11_addFeet) 85 dX11_addFeet_85 t_X10_add l_X11_431 (m_rr_of rfl) (rest := []) (c_X10_add2 h1 x3 x4 x5 G1 ⟨by omega, by omega⟩) o_96 rfl rfl rfl (Nat.le_of_ble_eq_true rfl) ⟨rfl, rfl⟩ (fun h2 qx6 => ?_)
    obtain ⟨G2, S2, A2⟩ := qx6
    have R2 := R1.call S2 (by decide +kernel)
    exact z_retV (M := M_X11_addFeet) 88 dX11_addFeet_88 rfl ⟨G2, R2, fun c hc => (rowz S2 (fr_out (a := 0) (b := 93) (by decide) (by omega) (by omega))).trans (M1 c (by omega) (by omega)), x3, x4, x5, ⟨Or.inr ⟨c2, bd h1 95, ⟨c1_.1, c1_.2.2.1⟩, (by by_cases g : x4 = 0; exact Or.inl ⟨ex4.trans g, g⟩; exact Or.inr ⟨fun z => g (ex4.symm.trans z), by omega, (by show x3 * h1 95 1 = x4 * h1 95 0; rw [ex4, ex3, Int.mul_comm])⟩), (by show x5 = 1 ↔ h1 95 2 = 1; rw [ex5])⟩, by omega, by omega, by omega⟩, adQ_to (M1 96 (by decide) (by decide)) (M1 97 (by decide) (by decide)) (M1 98 (by decide) (by decide)) A2⟩
  · refine z_aload_n (M := M_X11_addFeet) 20 dX11_addFeet_20 rfl ?_
    refine z_getR (M := M_X11_addFeet) 21 dX11_addFeet_21 f_X11_60 o_0 rfl (g_0_8 G1) ?_
    refine z_aload_n (M := M_X11_addFeet) 24 dX11_addFeet_24 rfl ?_
    refine z_getR (M := M_X11_addFeet) 25 dX11_addFeet_25 f_X11_53 o_0 rfl (g_0_7 G1) ?_
    refine z_getR (M := M_X11_addFeet) 28 dX11_addFeet_28 f_X11_227 o_93 rfl (g_93_0 G1) ?_
    refine z_getJV (M := M_X11_addFeet) 31 dX11_addFeet_31 f_X11_268 o_94 rfl (fun x7 ex7 => ?_)
    refine z_aload_n (M := M_X11_addFeet) 34 dX11_addFeet_34 rfl ?_
    refine z_getR (M := M_X11_addFeet) 35 dX11_addFeet_35 f_X11_53 o_0 rfl (g_0_7 G1) ?_
    refine z_getR (M := M_X11_addFeet) 38 dX11_addFeet_38 f_X11_227 o_93 rfl (g_93_0 G1) ?_
    refine z_getJV (M := M_X11_addFeet) 41 dX11_addFeet_41 f_X11_264 o_94 rfl (fun x8 ex8 => ?_)
    refine z_iconst (M := M_X11_addFeet) 44 dX11_addFeet_44 ?_
    refine z_vV (M := M_X11_addFeet) 45 dX11_addFeet_45 t_X10_add l_X11_431 (m_rr_of rfl) (rest := []) (c_X10_add2 h1 x7 x8 0 G1 ⟨by omega, by omega⟩) o_96 rfl rfl rfl (Nat.le_of_ble_eq_true rfl) ⟨rfl, rfl⟩ (fun h3 qx9 => ?_)
    obtain ⟨G3, S3, A3⟩ := qx9
    have R3 := R1.call S3 (by decide +kernel)
    refine z_goto (M := M_X11_addFeet) 48 dX11_addFeet_48 88 rfl ?_
    exact z_retV (M := M_X11_addFeet) 88 dX11_addFeet_88 rfl ⟨G3, R3, fun c hc => (rowz S3 (fr_out (a := 0) (b := 93) (by decide) (by omega) (by omega))).trans (M1 c (by omega) (by omega)), x7, x8, 0, ⟨Or.inl ⟨c2, bd h1 94, ⟨c2_.1, c2_.2.2.1⟩, by omega, (by show x7 * h1 94 0 = x8 * h1 94 1; rw [ex7, ex8, Int.mul_comm]), rfl⟩, by omega, by omega, Or.inl rfl⟩, adQ_to (M1 96 (by decide) (by decide)) (M1 97 (by decide) (by decide)) (M1 98 (by decide) (by decide)) A3⟩
theorem su_nn {P Q : Nat → Int} (B : suB P Q) : 0 ≤ suN P Q ∧ 0 ≤ suD Q := by
  obtain ⟨⟨a0, _⟩, b0, _⟩ := B 0 (by decide)
  obtain ⟨⟨a1, _⟩, b1, _⟩ := B 1 (by decide)
  obtain ⟨⟨a2, _⟩, b2, _⟩ := B 2 (by decide)
  have c1 := Int.mul_nonneg a0 (Int.mul_nonneg (show 0 ≤ Q 1 by omega) (show 0 ≤ Q 2 by omega))
  have c2 := Int.mul_nonneg a1 (Int.mul_nonneg (show 0 ≤ Q 0 by omega) (show 0 ≤ Q 2 by omega))
  have c3 := Int.mul_nonneg a2 (Int.mul_nonneg (show 0 ≤ Q 0 by omega) (show 0 ≤ Q 1 by omega))
  have c4 := Int.mul_nonneg (Int.mul_nonneg (show 0 ≤ Q 0 by omega) (show 0 ≤ Q 1 by omega)) (show 0 ≤ Q 2 by omega)
  unfold suN suD
  exact ⟨by omega, c4⟩
theorem ms_of {h : m_H} {a : Int} (R : LR 1 h (h 110)) (t : (0 ≤ a ∧ a ≤ 11) ∧ thr (h 110) a) : 0 ≤ a ∧ a ≤ 11 ∧ (a < 6 ∨ h (1 + 2) (a - 6).toNat ≠ -1) := by
  have y := (thr_c R).mpr t.2
  have w := t.1
  exact ⟨by omega, by omega, y.2.2.elim Or.inl (fun z => z.elim (fun s => absurd s (by omega)) Or.inr)⟩
abbrev P_X11_lay3 (h0 : m_H) (a1 a2 a3 a4 a5 : Int) : Int → m_H → Prop := fun x h' => GI h' ∧ FR (csB ++ [39, 40, 41, 97, 98]) [(96, 2), (96, 3), (96, 4)] h0 h' ∧ lyQ (h0 110) a1 a2 a3 a4 a5 x
set_option maxHeartbeats 4000000 in
set_option maxRecDepth 100000 in
theorem c_X11_lay3 (h0 : m_H) (a1 a2 a3 a4 a5 : Int) (G0 : GI h0) (hR : LR 1 h0 (h0 110)) (hN : NP h0) : m_CI M_X11_lay [mR 0, mI a1, mI a2, mI a3, mI a4, mI a5] h0 (P_X11_lay3 h0 a1 a2 a3 a4 a5) := by
  refine m_CI_of ⟨by decide, rfl, by simp [m_arg, m_isL, M_X11_lay], ⟨rfl, rfl⟩, rfl, rfl⟩ (ls := [some (mR 0), some (mI a1), some (mI a2), some (mI a3), some (mI a4), some (mI a5), none]) rfl ?_
  refine z_ok (fun _ _ ok => ?_)
  have oa1 : m_32 a1 := ok 1 _ rfl
  unfold m_32 at oa1
  have oa2 : m_32 a2 := ok 2 _ rfl
  unfold m_32 at oa2
  have oa3 : m_32 a3 := ok 3 _ rfl
  unfold m_32 at oa3
  have oa4 : m_32 a4 := ok 4 _ rfl
  unfold m_32 at oa4
  have oa5 : m_32 a5 := ok 5 _ rfl
  unfold m_32 at oa5
  refine z_aload_n (M := M_X11_lay) 0 dX11_lay_0 rfl ?_
  refine z_iload_n (M := M_X11_lay) 1 dX11_lay_1 rfl ?_
  refine z_vI (M := M_X11_lay) 2 dX11_lay_2 t_X11_isMeasured l_X11_278 (m_rr_of rfl) (rest := []) (c_X11_isMeasured h0 a1 G0) o_0 rfl rfl rfl (Nat.le_of_ble_eq_true rfl) ⟨rfl, rfl⟩ (fun x1 h1 qx1 => ?_)
  obtain ⟨rfl, ⟨rfl, cx1⟩ | ⟨rfl, cx1⟩⟩ := qx1
  · refine z_if_eq_F (M := M_X11_lay) 5 dX11_lay_5 33 rfl (by omega) ?_
    refine z_aload_n (M := M_X11_lay) 8 dX11_lay_8 rfl ?_
    refine z_iload_n (M := M_X11_lay) 9 dX11_lay_9 rfl ?_
    refine z_vI (M := M_X11_lay) 10 dX11_lay_10 t_X11_isMeasured l_X11_278 (m_rr_of rfl) (rest := []) (c_X11_isMeasured h0 a2 G0) o_0 rfl rfl rfl (Nat.le_of_ble_eq_true rfl) ⟨rfl, rfl⟩ (fun x2 h2 qx2 => ?_)
    obtain ⟨rfl, ⟨rfl, cx2⟩ | ⟨rfl, cx2⟩⟩ := qx2
    · refine z_if_eq_F (M := M_X11_lay) 13 dX11_lay_13 33 rfl (by omega) ?_
      refine z_iload_n (M := M_X11_lay) 16 dX11_lay_16 rfl ?_
      refine z_iconst (M := M_X11_lay) 17 dX11_lay_17 ?_
      refine z_icmp_eq (M := M_X11_lay) 18 dX11_lay_18 29 rfl (fun c3 => ?_) (fun c3 => ?_)
      · refine z_iconst (M := M_X11_lay) 29 dX11_lay_29 ?_
        refine z_goto (M := M_X11_lay) 30 dX11_lay_30 34 rfl ?_
        refine z_istore (M := M_X11_lay) 34 dX11_lay_34 (ls' := [some (mR 0), some (mI a1), some (mI a2), some (mI a3), some (mI a4), some (mI a5), some (mI 1)]) (by decide) rfl ?_
        refine z_iload (M := M_X11_lay) 36 dX11_lay_36 rfl ?_
        refine z_if_eq_F (M := M_X11_lay) 38 dX11_lay_38 66 rfl (by omega) ?_
        refine z_iload (M := M_X11_lay) 41 dX11_lay_41 rfl ?_
        refine z_sI (M := M_X11_lay) 43 dX11_lay_43 t_X11_isKeeper l_X11_132 (m_rr_of rfl) (rest := []) (c_X11_isKeeper h0 a4 G0) rfl rfl (Nat.le_of_ble_eq_true rfl) ⟨rfl, rfl⟩ (fun x4 h3 qx4 => ?_)
        obtain ⟨rfl, ⟨rfl, cx4⟩ | ⟨rfl, cx4⟩⟩ := qx4
        · refine z_if_eq_F (M := M_X11_lay) 46 dX11_lay_46 66 rfl (by omega) ?_
          refine z_iload (M := M_X11_lay) 49 dX11_lay_49 rfl ?_
          refine z_iconst (M := M_X11_lay) 51 dX11_lay_51 ?_
          refine z_iconst (M := M_X11_lay) 52 dX11_lay_52 ?_
          refine z_sI (M := M_X11_lay) 53 dX11_lay_53 t_X11_within l_X11_112 (m_rr_of rfl) (rest := []) (c_X11_within h0 a5 0 1 G0) rfl rfl (Nat.le_of_ble_eq_true rfl) ⟨rfl, rfl⟩ (fun x5 h4 qx5 => ?_)
          obtain ⟨rfl, ⟨rfl, cx5⟩ | ⟨rfl, cx5⟩⟩ := qx5
          · refine z_if_eq_F (M := M_X11_lay) 56 dX11_lay_56 66 rfl (by omega) ?_
            refine z_aload_n (M := M_X11_lay) 59 dX11_lay_59 rfl ?_
            refine z_vI (M := M_X11_lay) 60 dX11_lay_60 t_X11_canBe l_X11_208 (m_rr_of rfl) (rest := []) (c_X11_canBe2 h0 G0 hR hN) o_0 rfl rfl rfl (Nat.le_of_ble_eq_true rfl) ⟨rfl, rfl⟩ (fun x6 h5 qx6 => ?_)
            obtain ⟨G5, S5, ax6, bx6, fx6⟩ := qx6
            have R5 := (FR.rf (cs := (csB ++ [39, 40, 41, 97, 98])) (ss := [(96, 2), (96, 3), (96, 4)]) (h := h0)).call S5 (by decide +kernel)
            refine z_if_ne (M := M_X11_lay) 63 dX11_lay_63 69 rfl (fun c7 => ?_) (fun c7 => ?_)
            · refine z_aload_n (M := M_X11_lay) 69 dX11_lay_69 rfl ?_
              refine z_getR (M := M_X11_lay) 70 dX11_lay_70 f_X11_60 o_0 rfl (g_0_8 G5) ?_
              refine z_vV (M := M_X11_lay) 73 dX11_lay_73 t_X10_clear l_X11_281 (m_rr_of rfl) (rest := []) (c_X10_clear2 h5 G5) o_96 rfl rfl rfl (Nat.le_of_ble_eq_true rfl) ⟨rfl, rfl⟩ (fun h6 qx8 => ?_)
              have t1_ : thr (h0 110) a1 := (thr_c hR).mp ⟨by omega, by omega, cx1.2.2.elim Or.inl (fun z => Or.inr (Or.inr z))⟩
              have t2_ : thr (h0 110) a2 := (thr_c hR).mp ⟨by omega, by omega, cx2.2.2.elim Or.inl (fun z => Or.inr (Or.inr z))⟩
              obtain ⟨G6, S6, T_, z_⟩ := qx8
              have T6_ : TN (h0 110) h6 := ⟨h5, _, fx6.2 (by omega), fun c hc => rowz S6 (fr_out (a := 0) (b := 93) (by decide) (by omega) (by omega))⟩
              have ng_ := fx6.1.mp (by omega)
              have R6 := R5.call S6 (by decide +kernel)
              refine z_aload_n (M := M_X11_lay) 76 dX11_lay_76 rfl ?_
              refine z_iload_n (M := M_X11_lay) 77 dX11_lay_77 rfl ?_
              refine z_iload (M := M_X11_lay) 78 dX11_lay_78 rfl ?_
              refine z_iload (M := M_X11_lay) 80 dX11_lay_80 rfl ?_
              refine z_vV (M := M_X11_lay) 82 dX11_lay_82 t_X11_addFeet l_X11_284 (m_rr_of rfl) (rest := []) (c_X11_addFeet2 h6 a1 a4 a5 G6 ⟨by omega, by omega⟩ ⟨by omega, by omega⟩ (by rw [FR.row (c := 110) R6 (fun _ => rfl)]; exact LR.S hR R6 (by decide)) (NP.call hN R6 (fun _ => rfl) (fun _ => rfl) (fun _ => rfl)) (by rw [FR.row (c := 110) R6 (fun _ => rfl)]; exact T6_) (by rw [FR.row (c := 110) R6 (fun _ => rfl)]; exact ng_) (by rw [FR.row (c := 110) R6 (fun _ => rfl)]; exact t1_)) o_0 rfl rfl rfl (Nat.le_of_ble_eq_true rfl) ⟨rfl, rfl⟩ (fun h7 qx9 => ?_)
              obtain ⟨G7, S7, U1_, n1, d1, o1_, ⟨F1_, B1_⟩, A1_⟩ := qx9
              have T7_ := T6_.step U1_
              rw [FR.row (c := 110) R6 (fun _ => rfl)] at F1_
              have R7 := R6.call S7 (by decide +kernel)
              refine z_aload_n (M := M_X11_lay) 85 dX11_lay_85 rfl ?_
              refine z_iload_n (M := M_X11_lay) 86 dX11_lay_86 rfl ?_
              refine z_iload (M := M_X11_lay) 87 dX11_lay_87 rfl ?_
              refine z_iload (M := M_X11_lay) 89 dX11_lay_89 rfl ?_
              refine z_vV (M := M_X11_lay) 91 dX11_lay_91 t_X11_addFeet l_X11_284 (m_rr_of rfl) (rest := []) (c_X11_addFeet2 h7 a2 a4 a5 G7 ⟨by omega, by omega⟩ ⟨by omega, by omega⟩ (by rw [FR.row (c := 110) R7 (fun _ => rfl)]; exact LR.S hR R7 (by decide)) (NP.call hN R7 (fun _ => rfl) (fun _ => rfl) (fun _ => rfl)) (by rw [FR.row (c := 110) R7 (fun _ => rfl)]; exact T7_) (by rw [FR.row (c := 110) R7 (fun _ => rfl)]; exact ng_) (by rw [FR.row (c := 110) R7 (fun _ => rfl)]; exact t2_)) o_0 rfl rfl rfl (Nat.le_of_ble_eq_true rfl) ⟨rfl, rfl⟩ (fun h8 qx10 => ?_)
              obtain ⟨G8, S8, U2_, n2, d2, o2_, ⟨F2_, B2_⟩, A2_⟩ := qx10
              have T8_ := T7_.step U2_
              rw [FR.row (c := 110) R7 (fun _ => rfl)] at F2_
              have R8 := R7.call S8 (by decide +kernel)
              refine z_iload_n (M := M_X11_lay) 94 dX11_lay_94 rfl ?_
              refine z_iconst (M := M_X11_lay) 95 dX11_lay_95 ?_
              have la_ : ((d1 = 0 ∨ d2 = 0 ∨ (1 : Int) = 0) ∧ h8 96 4 = 1) ∨ ((d1 ≠ 0 ∧ d2 ≠ 0 ∧ (1 : Int) ≠ 0) ∧ h8 96 4 = 0 ∧ toT h8 2 (toU (toU (fun _ => 0) 0 n1) 1 n2) (toU (toU (fun _ => 1) 0 d1) 1 d2) (orO o1_ o2_ 0)) := (by rcases la_2 T_ z_ A1_ A2_ B1_ B2_ with ⟨y1, y2⟩ | ⟨y1, y2, y3⟩; exact Or.inl ⟨y1.elim Or.inl (fun w => Or.inr (Or.inl w)), y2⟩; exact Or.inr ⟨⟨y1.1, y1.2, by decide⟩, y2, y3⟩)
              refine z_icmp_eq_T (M := M_X11_lay) 96 dX11_lay_96 108 rfl (by omega) ?_
              refine z_aload_n (M := M_X11_lay) 108 dX11_lay_108 rfl ?_
              refine z_getR (M := M_X11_lay) 109 dX11_lay_109 f_X11_60 o_0 rfl (g_0_8 G8) ?_
              refine z_vJ (M := M_X11_lay) 112 dX11_lay_112 t_X10_sum l_X11_288 (m_rr_of rfl) (rest := []) (c_X10_sum2 h8 G8 (fun z => (by rcases la_ with ⟨_, y⟩ | ⟨y1, _, y3⟩; exact absurd (z.symm.trans y) (by decide); exact la_b y3 (su_b2 B1_ B2_ ⟨y1.1, y1.2.1⟩)))) o_96 rfl rfl rfl (Nat.le_of_ble_eq_true rfl) ⟨rfl, rfl⟩ (fun x11 h9 qx11 => ?_)
              obtain ⟨G9, S9, f11⟩ := qx11
              have lb_ : -1 ≤ x11 := (by rcases f11 with ⟨_, z⟩ | ⟨y, z⟩; omega; have k_ := su_nn ((fun z => (by rcases la_ with ⟨_, y⟩ | ⟨y1, _, y3⟩; exact absurd (z.symm.trans y) (by decide); exact la_b y3 (su_b2 B1_ B2_ ⟨y1.1, y1.2.1⟩))) y); have g_ := (gnG_b (o := h8 96 3) k_.1 k_.2).1; omega)
              have R9 := R8.call S9 (by decide +kernel)
              refine z_ldc2 (M := M_X11_lay) 115 dX11_lay_115 k_X11_291 ?_
              refine z_sI (M := M_X11_lay) 118 dX11_lay_118 t_X11_atMost l_X11_220 (m_rr_of rfl) (rest := []) (c_X11_atMost2 h9 x11 6000 G9 (by omega) ⟨by omega, by omega⟩) rfl rfl (Nat.le_of_ble_eq_true rfl) ⟨rfl, rfl⟩ (fun x12 h10 qx12 => ?_)
              obtain ⟨G10, S10, f12⟩ := qx12
              have R10 := R9.call S10 (by decide +kernel)
              refine z_ok (fun ox12 _ _ => ?_)
              have ox12 := ox12.1; unfold m_ok m_32 at ox12
              exact z_retI (M := M_X11_lay) 121 dX11_lay_121 rfl ⟨G10, R10, Or.inr ⟨⟨⟨⟨by omega, by omega⟩, t1_⟩, ⟨⟨by omega, by omega⟩, t2_⟩, Or.inl c3, cx4, cx5, ng_⟩, n1, d1, o1_, n2, d2, o2_, 0, 1, 0, ⟨F1_, F2_, Or.inl ⟨c3, rfl, rfl, rfl⟩⟩, la_V (P := toU (toU (fun _ => 0) 0 n1) 1 n2) (Q := toU (toU (fun _ => 1) 0 d1) 1 d2) rfl rfl la_ f11 f12⟩⟩
            · refine z_bipush (M := M_X11_lay) 66 dX11_lay_66 ?_
              exact z_retI (M := M_X11_lay) 68 dX11_lay_68 rfl ⟨G5, R5, Or.inl ⟨fun z => absurd (fx6.1.mpr z.2.2.2.2.2) (by omega), rfl⟩⟩
          · refine z_if_eq_T (M := M_X11_lay) 56 dX11_lay_56 66 rfl (by omega) ?_
            refine z_bipush (M := M_X11_lay) 66 dX11_lay_66 ?_
            exact z_retI (M := M_X11_lay) 68 dX11_lay_68 rfl ⟨G0, (FR.rf (cs := (csB ++ [39, 40, 41, 97, 98])) (ss := [(96, 2), (96, 3), (96, 4)]) (h := h0)), Or.inl ⟨fun z => cx5 z.2.2.2.2.1, rfl⟩⟩
        · refine z_if_eq_T (M := M_X11_lay) 46 dX11_lay_46 66 rfl (by omega) ?_
          refine z_bipush (M := M_X11_lay) 66 dX11_lay_66 ?_
          exact z_retI (M := M_X11_lay) 68 dX11_lay_68 rfl ⟨G0, (FR.rf (cs := (csB ++ [39, 40, 41, 97, 98])) (ss := [(96, 2), (96, 3), (96, 4)]) (h := h0)), Or.inl ⟨fun z => cx4 z.2.2.2.1, rfl⟩⟩
      · refine z_aload_n (M := M_X11_lay) 21 dX11_lay_21 rfl ?_
        refine z_iload_n (M := M_X11_lay) 22 dX11_lay_22 rfl ?_
        refine z_vI (M := M_X11_lay) 23 dX11_lay_23 t_X11_isMeasured l_X11_278 (m_rr_of rfl) (rest := []) (c_X11_isMeasured h0 a3 G0) o_0 rfl rfl rfl (Nat.le_of_ble_eq_true rfl) ⟨rfl, rfl⟩ (fun x13 h11 qx13 => ?_)
        obtain ⟨rfl, ⟨rfl, cx13⟩ | ⟨rfl, cx13⟩⟩ := qx13
        · refine z_if_eq_F (M := M_X11_lay) 26 dX11_lay_26 33 rfl (by omega) ?_
          refine z_iconst (M := M_X11_lay) 29 dX11_lay_29 ?_
          refine z_goto (M := M_X11_lay) 30 dX11_lay_30 34 rfl ?_
          refine z_istore (M := M_X11_lay) 34 dX11_lay_34 (ls' := [some (mR 0), some (mI a1), some (mI a2), some (mI a3), some (mI a4), some (mI a5), some (mI 1)]) (by decide) rfl ?_
          refine z_iload (M := M_X11_lay) 36 dX11_lay_36 rfl ?_
          refine z_if_eq_F (M := M_X11_lay) 38 dX11_lay_38 66 rfl (by omega) ?_
          refine z_iload (M := M_X11_lay) 41 dX11_lay_41 rfl ?_
          refine z_sI (M := M_X11_lay) 43 dX11_lay_43 t_X11_isKeeper l_X11_132 (m_rr_of rfl) (rest := []) (c_X11_isKeeper h0 a4 G0) rfl rfl (Nat.le_of_ble_eq_true rfl) ⟨rfl, rfl⟩ (fun x14 h12 qx14 => ?_)
          obtain ⟨rfl, ⟨rfl, cx14⟩ | ⟨rfl, cx14⟩⟩ := qx14
          · refine z_if_eq_F (M := M_X11_lay) 46 dX11_lay_46 66 rfl (by omega) ?_
            refine z_iload (M := M_X11_lay) 49 dX11_lay_49 rfl ?_
            refine z_iconst (M := M_X11_lay) 51 dX11_lay_51 ?_
            refine z_iconst (M := M_X11_lay) 52 dX11_lay_52 ?_
            refine z_sI (M := M_X11_lay) 53 dX11_lay_53 t_X11_within l_X11_112 (m_rr_of rfl) (rest := []) (c_X11_within h0 a5 0 1 G0) rfl rfl (Nat.le_of_ble_eq_true rfl) ⟨rfl, rfl⟩ (fun x15 h13 qx15 => ?_)
            obtain ⟨rfl, ⟨rfl, cx15⟩ | ⟨rfl, cx15⟩⟩ := qx15
            · refine z_if_eq_F (M := M_X11_lay) 56 dX11_lay_56 66 rfl (by omega) ?_
              refine z_aload_n (M := M_X11_lay) 59 dX11_lay_59 rfl ?_
              refine z_vI (M := M_X11_lay) 60 dX11_lay_60 t_X11_canBe l_X11_208 (m_rr_of rfl) (rest := []) (c_X11_canBe2 h0 G0 hR hN) o_0 rfl rfl rfl (Nat.le_of_ble_eq_true rfl) ⟨rfl, rfl⟩ (fun x16 h14 qx16 => ?_)
              obtain ⟨G14, S14, ax16, bx16, fx16⟩ := qx16
              have R14 := (FR.rf (cs := (csB ++ [39, 40, 41, 97, 98])) (ss := [(96, 2), (96, 3), (96, 4)]) (h := h0)).call S14 (by decide +kernel)
              refine z_if_ne (M := M_X11_lay) 63 dX11_lay_63 69 rfl (fun c17 => ?_) (fun c17 => ?_)
              · refine z_aload_n (M := M_X11_lay) 69 dX11_lay_69 rfl ?_
                refine z_getR (M := M_X11_lay) 70 dX11_lay_70 f_X11_60 o_0 rfl (g_0_8 G14) ?_
                refine z_vV (M := M_X11_lay) 73 dX11_lay_73 t_X10_clear l_X11_281 (m_rr_of rfl) (rest := []) (c_X10_clear2 h14 G14) o_96 rfl rfl rfl (Nat.le_of_ble_eq_true rfl) ⟨rfl, rfl⟩ (fun h15 qx18 => ?_)
                have t1_ : thr (h0 110) a1 := (thr_c hR).mp ⟨by omega, by omega, cx1.2.2.elim Or.inl (fun z => Or.inr (Or.inr z))⟩
                have t2_ : thr (h0 110) a2 := (thr_c hR).mp ⟨by omega, by omega, cx2.2.2.elim Or.inl (fun z => Or.inr (Or.inr z))⟩
                have t3_ : thr (h0 110) a3 := (thr_c hR).mp ⟨by omega, by omega, cx13.2.2.elim Or.inl (fun z => Or.inr (Or.inr z))⟩
                obtain ⟨G15, S15, T_, z_⟩ := qx18
                have T15_ : TN (h0 110) h15 := ⟨h14, _, fx16.2 (by omega), fun c hc => rowz S15 (fr_out (a := 0) (b := 93) (by decide) (by omega) (by omega))⟩
                have ng_ := fx16.1.mp (by omega)
                have R15 := R14.call S15 (by decide +kernel)
                refine z_aload_n (M := M_X11_lay) 76 dX11_lay_76 rfl ?_
                refine z_iload_n (M := M_X11_lay) 77 dX11_lay_77 rfl ?_
                refine z_iload (M := M_X11_lay) 78 dX11_lay_78 rfl ?_
                refine z_iload (M := M_X11_lay) 80 dX11_lay_80 rfl ?_
                refine z_vV (M := M_X11_lay) 82 dX11_lay_82 t_X11_addFeet l_X11_284 (m_rr_of rfl) (rest := []) (c_X11_addFeet2 h15 a1 a4 a5 G15 ⟨by omega, by omega⟩ ⟨by omega, by omega⟩ (by rw [FR.row (c := 110) R15 (fun _ => rfl)]; exact LR.S hR R15 (by decide)) (NP.call hN R15 (fun _ => rfl) (fun _ => rfl) (fun _ => rfl)) (by rw [FR.row (c := 110) R15 (fun _ => rfl)]; exact T15_) (by rw [FR.row (c := 110) R15 (fun _ => rfl)]; exact ng_) (by rw [FR.row (c := 110) R15 (fun _ => rfl)]; exact t1_)) o_0 rfl rfl rfl (Nat.le_of_ble_eq_true rfl) ⟨rfl, rfl⟩ (fun h16 qx19 => ?_)
                obtain ⟨G16, S16, U1_, n1, d1, o1_, ⟨F1_, B1_⟩, A1_⟩ := qx19
                have T16_ := T15_.step U1_
                rw [FR.row (c := 110) R15 (fun _ => rfl)] at F1_
                have R16 := R15.call S16 (by decide +kernel)
                refine z_aload_n (M := M_X11_lay) 85 dX11_lay_85 rfl ?_
                refine z_iload_n (M := M_X11_lay) 86 dX11_lay_86 rfl ?_
                refine z_iload (M := M_X11_lay) 87 dX11_lay_87 rfl ?_
                refine z_iload (M := M_X11_lay) 89 dX11_lay_89 rfl ?_
                refine z_vV (M := M_X11_lay) 91 dX11_lay_91 t_X11_addFeet l_X11_284 (m_rr_of rfl) (rest := []) (c_X11_addFeet2 h16 a2 a4 a5 G16 ⟨by omega, by omega⟩ ⟨by omega, by omega⟩ (by rw [FR.row (c := 110) R16 (fun _ => rfl)]; exact LR.S hR R16 (by decide)) (NP.call hN R16 (fun _ => rfl) (fun _ => rfl) (fun _ => rfl)) (by rw [FR.row (c := 110) R16 (fun _ => rfl)]; exact T16_) (by rw [FR.row (c := 110) R16 (fun _ => rfl)]; exact ng_) (by rw [FR.row (c := 110) R16 (fun _ => rfl)]; exact t2_)) o_0 rfl rfl rfl (Nat.le_of_ble_eq_true rfl) ⟨rfl, rfl⟩ (fun h17 qx20 => ?_)
                obtain ⟨G17, S17, U2_, n2, d2, o2_, ⟨F2_, B2_⟩, A2_⟩ := qx20
                have T17_ := T16_.step U2_
                rw [FR.row (c := 110) R16 (fun _ => rfl)] at F2_
                have R17 := R16.call S17 (by decide +kernel)
                refine z_iload_n (M := M_X11_lay) 94 dX11_lay_94 rfl ?_
                refine z_iconst (M := M_X11_lay) 95 dX11_lay_95 ?_
                refine z_icmp_eq_F (M := M_X11_lay) 96 dX11_lay_96 108 rfl (by omega) ?_
                refine z_aload_n (M := M_X11_lay) 99 dX11_lay_99 rfl ?_
                refine z_iload_n (M := M_X11_lay) 100 dX11_lay_100 rfl ?_
                refine z_iload (M := M_X11_lay) 101 dX11_lay_101 rfl ?_
                refine z_iload (M := M_X11_lay) 103 dX11_lay_103 rfl ?_
                refine z_vV (M := M_X11_lay) 105 dX11_lay_105 t_X11_addFeet l_X11_284 (m_rr_of rfl) (rest := []) (c_X11_addFeet2 h17 a3 a4 a5 G17 ⟨by omega, by omega⟩ ⟨by omega, by omega⟩ (by rw [FR.row (c := 110) R17 (fun _ => rfl)]; exact LR.S hR R17 (by decide)) (NP.call hN R17 (fun _ => rfl) (fun _ => rfl) (fun _ => rfl)) (by rw [FR.row (c := 110) R17 (fun _ => rfl)]; exact T17_) (by rw [FR.row (c := 110) R17 (fun _ => rfl)]; exact ng_) (by rw [FR.row (c := 110) R17 (fun _ => rfl)]; exact t3_)) o_0 rfl rfl rfl (Nat.le_of_ble_eq_true rfl) ⟨rfl, rfl⟩ (fun h18 qx21 => ?_)
                obtain ⟨G18, S18, U3_, n3, d3, o3_, ⟨F3_, B3_⟩, A3_⟩ := qx21
                have T18_ := T17_.step U3_
                rw [FR.row (c := 110) R17 (fun _ => rfl)] at F3_
                have R18 := R17.call S18 (by decide +kernel)
                refine z_aload_n (M := M_X11_lay) 108 dX11_lay_108 rfl ?_
                refine z_getR (M := M_X11_lay) 109 dX11_lay_109 f_X11_60 o_0 rfl (g_0_8 G18) ?_
                have la_ := la_3 T_ z_ A1_ A2_ A3_ B1_ B2_ B3_
                refine z_vJ (M := M_X11_lay) 112 dX11_lay_112 t_X10_sum l_X11_288 (m_rr_of rfl) (rest := []) (c_X10_sum2 h18 G18 (fun z => (by rcases la_ with ⟨_, y⟩ | ⟨y1, _, y3⟩; exact absurd (z.symm.trans y) (by decide); exact la_b y3 (su_b3 B1_ B2_ B3_ y1)))) o_96 rfl rfl rfl (Nat.le_of_ble_eq_true rfl) ⟨rfl, rfl⟩ (fun x22 h19 qx22 => ?_)
                obtain ⟨G19, S19, f22⟩ := qx22
                have lb_ : -1 ≤ x22 := (by rcases f22 with ⟨_, z⟩ | ⟨y, z⟩; omega; have k_ := su_nn ((fun z => (by rcases la_ with ⟨_, y⟩ | ⟨y1, _, y3⟩; exact absurd (z.symm.trans y) (by decide); exact la_b y3 (su_b3 B1_ B2_ B3_ y1))) y); have g_ := (gnG_b (o := h18 96 3) k_.1 k_.2).1; omega)
                have R19 := R18.call S19 (by decide +kernel)
                refine z_ldc2 (M := M_X11_lay) 115 dX11_lay_115 k_X11_291 ?_
                refine z_sI (M := M_X11_lay) 118 dX11_lay_118 t_X11_atMost l_X11_220 (m_rr_of rfl) (rest := []) (c_X11_atMost2 h19 x22 6000 G19 (by omega) ⟨by omega, by omega⟩) rfl rfl (Nat.le_of_ble_eq_true rfl) ⟨rfl, rfl⟩ (fun x23 h20 qx23 => ?_)
                obtain ⟨G20, S20, f23⟩ := qx23
                have R20 := R19.call S20 (by decide +kernel)
                refine z_ok (fun ox23 _ _ => ?_)
                have ox23 := ox23.1; unfold m_ok m_32 at ox23
                exact z_retI (M := M_X11_lay) 121 dX11_lay_121 rfl ⟨G20, R20, Or.inr ⟨⟨⟨⟨by omega, by omega⟩, t1_⟩, ⟨⟨by omega, by omega⟩, t2_⟩, Or.inr ⟨⟨by omega, by omega⟩, t3_⟩, cx14, cx15, ng_⟩, n1, d1, o1_, n2, d2, o2_, n3, d3, o3_, ⟨F1_, F2_, Or.inr ⟨c3, F3_⟩⟩, la_V (P := toU (toU (toU (fun _ => 0) 0 n1) 1 n2) 2 n3) (Q := toU (toU (toU (fun _ => 1) 0 d1) 1 d2) 2 d3) rfl rfl la_ f22 f23⟩⟩
              · refine z_bipush (M := M_X11_lay) 66 dX11_lay_66 ?_
                exact z_retI (M := M_X11_lay) 68 dX11_lay_68 rfl ⟨G14, R14, Or.inl ⟨fun z => absurd (fx16.1.mpr z.2.2.2.2.2) (by omega), rfl⟩⟩
            · refine z_if_eq_T (M := M_X11_lay) 56 dX11_lay_56 66 rfl (by omega) ?_
              refine z_bipush (M := M_X11_lay) 66 dX11_lay_66 ?_
              exact z_retI (M := M_X11_lay) 68 dX11_lay_68 rfl ⟨G0, (FR.rf (cs := (csB ++ [39, 40, 41, 97, 98])) (ss := [(96, 2), (96, 3), (96, 4)]) (h := h0)), Or.inl ⟨fun z => cx15 z.2.2.2.2.1, rfl⟩⟩
          · refine z_if_eq_T (M := M_X11_lay) 46 dX11_lay_46 66 rfl (by omega) ?_
            refine z_bipush (M := M_X11_lay) 66 dX11_lay_66 ?_
            exact z_retI (M := M_X11_lay) 68 dX11_lay_68 rfl ⟨G0, (FR.rf (cs := (csB ++ [39, 40, 41, 97, 98])) (ss := [(96, 2), (96, 3), (96, 4)]) (h := h0)), Or.inl ⟨fun z => cx14 z.2.2.2.1, rfl⟩⟩
        · refine z_if_eq_T (M := M_X11_lay) 26 dX11_lay_26 33 rfl (by omega) ?_
          refine z_iconst (M := M_X11_lay) 33 dX11_lay_33 ?_
          refine z_istore (M := M_X11_lay) 34 dX11_lay_34 (ls' := [some (mR 0), some (mI a1), some (mI a2), some (mI a3), some (mI a4), some (mI a5), some (mI 0)]) (by decide) rfl ?_
          refine z_iload (M := M_X11_lay) 36 dX11_lay_36 rfl ?_
          refine z_if_eq_T (M := M_X11_lay) 38 dX11_lay_38 66 rfl (by omega) ?_
          refine z_bipush (M := M_X11_lay) 66 dX11_lay_66 ?_
          exact z_retI (M := M_X11_lay) 68 dX11_lay_68 rfl ⟨G0, (FR.rf (cs := (csB ++ [39, 40, 41, 97, 98])) (ss := [(96, 2), (96, 3), (96, 4)]) (h := h0)), Or.inl ⟨fun z => z.2.2.1.elim c3 (fun t_ => cx13 (ms_of hR t_)), rfl⟩⟩
    · refine z_if_eq_T (M := M_X11_lay) 13 dX11_lay_13 33 rfl (by omega) ?_
      refine z_iconst (M := M_X11_lay) 33 dX11_lay_33 ?_
      refine z_istore (M := M_X11_lay) 34 dX11_lay_34 (ls' := [some (mR 0), some (mI a1), some (mI a2), some (mI a3), some (mI a4), some (mI a5), some (mI 0)]) (by decide) rfl ?_
      refine z_iload (M := M_X11_lay) 36 dX11_lay_36 rfl ?_
      refine z_if_eq_T (M := M_X11_lay) 38 dX11_lay_38 66 rfl (by omega) ?_
      refine z_bipush (M := M_X11_lay) 66 dX11_lay_66 ?_
      exact z_retI (M := M_X11_lay) 68 dX11_lay_68 rfl ⟨G0, (FR.rf (cs := (csB ++ [39, 40, 41, 97, 98])) (ss := [(96, 2), (96, 3), (96, 4)]) (h := h0)), Or.inl ⟨fun z => cx2 (ms_of hR z.2.1), rfl⟩⟩
  · refine z_if_eq_T (M := M_X11_lay) 5 dX11_lay_5 33 rfl (by omega) ?_
    refine z_iconst (M := M_X11_lay) 33 dX11_lay_33 ?_
    refine z_istore (M := M_X11_lay) 34 dX11_lay_34 (ls' := [some (mR 0), some (mI a1), some (mI a2), some (mI a3), some (mI a4), some (mI a5), some (mI 0)]) (by decide) rfl ?_
    refine z_iload (M := M_X11_lay) 36 dX11_lay_36 rfl ?_
    refine z_if_eq_T (M := M_X11_lay) 38 dX11_lay_38 66 rfl (by omega) ?_
    refine z_bipush (M := M_X11_lay) 66 dX11_lay_66 ?_
    exact z_retI (M := M_X11_lay) 68 dX11_lay_68 rfl ⟨G0, (FR.rf (cs := (csB ++ [39, 40, 41, 97, 98])) (ss := [(96, 2), (96, 3), (96, 4)]) (h := h0)), Or.inl ⟨fun z => cx1 (ms_of hR z.1), rfl⟩⟩
abbrev P_X11_area3 (h0 : m_H) (a1 a2 a3 a4 : Int) : Int → m_H → Prop := fun x h' => GI h' ∧ FR (csB ++ [39, 40, 41, 97, 98]) [(96, 2), (96, 3), (96, 4)] h0 h' ∧ arQ (h0 110) a1 a2 a3 a4 x
set_option maxHeartbeats 4000000 in
set_option maxRecDepth 100000 in
theorem c_X11_area3 (h0 : m_H) (a1 a2 a3 a4 : Int) (G0 : GI h0) (hR : LR 1 h0 (h0 110)) (hN : NP h0) : m_CI M_X11_area [mR 0, mI a1, mI a2, mI a3, mI a4] h0 (P_X11_area3 h0 a1 a2 a3 a4) := by
  refine m_CI_of ⟨by decide, rfl, by simp [m_arg, m_isL, M_X11_area], ⟨rfl, rfl⟩, rfl, rfl⟩ (ls := [some (mR 0), some (mI a1), some (mI a2), some (mI a3), some (mI a4), none]) rfl ?_
  refine z_ok (fun _ _ ok => ?_)
  have oa1 : m_32 a1 := ok 1 _ rfl
  unfold m_32 at oa1
  have oa2 : m_32 a2 := ok 2 _ rfl
  unfold m_32 at oa2
  have oa3 : m_32 a3 := ok 3 _ rfl
  unfold m_32 at oa3
  have oa4 : m_32 a4 := ok 4 _ rfl
  unfold m_32 at oa4
  refine z_aload_n (M := M_X11_area) 0 dX11_area_0 rfl ?_
  refine z_iload_n (M := M_X11_area) 1 dX11_area_1 rfl ?_
  refine z_vI (M := M_X11_area) 2 dX11_area_2 t_X11_isMeasured l_X11_278 (m_rr_of rfl) (rest := []) (c_X11_isMeasured h0 a1 G0) o_0 rfl rfl rfl (Nat.le_of_ble_eq_true rfl) ⟨rfl, rfl⟩ (fun x1 h1 qx1 => ?_)
  obtain ⟨rfl, ⟨rfl, cx1⟩ | ⟨rfl, cx1⟩⟩ := qx1
  · refine z_if_eq_F (M := M_X11_area) 5 dX11_area_5 20 rfl (by omega) ?_
    refine z_aload_n (M := M_X11_area) 8 dX11_area_8 rfl ?_
    refine z_iload_n (M := M_X11_area) 9 dX11_area_9 rfl ?_
    refine z_vI (M := M_X11_area) 10 dX11_area_10 t_X11_isMeasured l_X11_278 (m_rr_of rfl) (rest := []) (c_X11_isMeasured h0 a2 G0) o_0 rfl rfl rfl (Nat.le_of_ble_eq_true rfl) ⟨rfl, rfl⟩ (fun x2 h2 qx2 => ?_)
    obtain ⟨rfl, ⟨rfl, cx2⟩ | ⟨rfl, cx2⟩⟩ := qx2
    · refine z_if_eq_F (M := M_X11_area) 13 dX11_area_13 20 rfl (by omega) ?_
      refine z_iconst (M := M_X11_area) 16 dX11_area_16 ?_
      refine z_goto (M := M_X11_area) 17 dX11_area_17 21 rfl ?_
      refine z_istore (M := M_X11_area) 21 dX11_area_21 (ls' := [some (mR 0), some (mI a1), some (mI a2), some (mI a3), some (mI a4), some (mI 1)]) (by decide) rfl ?_
      refine z_iload (M := M_X11_area) 23 dX11_area_23 rfl ?_
      refine z_if_eq_F (M := M_X11_area) 25 dX11_area_25 52 rfl (by omega) ?_
      refine z_iload_n (M := M_X11_area) 28 dX11_area_28 rfl ?_
      refine z_sI (M := M_X11_area) 29 dX11_area_29 t_X11_isKeeper l_X11_132 (m_rr_of rfl) (rest := []) (c_X11_isKeeper h0 a3 G0) rfl rfl (Nat.le_of_ble_eq_true rfl) ⟨rfl, rfl⟩ (fun x3 h3 qx3 => ?_)
      obtain ⟨rfl, ⟨rfl, cx3⟩ | ⟨rfl, cx3⟩⟩ := qx3
      · refine z_if_eq_F (M := M_X11_area) 32 dX11_area_32 52 rfl (by omega) ?_
        refine z_iload (M := M_X11_area) 35 dX11_area_35 rfl ?_
        refine z_iconst (M := M_X11_area) 37 dX11_area_37 ?_
        refine z_iconst (M := M_X11_area) 38 dX11_area_38 ?_
        refine z_sI (M := M_X11_area) 39 dX11_area_39 t_X11_within l_X11_112 (m_rr_of rfl) (rest := []) (c_X11_within h0 a4 0 1 G0) rfl rfl (Nat.le_of_ble_eq_true rfl) ⟨rfl, rfl⟩ (fun x4 h4 qx4 => ?_)
        obtain ⟨rfl, ⟨rfl, cx4⟩ | ⟨rfl, cx4⟩⟩ := qx4
        · refine z_if_eq_F (M := M_X11_area) 42 dX11_area_42 52 rfl (by omega) ?_
          refine z_aload_n (M := M_X11_area) 45 dX11_area_45 rfl ?_
          refine z_vI (M := M_X11_area) 46 dX11_area_46 t_X11_canBe l_X11_208 (m_rr_of rfl) (rest := []) (c_X11_canBe2 h0 G0 hR hN) o_0 rfl rfl rfl (Nat.le_of_ble_eq_true rfl) ⟨rfl, rfl⟩ (fun x5 h5 qx5 => ?_)
          obtain ⟨G5, S5, ax5, bx5, fx5⟩ := qx5
          have R5 := (FR.rf (cs := (csB ++ [39, 40, 41, 97, 98])) (ss := [(96, 2), (96, 3), (96, 4)]) (h := h0)).call S5 (by decide +kernel)
          refine z_if_ne (M := M_X11_area) 49 dX11_area_49 55 rfl (fun c6 => ?_) (fun c6 => ?_)
          · refine z_aload_n (M := M_X11_area) 55 dX11_area_55 rfl ?_
            refine z_getR (M := M_X11_area) 56 dX11_area_56 f_X11_60 o_0 rfl (g_0_8 G5) ?_
            refine z_vV (M := M_X11_area) 59 dX11_area_59 t_X10_clear l_X11_281 (m_rr_of rfl) (rest := []) (c_X10_clear2 h5 G5) o_96 rfl rfl rfl (Nat.le_of_ble_eq_true rfl) ⟨rfl, rfl⟩ (fun h6 qx7 => ?_)
            have t1_ : thr (h0 110) a1 := (thr_c hR).mp ⟨by omega, by omega, cx1.2.2.elim Or.inl (fun z => Or.inr (Or.inr z))⟩
            have t2_ : thr (h0 110) a2 := (thr_c hR).mp ⟨by omega, by omega, cx2.2.2.elim Or.inl (fun z => Or.inr (Or.inr z))⟩
            obtain ⟨G6, S6, T_, z_⟩ := qx7
            have T6_ : TN (h0 110) h6 := ⟨h5, _, fx5.2 (by omega), fun c hc => rowz S6 (fr_out (a := 0) (b := 93) (by decide) (by omega) (by omega))⟩
            have ng_ := fx5.1.mp (by omega)
            have R6 := R5.call S6 (by decide +kernel)
            refine z_aload_n (M := M_X11_area) 62 dX11_area_62 rfl ?_
            refine z_iload_n (M := M_X11_area) 63 dX11_area_63 rfl ?_
            refine z_iload_n (M := M_X11_area) 64 dX11_area_64 rfl ?_
            refine z_iload (M := M_X11_area) 65 dX11_area_65 rfl ?_
            refine z_vV (M := M_X11_area) 67 dX11_area_67 t_X11_addFeet l_X11_284 (m_rr_of rfl) (rest := []) (c_X11_addFeet2 h6 a1 a3 a4 G6 ⟨by omega, by omega⟩ ⟨by omega, by omega⟩ (by rw [FR.row (c := 110) R6 (fun _ => rfl)]; exact LR.S hR R6 (by decide)) (NP.call hN R6 (fun _ => rfl) (fun _ => rfl) (fun _ => rfl)) (by rw [FR.row (c := 110) R6 (fun _ => rfl)]; exact T6_) (by rw [FR.row (c := 110) R6 (fun _ => rfl)]; exact ng_) (by rw [FR.row (c := 110) R6 (fun _ => rfl)]; exact t1_)) o_0 rfl rfl rfl (Nat.le_of_ble_eq_true rfl) ⟨rfl, rfl⟩ (fun h7 qx8 => ?_)
            obtain ⟨G7, S7, U1_, n1, d1, o1_, ⟨F1_, B1_⟩, A1_⟩ := qx8
            have T7_ := T6_.step U1_
            rw [FR.row (c := 110) R6 (fun _ => rfl)] at F1_
            have R7 := R6.call S7 (by decide +kernel)
            refine z_aload_n (M := M_X11_area) 70 dX11_area_70 rfl ?_
            refine z_iload_n (M := M_X11_area) 71 dX11_area_71 rfl ?_
            refine z_iload_n (M := M_X11_area) 72 dX11_area_72 rfl ?_
            refine z_iload (M := M_X11_area) 73 dX11_area_73 rfl ?_
            refine z_vV (M := M_X11_area) 75 dX11_area_75 t_X11_addFeet l_X11_284 (m_rr_of rfl) (rest := []) (c_X11_addFeet2 h7 a2 a3 a4 G7 ⟨by omega, by omega⟩ ⟨by omega, by omega⟩ (by rw [FR.row (c := 110) R7 (fun _ => rfl)]; exact LR.S hR R7 (by decide)) (NP.call hN R7 (fun _ => rfl) (fun _ => rfl) (fun _ => rfl)) (by rw [FR.row (c := 110) R7 (fun _ => rfl)]; exact T7_) (by rw [FR.row (c := 110) R7 (fun _ => rfl)]; exact ng_) (by rw [FR.row (c := 110) R7 (fun _ => rfl)]; exact t2_)) o_0 rfl rfl rfl (Nat.le_of_ble_eq_true rfl) ⟨rfl, rfl⟩ (fun h8 qx9 => ?_)
            obtain ⟨G8, S8, U2_, n2, d2, o2_, ⟨F2_, B2_⟩, A2_⟩ := qx9
            have T8_ := T7_.step U2_
            rw [FR.row (c := 110) R7 (fun _ => rfl)] at F2_
            have R8 := R7.call S8 (by decide +kernel)
            refine z_aload_n (M := M_X11_area) 78 dX11_area_78 rfl ?_
            refine z_getR (M := M_X11_area) 79 dX11_area_79 f_X11_60 o_0 rfl (g_0_8 G8) ?_
            have la_ := la_2 T_ z_ A1_ A2_ B1_ B2_
            refine z_vJ (M := M_X11_area) 82 dX11_area_82 t_X10_product l_X11_293 (m_rr_of rfl) (rest := []) (c_X10_product2 h8 G8 (fun z => (by rcases la_ with ⟨_, y⟩ | ⟨y1, _, y3⟩; exact absurd (z.symm.trans y) (by decide); exact la_b y3 (su_b2 B1_ B2_ y1)))) o_96 rfl rfl rfl (Nat.le_of_ble_eq_true rfl) ⟨rfl, rfl⟩ (fun x10 h9 qx10 => ?_)
            obtain ⟨G9, S9, f10⟩ := qx10
            have lb_ : -1 ≤ x10 := (by rcases f10 with ⟨_, z⟩ | ⟨y, z⟩; omega; have k_ := (show h8 96 4 = 0 → suB (h8 97) (h8 98) from (fun z => (by rcases la_ with ⟨_, y⟩ | ⟨y1, _, y3⟩; exact absurd (z.symm.trans y) (by decide); exact la_b y3 (su_b2 B1_ B2_ y1)))) y; have g0_ := k_ 0 (by decide); have g1_ := k_ 1 (by decide); have m1_ := Int.mul_nonneg g0_.1.1 g1_.1.1; have m2_ := Int.mul_nonneg (show 0 ≤ h8 98 0 by omega) (show 0 ≤ h8 98 1 by omega); have g_ := (gnG_b (o := h8 96 3) m1_ m2_).1; omega)
            have R9 := R8.call S9 (by decide +kernel)
            refine z_ldc2 (M := M_X11_area) 85 dX11_area_85 k_X11_296 ?_
            refine z_sI (M := M_X11_area) 88 dX11_area_88 t_X11_atMost l_X11_220 (m_rr_of rfl) (rest := []) (c_X11_atMost2 h9 x10 4000000 G9 (by omega) ⟨by omega, by omega⟩) rfl rfl (Nat.le_of_ble_eq_true rfl) ⟨rfl, rfl⟩ (fun x11 h10 qx11 => ?_)
            obtain ⟨G10, S10, f11⟩ := qx11
            have R10 := R9.call S10 (by decide +kernel)
            refine z_ok (fun ox11 _ _ => ?_)
            have ox11 := ox11.1; unfold m_ok m_32 at ox11
            exact z_retI (M := M_X11_area) 91 dX11_area_91 rfl ⟨G10, R10, Or.inr ⟨⟨⟨⟨by omega, by omega⟩, t1_⟩, ⟨⟨by omega, by omega⟩, t2_⟩, cx3, cx4, ng_⟩, n1, d1, o1_, n2, d2, o2_, ⟨F1_, F2_⟩, la_A (P := toU (toU (fun _ => 0) 0 n1) 1 n2) (Q := toU (toU (fun _ => 1) 0 d1) 1 d2) rfl rfl la_ f10 f11⟩⟩
          · refine z_bipush (M := M_X11_area) 52 dX11_area_52 ?_
            exact z_retI (M := M_X11_area) 54 dX11_area_54 rfl ⟨G5, R5, Or.inl ⟨fun z => absurd (fx5.1.mpr z.2.2.2.2) (by omega), rfl⟩⟩
        · refine z_if_eq_T (M := M_X11_area) 42 dX11_area_42 52 rfl (by omega) ?_
          refine z_bipush (M := M_X11_area) 52 dX11_area_52 ?_
          exact z_retI (M := M_X11_area) 54 dX11_area_54 rfl ⟨G0, (FR.rf (cs := (csB ++ [39, 40, 41, 97, 98])) (ss := [(96, 2), (96, 3), (96, 4)]) (h := h0)), Or.inl ⟨fun z => cx4 z.2.2.2.1, rfl⟩⟩
      · refine z_if_eq_T (M := M_X11_area) 32 dX11_area_32 52 rfl (by omega) ?_
        refine z_bipush (M := M_X11_area) 52 dX11_area_52 ?_
        exact z_retI (M := M_X11_area) 54 dX11_area_54 rfl ⟨G0, (FR.rf (cs := (csB ++ [39, 40, 41, 97, 98])) (ss := [(96, 2), (96, 3), (96, 4)]) (h := h0)), Or.inl ⟨fun z => cx3 z.2.2.1, rfl⟩⟩
    · refine z_if_eq_T (M := M_X11_area) 13 dX11_area_13 20 rfl (by omega) ?_
      refine z_iconst (M := M_X11_area) 20 dX11_area_20 ?_
      refine z_istore (M := M_X11_area) 21 dX11_area_21 (ls' := [some (mR 0), some (mI a1), some (mI a2), some (mI a3), some (mI a4), some (mI 0)]) (by decide) rfl ?_
      refine z_iload (M := M_X11_area) 23 dX11_area_23 rfl ?_
      refine z_if_eq_T (M := M_X11_area) 25 dX11_area_25 52 rfl (by omega) ?_
      refine z_bipush (M := M_X11_area) 52 dX11_area_52 ?_
      exact z_retI (M := M_X11_area) 54 dX11_area_54 rfl ⟨G0, (FR.rf (cs := (csB ++ [39, 40, 41, 97, 98])) (ss := [(96, 2), (96, 3), (96, 4)]) (h := h0)), Or.inl ⟨fun z => cx2 (ms_of hR z.2.1), rfl⟩⟩
  · refine z_if_eq_T (M := M_X11_area) 5 dX11_area_5 20 rfl (by omega) ?_
    refine z_iconst (M := M_X11_area) 20 dX11_area_20 ?_
    refine z_istore (M := M_X11_area) 21 dX11_area_21 (ls' := [some (mR 0), some (mI a1), some (mI a2), some (mI a3), some (mI a4), some (mI 0)]) (by decide) rfl ?_
    refine z_iload (M := M_X11_area) 23 dX11_area_23 rfl ?_
    refine z_if_eq_T (M := M_X11_area) 25 dX11_area_25 52 rfl (by omega) ?_
    refine z_bipush (M := M_X11_area) 52 dX11_area_52 ?_
    exact z_retI (M := M_X11_area) 54 dX11_area_54 rfl ⟨G0, (FR.rf (cs := (csB ++ [39, 40, 41, 97, 98])) (ss := [(96, 2), (96, 3), (96, 4)]) (h := h0)), Or.inl ⟨fun z => cx1 (ms_of hR z.1), rfl⟩⟩
/-! long numbers of ten places -/
theorem vS_put {h h' : m_H} {t i : Nat} {r : Int} (E : h' = m_up h t i r) (hi : i < 10) : vS (h' t) 0 10 = vS (h t) 0 10 + (r - h t i) * (100000000 : Int) ^ i := by
  have e : h' t = fun q => if q = 0 + i then r else h t q := funext fun q => by
    rw [Nat.zero_add]
    by_cases g : q = i
    · rw [if_pos g, g, upE E]
    · rw [if_neg g, upN E (fun z => g z.2)]
  have z := vS_up (f := h t) (a := 0) (j := i) (v := r) (n := 10) hi
  rw [Nat.zero_add] at z e
  rw [e]; exact z
theorem dg_put {h h' : m_H} {t i : Nat} {r : Int} (E : h' = m_up h t i r) (d : dg10 (h t)) (hr : 0 ≤ r ∧ r ≤ 99999999) : dg10 (h' t) := fun j hj => by
  by_cases g : j = i
  · rw [g, upE E]; exact hr
  · rw [upN E (fun z => g z.2)]; exact d j hj
theorem vS_z {f : Nat → Int} : ∀ n : Nat, (∀ j, j < n → f j = 0) → vS f 0 n = 0
  | 0, _ => rfl
  | n + 1, h => by
    rw [vS_succ, vS_z n (fun j hj => h j (by omega)), Nat.zero_add, h n (by omega), Int.zero_mul]; rfl
theorem vS_p {f : Nat → Int} (d : dg10 f) {n : Nat} (hn : n ≤ 10) : 0 ≤ vS f 0 n := (vS_bd (f := f) (a := 0) (n := n) (fun j hj => by rw [Nat.zero_add]; exact d j (by omega))).1
theorem vS_8 {f : Nat → Int} (d : dg10 f) (h : vS f 0 10 < 10000000000000000000000000000000000000000000000000000000000000000) : vS f 0 8 = vS f 0 10 ∧ vS f 0 9 = vS f 0 10 := by
  have e9 := vS_succ f 0 9
  have e8 := vS_succ f 0 8
  rw [show (100000000 : Int) ^ 9 = 1000000000000000000000000000000000000000000000000000000000000000000000000 by decide, Nat.zero_add] at e9
  rw [show (100000000 : Int) ^ 8 = 10000000000000000000000000000000000000000000000000000000000000000 by decide, Nat.zero_add] at e8
  have p := vS_p d (n := 8) (by decide)
  have d8 := d 8 (by decide)
  have d9 := d 9 (by decide)
  have e9' : vS f 0 10 = vS f 0 9 + f 9 * 1000000000000000000000000000000000000000000000000000000000000000000000000 := e9
  have e8' : vS f 0 9 = vS f 0 8 + f 8 * 10000000000000000000000000000000000000000000000000000000000000000 := e8
  omega
/-! multiply -/
def mlO (A a l s : Int) (g : Nat → Int) : Prop := dg10 g ∧ 0 ≤ l ∧ vS g 0 10 + A * (l * (100000000 : Int) ^ s.toNat) = A * a ∧ l * (100000000 : Int) ^ s.toNat ≤ a
def mlN (f : Nat → Int) (a l s p c k : Int) (g : Nat → Int) : Prop := dg10 g ∧ 0 ≤ l ∧ (l % 100000000 = p ∧ 0 ≤ p ∧ p ≤ 99999999) ∧ (0 ≤ c ∧ c ≤ p) ∧ l * (100000000 : Int) ^ s.toNat ≤ a ∧ k + s ≤ 10 ∧ ∃ P, P + vS f 0 10 * (l * (100000000 : Int) ^ s.toNat) = vS f 0 10 * a ∧ vS g 0 10 + c * (100000000 : Int) ^ (s.toNat + k.toNat) = P + vS f 0 k.toNat * p * (100000000 : Int) ^ s.toNat
theorem ml_0 {A a : Int} {g : Nat → Int} (z : ∀ j : Nat, j < 10 → g j = 0) (ha : 0 ≤ a) : mlO A a a 0 g := by
  refine ⟨fun j hj => by rw [z j hj]; decide, ha, ?_, ?_⟩
  · rw [vS_z 10 z]
    show 0 + A * (a * (100000000 : Int) ^ 0) = A * a
    rw [Int.pow_zero, Int.mul_one, Int.zero_add]
  · show a * (100000000 : Int) ^ 0 ≤ a
    rw [Int.pow_zero, Int.mul_one]; exact Int.le_refl _
theorem ml_in {f g : Nat → Int} {a l s p : Int} (I : mlO (vS f 0 10) a l s g) (hs : 0 ≤ s ∧ s ≤ 2) (ep : l % 100000000 = p) : mlN f a l s p 0 0 g := by
  obtain ⟨i1, i2, i3, i4⟩ := I
  refine ⟨i1, i2, ⟨ep, by omega, by omega⟩, ⟨Int.le_refl _, by omega⟩, i4, by omega, vS g 0 10, i3, ?_⟩
  rw [Int.zero_mul]
  show vS g 0 10 + 0 = vS g 0 10 + 0 * p * _
  rw [Int.zero_mul, Int.zero_mul]
theorem ml_st {f : Nat → Int} {h h' : m_H} {a l s p c k x3 x4 m w v r c' : Int} (df : dg10 f) (I : mlN f a l s p c k (h 142)) (k0 : 0 ≤ k) (s0 : 0 ≤ s ∧ s ≤ 2) (hk : k + s < 10) (e3 : h 142 (k + s).toNat = x3) (e4 : f k.toNat = x4) (em : x4 * p = m) (ew : x3 + m = w) (ev : w + c = v) (er : v % 100000000 = r) (ec : v / 100000000 = c') (E : h' = m_up h 142 (k + s).toNat r) : mlN f a l s p c' (k + 1) (h' 142) := by
  obtain ⟨i1, i2, i3, i4, i5, i6, P, i7, i8⟩ := I
  have d3 := i1 (k + s).toNat (by omega)
  rw [e3] at d3
  have d4 := df k.toNat (by omega)
  rw [e4] at d4
  have mb := mul_bd d4.1 d4.2 i3.2.1 (Int.le_refl p)
  rw [em] at mb
  refine ⟨dg_put E i1 (by omega), i2, i3, ⟨by omega, by omega⟩, i5, by omega, P, i7, ?_⟩
  rw [vS_put E (by omega), e3]
  have t1 : (k + 1).toNat = k.toNat + 1 := by omega
  have t2 : (k + s).toNat = s.toNat + k.toNat := by omega
  have t3 : s.toNat + (k.toNat + 1) = s.toNat + k.toNat + 1 := by omega
  rw [t1, t2, t3, vS_succ f 0 k.toNat, Nat.zero_add, e4, Int.pow_succ]
  have q : r + 100000000 * c' = x3 + m + c := by omega
  have q2 : x4 * (100000000 : Int) ^ k.toNat * p * (100000000 : Int) ^ s.toNat = m * (100000000 : Int) ^ (s.toNat + k.toNat) := by
    rw [← em, Int.pow_add]; ac_rfl
  rw [Int.add_mul, Int.add_mul, q2]
  generalize (100000000 : Int) ^ (s.toNat + k.toNat) = T at *
  have q3 : c' * (T * 100000000) = 100000000 * c' * T := by ac_rfl
  have q4 : (r + 100000000 * c') * T = (x3 + m + c) * T := by rw [q]
  rw [q3, Int.sub_mul]
  rw [Int.add_mul, Int.add_mul, Int.add_mul] at q4
  omega
theorem ml_ex {f g : Nat → Int} {a l s p c k l' : Int} (df : dg10 f) (hA : vS f 0 10 < 10000000000000000000000000000000000000000000000000000000000000000) (hP : vS f 0 10 * a < 100000000000000000000000000000000000000000000000000000000000000000000000000000000) (I : mlN f a l s p c k g) (s0 : 0 ≤ s ∧ s ≤ 2) (k0 : 0 ≤ k) (hk : k + s = 10) (el : l / 100000000 = l') : mlO (vS f 0 10) a l' (s + 1) g := by
  obtain ⟨i1, i2, i3, i4, i5, i6, P, i7, i8⟩ := I
  have A0 := vS_p df (n := 10) (by decide)
  have v8 := vS_8 df hA
  have vk : vS f 0 k.toNat = vS f 0 10 := by
    have e : k.toNat = 8 ∨ k.toNat = 9 ∨ k.toNat = 10 := by omega
    rcases e with e | e | e <;> rw [e]
    · exact v8.1
    · exact v8.2
  rw [vk, show s.toNat + k.toNat = 10 by omega, show (100000000 : Int) ^ 10 = 100000000000000000000000000000000000000000000000000000000000000000000000000000000 by decide] at i8
  have S0 : (0 : Int) ≤ (100000000 : Int) ^ s.toNat := Int.le_of_lt (Int.pow_pos (by decide))
  have e1 : (s + 1).toNat = s.toNat + 1 := by omega
  have dm : l = 100000000 * l' + p := by omega
  have k1 : vS f 0 10 * (l' * (100000000 : Int) ^ (s + 1).toNat) + vS f 0 10 * p * (100000000 : Int) ^ s.toNat = vS f 0 10 * (l * (100000000 : Int) ^ s.toNat) := by
    rw [e1, Int.pow_succ]
    conv => rhs; rw [dm]
    generalize (100000000 : Int) ^ s.toNat = T
    rw [Int.add_mul, Int.mul_add]
    have k2 : vS f 0 10 * (l' * (T * 100000000)) = vS f 0 10 * (100000000 * l' * T) := by ac_rfl
    have k3 : vS f 0 10 * p * T = vS f 0 10 * (p * T) := by ac_rfl
    rw [k2, k3]
  have l0 : 0 ≤ l' := by omega
  have n1 := Int.mul_nonneg A0 (Int.mul_nonneg l0 (show (0 : Int) ≤ (100000000 : Int) ^ (s + 1).toNat from Int.le_of_lt (Int.pow_pos (by decide))))
  have n2 := vS_p i1 (n := 10) (by decide)
  have c0 : c = 0 := by omega
  rw [c0, Int.zero_mul, Int.add_zero] at i8
  refine ⟨i1, l0, by omega, ?_⟩
  rw [e1, Int.pow_succ]
  have k4 : l' * ((100000000 : Int) ^ s.toNat * 100000000) = 100000000 * l' * (100000000 : Int) ^ s.toNat := by ac_rfl
  rw [k4]
  have k5 := Int.mul_le_mul_of_nonneg_right (show 100000000 * l' ≤ l by omega) S0
  omega
theorem ml_en {A a l s : Int} {g : Nat → Int} (I : mlO A a l s g) (hs : s = 3) (ha : a < 1000000000000000000000000) : dg10 g ∧ vS g 0 10 = A * a := by
  subst hs
  obtain ⟨i1, i2, i3, i4⟩ := I
  rw [show (100000000 : Int) ^ (3 : Int).toNat = 1000000000000000000000000 by decide] at i3 i4
  have l0 : l = 0 := by omega
  subst l0
  rw [Int.zero_mul, Int.mul_zero, Int.add_zero] at i3
  exact ⟨i1, i3⟩
theorem dg_of {f g : Nat → Int} (e : ∀ j : Nat, j < 10 → f j = g j) (d : dg10 g) : dg10 f ∧ vS f 0 10 = vS g 0 10 := ⟨fun j hj => by rw [e j hj]; exact d j hj, vS_same (fun j hj => by rw [Nat.zero_add]; exact e j hj)⟩
abbrev P_X12_multiply4 (h0 : m_H) (t : Nat) (a2 : Int) : m_H → Prop := fun h' => GI h' ∧ FR [142, t] [] h0 h' ∧ dg10 (h' t) ∧ vS (h' t) 0 10 = vS (h0 t) 0 10 * a2
def q_X12_multiply4 (h0 : m_H) (t : Nat) (a2 : Int) (n : Nat) : Prop := (∀ (l4 : Int) (h : m_H), GI h → FR [142, t] [] h0 h → 0 ≤ l4 → l4 ≤ 10 → (h t = h0 t ∧ ∀ j : Nat, (j : Int) < l4 → h 142 j = 0) → 2 * (10 - l4) + (125) ≤ (n : Int) → m_Z oF M_X12_multiply 3 [some (mR 108), some (mR t), some (mJ a2), none, some (mI l4), none, none, none, none, none, none, none, none, none] [] h (m_QV (P_X12_multiply4 h0 t a2))) ∧ (∀ (l4 l6 : Int) (h : m_H), GI h → FR [142, t] [] h0 h → 0 ≤ l6 → l6 ≤ 3 → (h t = h0 t ∧ mlO (vS (h0 t) 0 10) a2 l4 l6 (h 142)) → 25 * (3 - l6) + (47) ≤ (n : Int) → m_Z oF M_X12_multiply 30 [some (mR 108), some (mR t), none, none, some (mJ l4), none, some (mI l6), none, none, none, none, none, none, none] [] h (m_QV (P_X12_multiply4 h0 t a2))) ∧ (∀ (l4 l6 l7 l9 l11 : Int) (h : m_H), GI h → FR [142, t] [] h0 h → 0 ≤ l6 → l6 ≤ 2 → 0 ≤ l11 → l11 ≤ 10 → (h t = h0 t ∧ mlN (h0 t) a2 l4 l6 l7 l9 l11 (h 142)) → 25 * (3 - l6) + 2 * (10 - l11) + (1) + (23) ≤ (n : Int) → m_Z oF M_X12_multiply 50 [some (mR 108), some (mR t), none, none, some (mJ l4), none, some (mI l6), some (mJ l7), none, some (mJ l9), none, some (mI l11), none, none] [] h (m_QV (P_X12_multiply4 h0 t a2))) ∧ (∀ (l6 : Int) (h : m_H), GI h → FR [142, t] [] h0 h → 0 ≤ l6 → l6 ≤ 10 → ((dg10 (h 142) ∧ vS (h 142) 0 10 = (vS (h0 t) 0 10) * a2) ∧ ∀ j : Nat, (j : Int) < l6 → h t j = h 142 j) → 2 * (10 - l6) + (1) ≤ (n : Int) → m_Z oF M_X12_multiply 130 [some (mR 108), some (mR t), none, none, none, none, some (mI l6), none, none, none, none, none, none, none] [] h (m_QV (P_X12_multiply4 h0 t a2)))
set_option maxHeartbeats 4000000 in
set_option maxRecDepth 100000 in
theorem s_X12_multiply4_3 (h0 : m_H) (t : Nat) (a2 : Int) (w_t : t = 139 ∨ t = 140 ∨ t = 141) (G0 : GI h0) (hd : dg10 (h0 t)) (ha : 0 ≤ a2 ∧ a2 < 1000000000000000000000000) (hA : vS (h0 t) 0 10 < 10000000000000000000000000000000000000000000000000000000000000000) (hP : vS (h0 t) 0 10 * a2 < 100000000000000000000000000000000000000000000000000000000000000000000000000000000) (n : Nat) (ih : q_X12_multiply4 h0 t a2 n) : ∀ (l4 : Int) (h : m_H), GI h → FR [142, t] [] h0 h → 0 ≤ l4 → l4 ≤ 10 → (h t = h0 t ∧ ∀ j : Nat, (j : Int) < l4 → h 142 j = 0) → 2 * (10 - l4) + (125) ≤ ((n + 1 : Nat) : Int) → m_Z oF M_X12_multiply 3 [some (mR 108), some (mR t), some (mJ a2), none, some (mI l4), none, none, none, none, none, none, none, none, none] [] h (m_QV (P_X12_multiply4 h0 t a2)) := by
  intro l4 h G R v0 v1 i1 hr
  refine z_iload (M := M_X12_multiply) 3 dX12_multiply_3 rfl ?_
  refine z_bipush (M := M_X12_multiply) 5 dX12_multiply_5 ?_
  refine z_icmp_ge (M := M_X12_multiply) 7 dX12_multiply_7 24 rfl (fun c1 => ?_) (fun c1 => ?_)
  · refine z_lload_n (M := M_X12_multiply) 24 dX12_multiply_24 rfl ?_
    refine z_lstore (M := M_X12_multiply) 25 dX12_multiply_25 (ls' := [some (mR 108), some (mR t), some (mJ a2), none, some (mJ a2), none, none, none, none, none, none, none, none, none]) (by decide) rfl ?_
    refine z_iconst (M := M_X12_multiply) 27 dX12_multiply_27 ?_
    refine z_istore (M := M_X12_multiply) 28 dX12_multiply_28 (ls' := [some (mR 108), some (mR t), some (mJ a2), none, some (mJ a2), none, some (mI 0), none, none, none, none, none, none, none]) (by decide) rfl ?_
    exact z_mask [true, true, false, false, true, false, true, false, false, false, false, false, false, false] rfl (ih.2.1 a2 0 h G R (by omega) (by omega) ⟨i1.1, ml_0 (fun j hj => i1.2 j (by omega)) ha.1⟩ (by omega))
  · refine z_aload_n (M := M_X12_multiply) 10 dX12_multiply_10 rfl ?_
    refine z_getR (M := M_X12_multiply) 11 dX12_multiply_11 f_X12_115 o_108 rfl (g_108_51 G) ?_
    refine z_iload (M := M_X12_multiply) 14 dX12_multiply_14 rfl ?_
    refine z_lconst (M := M_X12_multiply) 16 dX12_multiply_16 (v := 0) ?_
    refine z_lastH (M := M_X12_multiply) 17 dX12_multiply_17 o_142 (by omega) (by omega) (u_142 G) (R.up rfl) (fun h1 E1 G1 R1 => ?_)
    refine z_iincN (M := M_X12_multiply) 18 dX12_multiply_18 (ls' := [some (mR 108), some (mR t), some (mJ a2), none, some (mI (l4 + 1)), none, none, none, none, none, none, none, none, none]) (by decide) rfl (by (unfold m_32; decide)) (by omega) (by omega) rfl ?_
    refine z_goto (M := M_X12_multiply) 21 dX12_multiply_21 3 rfl ?_
    exact z_mask [true, true, true, false, true, false, false, false, false, false, false, false, false, false] rfl (ih.1 (l4 + 1) h1 G1 R1 (by omega) (by omega) ⟨(upo E1 (by rcases w_t with rfl | rfl | rfl <;> decide)).trans i1.1, fun j hj => by by_cases g : j = l4.toNat; rw [g, upE E1]; rw [upN E1 (fun z => g z.2)]; exact i1.2 j (by omega)⟩ (by omega))
set_option maxHeartbeats 4000000 in
set_option maxRecDepth 100000 in
theorem s_X12_multiply4_30 (h0 : m_H) (t : Nat) (a2 : Int) (w_t : t = 139 ∨ t = 140 ∨ t = 141) (G0 : GI h0) (hd : dg10 (h0 t)) (ha : 0 ≤ a2 ∧ a2 < 1000000000000000000000000) (hA : vS (h0 t) 0 10 < 10000000000000000000000000000000000000000000000000000000000000000) (hP : vS (h0 t) 0 10 * a2 < 100000000000000000000000000000000000000000000000000000000000000000000000000000000) (n : Nat) (ih : q_X12_multiply4 h0 t a2 n) : ∀ (l4 l6 : Int) (h : m_H), GI h → FR [142, t] [] h0 h → 0 ≤ l6 → l6 ≤ 3 → (h t = h0 t ∧ mlO (vS (h0 t) 0 10) a2 l4 l6 (h 142)) → 25 * (3 - l6) + (47) ≤ ((n + 1 : Nat) : Int) → m_Z oF M_X12_multiply 30 [some (mR 108), some (mR t), none, none, some (mJ l4), none, some (mI l6), none, none, none, none, none, none, none] [] h (m_QV (P_X12_multiply4 h0 t a2)) := by
  intro l4 l6 h G R v0 v1 i1 hr
  have l0_ := i1.2.2.1
  refine z_iload (M := M_X12_multiply) 30 dX12_multiply_30 rfl ?_
  refine z_iconst (M := M_X12_multiply) 32 dX12_multiply_32 ?_
  refine z_icmp_ge (M := M_X12_multiply) 33 dX12_multiply_33 127 rfl (fun c1 => ?_) (fun c1 => ?_)
  · refine z_iconst (M := M_X12_multiply) 127 dX12_multiply_127 ?_
    refine z_istore (M := M_X12_multiply) 128 dX12_multiply_128 (ls' := [some (mR 108), some (mR t), none, none, some (mJ l4), none, some (mI 0), none, none, none, none, none, none, none]) (by decide) rfl ?_
    exact z_mask [true, true, false, false, false, false, true, false, false, false, false, false, false, false] rfl (ih.2.2.2 0 h G R (by omega) (by omega) ⟨ml_en i1.2 (by omega) ha.2, fun j hj => by omega⟩ (by omega))
  · refine z_lload (M := M_X12_multiply) 36 dX12_multiply_36 rfl ?_
    refine z_ldc2 (M := M_X12_multiply) 38 dX12_multiply_38 k_X12_327 ?_
    refine z_lremN (M := M_X12_multiply) 41 dX12_multiply_41 (by omega) (by omega) ?_
    refine z_topJ (fun x2 ex2 => ?_)
    refine z_lstore (M := M_X12_multiply) 42 dX12_multiply_42 (ls' := [some (mR 108), some (mR t), none, none, some (mJ l4), none, some (mI l6), some (mJ x2), none, none, none, none, none, none]) (by decide) rfl ?_
    refine z_lconst (M := M_X12_multiply) 44 dX12_multiply_44 (v := 0) ?_
    refine z_lstore (M := M_X12_multiply) 45 dX12_multiply_45 (ls' := [some (mR 108), some (mR t), none, none, some (mJ l4), none, some (mI l6), some (mJ x2), none, some (mJ 0), none, none, none, none]) (by decide) rfl ?_
    refine z_iconst (M := M_X12_multiply) 47 dX12_multiply_47 ?_
    refine z_istore (M := M_X12_multiply) 48 dX12_multiply_48 (ls' := [some (mR 108), some (mR t), none, none, some (mJ l4), none, some (mI l6), some (mJ x2), none, some (mJ 0), none, some (mI 0), none, none]) (by decide) rfl ?_
    exact z_mask [true, true, false, false, true, false, true, true, false, true, false, true, false, false] rfl (ih.2.2.1 l4 l6 x2 0 0 h G R (by omega) (by omega) (by omega) (by omega) ⟨i1.1, ml_in i1.2 ⟨by omega, by omega⟩ ex2⟩ (by omega))
set_option maxHeartbeats 4000000 in
set_option maxRecDepth 100000 in
theorem s_X12_multiply4_50 (h0 : m_H) (t : Nat) (a2 : Int) (w_t : t = 139 ∨ t = 140 ∨ t = 141) (G0 : GI h0) (hd : dg10 (h0 t)) (ha : 0 ≤ a2 ∧ a2 < 1000000000000000000000000) (hA : vS (h0 t) 0 10 < 10000000000000000000000000000000000000000000000000000000000000000) (hP : vS (h0 t) 0 10 * a2 < 100000000000000000000000000000000000000000000000000000000000000000000000000000000) (n : Nat) (ih : q_X12_multiply4 h0 t a2 n) : ∀ (l4 l6 l7 l9 l11 : Int) (h : m_H), GI h → FR [142, t] [] h0 h → 0 ≤ l6 → l6 ≤ 2 → 0 ≤ l11 → l11 ≤ 10 → (h t = h0 t ∧ mlN (h0 t) a2 l4 l6 l7 l9 l11 (h 142)) → 25 * (3 - l6) + 2 * (10 - l11) + (1) + (23) ≤ ((n + 1 : Nat) : Int) → m_Z oF M_X12_multiply 50 [some (mR 108), some (mR t), none, none, some (mJ l4), none, some (mI l6), some (mJ l7), none, some (mJ l9), none, some (mI l11), none, none] [] h (m_QV (P_X12_multiply4 h0 t a2)) := by
  intro l4 l6 l7 l9 l11 h G R v0 v1 v2 v3 i1 hr
  have l0_ := i1.2.2.1
  have p0_ := i1.2.2.2.1
  have c0_ := i1.2.2.2.2.1
  have s0_ := i1.2.2.2.2.2.2.1
  refine z_iload (M := M_X12_multiply) 50 dX12_multiply_50 rfl ?_
  refine z_iload (M := M_X12_multiply) 52 dX12_multiply_52 rfl ?_
  refine z_iaddN (M := M_X12_multiply) 54 dX12_multiply_54 (by omega) (by omega) ?_
  refine z_bipush (M := M_X12_multiply) 55 dX12_multiply_55 ?_
  refine z_icmp_ge (M := M_X12_multiply) 57 dX12_multiply_57 113 rfl (fun c1 => ?_) (fun c1 => ?_)
  · refine z_lload (M := M_X12_multiply) 113 dX12_multiply_113 rfl ?_
    refine z_ldc2 (M := M_X12_multiply) 115 dX12_multiply_115 k_X12_327 ?_
    refine z_ldivN (M := M_X12_multiply) 118 dX12_multiply_118 (by omega) (by omega) ?_
    refine z_topJ (fun x2 ex2 => ?_)
    refine z_lstore (M := M_X12_multiply) 119 dX12_multiply_119 (ls' := [some (mR 108), some (mR t), none, none, some (mJ x2), none, some (mI l6), some (mJ l7), none, some (mJ l9), none, some (mI l11), none, none]) (by decide) rfl ?_
    refine z_iincN (M := M_X12_multiply) 121 dX12_multiply_121 (ls' := [some (mR 108), some (mR t), none, none, some (mJ x2), none, some (mI (l6 + 1)), some (mJ l7), none, some (mJ l9), none, some (mI l11), none, none]) (by decide) rfl (by (unfold m_32; decide)) (by omega) (by omega) rfl ?_
    refine z_goto (M := M_X12_multiply) 124 dX12_multiply_124 30 rfl ?_
    exact z_mask [true, true, false, false, true, false, true, false, false, false, false, false, false, false] rfl (ih.2.1 x2 (l6 + 1) h G R (by omega) (by omega) ⟨i1.1, ml_ex hd hA hP i1.2 ⟨by omega, by omega⟩ (by omega) (by omega) ex2⟩ (by omega))
  · refine z_aload_n (M := M_X12_multiply) 60 dX12_multiply_60 rfl ?_
    refine z_getR (M := M_X12_multiply) 61 dX12_multiply_61 f_X12_115 o_108 rfl (g_108_51 G) ?_
    refine z_iload (M := M_X12_multiply) 64 dX12_multiply_64 rfl ?_
    refine z_iload (M := M_X12_multiply) 66 dX12_multiply_66 rfl ?_
    refine z_iaddN (M := M_X12_multiply) 68 dX12_multiply_68 (by omega) (by omega) ?_
    refine z_laldV (M := M_X12_multiply) 69 dX12_multiply_69 o_142 (by omega) (by omega) (fun x3 ex3 => ?_)
    have d3_ := i1.2.1 (l11 + l6).toNat (by omega); rw [ex3] at d3_
    refine z_aload_n (M := M_X12_multiply) 70 dX12_multiply_70 rfl ?_
    refine z_iload (M := M_X12_multiply) 71 dX12_multiply_71 rfl ?_
    refine z_laldV (M := M_X12_multiply) 73 dX12_multiply_73 (oC_139_140_141 w_t) (by omega) (by omega) (fun x4 ex4 => ?_)
    have v4_ : h0 t l11.toNat = x4 := (congrFun i1.1 l11.toNat).symm.trans ex4
    have d4_ := hd l11.toNat (by omega); rw [v4_] at d4_
    refine z_lload (M := M_X12_multiply) 74 dX12_multiply_74 rfl ?_
    have mx5 := mul_bd (x := x4) (y := l7) (X := 99999999) (Y := 99999999) (by omega) (by omega) (by omega) (by omega)
    refine z_lmulN (M := M_X12_multiply) 76 dX12_multiply_76 (by omega) (by omega) ?_
    refine z_topBJ (lo := 0) (hi := 9999999800000001) ⟨by omega, by omega⟩ (fun x5 ex5 ax5 bx5 => ?_)
    refine z_laddN (M := M_X12_multiply) 77 dX12_multiply_77 (by omega) (by omega) ?_
    refine z_topJ (fun x6 ex6 => ?_)
    refine z_lload (M := M_X12_multiply) 78 dX12_multiply_78 rfl ?_
    refine z_laddN (M := M_X12_multiply) 80 dX12_multiply_80 (by omega) (by omega) ?_
    refine z_topJ (fun x7 ex7 => ?_)
    refine z_lstore (M := M_X12_multiply) 81 dX12_multiply_81 (ls' := [some (mR 108), some (mR t), none, none, some (mJ l4), none, some (mI l6), some (mJ l7), none, some (mJ l9), none, some (mI l11), some (mJ x7), none]) (by decide) rfl ?_
    refine z_aload_n (M := M_X12_multiply) 83 dX12_multiply_83 rfl ?_
    refine z_getR (M := M_X12_multiply) 84 dX12_multiply_84 f_X12_115 o_108 rfl (g_108_51 G) ?_
    refine z_iload (M := M_X12_multiply) 87 dX12_multiply_87 rfl ?_
    refine z_iload (M := M_X12_multiply) 89 dX12_multiply_89 rfl ?_
    refine z_iaddN (M := M_X12_multiply) 91 dX12_multiply_91 (by omega) (by omega) ?_
    refine z_lload (M := M_X12_multiply) 92 dX12_multiply_92 rfl ?_
    refine z_ldc2 (M := M_X12_multiply) 94 dX12_multiply_94 k_X12_327 ?_
    refine z_lremN (M := M_X12_multiply) 97 dX12_multiply_97 (by omega) (by omega) ?_
    refine z_topJ (fun x8 ex8 => ?_)
    refine z_lastH (M := M_X12_multiply) 98 dX12_multiply_98 o_142 (by omega) (by omega) (u_142 G) (R.up rfl) (fun h1 E1 G1 R1 => ?_)
    refine z_lload (M := M_X12_multiply) 99 dX12_multiply_99 rfl ?_
    refine z_ldc2 (M := M_X12_multiply) 101 dX12_multiply_101 k_X12_327 ?_
    refine z_ldivN (M := M_X12_multiply) 104 dX12_multiply_104 (by omega) (by omega) ?_
    refine z_topJ (fun x9 ex9 => ?_)
    refine z_lstore (M := M_X12_multiply) 105 dX12_multiply_105 (ls' := [some (mR 108), some (mR t), none, none, some (mJ l4), none, some (mI l6), some (mJ l7), none, some (mJ x9), none, some (mI l11), some (mJ x7), none]) (by decide) rfl ?_
    refine z_iincN (M := M_X12_multiply) 107 dX12_multiply_107 (ls' := [some (mR 108), some (mR t), none, none, some (mJ l4), none, some (mI l6), some (mJ l7), none, some (mJ x9), none, some (mI (l11 + 1)), some (mJ x7), none]) (by decide) rfl (by (unfold m_32; decide)) (by omega) (by omega) rfl ?_
    refine z_goto (M := M_X12_multiply) 110 dX12_multiply_110 50 rfl ?_
    exact z_mask [true, true, false, false, true, false, true, true, false, true, false, true, false, false] rfl (ih.2.2.1 l4 l6 l7 x9 (l11 + 1) h1 G1 R1 (by omega) (by omega) (by omega) (by omega) ⟨(upo E1 (by rcases w_t with rfl | rfl | rfl <;> decide)).trans i1.1, ml_st hd i1.2 (by omega) ⟨by omega, by omega⟩ (by omega) ex3 v4_ ex5 ex6 ex7 ex8 ex9 E1⟩ (by omega))
set_option maxHeartbeats 4000000 in
set_option maxRecDepth 100000 in
theorem s_X12_multiply4_130 (h0 : m_H) (t : Nat) (a2 : Int) (w_t : t = 139 ∨ t = 140 ∨ t = 141) (G0 : GI h0) (hd : dg10 (h0 t)) (ha : 0 ≤ a2 ∧ a2 < 1000000000000000000000000) (hA : vS (h0 t) 0 10 < 10000000000000000000000000000000000000000000000000000000000000000) (hP : vS (h0 t) 0 10 * a2 < 100000000000000000000000000000000000000000000000000000000000000000000000000000000) (n : Nat) (ih : q_X12_multiply4 h0 t a2 n) : ∀ (l6 : Int) (h : m_H), GI h → FR [142, t] [] h0 h → 0 ≤ l6 → l6 ≤ 10 → ((dg10 (h 142) ∧ vS (h 142) 0 10 = (vS (h0 t) 0 10) * a2) ∧ ∀ j : Nat, (j : Int) < l6 → h t j = h 142 j) → 2 * (10 - l6) + (1) ≤ ((n + 1 : Nat) : Int) → m_Z oF M_X12_multiply 130 [some (mR 108), some (mR t), none, none, none, none, some (mI l6), none, none, none, none, none, none, none] [] h (m_QV (P_X12_multiply4 h0 t a2)) := by
  intro l6 h G R v0 v1 i1 hr
  refine z_iload (M := M_X12_multiply) 130 dX12_multiply_130 rfl ?_
  refine z_bipush (M := M_X12_multiply) 132 dX12_multiply_132 ?_
  refine z_icmp_ge (M := M_X12_multiply) 134 dX12_multiply_134 154 rfl (fun c1 => ?_) (fun c1 => ?_)
  · exact z_retV (M := M_X12_multiply) 154 dX12_multiply_154 rfl ⟨G, R, (dg_of (fun j hj => i1.2 j (by omega)) i1.1.1).1, (dg_of (fun j hj => i1.2 j (by omega)) i1.1.1).2.trans i1.1.2⟩
  · refine z_aload_n (M := M_X12_multiply) 137 dX12_multiply_137 rfl ?_
    refine z_iload (M := M_X12_multiply) 138 dX12_multiply_138 rfl ?_
    refine z_aload_n (M := M_X12_multiply) 140 dX12_multiply_140 rfl ?_
    refine z_getR (M := M_X12_multiply) 141 dX12_multiply_141 f_X12_115 o_108 rfl (g_108_51 G) ?_
    refine z_iload (M := M_X12_multiply) 144 dX12_multiply_144 rfl ?_
    refine z_laldV (M := M_X12_multiply) 146 dX12_multiply_146 o_142 (by omega) (by omega) (fun x2 ex2 => ?_)
    refine z_lastH (M := M_X12_multiply) 147 dX12_multiply_147 (oC_139_140_141 w_t) (by omega) (by omega) (uC_139_140_141 w_t G) (R.up (by simp [fr])) (fun h1 E1 G1 R1 => ?_)
    refine z_iincN (M := M_X12_multiply) 148 dX12_multiply_148 (ls' := [some (mR 108), some (mR t), none, none, none, none, some (mI (l6 + 1)), none, none, none, none, none, none, none]) (by decide) rfl (by (unfold m_32; decide)) (by omega) (by omega) rfl ?_
    refine z_goto (M := M_X12_multiply) 151 dX12_multiply_151 130 rfl ?_
    exact z_mask [true, true, false, false, false, false, true, false, false, false, false, false, false, false] rfl (ih.2.2.2 (l6 + 1) h1 G1 R1 (by omega) (by omega) ⟨by rw [upo E1 (show (142 : Nat) ≠ t by rcases w_t with rfl | rfl | rfl <;> decide)]; exact i1.1, fun j hj => by rw [upo (c := 142) E1 (by rcases w_t with rfl | rfl | rfl <;> decide)]; by_cases g : j = l6.toNat; rw [g, upE E1, ex2]; rw [upN E1 (fun z => g z.2)]; exact i1.2 j (by omega)⟩ (by omega))
theorem a_X12_multiply4 (h0 : m_H) (t : Nat) (a2 : Int) (w_t : t = 139 ∨ t = 140 ∨ t = 141) (G0 : GI h0) (hd : dg10 (h0 t)) (ha : 0 ≤ a2 ∧ a2 < 1000000000000000000000000) (hA : vS (h0 t) 0 10 < 10000000000000000000000000000000000000000000000000000000000000000) (hP : vS (h0 t) 0 10 * a2 < 100000000000000000000000000000000000000000000000000000000000000000000000000000000) : ∀ n, q_X12_multiply4 h0 t a2 n := by
  intro n
  induction n with
  | zero => unfold q_X12_multiply4; refine ⟨?_, ?_, ?_, ?_⟩ <;> (intros; omega)
  | succ n ih => exact ⟨s_X12_multiply4_3 h0 t a2 w_t G0 hd ha hA hP n ih, s_X12_multiply4_30 h0 t a2 w_t G0 hd ha hA hP n ih, s_X12_multiply4_50 h0 t a2 w_t G0 hd ha hA hP n ih, s_X12_multiply4_130 h0 t a2 w_t G0 hd ha hA hP n ih⟩
set_option maxHeartbeats 4000000 in
set_option maxRecDepth 100000 in
theorem c_X12_multiply4 (h0 : m_H) (t : Nat) (a2 : Int) (w_t : t = 139 ∨ t = 140 ∨ t = 141) (G0 : GI h0) (hd : dg10 (h0 t)) (ha : 0 ≤ a2 ∧ a2 < 1000000000000000000000000) (hA : vS (h0 t) 0 10 < 10000000000000000000000000000000000000000000000000000000000000000) (hP : vS (h0 t) 0 10 * a2 < 100000000000000000000000000000000000000000000000000000000000000000000000000000000) : m_CV M_X12_multiply [mR 108, mR t, mJ a2] h0 (P_X12_multiply4 h0 t a2) := by
  refine m_CV_of ⟨by decide, rfl, by simp [m_arg, m_isL, M_X12_multiply], ⟨rfl, rfl⟩, rfl, rfl⟩ (ls := [some (mR 108), some (mR t), some (mJ a2), none, none, none, none, none, none, none, none, none, none, none]) rfl ?_
  have ih := a_X12_multiply4 h0 t a2 w_t G0 hd ha hA hP 152
  refine z_iconst (M := M_X12_multiply) 0 dX12_multiply_0 ?_
  refine z_istore (M := M_X12_multiply) 1 dX12_multiply_1 (ls' := [some (mR 108), some (mR t), some (mJ a2), none, some (mI 0), none, none, none, none, none, none, none, none, none]) (by decide) rfl ?_
  exact z_mask [true, true, true, false, true, false, false, false, false, false, false, false, false, false] rfl (ih.1 0 h0 G0 (FR.rf (cs := [142, t]) (ss := []) (h := h0)) (by omega) (by omega) ⟨rfl, fun j hj => by omega⟩ (by omega))
theorem vS_1 {f : Nat → Int} (H : ∀ j : Nat, j < 10 → f j = if j = 0 then 1 else 0) : dg10 f ∧ vS f 0 10 = 1 := by
  refine ⟨fun j hj => by rw [H j hj]; split <;> omega, ?_⟩
  simp only [vS_succ, Nat.zero_add]
  rw [H 0 (by decide), H 1 (by decide), H 2 (by decide), H 3 (by decide), H 4 (by decide), H 5 (by decide), H 6 (by decide), H 7 (by decide), H 8 (by decide), H 9 (by decide), show vS f 0 0 = 0 from rfl]
  decide +kernel
abbrev P_X12_triple4 (h0 : m_H) (t : Nat) (a2 a3 a4 : Int) : m_H → Prop := fun h' => GI h' ∧ FR [142, t] [] h0 h' ∧ dg10 (h' t) ∧ vS (h' t) 0 10 = a2 * a3 * a4
def q_X12_triple4 (h0 : m_H) (t : Nat) (a2 a3 a4 : Int) (n : Nat) : Prop := (∀ (l8 : Int) (h : m_H), GI h → FR [142, t] [] h0 h → 0 ≤ l8 → l8 ≤ 10 → (∀ j : Nat, (j : Int) < l8 → h t j = if j = 0 then 1 else 0) → 2 * (10 - l8) + (1) ≤ (n : Int) → m_Z oF M_X12_triple 3 [some (mR 108), some (mR t), some (mJ a2), none, some (mJ a3), none, some (mJ a4), none, some (mI l8)] [] h (m_QV (P_X12_triple4 h0 t a2 a3 a4)))
set_option maxHeartbeats 4000000 in
set_option maxRecDepth 100000 in
theorem s_X12_triple4_3 (h0 : m_H) (t : Nat) (a2 a3 a4 : Int) (w_t : t = 139 ∨ t = 140 ∨ t = 141) (G0 : GI h0) (q2 : 0 ≤ a2 ∧ a2 ≤ 100000000000) (q3 : 0 ≤ a3 ∧ a3 ≤ 100000000000) (q4 : 0 ≤ a4 ∧ a4 ≤ 100000000000) (n : Nat) (ih : q_X12_triple4 h0 t a2 a3 a4 n) : ∀ (l8 : Int) (h : m_H), GI h → FR [142, t] [] h0 h → 0 ≤ l8 → l8 ≤ 10 → (∀ j : Nat, (j : Int) < l8 → h t j = if j = 0 then 1 else 0) → 2 * (10 - l8) + (1) ≤ ((n + 1 : Nat) : Int) → m_Z oF M_X12_triple 3 [some (mR 108), some (mR t), some (mJ a2), none, some (mJ a3), none, some (mJ a4), none, some (mI l8)] [] h (m_QV (P_X12_triple4 h0 t a2 a3 a4)) := by
  intro l8 h G R v0 v1 i1 hr
  have m1_ := mul_bd q2.1 q2.2 q3.1 q3.2
  have m2_ := mul_bd m1_.1 m1_.2 q4.1 q4.2
  refine z_iload (M := M_X12_triple) 3 dX12_triple_3 rfl ?_
  refine z_bipush (M := M_X12_triple) 5 dX12_triple_5 ?_
  refine z_icmp_ge (M := M_X12_triple) 7 dX12_triple_7 30 rfl (fun c1 => ?_) (fun c1 => ?_)
  · refine z_aload_n (M := M_X12_triple) 30 dX12_triple_30 rfl ?_
    refine z_aload_n (M := M_X12_triple) 31 dX12_triple_31 rfl ?_
    refine z_lload_n (M := M_X12_triple) 32 dX12_triple_32 rfl ?_
    have o_ := vS_1 (f := h t) (fun j hj => i1 j (by omega))
    refine z_vV (M := M_X12_triple) 33 dX12_triple_33 t_X12_multiply l_X12_447 (m_rr_of rfl) (rest := []) (c_X12_multiply4 h t a2 w_t G o_.1 ⟨by omega, by omega⟩ (by rw [o_.2]; decide) (by rw [o_.2, Int.one_mul]; omega)) o_108 rfl rfl rfl (Nat.le_of_ble_eq_true rfl) ⟨rfl, rfl⟩ (fun h1 qx2 => ?_)
    obtain ⟨G1, S1, d1_, v1_⟩ := qx2
    rw [o_.2, Int.one_mul] at v1_
    have R1 := R.call S1 (by simp [fsub, fr, csB])
    refine z_aload_n (M := M_X12_triple) 36 dX12_triple_36 rfl ?_
    refine z_aload_n (M := M_X12_triple) 37 dX12_triple_37 rfl ?_
    refine z_lload (M := M_X12_triple) 38 dX12_triple_38 rfl ?_
    refine z_vV (M := M_X12_triple) 40 dX12_triple_40 t_X12_multiply l_X12_447 (m_rr_of rfl) (rest := []) (c_X12_multiply4 h1 t a3 w_t G1 d1_ ⟨by omega, by omega⟩ (by rw [v1_]; omega) (by rw [v1_]; omega)) o_108 rfl rfl rfl (Nat.le_of_ble_eq_true rfl) ⟨rfl, rfl⟩ (fun h2 qx3 => ?_)
    obtain ⟨G2, S2, d2_, v2_⟩ := qx3
    rw [v1_] at v2_
    have R2 := R1.call S2 (by simp [fsub, fr, csB])
    refine z_aload_n (M := M_X12_triple) 43 dX12_triple_43 rfl ?_
    refine z_aload_n (M := M_X12_triple) 44 dX12_triple_44 rfl ?_
    refine z_lload (M := M_X12_triple) 45 dX12_triple_45 rfl ?_
    refine z_vV (M := M_X12_triple) 47 dX12_triple_47 t_X12_multiply l_X12_447 (m_rr_of rfl) (rest := []) (c_X12_multiply4 h2 t a4 w_t G2 d2_ ⟨by omega, by omega⟩ (by rw [v2_]; omega) (by rw [v2_]; omega)) o_108 rfl rfl rfl (Nat.le_of_ble_eq_true rfl) ⟨rfl, rfl⟩ (fun h3 qx4 => ?_)
    obtain ⟨G3, S3, d3_, v3_⟩ := qx4
    rw [v2_] at v3_
    have R3 := R2.call S3 (by simp [fsub, fr, csB])
    exact z_retV (M := M_X12_triple) 50 dX12_triple_50 rfl ⟨G3, R3, d3_, v3_⟩
  · refine z_aload_n (M := M_X12_triple) 10 dX12_triple_10 rfl ?_
    refine z_iload (M := M_X12_triple) 11 dX12_triple_11 rfl ?_
    refine z_iload (M := M_X12_triple) 13 dX12_triple_13 rfl ?_
    refine z_if_ne (M := M_X12_triple) 15 dX12_triple_15 22 rfl (fun c5 => ?_) (fun c5 => ?_)
    · refine z_lconst (M := M_X12_triple) 22 dX12_triple_22 (v := 0) ?_
      refine z_lastH (M := M_X12_triple) 23 dX12_triple_23 (oC_139_140_141 w_t) (by omega) (by omega) (uC_139_140_141 w_t G) (R.up (by simp [fr])) (fun h4 E4 G4 R4 => ?_)
      refine z_iincN (M := M_X12_triple) 24 dX12_triple_24 (ls' := [some (mR 108), some (mR t), some (mJ a2), none, some (mJ a3), none, some (mJ a4), none, some (mI (l8 + 1))]) (by decide) rfl (by (unfold m_32; decide)) (by omega) (by omega) rfl ?_
      refine z_goto (M := M_X12_triple) 27 dX12_triple_27 3 rfl ?_
      exact z_mask [true, true, true, false, true, false, true, false, true] rfl (ih (l8 + 1) h4 G4 R4 (by omega) (by omega) (fun j hj => by by_cases g : j = l8.toNat; rw [g, upE E4, if_neg (by omega)]; rw [upN E4 (fun z => g z.2)]; exact i1 j (by omega)) (by omega))
    · refine z_lconst (M := M_X12_triple) 18 dX12_triple_18 (v := 1) ?_
      refine z_goto (M := M_X12_triple) 19 dX12_triple_19 23 rfl ?_
      refine z_lastH (M := M_X12_triple) 23 dX12_triple_23 (oC_139_140_141 w_t) (by omega) (by omega) (uC_139_140_141 w_t G) (R.up (by simp [fr])) (fun h5 E5 G5 R5 => ?_)
      refine z_iincN (M := M_X12_triple) 24 dX12_triple_24 (ls' := [some (mR 108), some (mR t), some (mJ a2), none, some (mJ a3), none, some (mJ a4), none, some (mI (l8 + 1))]) (by decide) rfl (by (unfold m_32; decide)) (by omega) (by omega) rfl ?_
      refine z_goto (M := M_X12_triple) 27 dX12_triple_27 3 rfl ?_
      exact z_mask [true, true, true, false, true, false, true, false, true] rfl (ih (l8 + 1) h5 G5 R5 (by omega) (by omega) (fun j hj => by by_cases g : j = l8.toNat; rw [g, upE E5, if_pos (by omega)]; rw [upN E5 (fun z => g z.2)]; exact i1 j (by omega)) (by omega))
theorem a_X12_triple4 (h0 : m_H) (t : Nat) (a2 a3 a4 : Int) (w_t : t = 139 ∨ t = 140 ∨ t = 141) (G0 : GI h0) (q2 : 0 ≤ a2 ∧ a2 ≤ 100000000000) (q3 : 0 ≤ a3 ∧ a3 ≤ 100000000000) (q4 : 0 ≤ a4 ∧ a4 ≤ 100000000000) : ∀ n, q_X12_triple4 h0 t a2 a3 a4 n := by
  intro n
  induction n with
  | zero => unfold q_X12_triple4; intros; omega
  | succ n ih => exact s_X12_triple4_3 h0 t a2 a3 a4 w_t G0 q2 q3 q4 n ih
set_option maxHeartbeats 4000000 in
set_option maxRecDepth 100000 in
theorem c_X12_triple4 (h0 : m_H) (t : Nat) (a2 a3 a4 : Int) (w_t : t = 139 ∨ t = 140 ∨ t = 141) (G0 : GI h0) (q2 : 0 ≤ a2 ∧ a2 ≤ 100000000000) (q3 : 0 ≤ a3 ∧ a3 ≤ 100000000000) (q4 : 0 ≤ a4 ∧ a4 ≤ 100000000000) : m_CV M_X12_triple [mR 108, mR t, mJ a2, mJ a3, mJ a4] h0 (P_X12_triple4 h0 t a2 a3 a4) := by
  refine m_CV_of ⟨by decide, rfl, by simp [m_arg, m_isL, M_X12_triple], ⟨rfl, rfl⟩, rfl, rfl⟩ (ls := [some (mR 108), some (mR t), some (mJ a2), none, some (mJ a3), none, some (mJ a4), none, none]) rfl ?_
  have ih := a_X12_triple4 h0 t a2 a3 a4 w_t G0 q2 q3 q4 28
  refine z_iconst (M := M_X12_triple) 0 dX12_triple_0 ?_
  refine z_istore (M := M_X12_triple) 1 dX12_triple_1 (ls' := [some (mR 108), some (mR t), some (mJ a2), none, some (mJ a3), none, some (mJ a4), none, some (mI 0)]) (by decide) rfl ?_
  exact z_mask [true, true, true, false, true, false, true, false, true] rfl (ih 0 h0 G0 (FR.rf (cs := [142, t]) (ss := []) (h := h0)) (by omega) (by omega) (fun j hj => by omega) (by omega))
def afI (U : Int) (f g : Nat → Int) (c k : Int) : Prop := dg10 g ∧ (0 ≤ c ∧ c ≤ 1) ∧ vS g 0 10 + c * (100000000 : Int) ^ k.toNat = U + vS f 0 k.toNat
theorem af_s {U : Int} {f : Nat → Int} {h h' : m_H} {c k x2 x3 w v r c' : Int} (df : dg10 f) (I : afI U f (h 139) c k) (k0 : 0 ≤ k) (k9 : k ≤ 9) (e2 : h 139 k.toNat = x2) (e3 : f k.toNat = x3) (ew : x2 + x3 = w) (ev : w + c = v) (er : v % 100000000 = r) (ec : v / 100000000 = c') (E : h' = m_up h 139 k.toNat r) : afI U f (h' 139) c' (k + 1) := by
  obtain ⟨i1, i2, i3⟩ := I
  have d2 := i1 k.toNat (by omega)
  rw [e2] at d2
  have d3 := df k.toNat (by omega)
  rw [e3] at d3
  refine ⟨dg_put E i1 (by omega), by omega, ?_⟩
  rw [vS_put E (by omega), e2, show (k + 1).toNat = k.toNat + 1 by omega, vS_succ f 0 k.toNat, Nat.zero_add, e3, Int.pow_succ]
  have q : r + 100000000 * c' = x2 + x3 + c := by omega
  generalize (100000000 : Int) ^ k.toNat = T at *
  have q3 : c' * (T * 100000000) = 100000000 * c' * T := by ac_rfl
  have q4 : (r + 100000000 * c') * T = (x2 + x3 + c) * T := by rw [q]
  rw [q3, Int.sub_mul]
  rw [Int.add_mul, Int.add_mul, Int.add_mul] at q4
  omega
theorem af_e {U : Int} {f g : Nat → Int} {c k : Int} (I : afI U f g c k) (hk : k = 10) (hs : U + vS f 0 10 < 100000000000000000000000000000000000000000000000000000000000000000000000000000000) : dg10 g ∧ vS g 0 10 = U + vS f 0 10 := by
  subst hk
  obtain ⟨i1, i2, i3⟩ := I
  have i3' : vS g 0 10 + c * (100000000 : Int) ^ 10 = U + vS f 0 10 := i3
  rw [show (100000000 : Int) ^ 10 = 100000000000000000000000000000000000000000000000000000000000000000000000000000000 by decide] at i3'
  have p := vS_p i1 (n := 10) (by decide)
  exact ⟨i1, by omega⟩
abbrev P_X12_addFactor4 (h0 : m_H) : m_H → Prop := fun h' => GI h' ∧ FR [139] [] h0 h' ∧ dg10 (h' 139) ∧ vS (h' 139) 0 10 = vS (h0 139) 0 10 + vS (h0 141) 0 10
def q_X12_addFactor4 (h0 : m_H) (n : Nat) : Prop := (∀ (l1 l3 : Int) (h : m_H), GI h → FR [139] [] h0 h → 0 ≤ l3 → l3 ≤ 10 → (afI (vS (h0 139) 0 10) (h0 141) (h 139) l1 l3) → 2 * (10 - l3) + (1) ≤ (n : Int) → m_Z oF M_X12_addFactor 4 [some (mR 108), some (mJ l1), none, some (mI l3), none, none] [] h (m_QV (P_X12_addFactor4 h0)))
set_option maxHeartbeats 4000000 in
set_option maxRecDepth 100000 in
theorem s_X12_addFactor4_4 (h0 : m_H) (G0 : GI h0) (d1 : dg10 (h0 139)) (d2 : dg10 (h0 141)) (hs : vS (h0 139) 0 10 + vS (h0 141) 0 10 < 100000000000000000000000000000000000000000000000000000000000000000000000000000000) (n : Nat) (ih : q_X12_addFactor4 h0 n) : ∀ (l1 l3 : Int) (h : m_H), GI h → FR [139] [] h0 h → 0 ≤ l3 → l3 ≤ 10 → (afI (vS (h0 139) 0 10) (h0 141) (h 139) l1 l3) → 2 * (10 - l3) + (1) ≤ ((n + 1 : Nat) : Int) → m_Z oF M_X12_addFactor 4 [some (mR 108), some (mJ l1), none, some (mI l3), none, none] [] h (m_QV (P_X12_addFactor4 h0)) := by
  intro l1 l3 h G R v0 v1 i1 hr
  have c0_ := i1.2.1
  refine z_iload_n (M := M_X12_addFactor) 4 dX12_addFactor_4 rfl ?_
  refine z_bipush (M := M_X12_addFactor) 5 dX12_addFactor_5 ?_
  refine z_icmp_ge (M := M_X12_addFactor) 7 dX12_addFactor_7 52 rfl (fun c1 => ?_) (fun c1 => ?_)
  · exact z_retV (M := M_X12_addFactor) 52 dX12_addFactor_52 rfl ⟨G, R, (af_e i1 (by omega) hs).1, (af_e i1 (by omega) hs).2⟩
  · refine z_aload_n (M := M_X12_addFactor) 10 dX12_addFactor_10 rfl ?_
    refine z_getR (M := M_X12_addFactor) 11 dX12_addFactor_11 f_X12_106 o_108 rfl (g_108_48 G) ?_
    refine z_iload_n (M := M_X12_addFactor) 14 dX12_addFactor_14 rfl ?_
    refine z_laldV (M := M_X12_addFactor) 15 dX12_addFactor_15 o_139 (by omega) (by omega) (fun x2 ex2 => ?_)
    have b2_ := i1.1 l3.toNat (by omega); rw [ex2] at b2_
    refine z_aload_n (M := M_X12_addFactor) 16 dX12_addFactor_16 rfl ?_
    refine z_getR (M := M_X12_addFactor) 17 dX12_addFactor_17 f_X12_112 o_108 rfl (g_108_50 G) ?_
    refine z_iload_n (M := M_X12_addFactor) 20 dX12_addFactor_20 rfl ?_
    refine z_laldV (M := M_X12_addFactor) 21 dX12_addFactor_21 o_141 (by omega) (by omega) (fun x3 ex3 => ?_)
    have v3_ : h0 141 l3.toNat = x3 := (congrFun (FR.row R (fun _ => rfl) : h 141 = h0 141) l3.toNat).symm.trans ex3
    have b3_ := d2 l3.toNat (by omega); rw [v3_] at b3_
    refine z_laddN (M := M_X12_addFactor) 22 dX12_addFactor_22 (by omega) (by omega) ?_
    refine z_topJ (fun x4 ex4 => ?_)
    refine z_lload_n (M := M_X12_addFactor) 23 dX12_addFactor_23 rfl ?_
    refine z_laddN (M := M_X12_addFactor) 24 dX12_addFactor_24 (by omega) (by omega) ?_
    refine z_topJ (fun x5 ex5 => ?_)
    refine z_lstore (M := M_X12_addFactor) 25 dX12_addFactor_25 (ls' := [some (mR 108), some (mJ l1), none, some (mI l3), some (mJ x5), none]) (by decide) rfl ?_
    refine z_aload_n (M := M_X12_addFactor) 27 dX12_addFactor_27 rfl ?_
    refine z_getR (M := M_X12_addFactor) 28 dX12_addFactor_28 f_X12_106 o_108 rfl (g_108_48 G) ?_
    refine z_iload_n (M := M_X12_addFactor) 31 dX12_addFactor_31 rfl ?_
    refine z_lload (M := M_X12_addFactor) 32 dX12_addFactor_32 rfl ?_
    refine z_ldc2 (M := M_X12_addFactor) 34 dX12_addFactor_34 k_X12_327 ?_
    refine z_lremN (M := M_X12_addFactor) 37 dX12_addFactor_37 (by omega) (by omega) ?_
    refine z_topJ (fun x6 ex6 => ?_)
    refine z_lastH (M := M_X12_addFactor) 38 dX12_addFactor_38 o_139 (by omega) (by omega) (u_139 G) (R.up rfl) (fun h1 E1 G1 R1 => ?_)
    refine z_lload (M := M_X12_addFactor) 39 dX12_addFactor_39 rfl ?_
    refine z_ldc2 (M := M_X12_addFactor) 41 dX12_addFactor_41 k_X12_327 ?_
    refine z_ldivN (M := M_X12_addFactor) 44 dX12_addFactor_44 (by omega) (by omega) ?_
    refine z_topJ (fun x7 ex7 => ?_)
    refine z_lstore_n (M := M_X12_addFactor) 45 dX12_addFactor_45 (ls' := [some (mR 108), some (mJ x7), none, some (mI l3), some (mJ x5), none]) (by decide) rfl ?_
    refine z_iincN (M := M_X12_addFactor) 46 dX12_addFactor_46 (ls' := [some (mR 108), some (mJ x7), none, some (mI (l3 + 1)), some (mJ x5), none]) (by decide) rfl (by (unfold m_32; decide)) (by omega) (by omega) rfl ?_
    refine z_goto (M := M_X12_addFactor) 49 dX12_addFactor_49 4 rfl ?_
    exact z_mask [true, true, false, true, false, false] rfl (ih x7 (l3 + 1) h1 G1 R1 (by omega) (by omega) (af_s d2 i1 (by omega) (by omega) ex2 v3_ ex4 ex5 ex6 ex7 E1) (by omega))
theorem a_X12_addFactor4 (h0 : m_H) (G0 : GI h0) (d1 : dg10 (h0 139)) (d2 : dg10 (h0 141)) (hs : vS (h0 139) 0 10 + vS (h0 141) 0 10 < 100000000000000000000000000000000000000000000000000000000000000000000000000000000) : ∀ n, q_X12_addFactor4 h0 n := by
  intro n
  induction n with
  | zero => unfold q_X12_addFactor4; intros; omega
  | succ n ih => exact s_X12_addFactor4_4 h0 G0 d1 d2 hs n ih
set_option maxHeartbeats 4000000 in
set_option maxRecDepth 100000 in
theorem c_X12_addFactor4 (h0 : m_H) (G0 : GI h0) (d1 : dg10 (h0 139)) (d2 : dg10 (h0 141)) (hs : vS (h0 139) 0 10 + vS (h0 141) 0 10 < 100000000000000000000000000000000000000000000000000000000000000000000000000000000) : m_CV M_X12_addFactor [mR 108] h0 (P_X12_addFactor4 h0) := by
  refine m_CV_of ⟨by decide, rfl, by simp [m_arg, m_isL, M_X12_addFactor], ⟨rfl, rfl⟩, rfl, rfl⟩ (ls := [some (mR 108), none, none, none, none, none]) rfl ?_
  have ih := a_X12_addFactor4 h0 G0 d1 d2 hs 28
  refine z_lconst (M := M_X12_addFactor) 0 dX12_addFactor_0 (v := 0) ?_
  refine z_lstore_n (M := M_X12_addFactor) 1 dX12_addFactor_1 (ls' := [some (mR 108), some (mJ 0), none, none, none, none]) (by decide) rfl ?_
  refine z_iconst (M := M_X12_addFactor) 2 dX12_addFactor_2 ?_
  refine z_istore_n (M := M_X12_addFactor) 3 dX12_addFactor_3 (ls' := [some (mR 108), some (mJ 0), none, some (mI 0), none, none]) (by decide) rfl ?_
  exact z_mask [true, true, false, true, false, false] rfl (ih 0 0 h0 G0 (FR.rf (cs := [139]) (ss := []) (h := h0)) (by omega) (by omega) ⟨d1, ⟨by decide, by decide⟩, by rw [Int.zero_mul]; rfl⟩ (by omega))
abbrev P_X12_besideTen4 (h0 : m_H) (t : Nat) (t2 : Nat) : Int → m_H → Prop := fun x h' => GI h' ∧ FR [] [] h0 h' ∧ (-1) ≤ x ∧ x ≤ 1 ∧ cmpQ x (vS (h0 t) 0 10) (vS (h0 t2) 0 10)
def q_X12_besideTen4 (h0 : m_H) (t : Nat) (t2 : Nat) (n : Nat) : Prop := (∀ (l2 : Int) (h : m_H), GI h → FR [] [] h0 h → (-1) ≤ l2 → l2 ≤ 9 → (cpI (h t) (h t2) (vS (h0 t) 0 10) (vS (h0 t2) 0 10) l2) → 2 * (l2 - (-1)) + (1) ≤ (n : Int) → m_Z oF M_X12_besideTen 3 [some (mR t), some (mR t2), some (mI l2)] [] h (m_QI (P_X12_besideTen4 h0 t t2)))
set_option maxHeartbeats 4000000 in
set_option maxRecDepth 100000 in
theorem s_X12_besideTen4_3 (h0 : m_H) (t : Nat) (t2 : Nat) (w_t : t = 139 ∨ t = 140 ∨ t = 141) (w_t2 : t2 = 139 ∨ t2 = 140 ∨ t2 = 141) (G0 : GI h0) (d1 : dg10 (h0 t)) (d2 : dg10 (h0 t2)) (n : Nat) (ih : q_X12_besideTen4 h0 t t2 n) : ∀ (l2 : Int) (h : m_H), GI h → FR [] [] h0 h → (-1) ≤ l2 → l2 ≤ 9 → (cpI (h t) (h t2) (vS (h0 t) 0 10) (vS (h0 t2) 0 10) l2) → 2 * (l2 - (-1)) + (1) ≤ ((n + 1 : Nat) : Int) → m_Z oF M_X12_besideTen 3 [some (mR t), some (mR t2), some (mI l2)] [] h (m_QI (P_X12_besideTen4 h0 t t2)) := by
  intro l2 h G R v0 v1 i0 hr
  refine z_iload_n (M := M_X12_besideTen) 3 dX12_besideTen_3 rfl ?_
  refine z_if_lt (M := M_X12_besideTen) 4 dX12_besideTen_4 39 rfl (fun c1 => ?_) (fun c1 => ?_)
  · refine z_iconst (M := M_X12_besideTen) 39 dX12_besideTen_39 ?_
    exact z_retI (M := M_X12_besideTen) 40 dX12_besideTen_40 rfl ⟨G, R, by omega, by omega, cpI_eq i0 (by omega)⟩
  · refine z_aload_n (M := M_X12_besideTen) 7 dX12_besideTen_7 rfl ?_
    refine z_iload_n (M := M_X12_besideTen) 8 dX12_besideTen_8 rfl ?_
    refine z_laldV (M := M_X12_besideTen) 9 dX12_besideTen_9 (oC_139_140_141 w_t) (by omega) (by omega) (fun x2 ex2 => ?_)
    refine z_aload_n (M := M_X12_besideTen) 10 dX12_besideTen_10 rfl ?_
    refine z_iload_n (M := M_X12_besideTen) 11 dX12_besideTen_11 rfl ?_
    refine z_laldV (M := M_X12_besideTen) 12 dX12_besideTen_12 (oC_139_140_141 w_t2) (by omega) (by omega) (fun x3 ex3 => ?_)
    refine z_lcmp (M := M_X12_besideTen) 13 dX12_besideTen_13 ?_
    refine z_if_eq (M := M_X12_besideTen) 14 dX12_besideTen_14 33 rfl (fun c4 => ?_) (fun c4 => ?_)
    · rw [m_cmp_eq] at c4
      refine z_iincN (M := M_X12_besideTen) 33 dX12_besideTen_33 (ls' := [some (mR t), some (mR t2), some (mI (l2 + (-1)))]) (by decide) rfl (by (unfold m_32; decide)) (by omega) (by omega) rfl ?_
      refine z_goto (M := M_X12_besideTen) 36 dX12_besideTen_36 3 rfl ?_
      exact z_mask [true, true, true] rfl (ih (l2 + (-1)) h G R (by omega) (by omega) (cpI_step i0 (by omega) ex2 ex3 (by omega)) (by omega))
    · rw [m_cmp_eq] at c4
      refine z_aload_n (M := M_X12_besideTen) 17 dX12_besideTen_17 rfl ?_
      refine z_iload_n (M := M_X12_besideTen) 18 dX12_besideTen_18 rfl ?_
      refine z_laldE (M := M_X12_besideTen) 19 dX12_besideTen_19 (oC_139_140_141 w_t) (by omega) (by omega) ex2 ?_
      refine z_aload_n (M := M_X12_besideTen) 20 dX12_besideTen_20 rfl ?_
      refine z_iload_n (M := M_X12_besideTen) 21 dX12_besideTen_21 rfl ?_
      refine z_laldE (M := M_X12_besideTen) 22 dX12_besideTen_22 (oC_139_140_141 w_t2) (by omega) (by omega) ex3 ?_
      refine z_lcmp (M := M_X12_besideTen) 23 dX12_besideTen_23 ?_
      refine z_if_ge (M := M_X12_besideTen) 24 dX12_besideTen_24 31 rfl (fun c5 => ?_) (fun c5 => ?_)
      · rw [m_cmp_ge] at c5
        refine z_iconst (M := M_X12_besideTen) 31 dX12_besideTen_31 ?_
        exact z_retI (M := M_X12_besideTen) 32 dX12_besideTen_32 rfl ⟨G, R, by omega, by omega, cpI_gt i0 (by omega) (by omega) ex2 ex3 (by omega)⟩
      · rw [m_cmp_ge] at c5
        refine z_iconst (M := M_X12_besideTen) 27 dX12_besideTen_27 ?_
        refine z_goto (M := M_X12_besideTen) 28 dX12_besideTen_28 32 rfl ?_
        exact z_retI (M := M_X12_besideTen) 32 dX12_besideTen_32 rfl ⟨G, R, by omega, by omega, cpI_lt i0 (by omega) (by omega) ex2 ex3 (by omega)⟩
theorem a_X12_besideTen4 (h0 : m_H) (t : Nat) (t2 : Nat) (w_t : t = 139 ∨ t = 140 ∨ t = 141) (w_t2 : t2 = 139 ∨ t2 = 140 ∨ t2 = 141) (G0 : GI h0) (d1 : dg10 (h0 t)) (d2 : dg10 (h0 t2)) : ∀ n, q_X12_besideTen4 h0 t t2 n := by
  intro n
  induction n with
  | zero => unfold q_X12_besideTen4; intros; omega
  | succ n ih => exact s_X12_besideTen4_3 h0 t t2 w_t w_t2 G0 d1 d2 n ih
set_option maxHeartbeats 4000000 in
set_option maxRecDepth 100000 in
theorem c_X12_besideTen4 (h0 : m_H) (t : Nat) (t2 : Nat) (w_t : t = 139 ∨ t = 140 ∨ t = 141) (w_t2 : t2 = 139 ∨ t2 = 140 ∨ t2 = 141) (G0 : GI h0) (d1 : dg10 (h0 t)) (d2 : dg10 (h0 t2)) : m_CI M_X12_besideTen [mR t, mR t2] h0 (P_X12_besideTen4 h0 t t2) := by
  refine m_CI_of ⟨by decide, rfl, by simp [m_arg, m_isL, M_X12_besideTen], ⟨rfl, rfl⟩, rfl, rfl⟩ (ls := [some (mR t), some (mR t2), none]) rfl ?_
  have ih := a_X12_besideTen4 h0 t t2 w_t w_t2 G0 d1 d2 28
  refine z_bipush (M := M_X12_besideTen) 0 dX12_besideTen_0 ?_
  refine z_istore_n (M := M_X12_besideTen) 2 dX12_besideTen_2 (ls' := [some (mR t), some (mR t2), some (mI 9)]) (by decide) rfl ?_
  exact z_mask [true, true, true] rfl (ih 9 h0 G0 (FR.rf (cs := []) (ss := []) (h := h0)) (by omega) (by omega) ⟨d1, d2, rfl, rfl, fun j z1 z2 => by omega⟩ (by omega))
abbrev P_X12_copyTen4 (h0 : m_H) (t : Nat) : m_H → Prop := fun h' => GI h' ∧ FR [141] [] h0 h' ∧ (∀ j : Nat, j < 10 → h' 141 j = h0 t j)
def q_X12_copyTen4 (h0 : m_H) (t : Nat) (n : Nat) : Prop := (∀ (l2 : Int) (h : m_H), GI h → FR [141] [] h0 h → 0 ≤ l2 → l2 ≤ 10 → (h t = h0 t ∧ ∀ j : Nat, (j : Int) < l2 → h 141 j = h0 t j) → 2 * (10 - l2) + (1) ≤ (n : Int) → m_Z oF M_X12_copyTen 2 [some (mR 108), some (mR t), some (mI l2)] [] h (m_QV (P_X12_copyTen4 h0 t)))
set_option maxHeartbeats 4000000 in
set_option maxRecDepth 100000 in
theorem s_X12_copyTen4_2 (h0 : m_H) (t : Nat) (w_t : t = 139 ∨ t = 140 ∨ t = 141) (G0 : GI h0) (ht : t ≠ 141) (n : Nat) (ih : q_X12_copyTen4 h0 t n) : ∀ (l2 : Int) (h : m_H), GI h → FR [141] [] h0 h → 0 ≤ l2 → l2 ≤ 10 → (h t = h0 t ∧ ∀ j : Nat, (j : Int) < l2 → h 141 j = h0 t j) → 2 * (10 - l2) + (1) ≤ ((n + 1 : Nat) : Int) → m_Z oF M_X12_copyTen 2 [some (mR 108), some (mR t), some (mI l2)] [] h (m_QV (P_X12_copyTen4 h0 t)) := by
  intro l2 h G R v0 v1 i1 hr
  refine z_iload_n (M := M_X12_copyTen) 2 dX12_copyTen_2 rfl ?_
  refine z_bipush (M := M_X12_copyTen) 3 dX12_copyTen_3 ?_
  refine z_icmp_ge (M := M_X12_copyTen) 5 dX12_copyTen_5 23 rfl (fun c1 => ?_) (fun c1 => ?_)
  · exact z_retV (M := M_X12_copyTen) 23 dX12_copyTen_23 rfl ⟨G, R, fun j hj => i1.2 j (by omega)⟩
  · refine z_aload_n (M := M_X12_copyTen) 8 dX12_copyTen_8 rfl ?_
    refine z_getR (M := M_X12_copyTen) 9 dX12_copyTen_9 f_X12_112 o_108 rfl (g_108_50 G) ?_
    refine z_iload_n (M := M_X12_copyTen) 12 dX12_copyTen_12 rfl ?_
    refine z_aload_n (M := M_X12_copyTen) 13 dX12_copyTen_13 rfl ?_
    refine z_iload_n (M := M_X12_copyTen) 14 dX12_copyTen_14 rfl ?_
    refine z_laldV (M := M_X12_copyTen) 15 dX12_copyTen_15 (oC_139_140_141 w_t) (by omega) (by omega) (fun x2 ex2 => ?_)
    refine z_lastH (M := M_X12_copyTen) 16 dX12_copyTen_16 o_141 (by omega) (by omega) (u_141 G) (R.up rfl) (fun h1 E1 G1 R1 => ?_)
    refine z_iincN (M := M_X12_copyTen) 17 dX12_copyTen_17 (ls' := [some (mR 108), some (mR t), some (mI (l2 + 1))]) (by decide) rfl (by (unfold m_32; decide)) (by omega) (by omega) rfl ?_
    refine z_goto (M := M_X12_copyTen) 20 dX12_copyTen_20 2 rfl ?_
    exact z_mask [true, true, true] rfl (ih (l2 + 1) h1 G1 R1 (by omega) (by omega) ⟨(upo E1 ht).trans i1.1, fun j hj => by by_cases g : j = l2.toNat; rw [g, upE E1, ← ex2, i1.1]; rw [upN E1 (fun z => g z.2)]; exact i1.2 j (by omega)⟩ (by omega))
theorem a_X12_copyTen4 (h0 : m_H) (t : Nat) (w_t : t = 139 ∨ t = 140 ∨ t = 141) (G0 : GI h0) (ht : t ≠ 141) : ∀ n, q_X12_copyTen4 h0 t n := by
  intro n
  induction n with
  | zero => unfold q_X12_copyTen4; intros; omega
  | succ n ih => exact s_X12_copyTen4_2 h0 t w_t G0 ht n ih
set_option maxHeartbeats 4000000 in
set_option maxRecDepth 100000 in
theorem c_X12_copyTen4 (h0 : m_H) (t : Nat) (w_t : t = 139 ∨ t = 140 ∨ t = 141) (G0 : GI h0) (ht : t ≠ 141) : m_CV M_X12_copyTen [mR 108, mR t] h0 (P_X12_copyTen4 h0 t) := by
  refine m_CV_of ⟨by decide, rfl, by simp [m_arg, m_isL, M_X12_copyTen], ⟨rfl, rfl⟩, rfl, rfl⟩ (ls := [some (mR 108), some (mR t), none]) rfl ?_
  have ih := a_X12_copyTen4 h0 t w_t G0 ht 28
  refine z_iconst (M := M_X12_copyTen) 0 dX12_copyTen_0 ?_
  refine z_istore_n (M := M_X12_copyTen) 1 dX12_copyTen_1 (ls' := [some (mR 108), some (mR t), some (mI 0)]) (by decide) rfl ?_
  exact z_mask [true, true, true] rfl (ih 0 h0 G0 (FR.rf (cs := [141]) (ss := []) (h := h0)) (by omega) (by omega) ⟨rfl, fun j hj => by omega⟩ (by omega))
/-! how often one is in the other, at most so often -/
def ofI (U L m lo hi : Int) : Prop := L * lo ≤ U ∧ (U < L * (hi + 1) ∨ hi = m + 1) ∧ lo ≤ hi ∧ hi ≤ m + 1
theorem of_0 {U L m : Int} (hU : 0 ≤ U) (hm : 0 ≤ m) : ofI U L m 0 (m + 1) := ⟨by rw [Int.mul_zero]; exact hU, Or.inr rfl, by omega, by omega⟩
theorem of_y {U L m lo hi x : Int} (I : ofI U L m lo hi) (h : L * x ≤ U) (h1 : lo ≤ x ∧ x ≤ hi) : ofI U L m x hi := ⟨h, I.2.1, h1.2, I.2.2.2⟩
theorem of_n {U L m lo hi x : Int} (I : ofI U L m lo hi) (h : U < L * x) (h1 : lo < x ∧ x ≤ hi) : ofI U L m lo (x - 1) := ⟨I.1, Or.inl (by rw [show x - 1 + 1 = x by omega]; exact h), by omega, by have := I.2.2.2; omega⟩
theorem of_e {U L m lo hi o x : Int} (hL : 0 < L) (I : ofI U L m lo hi) (e : lo = hi) (hx : (o = 1 ∧ U = L * lo ∧ x = cap m (lo - 1)) ∨ (¬ (o = 1 ∧ U = L * lo) ∧ x = cap m lo)) : x = cap m (gnG U L o) := by
  subst e
  obtain ⟨i1, i2, _, i4⟩ := I
  rcases i2 with i2 | i2
  · have d := dv_eq hL i1 i2
    unfold gnG
    rw [d]
    have m_ : lo * L = U ↔ U = L * lo := by rw [Int.mul_comm]; exact eq_comm
    rcases hx with ⟨h1, h2, h3⟩ | ⟨h1, h3⟩
    · rw [if_pos ⟨h1, m_.mpr h2⟩]; exact h3
    · rw [if_neg (fun z => h1 ⟨z.1, m_.mp z.2⟩)]; exact h3
  · have q : lo ≤ U / L := Int.le_ediv_of_mul_le hL (by rw [Int.mul_comm]; exact i1)
    have g : m ≤ gnG U L o := by unfold gnG; split <;> omega
    have c1 : cap m (gnG U L o) = m := by unfold cap; split <;> omega
    have c2 : ∀ y, m ≤ y → cap m y = m := fun y hy => by unfold cap; split <;> omega
    rw [c1]
    rcases hx with ⟨_, _, h3⟩ | ⟨_, h3⟩
    · rw [h3]; exact c2 _ (by omega)
    · rw [h3]; exact c2 _ (by omega)
abbrev P_X12_often4 (h0 : m_H) (a1 a2 : Int) : Int → m_H → Prop := fun x h' => GI h' ∧ FR [141, 142] [] h0 h' ∧ (-1) ≤ x ∧ x ≤ 4000000 ∧ x = cap a1 (gnG (vS (h0 139) 0 10) (vS (h0 140) 0 10) (if a2 = 0 then 1 else 0))
def q_X12_often4 (h0 : m_H) (a1 a2 : Int) (n : Nat) : Prop := (∀ (l3 l4 : Int) (h : m_H), GI h → FR [141, 142] [] h0 h → 0 ≤ l3 → l3 ≤ 4000001 → 0 ≤ l4 → l4 ≤ 4000001 → (l3 ≤ l4) → (ofI (vS (h0 139) 0 10) (vS (h0 140) 0 10) a1 l3 l4) → 2 * (l4 - l3) + (1) ≤ (n : Int) → m_Z oF M_X12_often 7 [some (mR 108), some (mI a1), some (mI a2), some (mI l3), some (mI l4), none] [] h (m_QI (P_X12_often4 h0 a1 a2)))
set_option maxHeartbeats 4000000 in
set_option maxRecDepth 100000 in
theorem s_X12_often4_7 (h0 : m_H) (a1 a2 : Int) (G0 : GI h0) (pa1 : 0 ≤ a1 ∧ a1 ≤ 4000000) (pa2 : 0 ≤ a2 ∧ a2 ≤ 1) (d1 : dg10 (h0 139)) (d2 : dg10 (h0 140)) (hL : 0 < (vS (h0 140) 0 10) ∧ (vS (h0 140) 0 10) < 10000000000000000000000000000000000000000) (n : Nat) (ih : q_X12_often4 h0 a1 a2 n) : ∀ (l3 l4 : Int) (h : m_H), GI h → FR [141, 142] [] h0 h → 0 ≤ l3 → l3 ≤ 4000001 → 0 ≤ l4 → l4 ≤ 4000001 → (l3 ≤ l4) → (ofI (vS (h0 139) 0 10) (vS (h0 140) 0 10) a1 l3 l4) → 2 * (l4 - l3) + (1) ≤ ((n + 1 : Nat) : Int) → m_Z oF M_X12_often 7 [some (mR 108), some (mI a1), some (mI a2), some (mI l3), some (mI l4), none] [] h (m_QI (P_X12_often4 h0 a1 a2)) := by
  intro l3 l4 h G R v0 v1 v2 v3 i0 i1 hr
  have r9_ : h 139 = h0 139 := FR.row R (fun _ => rfl)
  have r0_ : h 140 = h0 140 := FR.row R (fun _ => rfl)
  have j4_ := i1.2.2.2
  refine z_iload_n (M := M_X12_often) 7 dX12_often_7 rfl ?_
  refine z_iload (M := M_X12_often) 8 dX12_often_8 rfl ?_
  refine z_icmp_ge (M := M_X12_often) 10 dX12_often_10 71 rfl (fun c1 => ?_) (fun c1 => ?_)
  · refine z_aload_n (M := M_X12_often) 71 dX12_often_71 rfl ?_
    refine z_aload_n (M := M_X12_often) 72 dX12_often_72 rfl ?_
    refine z_getR (M := M_X12_often) 73 dX12_often_73 f_X12_109 o_108 rfl (g_108_49 G) ?_
    refine z_vV (M := M_X12_often) 76 dX12_often_76 t_X12_copyTen l_X12_451 (m_rr_of rfl) (rest := []) (c_X12_copyTen4 h 140 (Or.inr (Or.inl rfl)) G (by decide)) o_108 rfl rfl rfl (Nat.le_of_ble_eq_true rfl) ⟨rfl, rfl⟩ (fun h1 qx2 => ?_)
    obtain ⟨G1, S1, e1_⟩ := qx2
    have k1_ := dg_of (f := h1 141) (g := h0 140) (fun j hj => by rw [e1_ j hj, r0_]) d2
    have m1_ := mul_bd (Int.le_of_lt hL.1) (Int.le_of_lt hL.2) (show 0 ≤ l3 by omega) (show l3 ≤ 4000001 by omega)
    have R1 := R.call S1 (by decide +kernel)
    refine z_aload_n (M := M_X12_often) 79 dX12_often_79 rfl ?_
    refine z_aload_n (M := M_X12_often) 80 dX12_often_80 rfl ?_
    refine z_getR (M := M_X12_often) 81 dX12_often_81 f_X12_112 o_108 rfl (g_108_50 G1) ?_
    refine z_iload_n (M := M_X12_often) 84 dX12_often_84 rfl ?_
    refine z_i2l (M := M_X12_often) 85 dX12_often_85 ?_
    refine z_vV (M := M_X12_often) 86 dX12_often_86 t_X12_multiply l_X12_447 (m_rr_of rfl) (rest := []) (c_X12_multiply4 h1 141 l3 (Or.inr (Or.inr rfl)) G1 k1_.1 ⟨by omega, by omega⟩ (by rw [k1_.2]; omega) (by rw [k1_.2]; omega)) o_108 rfl rfl rfl (Nat.le_of_ble_eq_true rfl) ⟨rfl, rfl⟩ (fun h2 qx3 => ?_)
    obtain ⟨G2, S2, d2_, v2_⟩ := qx3
    rw [k1_.2] at v2_
    have u2_ : h2 139 = h0 139 := (FR.row S2 (fun _ => rfl)).trans ((FR.row S1 (fun _ => rfl)).trans r9_)
    have R2 := R1.call S2 (by decide +kernel)
    refine z_iload_n (M := M_X12_often) 89 dX12_often_89 rfl ?_
    refine z_iload_n (M := M_X12_often) 90 dX12_often_90 rfl ?_
    refine z_if_ne (M := M_X12_often) 91 dX12_often_91 112 rfl (fun c4 => ?_) (fun c4 => ?_)
    · refine z_iconst (M := M_X12_often) 112 dX12_often_112 ?_
      refine z_isubN (M := M_X12_often) 113 dX12_often_113 (by omega) (by omega) ?_
      refine z_istore_n (M := M_X12_often) 114 dX12_often_114 (ls' := [some (mR 108), some (mI a1), some (mI a2), some (mI (l3 - 0)), some (mI l4), none]) (by decide) rfl ?_
      refine z_iload_n (M := M_X12_often) 115 dX12_often_115 rfl ?_
      refine z_iload_n (M := M_X12_often) 116 dX12_often_116 rfl ?_
      refine z_icmp_le (M := M_X12_often) 117 dX12_often_117 124 rfl (fun c5 => ?_) (fun c5 => ?_)
      · refine z_iload_n (M := M_X12_often) 124 dX12_often_124 rfl ?_
        exact z_retI (M := M_X12_often) 125 dX12_often_125 rfl ⟨G2, R2, by omega, by omega, of_e hL.1 i1 (by omega) (Or.inr ⟨fun z => absurd z.1 (by rw [if_neg c4]; decide), (by unfold cap; first | rw [if_pos (by omega)] | (rw [if_neg (by omega)]; try omega))⟩)⟩
      · refine z_iload_n (M := M_X12_often) 120 dX12_often_120 rfl ?_
        refine z_goto (M := M_X12_often) 121 dX12_often_121 125 rfl ?_
        exact z_retI (M := M_X12_often) 125 dX12_often_125 rfl ⟨G2, R2, by omega, by omega, of_e hL.1 i1 (by omega) (Or.inr ⟨fun z => absurd z.1 (by rw [if_neg c4]; decide), (by unfold cap; first | rw [if_pos (by omega)] | (rw [if_neg (by omega)]; try omega))⟩)⟩
    · refine z_aload_n (M := M_X12_often) 94 dX12_often_94 rfl ?_
      refine z_getR (M := M_X12_often) 95 dX12_often_95 f_X12_112 o_108 rfl (g_108_50 G2) ?_
      refine z_aload_n (M := M_X12_often) 98 dX12_often_98 rfl ?_
      refine z_getR (M := M_X12_often) 99 dX12_often_99 f_X12_106 o_108 rfl (g_108_48 G2) ?_
      refine z_sI (M := M_X12_often) 102 dX12_often_102 t_X12_besideTen l_X12_455 (m_rr_of rfl) (rest := [mI l3]) (c_X12_besideTen4 h2 141 139 (Or.inr (Or.inr rfl)) (Or.inl rfl) G2 d2_ (by rw [u2_]; exact d1)) rfl rfl (Nat.le_of_ble_eq_true rfl) ⟨rfl, rfl⟩ (fun x6 h3 qx6 => ?_)
      obtain ⟨G3, S3, ax6, bx6, fx6⟩ := qx6
      rw [v2_, u2_] at fx6
      unfold cmpQ at fx6
      have R3 := R2.call S3 (by decide +kernel)
      refine z_if_ne (M := M_X12_often) 105 dX12_often_105 112 rfl (fun c7 => ?_) (fun c7 => ?_)
      · refine z_iconst (M := M_X12_often) 112 dX12_often_112 ?_
        refine z_isubN (M := M_X12_often) 113 dX12_often_113 (by omega) (by omega) ?_
        refine z_istore_n (M := M_X12_often) 114 dX12_often_114 (ls' := [some (mR 108), some (mI a1), some (mI a2), some (mI (l3 - 0)), some (mI l4), none]) (by decide) rfl ?_
        refine z_iload_n (M := M_X12_often) 115 dX12_often_115 rfl ?_
        refine z_iload_n (M := M_X12_often) 116 dX12_often_116 rfl ?_
        refine z_icmp_le (M := M_X12_often) 117 dX12_often_117 124 rfl (fun c8 => ?_) (fun c8 => ?_)
        · refine z_iload_n (M := M_X12_often) 124 dX12_often_124 rfl ?_
          exact z_retI (M := M_X12_often) 125 dX12_often_125 rfl ⟨G3, R3, by omega, by omega, of_e hL.1 i1 (by omega) (Or.inr ⟨fun z => absurd z.2 (by omega), (by unfold cap; first | rw [if_pos (by omega)] | (rw [if_neg (by omega)]; try omega))⟩)⟩
        · refine z_iload_n (M := M_X12_often) 120 dX12_often_120 rfl ?_
          refine z_goto (M := M_X12_often) 121 dX12_often_121 125 rfl ?_
          exact z_retI (M := M_X12_often) 125 dX12_often_125 rfl ⟨G3, R3, by omega, by omega, of_e hL.1 i1 (by omega) (Or.inr ⟨fun z => absurd z.2 (by omega), (by unfold cap; first | rw [if_pos (by omega)] | (rw [if_neg (by omega)]; try omega))⟩)⟩
      · refine z_iconst (M := M_X12_often) 108 dX12_often_108 ?_
        refine z_goto (M := M_X12_often) 109 dX12_often_109 113 rfl ?_
        refine z_isubN (M := M_X12_often) 113 dX12_often_113 (by omega) (by omega) ?_
        refine z_istore_n (M := M_X12_often) 114 dX12_often_114 (ls' := [some (mR 108), some (mI a1), some (mI a2), some (mI (l3 - 1)), some (mI l4), none]) (by decide) rfl ?_
        refine z_iload_n (M := M_X12_often) 115 dX12_often_115 rfl ?_
        refine z_iload_n (M := M_X12_often) 116 dX12_often_116 rfl ?_
        refine z_icmp_le (M := M_X12_often) 117 dX12_often_117 124 rfl (fun c9 => ?_) (fun c9 => ?_)
        · refine z_iload_n (M := M_X12_often) 124 dX12_often_124 rfl ?_
          exact z_retI (M := M_X12_often) 125 dX12_often_125 rfl ⟨G3, R3, by omega, by omega, of_e hL.1 i1 (by omega) (Or.inl ⟨if_pos (by omega), by omega, (by unfold cap; first | rw [if_pos (by omega)] | (rw [if_neg (by omega)]; try omega))⟩)⟩
        · refine z_iload_n (M := M_X12_often) 120 dX12_often_120 rfl ?_
          refine z_goto (M := M_X12_often) 121 dX12_often_121 125 rfl ?_
          exact z_retI (M := M_X12_often) 125 dX12_often_125 rfl ⟨G3, R3, by omega, by omega, of_e hL.1 i1 (by omega) (Or.inl ⟨if_pos (by omega), by omega, (by unfold cap; first | rw [if_pos (by omega)] | (rw [if_neg (by omega)]; try omega))⟩)⟩
  · refine z_iload_n (M := M_X12_often) 13 dX12_often_13 rfl ?_
    refine z_iload (M := M_X12_often) 14 dX12_often_14 rfl ?_
    refine z_iaddN (M := M_X12_often) 16 dX12_often_16 (by omega) (by omega) ?_
    refine z_iconst (M := M_X12_often) 17 dX12_often_17 ?_
    refine z_iaddN (M := M_X12_often) 18 dX12_often_18 (by omega) (by omega) ?_
    refine z_iconst (M := M_X12_often) 19 dX12_often_19 ?_
    refine z_idivN (M := M_X12_often) 20 dX12_often_20 (by omega) (by omega) ?_
    refine z_topBI (lo := 1) (hi := 4000001) ⟨by omega, by omega⟩ (fun x10 ex10 ax10 bx10 => ?_)
    refine z_istore (M := M_X12_often) 21 dX12_often_21 (ls' := [some (mR 108), some (mI a1), some (mI a2), some (mI l3), some (mI l4), some (mI x10)]) (by decide) rfl ?_
    refine z_aload_n (M := M_X12_often) 23 dX12_often_23 rfl ?_
    refine z_aload_n (M := M_X12_often) 24 dX12_often_24 rfl ?_
    refine z_getR (M := M_X12_often) 25 dX12_often_25 f_X12_109 o_108 rfl (g_108_49 G) ?_
    refine z_vV (M := M_X12_often) 28 dX12_often_28 t_X12_copyTen l_X12_451 (m_rr_of rfl) (rest := []) (c_X12_copyTen4 h 140 (Or.inr (Or.inl rfl)) G (by decide)) o_108 rfl rfl rfl (Nat.le_of_ble_eq_true rfl) ⟨rfl, rfl⟩ (fun h4 qx11 => ?_)
    obtain ⟨G4, S4, e4_⟩ := qx11
    have k4_ := dg_of (f := h4 141) (g := h0 140) (fun j hj => by rw [e4_ j hj, r0_]) d2
    have m4_ := mul_bd (Int.le_of_lt hL.1) (Int.le_of_lt hL.2) (show 0 ≤ x10 by omega) (show x10 ≤ 4000001 by omega)
    have R4 := R.call S4 (by decide +kernel)
    refine z_aload_n (M := M_X12_often) 31 dX12_often_31 rfl ?_
    refine z_aload_n (M := M_X12_often) 32 dX12_often_32 rfl ?_
    refine z_getR (M := M_X12_often) 33 dX12_often_33 f_X12_112 o_108 rfl (g_108_50 G4) ?_
    refine z_iload (M := M_X12_often) 36 dX12_often_36 rfl ?_
    refine z_i2l (M := M_X12_often) 38 dX12_often_38 ?_
    refine z_vV (M := M_X12_often) 39 dX12_often_39 t_X12_multiply l_X12_447 (m_rr_of rfl) (rest := []) (c_X12_multiply4 h4 141 x10 (Or.inr (Or.inr rfl)) G4 k4_.1 ⟨by omega, by omega⟩ (by rw [k4_.2]; omega) (by rw [k4_.2]; omega)) o_108 rfl rfl rfl (Nat.le_of_ble_eq_true rfl) ⟨rfl, rfl⟩ (fun h5 qx12 => ?_)
    obtain ⟨G5, S5, d5_, v5_⟩ := qx12
    rw [k4_.2] at v5_
    have u5_ : h5 139 = h0 139 := (FR.row S5 (fun _ => rfl)).trans ((FR.row S4 (fun _ => rfl)).trans r9_)
    have R5 := R4.call S5 (by decide +kernel)
    refine z_aload_n (M := M_X12_often) 42 dX12_often_42 rfl ?_
    refine z_getR (M := M_X12_often) 43 dX12_often_43 f_X12_112 o_108 rfl (g_108_50 G5) ?_
    refine z_aload_n (M := M_X12_often) 46 dX12_often_46 rfl ?_
    refine z_getR (M := M_X12_often) 47 dX12_often_47 f_X12_106 o_108 rfl (g_108_48 G5) ?_
    refine z_sI (M := M_X12_often) 50 dX12_often_50 t_X12_besideTen l_X12_455 (m_rr_of rfl) (rest := []) (c_X12_besideTen4 h5 141 139 (Or.inr (Or.inr rfl)) (Or.inl rfl) G5 d5_ (by rw [u5_]; exact d1)) rfl rfl (Nat.le_of_ble_eq_true rfl) ⟨rfl, rfl⟩ (fun x13 h6 qx13 => ?_)
    obtain ⟨G6, S6, ax13, bx13, fx13⟩ := qx13
    rw [v5_, u5_] at fx13
    unfold cmpQ at fx13
    have R6 := R5.call S6 (by decide +kernel)
    refine z_if_gt (M := M_X12_often) 53 dX12_often_53 62 rfl (fun c14 => ?_) (fun c14 => ?_)
    · refine z_iload (M := M_X12_often) 62 dX12_often_62 rfl ?_
      refine z_iconst (M := M_X12_often) 64 dX12_often_64 ?_
      refine z_isubN (M := M_X12_often) 65 dX12_often_65 (by omega) (by omega) ?_
      refine z_istore (M := M_X12_often) 66 dX12_often_66 (ls' := [some (mR 108), some (mI a1), some (mI a2), some (mI l3), some (mI (x10 - 1)), some (mI x10)]) (by decide) rfl ?_
      refine z_goto (M := M_X12_often) 68 dX12_often_68 7 rfl ?_
      exact z_mask [true, true, true, true, true, false] rfl (ih l3 (x10 - 1) h6 G6 R6 (by omega) (by omega) (by omega) (by omega) (by omega) (of_n i1 (by omega) (by omega)) (by omega))
    · refine z_iload (M := M_X12_often) 56 dX12_often_56 rfl ?_
      refine z_istore_n (M := M_X12_often) 58 dX12_often_58 (ls' := [some (mR 108), some (mI a1), some (mI a2), some (mI x10), some (mI l4), some (mI x10)]) (by decide) rfl ?_
      refine z_goto (M := M_X12_often) 59 dX12_often_59 68 rfl ?_
      refine z_goto (M := M_X12_often) 68 dX12_often_68 7 rfl ?_
      exact z_mask [true, true, true, true, true, false] rfl (ih x10 l4 h6 G6 R6 (by omega) (by omega) (by omega) (by omega) (by omega) (of_y i1 (by omega) (by omega)) (by omega))
theorem a_X12_often4 (h0 : m_H) (a1 a2 : Int) (G0 : GI h0) (pa1 : 0 ≤ a1 ∧ a1 ≤ 4000000) (pa2 : 0 ≤ a2 ∧ a2 ≤ 1) (d1 : dg10 (h0 139)) (d2 : dg10 (h0 140)) (hL : 0 < (vS (h0 140) 0 10) ∧ (vS (h0 140) 0 10) < 10000000000000000000000000000000000000000) : ∀ n, q_X12_often4 h0 a1 a2 n := by
  intro n
  induction n with
  | zero => unfold q_X12_often4; intros; omega
  | succ n ih => exact s_X12_often4_7 h0 a1 a2 G0 pa1 pa2 d1 d2 hL n ih
set_option maxHeartbeats 4000000 in
set_option maxRecDepth 100000 in
theorem c_X12_often4 (h0 : m_H) (a1 a2 : Int) (G0 : GI h0) (pa1 : 0 ≤ a1 ∧ a1 ≤ 4000000) (pa2 : 0 ≤ a2 ∧ a2 ≤ 1) (d1 : dg10 (h0 139)) (d2 : dg10 (h0 140)) (hL : 0 < (vS (h0 140) 0 10) ∧ (vS (h0 140) 0 10) < 10000000000000000000000000000000000000000) : m_CI M_X12_often [mR 108, mI a1, mI a2] h0 (P_X12_often4 h0 a1 a2) := by
  refine m_CI_of ⟨by decide, rfl, by simp [m_arg, m_isL, M_X12_often], ⟨rfl, rfl⟩, rfl, rfl⟩ (ls := [some (mR 108), some (mI a1), some (mI a2), none, none, none]) rfl ?_
  have ih := a_X12_often4 h0 a1 a2 G0 pa1 pa2 d1 d2 hL 8000010
  refine z_iconst (M := M_X12_often) 0 dX12_often_0 ?_
  refine z_istore_n (M := M_X12_often) 1 dX12_often_1 (ls' := [some (mR 108), some (mI a1), some (mI a2), some (mI 0), none, none]) (by decide) rfl ?_
  refine z_iload_n (M := M_X12_often) 2 dX12_often_2 rfl ?_
  refine z_iconst (M := M_X12_often) 3 dX12_often_3 ?_
  refine z_iaddN (M := M_X12_often) 4 dX12_often_4 (by omega) (by omega) ?_
  refine z_istore (M := M_X12_often) 5 dX12_often_5 (ls' := [some (mR 108), some (mI a1), some (mI a2), some (mI 0), some (mI (a1 + 1)), none]) (by decide) rfl ?_
  exact z_mask [true, true, true, true, true, false] rfl (ih 0 (a1 + 1) h0 G0 (FR.rf (cs := [141, 142]) (ss := []) (h := h0)) (by omega) (by omega) (by omega) (by omega) (by omega) (of_0 (vS_p d1 (by decide)) pa1.1) (by omega))
