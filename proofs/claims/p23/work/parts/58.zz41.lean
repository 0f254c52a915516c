/-! ask -/
def TM (r : Nat → Int) (h : m_H) : Prop := ∃ g s, TY r s g ∧ ∀ c, c ≠ 94 → c ≠ 95 → h c = g c
theorem TM.step {r : Nat → Int} {h h' : m_H} (T : TM r h) (e : ∀ c, c ≠ 94 → c ≠ 95 → h' c = h c) : TM r h' := by
  obtain ⟨g, s, Y, E⟩ := T
  exact ⟨g, s, Y, fun c c1 c2 => (e c c1 c2).trans (E c c1 c2)⟩
theorem lm_same {h g : m_H} (E : ∀ c, c ≠ 94 → c ≠ 95 → h c = g c) (a b : Int) : ∀ n, n ≤ 16 → lmN h a b n = lmN g a b n
  | 0, _ => rfl
  | n + 1, hn => by
    have i := lm_same E a b n (by omega)
    show lmS h a b (n : Int) (lmN h a b n) = lmS g a b (n : Int) (lmN g a b n)
    rw [i]
    unfold lmS cnd hiV loV
    rw [E 39 (by decide) (by decide), E 40 (by decide) (by decide), E 41 (by decide) (by decide), E (77 + (n : Int).toNat) (by omega) (by omega)]
theorem TM.H {r : Nat → Int} {h : m_H} (T : TM r h) : bkH h := by
  obtain ⟨g, s, ⟨D, _, X⟩, E⟩ := T
  have b := X.1.1
  unfold bkH at b ⊢
  rw [E 39 (by decide) (by decide), E 41 (by decide) (by decide)]; exact b
theorem TM.R {r : Nat → Int} {h : m_H} (T : TM r h) : bkR h := by
  obtain ⟨g, s, ⟨D, _, X⟩, E⟩ := T
  have b := bkR_X X
  intro p hp
  have q := b p hp
  unfold bd at q ⊢
  rw [E (77 + p) (by omega) (by omega)]; exact q
theorem TM.cp {h : m_H} {a b : Int} {B : Int × Int × Int} (G : GI h) (N : NP h) (T : TM (h 110) h) (ng : ¬ gain (bR (h 110))) (ta : thr (h 110) a) (tb : thr (h 110) b) (e : B = if a = b then (1, 1, 0) else lmN h a b 16) (o : B.2.2 = 0 ∨ B.2.2 = 1) : cpB (h 110) a b B := by
  obtain ⟨g, s, Y, E⟩ := T
  exact cp_of G N Y ng ta tb (by rw [e, lm_same E a b 16 (Nat.le_refl _)]) o
def mwQ (r : Nat → Int) (a f y : Int) : Prop := (¬ thr r a ∧ y = -1) ∨ (thr r a ∧ ∃ B C fo la, nmE r a f 1 B C fo la ∧ nmN fo la = y)
theorem mw_eq {r : Nat → Int} (hE : ∀ e ∈ bR r, gEo e) {a f x y : Int} (h : mwQ r a f x) (h' : mwQ r a f y) : x = y := by
  rcases h with ⟨n, e⟩ | ⟨t, B, C, fo, la, i, v⟩
  · rcases h' with ⟨_, e'⟩ | ⟨t', _⟩
    · omega
    · exact absurd t' n
  · rcases h' with ⟨n', _⟩ | ⟨_, B', C', fo', la', i', v'⟩
    · exact absurd t n'
    · obtain ⟨e1, e2⟩ := nmE_eq hE i i'
      have f1 := i.2.2.1
      subst e1
      rw [← v, ← v']
      rcases e2 with z | z
      · rw [z]
      · unfold nmN; rw [if_neg (by omega), if_neg (by omega)]
def akV (r : Nat → Int) (i y : Int) : Prop := mwQ r (i / 4) (i % 4) y
def akB (r : Nat → Int) (m p v : Int) : Prop := (m = 0 ∧ v = -1) ∨ ((0 < m ∧ 0 ≤ p ∧ p < m ∧ 0 ≤ v) ∧ akV r p v ∧ (∀ i y, 0 ≤ i → i < m → akV r i y → y ≤ v) ∧ ∀ i y, 0 ≤ i → i < p → akV r i y → y < v)
theorem mwz_0 {r : Nat → Int} {f y : Int} (h : mwQ r 0 f y) : 0 ≤ y := by
  rcases h with ⟨n, _⟩ | ⟨_, B, C, fo, la, i, v⟩
  · exact absurd ⟨by decide, by decide, Or.inl (by decide)⟩ n
  · rw [← v]; unfold nmN; split <;> omega
theorem akB_y {r : Nat → Int} (hE : ∀ e ∈ bR r, gEo e) {m p v y : Int} (hm : 0 ≤ m) (I : akB r m p v) (V : akV r m y) (c : v < y) : akB r (m + 1) m y := by
  have one : ∀ i z, 0 ≤ i → i < m → akV r i z → z < y := fun i z i0 i1 q => by
    rcases I with ⟨e, _⟩ | ⟨_, _, a, _⟩
    · omega
    · have := a i z i0 i1 q; omega
  have y0 : 0 ≤ y := by
    rcases I with ⟨e, _⟩ | ⟨⟨_, _, _, z⟩, _⟩
    · subst e; exact mwz_0 V
    · omega
  refine Or.inr ⟨⟨by omega, hm, by omega, y0⟩, V, fun i z i0 i1 q => ?_, one⟩
  by_cases g : i = m
  · subst g; have := mw_eq hE q V; omega
  · have := one i z i0 (by omega) q; omega
theorem akB_n {r : Nat → Int} (hE : ∀ e ∈ bR r, gEo e) {m p v y : Int} (hm : 0 ≤ m) (I : akB r m p v) (V : akV r m y) (c : y ≤ v) : akB r (m + 1) p v := by
  rcases I with ⟨e, e2⟩ | ⟨⟨a1, a2, a3, a4⟩, b, d, f⟩
  · subst e
    have := mwz_0 V
    omega
  · refine Or.inr ⟨⟨by omega, a2, by omega, a4⟩, b, fun i z i0 i1 q => ?_, f⟩
    by_cases g : i = m
    · subst g; have := mw_eq hE q V; omega
    · exact d i z i0 (by omega) q
theorem akB_p {r : Nat → Int} {m p v : Int} (I : akB r m p v) (hm : 0 < m) : 0 ≤ p ∧ p < m := by
  rcases I with ⟨e, _⟩ | ⟨⟨_, a, b, _⟩, _⟩
  · omega
  · exact ⟨a, b⟩
theorem akB_eq {r : Nat → Int} (hE : ∀ e ∈ bR r, gEo e) {m p v p' v' : Int} (hm : 0 < m) (I : akB r m p v) (J : akB r m p' v') : p = p' ∧ v = v' := by
  rcases I with ⟨e, _⟩ | ⟨⟨_, a2, a3, _⟩, b, d, f⟩
  · omega
  · rcases J with ⟨e, _⟩ | ⟨⟨_, a2', a3', _⟩, b', d', f'⟩
    · omega
    · have x1 := d p' v' a2' a3' b'
      have x2 := d' p v a2 a3 b
      refine ⟨?_, by omega⟩
      rcases Int.lt_trichotomy p p' with z | z | z
      · have := f' p v a2 z b; omega
      · exact z
      · have := f p' v' a2' z b'; omega
/-- a length that isn't there -/
theorem akB_k {r : Nat → Int} (hE : ∀ e ∈ bR r, gEo e) {l j p v : Int} (hl : 0 ≤ l) (n : ¬ thr r l) (h0 : 0 ≤ j) (h4 : j ≤ 4) (hv : -1 ≤ v) (I : akB r (4 * l + j) p v) : akB r (4 * (l + 1)) p v := by
  have st : ∀ i, 0 ≤ i → i ≤ 3 → akB r (4 * l + i) p v → akB r (4 * l + (i + 1)) p v := fun i i0 i3 q => by
    have V : akV r (4 * l + i) (-1) := Or.inl ⟨by rw [show (4 * l + i) / 4 = l by omega]; exact n, rfl⟩
    have z := akB_n hE (by omega) q V hv
    rw [show 4 * l + i + 1 = 4 * l + (i + 1) by omega] at z
    exact z
  have k : ∀ t : Nat, ∀ i : Int, 0 ≤ i → i + (t : Int) = 4 → akB r (4 * l + i) p v → akB r (4 * (l + 1)) p v := by
    intro t
    induction t with
    | zero => intro i _ e q; rw [show i = 4 by omega] at q; rw [show 4 * (l + 1) = 4 * l + 4 by omega]; exact q
    | succ t ih => intro i i0 e q; exact ih (i + 1) (by omega) (by omega) (st i i0 (by omega) q)
  exact k (4 - j).toNat j h0 (by omega) I
def aqQ (r : Nat → Int) (w x : Int) : Prop := (¬ ((0 ≤ w ∧ w ≤ 2) ∧ ¬ gain (bR r)) ∧ x = -1) ∨ (((0 ≤ w ∧ w ≤ 2) ∧ ¬ gain (bR r)) ∧ ∃ p v, akB r 48 p v ∧ ((w = 0 ∧ x = p / 4) ∨ (w = 1 ∧ x = p % 4) ∨ (w = 2 ∧ x = v)))
theorem as_eq {r : Nat → Int} (hE : ∀ e ∈ bR r, gEo e) {w x y : Int} (h : aqQ r w x) (h' : aqQ r w y) : x = y := by
  rcases h with ⟨n, e⟩ | ⟨K, p, v, i, a⟩
  · rcases h' with ⟨_, e'⟩ | ⟨K', _⟩
    · omega
    · exact absurd K' n
  · rcases h' with ⟨n', _⟩ | ⟨_, p', v', i', a'⟩
    · exact absurd K n'
    · obtain ⟨e1, e2⟩ := akB_eq hE (by decide) i i'
      subst e1
      subst e2
      omega
theorem LX.ask {h h1 : m_H} {w x y : Int} {cs : List Nat} {ss : List (Nat × Nat)} (G : GI h) (N : NP h) (S1 : FR cs ss h h1) (A : aqQ (h 110) w x) (B : aqQ (h1 110) w y) (o : out 110 110 cs ss = true) : x = y := by
  rw [rowz S1 (fr_out o (by decide) (by decide))] at B
  exact as_eq (bR_ok G N) A B
abbrev P_X11_manyWholes3 (h0 : m_H) (a1 a2 : Int) : Int → m_H → Prop := fun x h' => GI h' ∧ FR (csB ++ []) [] h0 h' ∧ (-1) ≤ x ∧ x ≤ 2147483647 ∧ (∀ c, c ≠ 94 → c ≠ 95 → h' c = h0 c) ∧ mwQ (h0 110) a1 a2 x
set_option maxHeartbeats 4000000 in
set_option maxRecDepth 100000 in
theorem c_X11_manyWholes3 (h0 : m_H) (a1 a2 : Int) (G0 : GI h0) (pa1 : 0 ≤ a1 ∧ a1 ≤ 11) (pa2 : 0 ≤ a2 ∧ a2 ≤ 3) (hR : LR 1 h0 (h0 110)) (hN : NP h0) (hT : TM (h0 110) h0) (ng : ¬ gain (bR (h0 110))) : m_CI M_X11_manyWholes [mR 0, mI a1, mI a2] h0 (P_X11_manyWholes3 h0 a1 a2) := by
  refine m_CI_of ⟨by decide, rfl, by simp [m_arg, m_isL, M_X11_manyWholes], ⟨rfl, rfl⟩, rfl, rfl⟩ (ls := [some (mR 0), some (mI a1), some (mI a2)]) rfl ?_
  refine z_aload_n (M := M_X11_manyWholes) 0 dX11_manyWholes_0 rfl ?_
  refine z_getR (M := M_X11_manyWholes) 1 dX11_manyWholes_1 f_X11_12 o_0 rfl (g_0_0 G0) ?_
  refine z_iload_n (M := M_X11_manyWholes) 4 dX11_manyWholes_4 rfl ?_
  refine z_vI (M := M_X11_manyWholes) 5 dX11_manyWholes_5 t_X4_isThere l_X11_329 (m_rr_of rfl) (rest := []) (c_X4_isThere h0 1 a1 (Or.inl rfl) G0) o_1 rfl rfl rfl (Nat.le_of_ble_eq_true rfl) ⟨rfl, rfl⟩ (fun x1 h1 qx1 => ?_)
  obtain ⟨rfl, ⟨rfl, cx1⟩ | ⟨rfl, cx1⟩⟩ := qx1
  · refine z_if_ne_T (M := M_X11_manyWholes) 8 dX11_manyWholes_8 13 rfl (by omega) ?_
    refine z_aload_n (M := M_X11_manyWholes) 13 dX11_manyWholes_13 rfl ?_
    refine z_getR (M := M_X11_manyWholes) 14 dX11_manyWholes_14 f_X11_53 o_0 rfl (g_0_7 G0) ?_
    refine z_aload_n (M := M_X11_manyWholes) 17 dX11_manyWholes_17 rfl ?_
    refine z_getR (M := M_X11_manyWholes) 18 dX11_manyWholes_18 f_X11_46 o_0 rfl (g_0_6 G0) ?_
    refine z_iload_n (M := M_X11_manyWholes) 21 dX11_manyWholes_21 rfl ?_
    refine z_bipush (M := M_X11_manyWholes) 22 dX11_manyWholes_22 ?_
    refine z_iload_n (M := M_X11_manyWholes) 24 dX11_manyWholes_24 rfl ?_
    refine z_iaddN (M := M_X11_manyWholes) 25 dX11_manyWholes_25 (by omega) (by omega) ?_
    refine z_vV (M := M_X11_manyWholes) 26 dX11_manyWholes_26 t_X7_measure l_X11_427 (m_rr_of rfl) (rest := []) (c_X7_measure2 h0 a1 (12 + a2) G0 ⟨by omega, by omega⟩ ⟨by omega, by omega⟩ hT.H hT.R) o_93 rfl rfl rfl (Nat.le_of_ble_eq_true rfl) ⟨rfl, rfl⟩ (fun h2 qx2 => ?_)
    obtain ⟨G2, S2, M1, M2, M3⟩ := qx2
    have t1_ : thr (h0 110) a1 := (thr_c hR).mp cx1
    have t2_ : thr (h0 110) (12 + a2) := ⟨by omega, by omega, Or.inr (Or.inl (by omega))⟩
    have c1_ := hT.cp G0 hN ng t1_ t2_ M2 (by have z := g_95_2 G2; show h2 95 2 = 0 ∨ h2 95 2 = 1; omega)
    have c2_ := hT.cp G0 hN ng t2_ t1_ M3 (by have z := g_94_2 G2; show h2 94 2 = 0 ∨ h2 94 2 = 1; omega)
    have pb1_ : (1 ≤ h2 95 0 ∧ h2 95 0 ≤ 1600000000) ∧ (0 ≤ h2 95 1 ∧ h2 95 1 ≤ 1600000000) := by have z := c1_.2.1; unfold pBb bd at z; simp only at z; omega
    have pb2_ : (1 ≤ h2 94 0 ∧ h2 94 0 ≤ 1600000000) ∧ (0 ≤ h2 94 1 ∧ h2 94 1 ≤ 1600000000) := by have z := c2_.2.1; unfold pBb bd at z; simp only at z; omega
    have R2 := (FR.rf (cs := (csB ++ [])) (ss := []) (h := h0)).call S2 (by decide +kernel)
    refine z_aload_n (M := M_X11_manyWholes) 29 dX11_manyWholes_29 rfl ?_
    refine z_getR (M := M_X11_manyWholes) 30 dX11_manyWholes_30 f_X11_53 o_0 rfl (g_0_7 G2) ?_
    refine z_iconst (M := M_X11_manyWholes) 33 dX11_manyWholes_33 ?_
    refine z_vI (M := M_X11_manyWholes) 34 dX11_manyWholes_34 t_X7_manyNumbers l_X11_310 (m_rr_of rfl) (rest := []) (c_X7_manyNumbers4 h2 1 G2 ⟨by omega, by omega⟩ pb2_ pb1_) o_93 rfl rfl rfl (Nat.le_of_ble_eq_true rfl) ⟨rfl, rfl⟩ (fun x3 h3 qx3 => ?_)
    obtain ⟨G3, S3, ax3, bx3, fo, la, nm_, nx_⟩ := qx3
    have R3 := R2.call S3 (by decide +kernel)
    exact z_retI (M := M_X11_manyWholes) 37 dX11_manyWholes_37 rfl ⟨G3, R3, by omega, by omega, fun c d1 d2 => (by rw [frE S3]; exact M1 c d1 d2), Or.inr ⟨t1_, _, _, fo, la, ⟨⟨c2_.1, c2_.2.2.1⟩, ⟨c1_.1, c1_.2.2.1⟩, nm_⟩, nx_⟩⟩
  · refine z_if_ne_F (M := M_X11_manyWholes) 8 dX11_manyWholes_8 13 rfl (by omega) ?_
    refine z_iconst (M := M_X11_manyWholes) 11 dX11_manyWholes_11 ?_
    exact z_retI (M := M_X11_manyWholes) 12 dX11_manyWholes_12 rfl ⟨G0, (FR.rf (cs := (csB ++ [])) (ss := []) (h := h0)), by omega, by omega, fun _ _ _ => rfl, Or.inl ⟨fun z => cx1 ((thr_c hR).mpr z), rfl⟩⟩
abbrev P_X11_ask3 (h0 : m_H) (a1 : Int) : Int → m_H → Prop := fun x h' => GI h' ∧ FR (csB ++ [39, 40, 41]) [] h0 h' ∧ (-1) ≤ x ∧ x ≤ 2147483647 ∧ aqQ (h0 110) a1 x
def q_X11_ask3 (h0 : m_H) (a1 : Int) (n : Nat) : Prop := (∀ (l2 l3 l4 : Int) (h : m_H), GI h → FR (csB ++ [39, 40, 41]) [] h0 h → (-1) ≤ l2 → l2 ≤ 2147483647 → 0 ≤ l3 → l3 ≤ 47 → 0 ≤ l4 → l4 ≤ 48 → 0 ≤ a1 → a1 ≤ 2 → (TM (h0 110) h ∧ ¬ gain (bR (h0 110)) ∧ akB (h0 110) l4 l3 l2) → 2 * (48 - l4) + (1) ≤ (n : Int) → m_Z oF M_X11_ask 25 [some (mR 0), some (mI a1), some (mI l2), some (mI l3), some (mI l4), none] [] h (m_QI (P_X11_ask3 h0 a1)))
set_option maxHeartbeats 4000000 in
set_option maxRecDepth 100000 in
theorem s_X11_ask3_25 (h0 : m_H) (a1 : Int) (G0 : GI h0) (hR : LR 1 h0 (h0 110)) (hN : NP h0) (n : Nat) (ih : q_X11_ask3 h0 a1 n) : ∀ (l2 l3 l4 : Int) (h : m_H), GI h → FR (csB ++ [39, 40, 41]) [] h0 h → (-1) ≤ l2 → l2 ≤ 2147483647 → 0 ≤ l3 → l3 ≤ 47 → 0 ≤ l4 → l4 ≤ 48 → 0 ≤ a1 → a1 ≤ 2 → (TM (h0 110) h ∧ ¬ gain (bR (h0 110)) ∧ akB (h0 110) l4 l3 l2) → 2 * (48 - l4) + (1) ≤ ((n + 1 : Nat) : Int) → m_Z oF M_X11_ask 25 [some (mR 0), some (mI a1), some (mI l2), some (mI l3), some (mI l4), none] [] h (m_QI (P_X11_ask3 h0 a1)) := by
  intro l2 l3 l4 h G R v0 v1 v2 v3 v4 v5 v6 v7 i1 hr
  have r_ : h 110 = h0 110 := FR.row R (fun _ => rfl)
  have R_ : LR 1 h (h 110) := by rw [r_]; exact LR.S hR R (by decide)
  have N_ : NP h := NP.call hN R (fun _ => rfl) (fun _ => rfl) (fun _ => rfl)
  have T_ : TM (h 110) h := by rw [r_]; exact i1.1
  have g_ : ¬ gain (bR (h 110)) := by rw [r_]; exact i1.2.1
  have E_ := bR_ok G0 hN
  refine z_iload (M := M_X11_ask) 25 dX11_ask_25 rfl ?_
  refine z_bipush (M := M_X11_ask) 27 dX11_ask_27 ?_
  refine z_icmp_ge (M := M_X11_ask) 29 dX11_ask_29 64 rfl (fun c1 => ?_) (fun c1 => ?_)
  · refine z_iload_n (M := M_X11_ask) 64 dX11_ask_64 rfl ?_
    refine z_iconst (M := M_X11_ask) 65 dX11_ask_65 ?_
    refine z_icmp_ne (M := M_X11_ask) 66 dX11_ask_66 71 rfl (fun c2 => ?_) (fun c2 => ?_)
    · refine z_iload_n (M := M_X11_ask) 71 dX11_ask_71 rfl ?_
      refine z_if_ne (M := M_X11_ask) 72 dX11_ask_72 81 rfl (fun c3 => ?_) (fun c3 => ?_)
      · refine z_iload_n (M := M_X11_ask) 81 dX11_ask_81 rfl ?_
        refine z_iconst (M := M_X11_ask) 82 dX11_ask_82 ?_
        refine z_iremN (M := M_X11_ask) 83 dX11_ask_83 (by omega) (by omega) ?_
        refine z_topBI (lo := 0) (hi := 3) ⟨by omega, by omega⟩ (fun x4 ex4 ax4 bx4 => ?_)
        exact z_retI (M := M_X11_ask) 84 dX11_ask_84 rfl ⟨G, R, by omega, by omega, Or.inr ⟨⟨⟨by omega, by omega⟩, i1.2.1⟩, l3, l2, by have z := i1.2.2; rw [show l4 = 48 by omega] at z; exact z, Or.inr (Or.inl ⟨by omega, ex4.symm⟩)⟩⟩
      · refine z_iload_n (M := M_X11_ask) 75 dX11_ask_75 rfl ?_
        refine z_iconst (M := M_X11_ask) 76 dX11_ask_76 ?_
        refine z_idivN (M := M_X11_ask) 77 dX11_ask_77 (by omega) (by omega) ?_
        refine z_topBI (lo := 0) (hi := 11) ⟨by omega, by omega⟩ (fun x5 ex5 ax5 bx5 => ?_)
        refine z_goto (M := M_X11_ask) 78 dX11_ask_78 84 rfl ?_
        exact z_retI (M := M_X11_ask) 84 dX11_ask_84 rfl ⟨G, R, by omega, by omega, Or.inr ⟨⟨⟨by omega, by omega⟩, i1.2.1⟩, l3, l2, by have z := i1.2.2; rw [show l4 = 48 by omega] at z; exact z, Or.inl ⟨by omega, ex5.symm⟩⟩⟩
    · refine z_iload_n (M := M_X11_ask) 69 dX11_ask_69 rfl ?_
      exact z_retI (M := M_X11_ask) 70 dX11_ask_70 rfl ⟨G, R, by omega, by omega, Or.inr ⟨⟨⟨by omega, by omega⟩, i1.2.1⟩, l3, l2, by have z := i1.2.2; rw [show l4 = 48 by omega] at z; exact z, Or.inr (Or.inr ⟨by omega, rfl⟩)⟩⟩
  · refine z_aload_n (M := M_X11_ask) 32 dX11_ask_32 rfl ?_
    refine z_iload (M := M_X11_ask) 33 dX11_ask_33 rfl ?_
    refine z_iconst (M := M_X11_ask) 35 dX11_ask_35 ?_
    refine z_idivN (M := M_X11_ask) 36 dX11_ask_36 (by omega) (by omega) ?_
    refine z_topBI (lo := 0) (hi := 11) ⟨by omega, by omega⟩ (fun x6 ex6 ax6 bx6 => ?_)
    refine z_iload (M := M_X11_ask) 37 dX11_ask_37 rfl ?_
    refine z_iconst (M := M_X11_ask) 39 dX11_ask_39 ?_
    refine z_iremN (M := M_X11_ask) 40 dX11_ask_40 (by omega) (by omega) ?_
    refine z_topBI (lo := 0) (hi := 3) ⟨by omega, by omega⟩ (fun x7 ex7 ax7 bx7 => ?_)
    refine z_vI (M := M_X11_ask) 41 dX11_ask_41 t_X11_manyWholes l_X11_319 (m_rr_of rfl) (rest := []) (c_X11_manyWholes3 h x6 x7 G ⟨by omega, by omega⟩ ⟨by omega, by omega⟩ R_ N_ T_ g_) o_0 rfl rfl rfl (Nat.le_of_ble_eq_true rfl) ⟨rfl, rfl⟩ (fun x8 h1 qx8 => ?_)
    obtain ⟨G1, S1, ax8, bx8, e_, m_⟩ := qx8
    rw [r_] at m_
    have v_ : akV (h0 110) l4 x8 := by unfold akV; rw [ex6, ex7]; exact m_
    have R1 := R.call S1 (by decide +kernel)
    refine z_istore (M := M_X11_ask) 44 dX11_ask_44 (ls' := [some (mR 0), some (mI a1), some (mI l2), some (mI l3), some (mI l4), some (mI x8)]) (by decide) rfl ?_
    refine z_iload (M := M_X11_ask) 46 dX11_ask_46 rfl ?_
    refine z_iload_n (M := M_X11_ask) 48 dX11_ask_48 rfl ?_
    refine z_icmp_le (M := M_X11_ask) 49 dX11_ask_49 58 rfl (fun c9 => ?_) (fun c9 => ?_)
    · refine z_iincN (M := M_X11_ask) 58 dX11_ask_58 (ls' := [some (mR 0), some (mI a1), some (mI l2), some (mI l3), some (mI (l4 + 1)), some (mI x8)]) (by decide) rfl (by (unfold m_32; decide)) (by omega) (by omega) rfl ?_
      refine z_goto (M := M_X11_ask) 61 dX11_ask_61 25 rfl ?_
      exact z_mask [true, true, true, true, true, false] rfl (ih l2 l3 (l4 + 1) h1 G1 R1 (by omega) (by omega) (by omega) (by omega) (by omega) (by omega) (by omega) (by omega) ⟨i1.1.step e_, i1.2.1, akB_n E_ (by omega) i1.2.2 v_ (by omega)⟩ (by omega))
    · refine z_iload (M := M_X11_ask) 52 dX11_ask_52 rfl ?_
      refine z_istore_n (M := M_X11_ask) 54 dX11_ask_54 (ls' := [some (mR 0), some (mI a1), some (mI x8), some (mI l3), some (mI l4), some (mI x8)]) (by decide) rfl ?_
      refine z_iload (M := M_X11_ask) 55 dX11_ask_55 rfl ?_
      refine z_istore_n (M := M_X11_ask) 57 dX11_ask_57 (ls' := [some (mR 0), some (mI a1), some (mI x8), some (mI l4), some (mI l4), some (mI x8)]) (by decide) rfl ?_
      refine z_iincN (M := M_X11_ask) 58 dX11_ask_58 (ls' := [some (mR 0), some (mI a1), some (mI x8), some (mI l4), some (mI (l4 + 1)), some (mI x8)]) (by decide) rfl (by (unfold m_32; decide)) (by omega) (by omega) rfl ?_
      refine z_goto (M := M_X11_ask) 61 dX11_ask_61 25 rfl ?_
      exact z_mask [true, true, true, true, true, false] rfl (ih x8 l4 (l4 + 1) h1 G1 R1 (by omega) (by omega) (by omega) (by omega) (by omega) (by omega) (by omega) (by omega) ⟨i1.1.step e_, i1.2.1, akB_y E_ (by omega) i1.2.2 v_ (by omega)⟩ (by omega))
theorem a_X11_ask3 (h0 : m_H) (a1 : Int) (G0 : GI h0) (hR : LR 1 h0 (h0 110)) (hN : NP h0) : ∀ n, q_X11_ask3 h0 a1 n := by
  intro n
  induction n with
  | zero => unfold q_X11_ask3; intros; omega
  | succ n ih => exact s_X11_ask3_25 h0 a1 G0 hR hN n ih
set_option maxHeartbeats 4000000 in
set_option maxRecDepth 100000 in
theorem c_X11_ask3 (h0 : m_H) (a1 : Int) (G0 : GI h0) (hR : LR 1 h0 (h0 110)) (hN : NP h0) : m_CI M_X11_ask [mR 0, mI a1] h0 (P_X11_ask3 h0 a1) := by
  refine m_CI_of ⟨by decide, rfl, by simp [m_arg, m_isL, M_X11_ask], ⟨rfl, rfl⟩, rfl, rfl⟩ (ls := [some (mR 0), some (mI a1), none, none, none, none]) rfl ?_
  have ih := a_X11_ask3 h0 a1 G0 hR hN 104
  refine z_ok (fun _ _ ok => ?_)
  have oa1 : m_32 a1 := ok 1 _ rfl
  unfold m_32 at oa1
  refine z_iload_n (M := M_X11_ask) 0 dX11_ask_0 rfl ?_
  refine z_iconst (M := M_X11_ask) 1 dX11_ask_1 ?_
  refine z_iconst (M := M_X11_ask) 2 dX11_ask_2 ?_
  refine z_sI (M := M_X11_ask) 3 dX11_ask_3 t_X11_within l_X11_112 (m_rr_of rfl) (rest := []) (c_X11_within h0 a1 0 2 G0) rfl rfl (Nat.le_of_ble_eq_true rfl) ⟨rfl, rfl⟩ (fun x1 h1 qx1 => ?_)
  obtain ⟨rfl, ⟨rfl, cx1⟩ | ⟨rfl, cx1⟩⟩ := qx1
  · refine z_if_eq_F (M := M_X11_ask) 6 dX11_ask_6 16 rfl (by omega) ?_
    refine z_aload_n (M := M_X11_ask) 9 dX11_ask_9 rfl ?_
    refine z_vI (M := M_X11_ask) 10 dX11_ask_10 t_X11_canBe l_X11_208 (m_rr_of rfl) (rest := []) (c_X11_canBe2 h0 G0 hR hN) o_0 rfl rfl rfl (Nat.le_of_ble_eq_true rfl) ⟨rfl, rfl⟩ (fun x2 h2 qx2 => ?_)
    obtain ⟨G2, S2, ax2, bx2, fx2⟩ := qx2
    have R2 := (FR.rf (cs := (csB ++ [39, 40, 41])) (ss := []) (h := h0)).call S2 (by decide +kernel)
    refine z_if_ne (M := M_X11_ask) 13 dX11_ask_13 18 rfl (fun c3 => ?_) (fun c3 => ?_)
    · refine z_iconst (M := M_X11_ask) 18 dX11_ask_18 ?_
      refine z_istore_n (M := M_X11_ask) 19 dX11_ask_19 (ls' := [some (mR 0), some (mI a1), some (mI (-1)), none, none, none]) (by decide) rfl ?_
      refine z_iconst (M := M_X11_ask) 20 dX11_ask_20 ?_
      refine z_istore_n (M := M_X11_ask) 21 dX11_ask_21 (ls' := [some (mR 0), some (mI a1), some (mI (-1)), some (mI 0), none, none]) (by decide) rfl ?_
      refine z_iconst (M := M_X11_ask) 22 dX11_ask_22 ?_
      refine z_istore (M := M_X11_ask) 23 dX11_ask_23 (ls' := [some (mR 0), some (mI a1), some (mI (-1)), some (mI 0), some (mI 0), none]) (by decide) rfl ?_
      exact z_mask [true, true, true, true, true, false] rfl (ih (-1) 0 0 h2 G2 R2 (by omega) (by omega) (by omega) (by omega) (by omega) (by omega) (by omega) (by omega) ⟨⟨h2, _, fx2.2 (by omega), fun _ _ _ => rfl⟩, fx2.1.mp (by omega), Or.inl ⟨rfl, rfl⟩⟩ (by omega))
    · refine z_iconst (M := M_X11_ask) 16 dX11_ask_16 ?_
      exact z_retI (M := M_X11_ask) 17 dX11_ask_17 rfl ⟨G2, R2, by omega, by omega, Or.inl ⟨fun z => absurd (fx2.1.mpr z.2) (by omega), rfl⟩⟩
  · refine z_if_eq_T (M := M_X11_ask) 6 dX11_ask_6 16 rfl (by omega) ?_
    refine z_iconst (M := M_X11_ask) 16 dX11_ask_16 ?_
    exact z_retI (M := M_X11_ask) 17 dX11_ask_17 rfl ⟨G0, (FR.rf (cs := (csB ++ [39, 40, 41])) (ss := []) (h := h0)), by omega, by omega, Or.inl ⟨fun z => cx1 z.1, rfl⟩⟩
abbrev P_X12_ask3 (h0 : m_H) (a1 : Int) : Int → m_H → Prop := fun x h' => GI h' ∧ FR [115, 116, 117, 118, 119, 120, 121, 122, 123, 124, 125, 126, 127, 128, 129, 130, 131, 132, 133, 134, 135, 136, 138] [(108, 0), (108, 21), (108, 44), (108, 45), (108, 46), (108, 47)] h0 h' ∧ aqQ (h0 110) a1 x
def q_X12_ask3 (h0 : m_H) (a1 : Int) (n : Nat) : Prop := (∀ (l2 l3 l4 : Int) (h : m_H), GI h → FR [115, 116, 117, 118, 119, 120, 121, 122, 123, 124, 125, 126, 127, 128, 129, 130, 131, 132, 133, 134, 135, 136, 138] [(108, 0), (108, 21), (108, 44), (108, 45), (108, 46), (108, 47)] h0 h → (-1) ≤ l2 → l2 ≤ 47 → (-1) ≤ l3 → l3 ≤ 2147483647 → 0 ≤ l4 → l4 ≤ 12 → 0 ≤ a1 → a1 ≤ 2 → (gG (bR (h0 110))) → (akB (h0 110) (4 * l4) l2 l3) → 13 * (12 - l4) + (12) ≤ (n : Int) → m_Z oF M_X12_ask 33 [some (mR 108), some (mI a1), some (mI l2), some (mI l3), some (mI l4), none, none] [] h (m_QI (P_X12_ask3 h0 a1))) ∧ (∀ (l2 l3 l4 l5 : Int) (h : m_H), GI h → FR [115, 116, 117, 118, 119, 120, 121, 122, 123, 124, 125, 126, 127, 128, 129, 130, 131, 132, 133, 134, 135, 136, 138] [(108, 0), (108, 21), (108, 44), (108, 45), (108, 46), (108, 47)] h0 h → (-1) ≤ l2 → l2 ≤ 47 → (-1) ≤ l3 → l3 ≤ 2147483647 → 0 ≤ l4 → l4 ≤ 11 → 0 ≤ l5 → l5 ≤ 4 → 0 ≤ a1 → a1 ≤ 2 → (gG (bR (h0 110))) → (akB (h0 110) (4 * l4 + l5) l2 l3) → 13 * (12 - l4) + 2 * (4 - l5) + (1) ≤ (n : Int) → m_Z oF M_X12_ask 43 [some (mR 108), some (mI a1), some (mI l2), some (mI l3), some (mI l4), some (mI l5), none] [] h (m_QI (P_X12_ask3 h0 a1)))
set_option maxHeartbeats 4000000 in
set_option maxRecDepth 100000 in
theorem s_X12_ask3_33 (h0 : m_H) (a1 : Int) (G0 : GI h0) (hN : NP h0) (n : Nat) (ih : q_X12_ask3 h0 a1 n) : ∀ (l2 l3 l4 : Int) (h : m_H), GI h → FR [115, 116, 117, 118, 119, 120, 121, 122, 123, 124, 125, 126, 127, 128, 129, 130, 131, 132, 133, 134, 135, 136, 138] [(108, 0), (108, 21), (108, 44), (108, 45), (108, 46), (108, 47)] h0 h → (-1) ≤ l2 → l2 ≤ 47 → (-1) ≤ l3 → l3 ≤ 2147483647 → 0 ≤ l4 → l4 ≤ 12 → 0 ≤ a1 → a1 ≤ 2 → (gG (bR (h0 110))) → (akB (h0 110) (4 * l4) l2 l3) → 13 * (12 - l4) + (12) ≤ ((n + 1 : Nat) : Int) → m_Z oF M_X12_ask 33 [some (mR 108), some (mI a1), some (mI l2), some (mI l3), some (mI l4), none, none] [] h (m_QI (P_X12_ask3 h0 a1)) := by
  intro l2 l3 l4 h G R v0 v1 v2 v3 v4 v5 v6 v7 i0 i1 hr
  have ng_ := gG_no (bR_ok G0 hN) i0
  refine z_iload (M := M_X12_ask) 33 dX12_ask_33 rfl ?_
  refine z_bipush (M := M_X12_ask) 35 dX12_ask_35 ?_
  refine z_icmp_ge (M := M_X12_ask) 37 dX12_ask_37 116 rfl (fun c1 => ?_) (fun c1 => ?_)
  · have p_ := akB_p i1 (by omega)
    refine z_iload_n (M := M_X12_ask) 116 dX12_ask_116 rfl ?_
    refine z_if_ne (M := M_X12_ask) 117 dX12_ask_117 126 rfl (fun c2 => ?_) (fun c2 => ?_)
    · refine z_iload_n (M := M_X12_ask) 126 dX12_ask_126 rfl ?_
      refine z_iconst (M := M_X12_ask) 127 dX12_ask_127 ?_
      refine z_icmp_ne (M := M_X12_ask) 128 dX12_ask_128 137 rfl (fun c3 => ?_) (fun c3 => ?_)
      · refine z_iload_n (M := M_X12_ask) 137 dX12_ask_137 rfl ?_
        exact z_retI (M := M_X12_ask) 138 dX12_ask_138 rfl ⟨G, R, Or.inr ⟨⟨⟨by omega, by omega⟩, ng_⟩, l2, l3, by have z := i1; rw [show 4 * l4 = 48 by omega] at z; exact z, Or.inr (Or.inr ⟨by omega, rfl⟩)⟩⟩
      · refine z_iload_n (M := M_X12_ask) 131 dX12_ask_131 rfl ?_
        refine z_iconst (M := M_X12_ask) 132 dX12_ask_132 ?_
        refine z_iremN (M := M_X12_ask) 133 dX12_ask_133 (by omega) (by omega) ?_
        refine z_goto (M := M_X12_ask) 134 dX12_ask_134 138 rfl ?_
        exact z_retI (M := M_X12_ask) 138 dX12_ask_138 rfl ⟨G, R, Or.inr ⟨⟨⟨by omega, by omega⟩, ng_⟩, l2, l3, by have z := i1; rw [show 4 * l4 = 48 by omega] at z; exact z, Or.inr (Or.inl ⟨by omega, rfl⟩)⟩⟩
    · refine z_iload_n (M := M_X12_ask) 120 dX12_ask_120 rfl ?_
      refine z_iconst (M := M_X12_ask) 121 dX12_ask_121 ?_
      refine z_idivN (M := M_X12_ask) 122 dX12_ask_122 (by omega) (by omega) ?_
      refine z_goto (M := M_X12_ask) 123 dX12_ask_123 138 rfl ?_
      exact z_retI (M := M_X12_ask) 138 dX12_ask_138 rfl ⟨G, R, Or.inr ⟨⟨⟨by omega, by omega⟩, ng_⟩, l2, l3, by have z := i1; rw [show 4 * l4 = 48 by omega] at z; exact z, Or.inl ⟨by omega, rfl⟩⟩⟩
  · refine z_iconst (M := M_X12_ask) 40 dX12_ask_40 ?_
    refine z_istore (M := M_X12_ask) 41 dX12_ask_41 (ls' := [some (mR 108), some (mI a1), some (mI l2), some (mI l3), some (mI l4), some (mI 0), none]) (by decide) rfl ?_
    exact z_mask [true, true, true, true, true, true, false] rfl (ih.2 l2 l3 l4 0 h G R (by omega) (by omega) (by omega) (by omega) (by omega) (by omega) (by omega) (by omega) (by omega) (by omega) i0 (by rw [show 4 * l4 + 0 = 4 * l4 by omega]; exact i1) (by omega))
set_option maxHeartbeats 4000000 in
set_option maxRecDepth 100000 in
theorem s_X12_ask3_43 (h0 : m_H) (a1 : Int) (G0 : GI h0) (hN : NP h0) (n : Nat) (ih : q_X12_ask3 h0 a1 n) : ∀ (l2 l3 l4 l5 : Int) (h : m_H), GI h → FR [115, 116, 117, 118, 119, 120, 121, 122, 123, 124, 125, 126, 127, 128, 129, 130, 131, 132, 133, 134, 135, 136, 138] [(108, 0), (108, 21), (108, 44), (108, 45), (108, 46), (108, 47)] h0 h → (-1) ≤ l2 → l2 ≤ 47 → (-1) ≤ l3 → l3 ≤ 2147483647 → 0 ≤ l4 → l4 ≤ 11 → 0 ≤ l5 → l5 ≤ 4 → 0 ≤ a1 → a1 ≤ 2 → (gG (bR (h0 110))) → (akB (h0 110) (4 * l4 + l5) l2 l3) → 13 * (12 - l4) + 2 * (4 - l5) + (1) ≤ ((n + 1 : Nat) : Int) → m_Z oF M_X12_ask 43 [some (mR 108), some (mI a1), some (mI l2), some (mI l3), some (mI l4), some (mI l5), none] [] h (m_QI (P_X12_ask3 h0 a1)) := by
  intro l2 l3 l4 l5 h G R v0 v1 v2 v3 v4 v5 v6 v7 v8 v9 i0 i1 hr
  have r_ : h 110 = h0 110 := FR.row R (fun _ => rfl)
  have E_ := bR_ok G0 hN
  refine z_iload (M := M_X12_ask) 43 dX12_ask_43 rfl ?_
  refine z_iconst (M := M_X12_ask) 45 dX12_ask_45 ?_
  refine z_icmp_ge (M := M_X12_ask) 46 dX12_ask_46 110 rfl (fun c1 => ?_) (fun c1 => ?_)
  · refine z_iincN (M := M_X12_ask) 110 dX12_ask_110 (ls' := [some (mR 108), some (mI a1), some (mI l2), some (mI l3), some (mI (l4 + 1)), some (mI l5), none]) (by decide) rfl (by (unfold m_32; decide)) (by omega) (by omega) rfl ?_
    refine z_goto (M := M_X12_ask) 113 dX12_ask_113 33 rfl ?_
    exact z_mask [true, true, true, true, true, false, false] rfl (ih.1 l2 l3 (l4 + 1) h G R (by omega) (by omega) (by omega) (by omega) (by omega) (by omega) (by omega) (by omega) i0 (by rw [show 4 * (l4 + 1) = 4 * l4 + l5 by omega]; exact i1) (by omega))
  · refine z_aload_n (M := M_X12_ask) 49 dX12_ask_49 rfl ?_
    refine z_iload (M := M_X12_ask) 50 dX12_ask_50 rfl ?_
    refine z_vI (M := M_X12_ask) 52 dX12_ask_52 t_X12_isLength l_X12_391 (m_rr_of rfl) (rest := []) (c_X12_isLength2 h l4 G) o_108 rfl rfl rfl (Nat.le_of_ble_eq_true rfl) ⟨rfl, rfl⟩ (fun x2 h1 qx2 => ?_)
    obtain ⟨G1, S1, ax2, bx2, fx2_0, fx2_1⟩ := qx2
    rw [r_] at fx2_1
    have R1 := R.call S1 (by decide +kernel)
    refine z_if_eq (M := M_X12_ask) 55 dX12_ask_55 110 rfl (fun c3 => ?_) (fun c3 => ?_)
    · refine z_iincN (M := M_X12_ask) 110 dX12_ask_110 (ls' := [some (mR 108), some (mI a1), some (mI l2), some (mI l3), some (mI (l4 + 1)), some (mI l5), none]) (by decide) rfl (by (unfold m_32; decide)) (by omega) (by omega) rfl ?_
      refine z_goto (M := M_X12_ask) 113 dX12_ask_113 33 rfl ?_
      exact z_mask [true, true, true, true, true, false, false] rfl (ih.1 l2 l3 (l4 + 1) h1 G1 R1 (by omega) (by omega) (by omega) (by omega) (by omega) (by omega) (by omega) (by omega) i0 (akB_k E_ (by omega) (fun z => absurd (fx2_1.mpr z) (by omega)) (by omega) (by omega) (by omega) i1) (by omega))
    · refine z_aload_n (M := M_X12_ask) 58 dX12_ask_58 rfl ?_
      refine z_iload (M := M_X12_ask) 59 dX12_ask_59 rfl ?_
      refine z_iload (M := M_X12_ask) 61 dX12_ask_61 rfl ?_
      refine z_vV (M := M_X12_ask) 63 dX12_ask_63 t_X12_findEnds l_X12_428 (m_rr_of rfl) (rest := []) (c_X12_findEnds4 h1 l4 l5 G1 ⟨by omega, by omega⟩ ⟨by omega, by omega⟩ (NP.call hN R1 (fun _ => rfl) (fun _ => rfl) (fun _ => rfl)) (gG_f i0 R1 (fun _ => rfl))) o_108 rfl rfl rfl (Nat.le_of_ble_eq_true rfl) ⟨rfl, rfl⟩ (fun h2 qx4 => ?_)
      obtain ⟨G2, S2, fx4_0, fx4_1, fx4_2⟩ := qx4
      unfold lP at fx4_1
      unfold hP at fx4_2
      rw [(FR.row R1 (fun _ => rfl) : h1 110 = h0 110)] at fx4_1 fx4_2
      obtain ⟨fo, la, nm_⟩ := nmI_ex (k := 1) fx4_1.1.1.1.1 fx4_2.1.1.1.1 fx4_2.1.1.1.2 ⟨by omega, by omega⟩
      have R2 := R1.call S2 (by decide +kernel)
      refine z_aload_n (M := M_X12_ask) 66 dX12_ask_66 rfl ?_
      refine z_iconst (M := M_X12_ask) 67 dX12_ask_67 ?_
      refine z_vI (M := M_X12_ask) 68 dX12_ask_68 t_X12_numbersOf l_X12_434 (m_rr_of rfl) (rest := []) (c_X12_numbersOf4 h2 1 fo la G2 ⟨by omega, by omega⟩ ⟨fx4_1.2, fx4_2.2⟩ nm_) o_108 rfl rfl rfl (Nat.le_of_ble_eq_true rfl) ⟨rfl, rfl⟩ (fun x5 h3 qx5 => ?_)
      obtain ⟨G3, S3, bx5, fx5⟩ := qx5
      have v_ : akV (h0 110) (4 * l4 + l5) x5 := by
        unfold akV
        rw [show (4 * l4 + l5) / 4 = l4 by omega, show (4 * l4 + l5) % 4 = l5 by omega]
        exact Or.inr ⟨fx2_1.mp (by omega), _, _, fo, la, ⟨fx4_1.1, fx4_2.1, nm_⟩, fx5⟩
      have R3 := R2.call S3 (by decide +kernel)
      refine z_ok (fun ox5 _ _ => ?_)
      have ox5 := ox5.1; unfold m_ok m_32 at ox5
      refine z_istore (M := M_X12_ask) 71 dX12_ask_71 (ls' := [some (mR 108), some (mI a1), some (mI l2), some (mI l3), some (mI l4), some (mI l5), some (mI x5)]) (by decide) rfl ?_
      refine z_iload (M := M_X12_ask) 73 dX12_ask_73 rfl ?_
      refine z_iload_n (M := M_X12_ask) 75 dX12_ask_75 rfl ?_
      refine z_icmp_le (M := M_X12_ask) 76 dX12_ask_76 89 rfl (fun c6 => ?_) (fun c6 => ?_)
      · refine z_iload_n (M := M_X12_ask) 89 dX12_ask_89 rfl ?_
        refine z_istore_n (M := M_X12_ask) 90 dX12_ask_90 (ls' := [some (mR 108), some (mI a1), some (mI l2), some (mI l3), some (mI l4), some (mI l5), some (mI x5)]) (by decide) rfl ?_
        refine z_iload (M := M_X12_ask) 91 dX12_ask_91 rfl ?_
        refine z_iload_n (M := M_X12_ask) 93 dX12_ask_93 rfl ?_
        refine z_icmp_le (M := M_X12_ask) 94 dX12_ask_94 102 rfl (fun c7 => ?_) (fun c7 => ?_)
        · refine z_iload_n (M := M_X12_ask) 102 dX12_ask_102 rfl ?_
          refine z_istore_n (M := M_X12_ask) 103 dX12_ask_103 (ls' := [some (mR 108), some (mI a1), some (mI l2), some (mI l3), some (mI l4), some (mI l5), some (mI x5)]) (by decide) rfl ?_
          refine z_iincN (M := M_X12_ask) 104 dX12_ask_104 (ls' := [some (mR 108), some (mI a1), some (mI l2), some (mI l3), some (mI l4), some (mI (l5 + 1)), some (mI x5)]) (by decide) rfl (by (unfold m_32; decide)) (by omega) (by omega) rfl ?_
          refine z_goto (M := M_X12_ask) 107 dX12_ask_107 43 rfl ?_
          exact z_mask [true, true, true, true, true, true, false] rfl (ih.2 l2 l3 l4 (l5 + 1) h3 G3 R3 (by omega) (by omega) (by omega) (by omega) (by omega) (by omega) (by omega) (by omega) (by omega) (by omega) i0 (by rw [show 4 * l4 + (l5 + 1) = 4 * l4 + l5 + 1 by omega]; exact akB_n E_ (by omega) i1 v_ (by omega)) (by omega))
        · refine z_iload (M := M_X12_ask) 97 dX12_ask_97 rfl ?_
          refine z_goto (M := M_X12_ask) 99 dX12_ask_99 103 rfl ?_
          refine z_istore_n (M := M_X12_ask) 103 dX12_ask_103 (ls' := [some (mR 108), some (mI a1), some (mI l2), some (mI x5), some (mI l4), some (mI l5), some (mI x5)]) (by decide) rfl ?_
          refine z_iincN (M := M_X12_ask) 104 dX12_ask_104 (ls' := [some (mR 108), some (mI a1), some (mI l2), some (mI x5), some (mI l4), some (mI (l5 + 1)), some (mI x5)]) (by decide) rfl (by (unfold m_32; decide)) (by omega) (by omega) rfl ?_
          refine z_goto (M := M_X12_ask) 107 dX12_ask_107 43 rfl ?_
          exact z_mask [true, true, true, true, true, true, false] rfl (ih.2 l2 x5 l4 (l5 + 1) h3 G3 R3 (by omega) (by omega) (by omega) (by omega) (by omega) (by omega) (by omega) (by omega) (by omega) (by omega) i0 (False.elim (by omega)) (by omega))
      · refine z_iconst (M := M_X12_ask) 79 dX12_ask_79 ?_
        refine z_iload (M := M_X12_ask) 80 dX12_ask_80 rfl ?_
        refine z_imulN (M := M_X12_ask) 82 dX12_ask_82 (by omega) (by omega) ?_
        refine z_iload (M := M_X12_ask) 83 dX12_ask_83 rfl ?_
        refine z_iaddN (M := M_X12_ask) 85 dX12_ask_85 (by omega) (by omega) ?_
        refine z_goto (M := M_X12_ask) 86 dX12_ask_86 90 rfl ?_
        refine z_istore_n (M := M_X12_ask) 90 dX12_ask_90 (ls' := [some (mR 108), some (mI a1), some (mI ((4 * l4) + l5)), some (mI l3), some (mI l4), some (mI l5), some (mI x5)]) (by decide) rfl ?_
        refine z_iload (M := M_X12_ask) 91 dX12_ask_91 rfl ?_
        refine z_iload_n (M := M_X12_ask) 93 dX12_ask_93 rfl ?_
        refine z_icmp_le (M := M_X12_ask) 94 dX12_ask_94 102 rfl (fun c8 => ?_) (fun c8 => ?_)
        · refine z_iload_n (M := M_X12_ask) 102 dX12_ask_102 rfl ?_
          refine z_istore_n (M := M_X12_ask) 103 dX12_ask_103 (ls' := [some (mR 108), some (mI a1), some (mI ((4 * l4) + l5)), some (mI l3), some (mI l4), some (mI l5), some (mI x5)]) (by decide) rfl ?_
          refine z_iincN (M := M_X12_ask) 104 dX12_ask_104 (ls' := [some (mR 108), some (mI a1), some (mI ((4 * l4) + l5)), some (mI l3), some (mI l4), some (mI (l5 + 1)), some (mI x5)]) (by decide) rfl (by (unfold m_32; decide)) (by omega) (by omega) rfl ?_
          refine z_goto (M := M_X12_ask) 107 dX12_ask_107 43 rfl ?_
          exact z_mask [true, true, true, true, true, true, false] rfl (ih.2 ((4 * l4) + l5) l3 l4 (l5 + 1) h3 G3 R3 (by omega) (by omega) (by omega) (by omega) (by omega) (by omega) (by omega) (by omega) (by omega) (by omega) i0 (False.elim (by omega)) (by omega))
        · refine z_iload (M := M_X12_ask) 97 dX12_ask_97 rfl ?_
          refine z_goto (M := M_X12_ask) 99 dX12_ask_99 103 rfl ?_
          refine z_istore_n (M := M_X12_ask) 103 dX12_ask_103 (ls' := [some (mR 108), some (mI a1), some (mI ((4 * l4) + l5)), some (mI x5), some (mI l4), some (mI l5), some (mI x5)]) (by decide) rfl ?_
          refine z_iincN (M := M_X12_ask) 104 dX12_ask_104 (ls' := [some (mR 108), some (mI a1), some (mI ((4 * l4) + l5)), some (mI x5), some (mI l4), some (mI (l5 + 1)), some (mI x5)]) (by decide) rfl (by (unfold m_32; decide)) (by omega) (by omega) rfl ?_
          refine z_goto (M := M_X12_ask) 107 dX12_ask_107 43 rfl ?_
          exact z_mask [true, true, true, true, true, true, false] rfl (ih.2 ((4 * l4) + l5) x5 l4 (l5 + 1) h3 G3 R3 (by omega) (by omega) (by omega) (by omega) (by omega) (by omega) (by omega) (by omega) (by omega) (by omega) i0 (by rw [show 4 * l4 + (l5 + 1) = 4 * l4 + l5 + 1 by omega]; exact akB_y E_ (by omega) i1 v_ (by omega)) (by omega))
theorem a_X12_ask3 (h0 : m_H) (a1 : Int) (G0 : GI h0) (hN : NP h0) : ∀ n, q_X12_ask3 h0 a1 n := by
  intro n
  induction n with
  | zero => unfold q_X12_ask3; refine ⟨?_, ?_⟩ <;> (intros; omega)
  | succ n ih => exact ⟨s_X12_ask3_33 h0 a1 G0 hN n ih, s_X12_ask3_43 h0 a1 G0 hN n ih⟩
set_option maxHeartbeats 4000000 in
set_option maxRecDepth 100000 in
theorem c_X12_ask3 (h0 : m_H) (a1 : Int) (G0 : GI h0) (hN : NP h0) : m_CI M_X12_ask [mR 108, mI a1] h0 (P_X12_ask3 h0 a1) := by
  refine m_CI_of ⟨by decide, rfl, by simp [m_arg, m_isL, M_X12_ask], ⟨rfl, rfl⟩, rfl, rfl⟩ (ls := [some (mR 108), some (mI a1), none, none, none, none, none]) rfl ?_
  have ih := a_X12_ask3 h0 a1 G0 hN 175
  refine z_ok (fun _ _ ok => ?_)
  have oa1 : m_32 a1 := ok 1 _ rfl
  unfold m_32 at oa1
  refine z_aload_n (M := M_X12_ask) 0 dX12_ask_0 rfl ?_
  refine z_iconst (M := M_X12_ask) 1 dX12_ask_1 ?_
  refine z_putIH (M := M_X12_ask) 2 dX12_ask_2 p_X12_133 o_108 rfl (u_108_0 G0) ((FR.rf (cs := [115, 116, 117, 118, 119, 120, 121, 122, 123, 124, 125, 126, 127, 128, 129, 130, 131, 132, 133, 134, 135, 136, 138]) (ss := [(108, 0), (108, 21), (108, 44), (108, 45), (108, 46), (108, 47)]) (h := h0)).up rfl) (fun h1 E1 G1 R1 => ?_)
  refine z_iload_n (M := M_X12_ask) 5 dX12_ask_5 rfl ?_
  refine z_i2l (M := M_X12_ask) 6 dX12_ask_6 ?_
  refine z_lconst (M := M_X12_ask) 7 dX12_ask_7 (v := 0) ?_
  refine z_ldc2 (M := M_X12_ask) 8 dX12_ask_8 k_X12_182 ?_
  refine z_sI (M := M_X12_ask) 11 dX12_ask_11 t_X12_in l_X12_143 (m_rr_of rfl) (rest := []) (c_X12_in h1 a1 0 2 G1) rfl rfl (Nat.le_of_ble_eq_true rfl) ⟨rfl, rfl⟩ (fun x1 h2 qx1 => ?_)
  obtain ⟨rfl, ⟨rfl, cx1⟩ | ⟨rfl, cx1⟩⟩ := qx1
  · refine z_if_eq_F (M := M_X12_ask) 14 dX12_ask_14 24 rfl (by omega) ?_
    refine z_aload_n (M := M_X12_ask) 17 dX12_ask_17 rfl ?_
    refine z_vI (M := M_X12_ask) 18 dX12_ask_18 t_X12_canBeNow l_X12_377 (m_rr_of rfl) (rest := []) (c_X12_canBeNow2 h1 G1 (NP.call hN R1 (fun _ => rfl) (fun _ => rfl) (fun _ => rfl))) o_108 rfl rfl rfl (Nat.le_of_ble_eq_true rfl) ⟨rfl, rfl⟩ (fun x2 h3 qx2 => ?_)
    obtain ⟨G3, S3, ax2, bx2, fx2_0, fx2_1⟩ := qx2
    rw [(FR.row R1 (fun _ => rfl) : h1 110 = h0 110)] at fx2_1
    have R3 := R1.call S3 (by decide +kernel)
    refine z_if_ne (M := M_X12_ask) 21 dX12_ask_21 26 rfl (fun c3 => ?_) (fun c3 => ?_)
    · have an := fx2_0 (by omega)
      refine z_iconst (M := M_X12_ask) 26 dX12_ask_26 ?_
      refine z_istore_n (M := M_X12_ask) 27 dX12_ask_27 (ls' := [some (mR 108), some (mI a1), some (mI (-1)), none, none, none, none]) (by decide) rfl ?_
      refine z_iconst (M := M_X12_ask) 28 dX12_ask_28 ?_
      refine z_istore_n (M := M_X12_ask) 29 dX12_ask_29 (ls' := [some (mR 108), some (mI a1), some (mI (-1)), some (mI (-1)), none, none, none]) (by decide) rfl ?_
      refine z_iconst (M := M_X12_ask) 30 dX12_ask_30 ?_
      refine z_istore (M := M_X12_ask) 31 dX12_ask_31 (ls' := [some (mR 108), some (mI a1), some (mI (-1)), some (mI (-1)), some (mI 0), none, none]) (by decide) rfl ?_
      exact z_mask [true, true, true, true, true, false, false] rfl (ih.1 (-1) (-1) 0 h3 G3 R3 (by omega) (by omega) (by omega) (by omega) (by omega) (by omega) (by omega) (by omega) (gG_b an R1 (fun _ => rfl)) (Or.inl ⟨rfl, rfl⟩) (by omega))
    · refine z_iconst (M := M_X12_ask) 24 dX12_ask_24 ?_
      exact z_retI (M := M_X12_ask) 25 dX12_ask_25 rfl ⟨G3, R3, Or.inl ⟨fun z => absurd (fx2_1 (by omega)) z.2, rfl⟩⟩
  · refine z_if_eq_T (M := M_X12_ask) 14 dX12_ask_14 24 rfl (by omega) ?_
    refine z_iconst (M := M_X12_ask) 24 dX12_ask_24 ?_
    exact z_retI (M := M_X12_ask) 25 dX12_ask_25 rfl ⟨G1, R1, Or.inl ⟨fun z => cx1 z.1, rfl⟩⟩
