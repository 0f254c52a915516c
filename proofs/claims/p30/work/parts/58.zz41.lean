/-! ask -/
def TM (r : Nat → Int) (h : m_H) : Prop := ∃ g s, TY r s g ∧ ∀ c, c ≠ 94 → c ≠ 95 → h c = g c
theorem TM.step {r : Nat → Int} {h h' : m_H} (T : TM r h) (e : ∀ c, c ≠ 94 → c ≠ 95 → h' c = h c) : TM r h' := by
  obtain ⟨g, s, Y, E⟩ := T
  exact ⟨g, s, Y, fun c c1 c2 => (e c c1 c2).trans (E c c1 c2)⟩
theorem lm_same {h g : m_H} (E : ∀ c, c ≠ 94 → c ≠ 95 → h c = g c) (a b : Int) : ∀ n, n ≤ 16 → lmN h a b n = lmN g a b n
  | 0, _ => rfl
  | n + 1, hn => by
    have i := lm_same E a b n (by omega)
    show lmS h a b (n : Int) (lmN h a b n) = lmS g a b (n : Int) (lmN g a b n)
    rw [i]
    unfold lmS cnd hiV loV
    rw [E 39 (by decide) (by decide), E 40 (by decide) (by decide), E 41 (by decide) (by decide), E (77 + (n : Int).toNat) (by omega) (by omega)]
theorem TM.H {r : Nat → Int} {h : m_H} (T : TM r h) : bkH h := by
  obtain ⟨g, s, ⟨D, _, X⟩, E⟩ := T
  have b := X.1.1
  unfold bkH at b ⊢
  rw [E 39 (by decide) (by decide), E 41 (by decide) (by decide)]; exact b
theorem TM.R {r : Nat → Int} {h : m_H} (T : TM r h) : bkR h := by
  obtain ⟨g, s, ⟨D, _, X⟩, E⟩ := T
  have b := bkR_X X
  intro p hp
  have q := b p hp
  unfold bd at q ⊢
  rw [E (77 + p) (by omega) (by omega)]; exact q
theorem TM.cp {h : m_H} {a b : Int} {B : Int × Int × Int} (G : GI h) (N : NP h) (T : TM (h 110) h) (ng : ¬ gain (bR (h 110))) (ta : thr (h 110) a) (tb : thr (h 110) b) (e : B = if a = b then (1, 1, 0) else lmN h a b 16) (o : B.2.2 = 0 ∨ B.2.2 = 1) : cpB (h 110) a b B := by
  obtain ⟨g, s, Y, E⟩ := T
  exact cp_of G N Y ng ta tb (by rw [e, lm_same E a b 16 (Nat.le_refl _)]) o
def mwQ (r : Nat → Int) (a f y : Int) : Prop := (¬ thr r a ∧ y = -1) ∨ (thr r a ∧ ∃ B C fo la, nmE r a f 1 B C fo la ∧ nmN fo la = y)
theorem mw_eq {r : Nat → Int} (hE : ∀ e ∈ bR r, gEo e) {a f x y : Int} (h : mwQ r a f x) (h' : mwQ r a f y) : x = y := by
  rcases h with ⟨n, e⟩ | ⟨t, B, C, fo, la, i, v⟩
  · rcases h' with ⟨_, e'⟩ | ⟨t', _⟩
    · omega
    · exact absurd t' n
  · rcases h' with ⟨n', _⟩ | ⟨_, B', C', fo', la', i', v'⟩
    · exact absurd t n'
    · obtain ⟨e1, e2⟩ := nmE_eq hE i i'
      have f1 := i.2.2.1
      subst e1
      rw [← v, ← v']
      rcases e2 with z | z
      · rw [z]
      · unfold nmN; rw [if_neg (by omega), if_neg (by omega)]
def akV (r : Nat → Int) (i y : Int) : Prop := mwQ r (i / 4) (i % 4) y
def akB (r : Nat → Int) (m p v : Int) : Prop := (m = 0 ∧ v = -1) ∨ ((0 < m ∧ 0 ≤ p ∧ p < m ∧ 0 ≤ v) ∧ akV r p v ∧ (∀ i y, 0 ≤ i → i < m → akV r i y → y ≤ v) ∧ ∀ i y, 0 ≤ i → i < p → akV r i y → y < v)
theorem mwz_0 {r : Nat → Int} {f y : Int} (h : mwQ r 0 f y) : 0 ≤ y := by
  rcases h with ⟨n, _⟩ | ⟨_, B, C, fo, la, i, v⟩
  · exact absurd ⟨by decide, by decide, Or.inl (by decide)⟩ n
  · rw [← v]; unfold nmN; split <;> omega
theorem akB_y {r : Nat → Int} (hE : ∀ e ∈ bR r, gEo e) {m p v y : Int} (hm : 0 ≤ m) (I : akB r m p v) (V : akV r m y) (c : v < y) : akB r (m + 1) m y := by
  have one : ∀ i z, 0 ≤ i → i < m → akV r i z → z < y := fun i z i0 i1 q => by
    rcases I with ⟨e, _⟩ | ⟨_, _, a, _⟩
    · omega
    · have := a i z i0 i1 q; omega
  have y0 : 0 ≤ y := by
    rcases I with ⟨e, _⟩ | ⟨⟨_, _, _, z⟩, _⟩
    · subst e; exact mwz_0 V
    · omega
  refine Or.inr ⟨⟨by omega, hm, by omega, y0⟩, V, fun i z i0 i1 q => ?_, one⟩
  by_cases g : i = m
  · subst g; have := mw_eq hE q V; omega
  · have := one i z i0 (by omega) q; omega
theorem akB_n {r : Nat → Int} (hE : ∀ e ∈ bR r, gEo e) {m p v y : Int} (hm : 0 ≤ m) (I : akB r m p v) (V : akV r m y) (c : y ≤ v) : akB r (m + 1) p v := by
  rcases I with ⟨e, e2⟩ | ⟨⟨a1, a2, a3, a4⟩, b, d, f⟩
  · subst e
    have := mwz_0 V
    omega
  · refine Or.inr ⟨⟨by omega, a2, by omega, a4⟩, b, fun i z i0 i1 q => ?_, f⟩
    by_cases g : i = m
    · subst g; have := mw_eq hE q V; omega
    · exact d i z i0 (by omega) q
theorem akB_p {r : Nat → Int} {m p v : Int} (I : akB r m p v) (hm : 0 < m) : 0 ≤ p ∧ p < m := by
  rcases I with ⟨e, _⟩ | ⟨⟨_, a, b, _⟩, _⟩
  · omega
  · exact ⟨a, b⟩
theorem akB_eq {r : Nat → Int} (hE : ∀ e ∈ bR r, gEo e) {m p v p' v' : Int} (hm : 0 < m) (I : akB r m p v) (J : akB r m p' v') : p = p' ∧ v = v' := by
  rcases I with ⟨e, _⟩ | ⟨⟨_, a2, a3, _⟩, b, d, f⟩
  · omega
  · rcases J with ⟨e, _⟩ | ⟨⟨_, a2', a3', _⟩, b', d', f'⟩
    · omega
    · have x1 := d p' v' a2' a3' b'
      have x2 := d' p v a2 a3 b
      refine ⟨?_, by omega⟩
      rcases Int.lt_trichotomy p p' with z | z | z
      · have := f' p v a2 z b; omega
      · exact z
      · have := f p' v' a2' z b'; omega
/-- a length that isn't there -/
theorem akB_k {r : Nat → Int} (hE : ∀ e ∈ bR r, gEo e) {l j p v : Int} (hl : 0 ≤ l) (n : ¬ thr r l) (h0 : 0 ≤ j) (h4 : j ≤ 4) (hv : -1 ≤ v) (I : akB r (4 * l + j) p v) : akB r (4 * (l + 1)) p v := by
  have st : ∀ i, 0 ≤ i → i ≤ 3 → akB r (4 * l + i) p v → akB r (4 * l + (i + 1)) p v := fun i i0 i3 q => by
    have V : akV r (4 * l + i) (-1) := Or.inl ⟨by rw [show (4 * l + i) / 4 = l by omega]; exact n, rfl⟩
    have z := akB_n hE (by omega) q V hv
    rw [show 4 * l + i + 1 = 4 * l + (i + 1) by omega] at z
    exact z
  have k : ∀ t : Nat, ∀ i : Int, 0 ≤ i → i + (t : Int) = 4 → akB r (4 * l + i) p v → akB r (4 * (l + 1)) p v := by
    intro t
    induction t with
    | zero => intro i _ e q; rw [show i = 4 by omega] at q; rw [show 4 * (l + 1) = 4 * l + 4 by omega]; exact q
    | succ t ih => intro i i0 e q; exact ih (i + 1) (by omega) (by omega) (st i i0 (by omega) q)
  exact k (4 - j).toNat j h0 (by omega) I
def aqQ (r : Nat → Int) (w x : Int) : Prop := (¬ ((0 ≤ w ∧ w ≤ 2) ∧ ¬ gain (bR r)) ∧ x = -1) ∨ (((0 ≤ w ∧ w ≤ 2) ∧ ¬ gain (bR r)) ∧ ∃ p v, akB r 48 p v ∧ ((w = 0 ∧ x = p / 4) ∨ (w = 1 ∧ x = p % 4) ∨ (w = 2 ∧ x = v)))
theorem as_eq {r : Nat → Int} (hE : ∀ e ∈ bR r, gEo e) {w x y : Int} (h : aqQ r w x) (h' : aqQ r w y) : x = y := by
  rcases h with ⟨n, e⟩ | ⟨K, p, v, i, a⟩
  · rcases h' with ⟨_, e'⟩ | ⟨K', _⟩
    · omega
    · exact absurd K' n
  · rcases h' with ⟨n', _⟩ | ⟨_, p', v', i', a'⟩
    · exact absurd K n'
    · obtain ⟨e1, e2⟩ := akB_eq hE (by decide) i i'
      subst e1
      subst e2
      omega
theorem LX.ask {h h1 : m_H} {w x y : Int} {cs : List Nat} {ss : List (Nat × Nat)} (G : GI h) (N : NP h) (S1 : FR cs ss h h1) (A : aqQ (h 110) w x) (B : aqQ (h1 110) w y) (o : out 110 110 cs ss = true) : x = y := by
  rw [rowz S1 (fr_out o (by decide) (by decide))] at B
  exact as_eq (bR_ok G N) A B
abbrev P_X11_manyWholes3 (h0 : m_H) (a1 a2 : Int) : Int → m_H → Prop := fun x h' => GI h' ∧ FR (csB ++ []) [] h0 h' ∧ (-1) ≤ x ∧ x ≤ 2147483647 ∧ (∀ c, c ≠ 94 → c ≠ 95 → h' c = h0 c) ∧ mwQ (h0 110) a1 a2 x
set_option maxHeartbeats 4000000 in
set_option maxRecDepth 100000 in
theorem c_X11_manyWholes3 (h0 : m_H) (a1 a2 : Int) (G0 : GI h0) (pa1 : 0 ≤ a1 ∧ a1 ≤ 11) (pa2 : 0 ≤ a2 ∧ a2 ≤ 3) (hR : LR 1 h0 (h0 110)) (hN : NP h0) (hT : TM (h0 110) h0) (ng : ¬ gain (bR (h0 110))) : m_CI M_X11_manyWholes [mR 0, mI a1, mI a2] h0 (P_X11_manyWholes3 h0 a1 a2) := by
  refine m_CI_of ⟨by decide, rfl, by simp [m_arg, m_isL, M_X11_manyWholes], ⟨rfl, rfl⟩, rfl, rfl⟩ (ls := [some (mR 0), some (mI a1), some (mI a2)]) rfl ?_
  refine z_aload_n (M := M_X11_manyWholes) 0 dX11_manyWholes_0 rfl ?_
  refine z_getR (M := M_X11_manyWholes) 1 dX11_manyWholes_1 f_X11_12 o_0 rfl (g_0_0 G0) ?_
  refine z_iload_n (M := M_X11_manyWholes) 4 dX11_manyWholes_4 rfl ?_
  refine z_vI (M := M_X11_manyWholes) 5 dX11_manyWholes_5 t_X4_isThere l_X11_329 (m_rr_of rfl) (rest := []) (c_X4_isThere h0 1 a1 (Or.inl rfl) G0) o_1 rfl rfl rfl (Nat.le_of_ble_eq_true rfl) ⟨rfl, rfl⟩ (fun x1 h1 qx1 => ?_)
  obtain ⟨rfl, ⟨rfl, cx1⟩ | ⟨rfl, cx1⟩⟩ := qx1
  · refine z_if_ne_T (M := M_X11_manyWholes) 8 dX11_manyWholes_8 13 rfl (by omega) ?_
    refine z_aload_n (M := M_X11_manyWholes) 13 dX11_manyWholes_13 rfl ?_
    refine z_getR (M := M_X11_manyWholes) 14 dX11_manyWholes_14 f_X11_53 o_0 rfl (g_0_7 G0) ?_
    refine z_aload_n (M := M_X11_manyWholes) 17 dX11_manyWholes_17 rfl ?_
    refine z_getR (M := M_X11_manyWholes) 18 dX11_manyWholes_18 f_X11_46 o_0 rfl (g_0_6 G0) ?_
    refine z_iload_n (M := M_X11_manyWholes) 21 dX11_manyWholes_21 rfl ?_
    refine z_bipush (M := M_X11_manyWholes) 22 dX11_manyWholes_22 ?_
    refine z_iload_n (M := M_X11_manyWholes) 24 dX11_manyWholes_24 rfl ?_
    refine z_iaddN (M := M_X11_manyWholes) 25 dX11_manyWholes_25 (by omega) (by omega) ?_
    refine z_vV (M := M_X11_manyWholes) 26 dX11_manyWholes_26 t_X7_measure l_X11_427 (m_rr_of rfl) (rest := []) (c_X7_measure2 h0 a1 (12 + a2) G0 ⟨by omega, by omega⟩ ⟨by omega, by omega⟩ hT.H hT.R) o_93 rfl rfl rfl (Nat.le_of_ble_eq_true rfl) ⟨rfl, rfl⟩ (fun h2 qx2 => ?_)
    obtain ⟨G2, S2, M1, M2, M3⟩ := qx2
    have t1_ : thr (h0 110) a1 := (thr_c hR).mp cx1
    have t2_ : thr (h0 110) (12 + a2) := ⟨by omega, by omega, Or.inr (Or.inl (by omega))⟩
    have c1_ := hT.cp G0 hN ng t1_ t2_ M2 (by have z := g_95_2 G2; show h2 95 2 = 0 ∨ h2 95 2 = 1; omega)
    have c2_ := hT.cp G0 hN ng t2_ t1_ M3 (by have z := g_94_2 G2; show h2 94 2 = 0 ∨ h2 94 2 = 1; omega)
    have pb1_ : (1 ≤ h2 95 0 ∧ h2 95 0 ≤ 1600000000) ∧ (0 ≤ h2 95 1 ∧ h2 95 1 ≤ 1600000000) := by have z := c1_.2.1; unfold pBb bd at z; simp only at z; omega
    have pb2_ : (1 ≤ h2 94 0 ∧ h2 94 0 ≤ 1600000000) ∧ (0 ≤ h2 94 1 ∧ h2 94 1 ≤ 1600000000) := by have z := c2_.2.1; unfold pBb bd at z; simp only at z; omega
    have R2 := (FR.rf (cs := (csB ++ [])) (ss := []) (h := h0)).call S2 (by decide +kernel)
    refine z_aload_n (M := M_X11_manyWholes) 29 dX11_manyWholes_29 rfl ?_
    refine z_getR (M := M_X11_manyWholes) 30 dX11_manyWholes_30 f_X11_53 o_0 rfl (g_0_7 G2) ?_
    refine z_iconst (M := M_X11_manyWholes) 33 dX11_manyWholes_33 ?_
    refine z_vI (M := M_X11_manyWholes) 34 dX11_manyWholes_34 t_X7_manyNumbers l_X11_310 (m_rr_of rfl) (rest := []) (c_X7_manyNumbers4 h2 1 G2 ⟨by omega, by omega⟩ pb2_ pb1_) o_93 rfl rfl rfl (Nat.le_of_ble_eq_true rfl) ⟨rfl, rfl⟩ (fun x3 h3 qx3 => ?_)
    obtain ⟨G3, S3, ax3, bx3, fo, la, nm_, nx_⟩ := qx3
    have R3 := R2.call S3 (by decide +kernel)
    exact z_retI (M := M_X11_manyWholes) 37 dX11_manyWholes_37 rfl ⟨G3, R3, by omega, by omega, fun c d1 d2 => (by rw [frE S3]; exact M1 c d1 d2), Or.inr ⟨t1_, _, _, fo, la, ⟨⟨c2_.1, c2_.2.2.1⟩, ⟨c1_.1, c1_.2.2.1⟩, nm_⟩, nx_⟩⟩
  · refine z_if_ne_F (M := M_X11_manyWholes) 8 dX11_manyWholes_8 13 rfl (by omega) ?_
    refine z_iconst (M := M_X11_manyWholes) 11 dX11_manyWholes_11 ?_
    exact z_retI (M := M_X11_manyWholes) 12 dX11_manyWholes_12 rfl ⟨G0, (FR.rf (cs := (csB ++ [])) (ss := []) (h := h0)), by omega, by omega, fun _ _ _ => rfl, Or.inl ⟨fun z => cx1 ((thr_c hR).mpr z), rfl⟩⟩
abbrev P_X11_ask3 (h0 : m_H) (a1 : Int) : Int → m_H → Prop := fun x h' => GI h' ∧ FR (csB ++ [39, 40, 41]) [] h0 h' ∧ (-1) ≤ x ∧ x ≤ 2147483647 ∧ aqQ (h0 110) a1 x
def q_X11_ask3 (h0 : m_H) (a1 : Int) (n : Nat) : Prop := (∀ (l2 l3 l4 : Int) (h : m_H), GI h → FR (csB ++ [39, 40, 41]) [] h0 h → (-1) ≤ l2 → l2 ≤ 2147483647 → 0 ≤ l3 → l3 ≤ 47 → 0 ≤ l4 → l4 ≤ 48 → 0 ≤ a1 → a1 ≤ 2 → (TM (h0 110) h ∧ ¬ gain (bR (h0 110)) ∧ akB (h0 110) l4 l3 l2) → 2 * (48 - l4) + (1) ≤ (n : Int) → m_Z oF M_X11_ask 25 [some (mR 0), some (mI a1), some (mI l2), some (mI l3), some (mI l4), none] [] h (m_QI (P_X11_ask3 h0 a1)))
set_option maxHeartbeats 4000000 in
set_option maxRecDepth 100000 in
theorem s_X11_ask3_25 (h0 : m_H) (a1 : Int) (G0 : GI h0) (hR : LR 1 h0 (h0 110)) (hN : NP h0) (n : Nat) (ih : q_X11_ask3 h0 a1 n) : ∀ (l2 l3 l4 : Int) (h : m_H), GI h → FR (csB ++ [39, 40, 41]) [] h0 h → (-1) ≤ l2 → l2 ≤ 2147483647 → 0 ≤ l3 → l3 ≤ 47 → 0 ≤ l4 → l4 ≤ 48 → 0 ≤ a1 → a1 ≤ 2 → (TM (h0 110) h ∧ ¬ gain (bR (h0 110)) ∧ akB (h0 110) l4 l3 l2) → 2 * (48 - l4) + (1) ≤ ((n + 1 : Nat) : Int) → m_Z oF M_X11_ask 25 [some (mR 0), some (mI a1), some (mI l2), some (mI l3), some (mI l4), none] [] h (m_QI (P_X11_ask3 h0 a1)) := by
  intro l2 l3 l4 h G R v0 v1 v2 v3 v4 v5 v6 v7 i1 hr
  have r_ : h 110 = h0 110 := FR.row R (fun _ => rfl)
  have R_ : LR 1 h (h 110) := by rw [r_]; exact LR.S hR R (by decide)
  have N_ : NP h := NP.call hN R (fun _ => rfl) (fun _ => rfl) (fun _ => rfl)
  have T_ : TM (h 110) h := by rw [r_]; exact i1.1
  have g_ : ¬ gain (bR (h 110)) := by rw [r_]; exact i1.2.1
  have E_ := bR_ok G0 hN
  refine z_iload (M := M_X11_ask) 25 dX11_ask_25 rfl ?_
  refine z_bipush (M := M_X11_ask) 27 dX11_ask_27 ?_
  refine z_icmp_ge (M := M_X11_ask) 29 dX11_ask_29 64 rfl (fun c1 => ?_) (fun c1 => ?_)
  · refine z_iload_n (M := M_X11_ask) 64 dX11_ask_64 rfl ?_
    refine z_iconst (M := M_X11_ask) 65 dX11_ask_65 ?_
    refine z_icmp_ne (M := M_X11_ask) 66 dX11_ask_66 71 rfl (fun c2 => ?_) (fun c2 => ?_)
    · refine z_iload_n (M := M_X11_ask) 71 dX11_ask_71 rfl ?_
      refine z_if_ne (M := M_X11_ask) 72 dX11_ask_72 81 rfl (fun c3 => ?_) (fun c3 => ?_)
      · refine z_iload_n (M := M_X11_ask) 81 dX11_ask_81 rfl ?_
        refine z_iconst (M := M_X11_ask) 82 dX11_ask_82 ?_
        refine z_iremN (M := M_X11_ask) 83 dX11_ask_83 (by omega) (by omega) ?_
        refine z_topBI (lo := 0) (hi := 3) ⟨by omega, by omega⟩ (fun x4 ex4 ax4 bx4 => ?_)
        exact z_retI (M := M_X11_ask) 84 dX11_ask_84 rfl ⟨G, R, by omega, by omega, Or.inr ⟨⟨⟨by omega, by omega⟩, i1.2.1⟩, l3, l2, by have z := i1.2.2; rw [show l4 = 48 by omega] at z; exact z, Or.inr (Or.inl ⟨by omega, ex4.symm⟩)⟩⟩
      · refine z_iload_n (M := M_X11_ask) 75 dX11_ask_75 rfl ?_
        refine z_iconst (M := M_X11_ask) 76 dX11_ask_76 ?_
        refine z_idivN (M := M_X11_ask) 77 dX11_ask_77 (by omega) (by omega) ?_
        refine z_topBI (lo := 0) (hi := 11) ⟨by omega, by omega⟩ (fun x5 ex5 ax5 bx5 => ?_)
        refine z_goto (M := M_X11_ask) 78 dX11_ask_78 84 rfl ?_
        exact z_retI (M := M_X11_ask) 84 dX11_ask_84 rfl ⟨G, R, by omega, by omega, Or.inr ⟨⟨⟨by omega, by omega⟩, i1.2.1⟩, l3, l2, by have z := i1.2.2; rw [show l4 = 48 by omega] at z; exact z, Or.inl ⟨by omega, ex5.symm⟩⟩⟩
    · refine z_iload_n (M := M_X11_ask) 69 dX11_ask_69 rfl ?_
      exact z_retI (M := M_X11_ask) 70 dX11_ask_70 rfl ⟨G, R, by omega, by omega, Or.inr ⟨⟨⟨by omega, by omega⟩, i1.2.1⟩, l3, l2, by have z := i1.2.2; rw [show l4 = 48 by omega] at z; exact z, Or.inr (Or.inr ⟨by omega, rfl⟩)⟩⟩
  · refine z_aload_n (M := M_X11_ask) 32 dX11_ask_32 rfl ?_
    refine z_iload (M := M_X11_ask) 33 dX11_ask_33 rfl ?_
    refine z_iconst (M := M_X11_ask) 35 dX11_ask_35 ?_
    refine z_idivN (M := M_X11_ask) 36 dX11_ask_36 (by omega) (by omega) ?_
    refine z_topBI (lo := 0) (hi := 11) ⟨by omega, by omega⟩ (fun x6 ex6 ax6 bx6 => ?_)
    refine z_iload (M := M_X11_ask) 37 dX11_ask_37 rfl ?_
    refine z_iconst (M := M_X11_ask) 39 dX11_ask_39 ?_
    refine z_iremN (M := M_X11_ask) 40 dX11_ask_40 (by omega) (by omega) ?_
    refine z_topBI (lo := 0) (hi := 3) ⟨by omega, by omega⟩ (fun x7 ex7 ax7 bx7 => ?_)
    refine z_vI (M := M_X11_ask) 41 dX11_ask_41 t_X11_manyWholes l_X11_319 (m_rr_of rfl) (rest := []) (c_X11_manyWholes3 h x6 x7 G ⟨by omega, by omega⟩ ⟨by omega, by omega⟩ R_ N_ T_ g_) o_0 rfl rfl rfl (Nat.le_of_ble_eq_true rfl) ⟨rfl, rfl⟩ (fun x8 h1 qx8 => ?_)
    obtain ⟨G1, S1, ax8, bx8, e_, m_⟩ := qx8
    rw [r_] at m_
    have v_ : akV (h0 110) l4 x8 := by unfold akV; rw [ex6, ex7]; exact m_
    have R1 := R.call S1 (by decide +kernel)
    refine z_istore (M := M_X11_ask) 44 dX11_ask_44 (ls' := [some (mR 0), some (mI a1), some (mI l2), some (mI l3), some (mI l4), some (mI x8)]) (by decide) rfl ?_
    refine z_iload (M := M_X11_ask) 46 dX11_ask_46 rfl ?_
    refine z_iload_n (M := M_X11_ask) 48 dX11_ask_48 rfl ?_
    refine z_icmp_le (M := M_X11_ask) 49 dX11_ask_49 58 rfl (fun c9 => ?_) (fun c9 => ?_)
    · refine z_iincN (M := M_X11_ask) 58 dX11_ask_58 (ls' := [some (mR 0), some (mI a1), some (mI l2), some (mI l3), some (mI (l4 + 1)), some (mI x8)]) (by decide) rfl (by (unfold m_32; decide)) (by omega) (by omega) rfl ?_
      refine z_goto (M := M_X11_ask) 61 dX11_ask_61 25 rfl ?_
      exact z_mask [true, true, true, true, true, false] rfl (ih l2 l3 (l4 + 1) h1 G1 R1 (by omega) (by omega) (by omega) (by omega) (by omega) (by omega) (by omega) (by omega) ⟨i1.1.step e_, i1.2.1, akB_n E_ (by omega) i1.2.2 v_ (by omega)⟩ (by omega))
    · refine z_iload (M := M_X11_ask) 52 dX11_ask_52 rfl ?_
      refine z_istore_n (M := M_X11_ask) 54 dX11_ask_54 (ls' := [some (mR 0), some (mI a1), some (mI x8), some (mI l3), some (mI l4), some (mI x8)]) (by decide) rfl ?_
      refine z_iload (M := M_X11_ask) 55 dX11_ask_55 rfl ?_
      refine z_istore_n (M := M_X11_ask) 57 dX11_ask_57 (ls' := [some (mR 0), some (mI a1), some (mI x8), some (mI l4), some (mI l4), some (mI x8)]) (by decide) rfl ?_
      refine z_iincN (M := M_X11_ask) 58 dX11_ask_58 (ls' := [some (mR 0), some (mI a1), some (mI x8), some (mI l4), some (mI (l4 + 1)), some (mI x8)]) (by decide) rfl (by (unfold m_32; decide)) (by omega) (by omega) rfl ?_
      refine z_goto (M := M_X11_ask) 61 dX11_ask_61 25 rfl ?_
      exact z_mask [true, true, true, true, true, false] rfl (ih x8 l4 (l4 + 1) h1 G1 R1 (by omega) (by omega) (by omega) (by omega) (by omega) (by omega) (by omega) (by omega) ⟨i1.1.step e_, i1.2.1, akB_y E_ (by omega) i1.2.2 v_ (by omega)⟩ (by omega))
theorem a_X11_ask3 (h0 : m_H) (a1 : Int) (G0 : GI h0) (hR : LR 1 h0 (h0 110)) (hN : NP h0) : ∀ n, q_X11_ask3 h0 a1 n := by
  intro n
  induction n with
  | zero => unfold q_X11_ask3; intros; omega
  | succ n ih => exact s_X11_ask3_25 h0 a1 G0 hR hN n ih
set_option maxHeartbeats 4000000 in
set_option maxRecDepth 100000 in
theorem c_X11_ask3 (h0 : m_H) (a1 : Int) (G0 : GI h0) (hR : LR 1 h0 (h0 110)) (hN : NP h0) : m_CI M_X11_ask [mR 0, mI a1] h0 (P_X11_ask3 h0 a1) := by
  refine m_CI_of ⟨by decide, rfl, by simp [m_arg, m_isL, M_X11_ask], ⟨rfl, rfl⟩, rfl, rfl⟩ (ls := [some (mR 0), some (mI a1), none, none, none, none]) rfl ?_
  have ih := a_X11_ask3 h0 a1 G0 hR hN 104
  refine z_ok (fun _ _ ok => ?_)
  have oa1 : m_32 a1 := ok 1 _ rfl
  unfold m_32 at oa1
  refine z_iload_n (M := M_X11_ask) 0 dX11_ask_0 rfl ?_
  refine z_iconst (M := M_X11_ask) 1 dX11_ask_1 ?_
  refine z_iconst (M := M_X11_ask) 2 dX11_ask_2 ?_
  refine z_sI (M := M_X11_ask) 3 dX11_ask_3 t_X11_within l_X11_112 (m_rr_of rfl) (rest := []) (c_X11_within h0 a1 0 2 G0) rfl rfl (Nat.le_of_ble_eq_true rfl) ⟨rfl, rfl⟩ (fun x1 h1 qx1 => ?_)
  obtain ⟨rfl, ⟨rfl, cx1⟩ | ⟨rfl, cx1⟩⟩ := qx1
  · refine z_if_eq_F (M := M_X11_ask) 6 dX11_ask_6 16 rfl (by omega) ?_
    refine z_aload_n (M := M_X11_ask) 9 dX11_ask_9 rfl ?_
    refine z_vI (M := M_X11_ask) 10 dX11_ask_10 t_X11_canBe l_X11_208 (m_rr_of rfl) (rest := []) (c_X11_canBe2 h0 G0 hR hN) o_0 rfl rfl rfl (Nat.le_of_ble_eq_true rfl) ⟨rfl, rfl⟩ (fun x2 h2 qx2 => ?_)
    obtain ⟨G2, S2, ax2, bx2, fx2⟩ := qx2
    have R2 := (FR.rf (cs := (csB ++ [39, 40, 41])) (ss := []) (h := h0)).call S2 (by decide +kernel)
    refine z_if_ne (M := M_X11_ask) 13 dX11_ask_13 18 rfl (fun c3 => ?_) (fun c3 => ?_)
    · refine z_iconst (M := M_X11_ask) 18 dX11_ask_18 ?_
      refine z_istore_n (M := M_X11_ask) 19 dX11_ask_19 (ls' := [some (mR 0), some (mI a1), some (mI (-1)), none, none, none]) (by decide) rfl ?_
      refine z_iconst (M := M_X11_ask) 20 dX11_ask_20 ?_
      refine z_istore_n (M := M_X11_ask) 21 dX11_ask_21 (ls' := [some (mR 0), some (mI a1), some (mI (-1)), some (mI 0), none, none]) (by decide) rfl ?_
      refine z_iconst (M := M_X11_ask) 22 dX11_ask_22 ?_
      refine z_istore (M := M_X11_ask) 23 dX11_ask_23 (ls' := [some (mR 0), some (mI a1), some (mI (-1)), some (mI 0), some (mI 0), none]) (by decide) rfl ?_
      exact z_mask [true, true, true, true, true, false] rfl (ih (-1) 0 0 h2 G2 R2 (by omega) (by omega) (by omega) (by omega) (by omega) (by omega) (by omega) (by omega) ⟨⟨h2, _, fx2.2 (by omega), fun _ _ _ => rfl⟩, fx2.1.mp (by omega), Or.inl ⟨rfl, rfl⟩⟩ (by omega))
    · refine z_iconst (M := M_X11_ask) 16 dX11_ask_16 ?_
      exact z_retI (M := M_X11_ask) 17 dX11_ask_17 rfl ⟨G2, R2, by omega, by omega, Or.inl ⟨fun z => absurd (fx2.1.mpr z.2) (by omega), rfl⟩⟩
  · refine z_if_eq_T (M := M_X11_ask) 6 dX11_ask_6 16 rfl (by omega) ?_
    refine z_iconst (M := M_X11_ask) 16 dX11_ask_16 ?_
    exact z_retI (M := M_X11_ask) 17 dX11_ask_17 rfl ⟨G0, (FR.rf (cs := (csB ++ [39, 40, 41])) (ss := []) (h := h0)), by omega, by omega, Or.inl ⟨fun z => cx1 z.1, rfl⟩⟩
abbrev P_X12_ask3 (h0 : m_H) (a1 : Int) : Int → m_H → Prop := fun x h' => GI h' ∧ FR [115, 116, 117, 118, 119, 120, 121, 122, 123, 124, 125, 126, 127, 128, 129, 130, 131, 132, 133, 134, 135, 136, 138] [(108, 0), (108, 21), (108, 44), (108, 45), (108, 46), (108, 47)] h0 h' ∧ aqQ (h0 110) a1 x
def q_X12_ask3 (h0 : m_H) (a1 : Int) (n : Nat) : Prop := (∀ (l2 l3 l4 : Int) (h : m_H), GI h → FR [115, 116, 117, 118, 119, 120, 121, 122, 123, 124, 125, 126, 127, 128, 129, 130, 131, 132, 133, 134, 135, 136, 138] [(108, 0), (108, 21), (108, 44), (108, 45), (108, 46), (108, 47)] h0 h → (-1) ≤ l2 → l2 ≤ 47 → (-1) ≤ l3 → l3 ≤ 2147483647 → 0 ≤ l4 → l4 ≤ 12 → 0 ≤ a1 → a1 ≤ 2 → (gG (bR (h0 110))) → (akB (h0 110) (4 * l4) l2 l3) → 13 * (12 - l4) + (12) ≤ (n : Int) → m_Z oF M_X12_ask 33 [some (mR 108), some (mI a1), some (mI l2), some (mI l3), some (mI l4), none, none] [] h (m_QI (P_X12_ask3 h0 a1))) ∧ (∀ (l2 l3 l4 l5 : Int) (h : m_H), GI h → FR [115, 116, 117, 118, 119, 120, 121, 122, 123, 124, 125, 126, 127, 128, 129, 130, 131, 132, 133, 134, 135, 136, 138] [(108, 0), (108, 21), (108, 44), (108, 45), (108, 46), (108, 47)] h0 h → (-1) ≤ l2 → l2 ≤ 47 → (-1) ≤ l3 → l3 ≤ 2147483647 → 0 ≤ l4 → l4 ≤ 11 → 0 ≤ l5 → l5 ≤ 4 → 0 ≤ a1 → a1 ≤ 2 → (gG (bR (h0 110))) → (akB (h0 110) (4 * l4 + l5) l2 l3) → 13 * (12 - l4) + 2 * (4 - l5) + (1) ≤ (n : Int) → m_Z oF M_X12_ask 43 [some (mR 108), some (mI a1), some (mI l2), some (mI l3), some (mI l4), some (mI l5), none] [] h (m_QI (P_X12_ask3 h0 a1)))
set_option maxHeartbeats 4000000 in
set_option maxRecDepth 100000 in
theorem s_X12_ask3_33 (h0 : m_H) (a1 : Int) (G0 : GI h0) (hN : NP h0) (n : Nat) (ih : q_X12_ask3 h0 a1 n) : ∀ (l2 l3 l4 : Int) (h : m_H), GI h → FR [115, 116, 117, 118, 119, 120, 121, 122, 123, 124, 125, 126, 127, 128, 129, 130, 131, 132, 133, 134, 135, 136, 138] [(108, 0), (108, 21), (108, 44), (108, 45), (108, 46), (108, 47)] h0 h → (-1) ≤ l2 → l2 ≤ 47 → (-1) ≤ l3 → l3 ≤ 2147483647 → 0 ≤ l4 → l4 ≤ 12 → 0 ≤ a1 → a1 ≤ 2 → (gG (bR (h0 110))) → (akB (h0 110) (4 * l4) l2 l3) → 13 * (12 - l4) + (12) ≤ ((n + 1 : Nat) : Int) → m_Z oF M_X12_ask 33 [some (mR 108), some (mI a1), some (mI l2), some (mI l3), some (mI l4), none, none] [] h (m_QI (P_X12_ask3 h0 a1)) := by
  intro l2 l3 l4 h G R v0 v1 v2 v3 v4 v5 v6 v7 i0 i1 hr
  have ng_ := gG_no (bR_ok G0 hN) i0
  refine z_iload (M := M_X12_ask) 33 dX12_ask_33 rfl ?_
  refine z_bipush (M := M_X12_ask) 35 dX12_ask_35 ?_
  refine z_icmp_ge (M := M_X12_ask) 37 dX12_ask_37 116 rfl (fun c1 => ?_) (fun c1 => ?_)
  · have p_ := akB_p i1 (by omega)
    refine z_iload_n (M := M_X12_ask) 116 dX12_ask_116 rfl ?_
    refine z_if_ne (M := M_X12_ask) 117 dX12_ask_117 126 rfl (fun c2 => ?_) (fun c2 => ?_)
    · refine z_iload_n (M := M_X12_ask) 126 dX12_ask_126 rfl ?_
      refine z_iconst (M := M_X12_ask) 127 dX12_ask_127 ?_
      refine z_icmp_ne (M := M_X12_ask) 128 dX12_ask_128 137 rfl (fun c3 => ?_) (fun c3 => ?_)
      · refine z_iload_n (M := M_X12_ask) 137 dX12_ask_137 rfl ?_
        exact z_retI (M := M_X12_ask) 138 dX12_ask_138 rfl ⟨G, R, Or.inr ⟨⟨⟨by omega, by omega⟩, ng_⟩, l2, l3, by have z := i1; rw [show 4 * l4 = 48 by omega] at z; exact z, Or.inr (Or.inr ⟨by omega, rfl⟩)⟩⟩
      · refine z_iload_n (M := M_X12_ask) 131 dX12_ask_131 rfl ?_
        refine z_iconst (M := M_X12_ask) 132 dX12_ask_132 ?_
        refine z_iremN (M := M_X12_ask) 133 dX12_ask_133 (by omega) (by omega) ?_
        refine z_goto (M := M_X12_ask) 134 dX12_ask_134 138 rfl ?_
        exact z_retI (M := M_X12_ask) 138 dX12_ask_138 rfl ⟨G, R, Or.inr ⟨⟨⟨by omega, by omega⟩, ng_⟩, l2, l3, by have z := i1; rw [show 4 * l4 = 48 by omega] at z; exact z, Or.inr (Or.inl ⟨by omega, rfl⟩)⟩⟩
    · refine z_iload_n (M := M_X12_ask) 120 dX12_ask_120 rfl ?_
      refine z_iconst (M := M_X12_ask) 121 dX12_ask_121 ?_
      refine z_idivN (M := M_X12_ask) 122 dX12_ask_122 (by omega) (by omega) ?_
      refine z_goto (M := M_X12_ask) 123 dX12_ask_123 138 rfl ?_
      exact z_retI (M := M_X12_ask) 138 dX12_ask_138 rfl ⟨G, R, Or.inr ⟨⟨⟨by omega, by omega⟩, ng_⟩, l2, l3, by have z := i1; rw [show 4 * l4 = 48 by omega] at z; exact z, Or.inl ⟨by omega, rfl⟩⟩⟩
  · refine z_iconst (M := M_X12_ask) 40 dX12_ask_40 ?_
    refine z_istore (M := M_X12_ask) 41 dX12_ask_41 (ls' := [some (mR 108), some (mI a1), some (mI l2), some (mI l3), some (mI l4), some (mI 0), none]) (by decide) rfl ?_
    exact z_mask [true, true, true, true, true, true, false] rfl (ih.2 l2 l3 l4 0 h G R (by omega) (by omega) (by omega) (by omega) (by omega) (by omega) (by omega) (by omega) (by omega) (by omega) i0 (by rw [show 4 * l4 + 0 = 4 * l4 by omega]; exact i1) (by omega))
set_option maxHeartbeats 4000000 in
set_option maxRecDepth 100000 in
theorem s_X12_ask3_43 (h0 : m_H) (a1 : Int) (G0 : GI h0) (hN : NP h0) (n : Nat) (ih : q_X12_ask3 h0 a1 n) : ∀ (l2 l3 l4 l5 : Int) (h : m_H), GI h → FR [115, 116, 117, 118, 119, 120, 121, 122, 123, 124, 125, 126, 127, 128, 129, 130, 131, 132, 133, 134, 135, 136, 138] [(108, 0), (108, 21), (108, 44), (108, 45), (108, 46), (108, 47)] h0 h → (-1) ≤ l2 → l2 ≤ 47 → (-1) ≤ l3 → l3 ≤ 2147483647 → 0 ≤ l4 → l4 ≤ 11 → 0 ≤ l5 → l5 ≤ 4 → 0 ≤ a1 → a1 ≤ 2 → (gG (bR (h0 110))) → (akB (h0 110) (4 * l4 + l5) l2 l3) → 13 * (12 - l4) + 2 * (4 - l5) + (1) ≤ ((n + 1 : Nat) : Int) → m_Z oF M_X12_ask 43 [some (mR 108), some (mI a1), some (mI l2), some (mI l3), some (mI l4), some (mI l5), none] [] h (m_QI (P_X12_ask3 h0 a1)) := by
  intro l2 l3 l4 l5 h G R v0 v1 v2 v3 v4 v5 v6 v7 v8 v9 i0 i1 hr
  have r_ : h 110 = h0 110 := FR.row R (fun _ => rfl)
  have E_ := bR_ok G0 hN
  refine z_iload (M := M_X12_ask) 43 dX12_ask_43 rfl ?_
  refine z_iconst (M := M_X12_ask) 45 dX12_ask_45 ?_
  refine z_icmp_ge (M := M_X12_ask) 46 dX12_ask_46 110 rfl (fun c1 => ?_) (fun c1 => ?_)
  · refine z_iincN (M := M_X12_ask) 110 dX12_ask_110 (ls' := [some (mR 108), some (mI a1), some (mI l2), some (mI l3), some (mI (l4 + 1)), some (mI l5), none]) (by decide) rfl (by (unfold m_32; decide)) (by omega) (by omega) rfl ?_
    refine z_goto (M := M_X12_ask) 113 dX12_ask_113 33 rfl ?_
    exact z_mask [true, true, true, true, true, false, false] rfl (ih.1 l2 l3 (l4 + 1) h G R (by omega) (by omega) (by omega) (by omega) (by omega) (by omega) (by omega) (by omega) i0 (by rw [show 4 * (l4 + 1) = 4 * l4 + l5 by omega]; exact i1) (by omega))
  · refine z_aload_n (M := M_X12_ask) 49 dX12_ask_49 rfl ?_
    refine z_iload (M := M_X12_ask) 50 dX12_ask_50 rfl ?_
    refine z_vI (M := M_X12_ask) 52 dX12_ask_52 t_X12_isLength l_X12_391 (m_rr_of rfl) (rest := []) (c_X12_isLength2 h l4 G) o_108 rfl rfl rfl (Nat.le_of_ble_eq_true rfl) ⟨rfl, rfl⟩ (fun x2 h1 qx2 => ?_)
    obtain ⟨G1, S1, ax2, bx2, fx2_0, fx2_1⟩ := qx2
    rw [r_] at fx2_1
    have R1 := R.call S1 (by decide +kernel)
    refine z_if_eq (M := M_X12_ask) 55 dX12_ask_55 110 rfl (fun c3 => ?_) (fun c3 => ?_)
    · refine z_iincN (M := M_X12_ask) 110 dX12_ask_110 (ls' := [some (mR 108), some (mI a1), some (mI l2), some (mI l3), some (mI (l4 + 1)), some (mI l5), none]) (by decide) rfl (by (unfold m_32; decide)) (by omega) (by omega) rfl ?_
      refine z_goto (M := M_X12_ask) 113 dX12_ask_113 33 rfl ?_
      exact z_mask [true, true, true, true, true, false, false] rfl (ih.1 l2 l3 (l4 + 1) h1 G1 R1 (by omega) (by omega) (by omega) (by omega) (by omega) (by omega) (by omega) (by omega) i0 (akB_k E_ (by omega) (fun z => absurd (fx2_1.mpr z) (by omega)) (by omega) (by omega) (by omega) i1) (by omega))
    · refine z_aload_n (M := M_X12_ask) 58 dX12_ask_58 rfl ?_
      refine z_iload (M := M_X12_ask) 59 dX12_ask_59 rfl ?_
      refine z_iload (M := M_X12_ask) 61 dX12_ask_61 rfl ?_
      refine z_vV (M := M_X12_ask) 63 dX12_ask_63 t_X12_findEnds l_X12_428 (m_rr_of rfl) (rest := []) (c_X12_findEnds4 h1 l4 l5 G1 ⟨by omega, by omega⟩ ⟨by omega, by omega⟩ (NP.call hN R1 (fun _ => rfl) (fun _ => rfl) (fun _ => rfl)) (gG_f i0 R1 (fun _ => rfl))) o_108 rfl rfl rfl (Nat.le_of_ble_eq_true rfl) ⟨rfl, rfl⟩ (fun h2 qx4 => ?_)
      obtain ⟨G2, S2, fx4_0, fx4_1, fx4_2⟩ := qx4
      unfold lP at fx4_1
      unfold hP at fx4_2
      rw [(FR.row R1 (fun _ => rfl) : h1 110 = h0 110)] at fx4_1 fx4_2
      obtain ⟨fo, la, nm_⟩ := nmI_ex (k := 1) fx4_1.1.1.1.1 fx4_2.1.1.1.1 fx4_2.1.1.1.2 ⟨by omega, by omega⟩
      have R2 := R1.call S2 (by decide +kernel)
      refine z_aload_n (M := M_X12_ask) 66 dX12_ask_66 rfl ?_
      refine z_iconst (M := M_X12_ask) 67 dX12_ask_67 ?_
      refine z_vI (M := M_X12_ask) 68 dX12_ask_68 t_X12_numbersOf l_X12_434 (m_rr_of rfl) (rest := []) (c_X12_numbersOf4 h2 1 fo la G2 ⟨by omega, by omega⟩ ⟨fx4_1.2, fx4_2.2⟩ nm_) o_108 rfl rfl rfl (Nat.le_of_ble_eq_true rfl) ⟨rfl, rfl⟩ (fun x5 h3 qx5 => ?_)
      obtain ⟨G3, S3, bx5, fx5⟩ := qx5
      have v_ : akV (h0 110) (4 * l4 + l5) x5 := by
        unfold akV
        rw [show (4 * l4 + l5) / 4 = l4 by omega, show (4 * l4 + l5) % 4 = l5 by omega]
        exact Or.inr ⟨fx2_1.mp (by omega), _, _, fo, la, ⟨fx4_1.1, fx4_2.1, nm_⟩, fx5⟩
      have R3 := R2.call S3 (by decide +kernel)
      refine z_ok (fun ox5 _ _ => ?_)
      have ox5 := ox5.1; unfold m_ok m_32 at ox5
      refine z_istore (M := M_X12_ask) 71 dX12_ask_71 (ls' := [some (mR 108), some (mI a1), some (mI l2), some (mI l3), some (mI l4), some (mI l5), some (mI x5)]) (by decide) rfl ?_
      refine z_iload (M := M_X12_ask) 73 dX12_ask_73 rfl ?_
      refine z_iload_n (M := M_X12_ask) 75 dX12_ask_75 rfl ?_
      refine z_icmp_le (M := M_X12_ask) 76 dX12_ask_76 89 rfl (fun c6 => ?_) (fun c6 => ?_)
      · refine z_iload_n (M := M_X12_ask) 89 dX12_ask_89 rfl ?_
        refine z_istore_n (M := M_X12_ask) 90 dX12_ask_90 (ls' := [some (mR 108), some (mI a1), some (mI l2), some (mI l3), some (mI l4), some (mI l5), some (mI x5)]) (by decide) rfl ?_
        refine z_iload (M := M_X12_ask) 91 dX12_ask_91 rfl ?_
        refine z_iload_n (M := M_X12_ask) 93 dX12_ask_93 rfl ?_
        refine z_icmp_le (M := M_X12_ask) 94 dX12_ask_94 102 rfl (fun c7 => ?_) (fun c7 => ?_)
        · refine z_iload_n (M := M_X12_ask) 102 dX12_ask_102 rfl ?_
          refine z_istore_n (M := M_X12_ask) 103 dX12_ask_103 (ls' := [some (mR 108), some (mI a1), some (mI l2), some (mI l3), some (mI l4), some (mI l5), some (mI x5)]) (by decide) rfl ?_
          refine z_iincN (M := M_X12_ask) 104 dX12_ask_104 (ls' := [some (mR 108), some (mI a1), some (mI l2), some (mI l3), some (mI l4), some (mI (l5 + 1)), some (mI x5)]) (by decide) rfl (by (unfold m_32; decide)) (by omega) (by omega) rfl ?_
          refine z_goto (M := M_X12_ask) 107 dX12_ask_107 43 rfl ?_
          exact z_mask [true, true, true, true, true, true, false] rfl (ih.2 l2 l3 l4 (l5 + 1) h3 G3 R3 (by omega) (by omega) (by omega) (by omega) (by omega) (by omega) (by omega) (by omega) (by omega) (by omega) i0 (by rw [show 4 * l4 + (l5 + 1) = 4 * l4 + l5 + 1 by omega]; exact akB_n E_ (by omega) i1 v_ (by omega)) (by omega))
        · refine z_iload (M := M_X12_ask) 97 dX12_ask_97 rfl ?_
          refine z_goto (M := M_X12_ask) 99 dX12_ask_99 103 rfl ?_
          refine z_istore_n (M := M_X12_ask) 103 dX12_ask_103 (ls' := [some (mR 108), some (mI a1), some (mI l2), some (mI x5), some (mI l4), some (mI l5), some (mI x5)]) (by decide) rfl ?_
          refine z_iincN (M := M_X12_ask) 104 dX12_ask_104 (ls' := [some (mR 108), some (mI a1), some (mI l2), some (mI x5), some (mI l4), some (mI (l5 + 1)), some (mI x5)]) (by decide) rfl (by (unfold m_32; decide)) (by omega) (by omega) rfl ?_
          refine z_goto (M := M_X12_ask) 107 dX12_ask_107 43 rfl ?_
          exact z_mask [true, true, true, true, true, true, false] rfl (ih.2 l2 x5 l4 (l5 + 1) h3 G3 R3 (by omega) (by omega) (by omega) (by omega) (by omega) (by omega) (by omega) (by omega) (by omega) (by omega) i0 (False.elim (by omega)) (by omega))
      · refine z_iconst (M := M_X12_ask) 79 dX12_ask_79 ?_
        refine z_iload (M := M_X12_ask) 80 dX12_ask_80 rfl ?_
        refine z_imulN (M := M_X12_ask) 82 dX12_ask_82 (by omega) (by omega) ?_
        refine z_iload (M := M_X12_ask) 83 dX12_ask_83 rfl ?_
        refine z_iaddN (M := M_X12_ask) 85 dX12_ask_85 (by omega) (by omega) ?_
        refine z_goto (M := M_X12_ask) 86 dX12_ask_86 90 rfl ?_
        refine z_istore_n (M := M_X12_ask) 90 dX12_ask_90 (ls' := [some (mR 108), some (mI a1), some (mI ((4 * l4) + l5)), some (mI l3), some (mI l4), some (mI l5), some (mI x5)]) (by decide) rfl ?_
        refine z_iload (M := M_X12_ask) 91 dX12_ask_91 rfl ?_
        refine z_iload_n (M := M_X12_ask) 93 dX12_ask_93 rfl ?_
        refine z_icmp_le (M := M_X12_ask) 94 dX12_ask_94 102 rfl (fun c8 => ?_) (fun c8 => ?_)
        · refine z_iload_n (M := M_X12_ask) 102 dX12_ask_102 rfl ?_
          refine z_istore_n (M := M_X12_ask) 103 dX12_ask_103 (ls' := [some (mR 108), some (mI a1), some (mI ((4 * l4) + l5)), some (mI l3), some (mI l4), some (mI l5), some (mI x5)]) (by decide) rfl ?_
          refine z_iincN (M := M_X12_ask) 104 dX12_ask_104 (ls' := [some (mR 108), some (mI a1), some (mI ((4 * l4) + l5)), some (mI l3), some (mI l4), some (mI (l5 + 1)), some (mI x5)]) (by decide) rfl (by (unfold m_32; decide)) (by omega) (by omega) rfl ?_
          refine z_goto (M := M_X12_ask) 107 dX12_ask_107 43 rfl ?_
          exact z_mask [true, true, true, true, true, true, false] rfl (ih.2 ((4 * l4) + l5) l3 l4 (l5 + 1) h3 G3 R3 (by omega) (by omega) (by omega) (by omega) (by omega) (by omega) (by omega) (by omega) (by omega) (by omega) i0 (False.elim (by omega)) (by omega))
        · refine z_iload (M := M_X12_ask) 97 dX12_ask_97 rfl ?_
          refine z_goto (M := M_X12_ask) 99 dX12_ask_99 103 rfl ?_
          refine z_istore_n (M := M_X12_ask) 103 dX12_ask_103 (ls' := [some (mR 108), some (mI a1), some (mI ((4 * l4) + l5)), some (mI x5), some (mI l4), some (mI l5), some (mI x5)]) (by decide) rfl ?_
          refine z_iincN (M := M_X12_ask) 104 dX12_ask_104 (ls' := [some (mR 108), some (mI a1), some (mI ((4 * l4) + l5)), some (mI x5), some (mI l4), some (mI (l5 + 1)), some (mI x5)]) (by decide) rfl (by (unfold m_32; decide)) (by omega) (by omega) rfl ?_
          refine z_goto (M := M_X12_ask) 107 dX12_ask_107 43 rfl ?_
          exact z_mask [true, true, true, true, true, true, false] rfl (ih.2 ((4 * l4) + l5) x5 l4 (l5 + 1) h3 G3 R3 (by omega) (by omega) (by omega) (by omega) (by omega) (by omega) (by omega) (by omega) (by omega) (by omega) i0 (by rw [show 4 * l4 + (l5 + 1) = 4 * l4 + l5 + 1 by omega]; exact akB_y E_ (by omega) i1 v_ (by omega)) (by omega))
theorem a_X12_ask3 (h0 : m_H) (a1 : Int) (G0 : GI h0) (hN : NP h0) : ∀ n, q_X12_ask3 h0 a1 n := by
  intro n
  induction n with
  | zero => unfold q_X12_ask3; refine ⟨?_, ?_⟩ <;> (intros; omega)
  | succ n ih => exact ⟨s_X12_ask3_33 h0 a1 G0 hN n ih, s_X12_ask3_43 h0 a1 G0 hN n ih⟩
set_option maxHeartbeats 4000000 in
set_option maxRecDepth 100000 in
theorem c_X12_ask3 (h0 : m_H) (a1 : Int) (G0 : GI h0) (hN : NP h0) : m_CI M_X12_ask [mR 108, mI a1] h0 (P_X12_ask3 h0 a1) := by
  refine m_CI_of ⟨by decide, rfl, by simp [m_arg, m_isL, M_X12_ask], ⟨rfl, rfl⟩, rfl, rfl⟩ (ls := [some (mR 108), some (mI a1), none, none, none, none, none]) rfl ?_
  have ih := a_X12_ask3 h0 a1 G0 hN 175
  refine z_ok (fun _ _ ok => ?_)
  have oa1 : m_32 a1 := ok 1 _ rfl
  unfold m_32 at oa1
  refine z_aload_n (M := M_X12_ask) 0 dX12_ask_0 rfl ?_
  refine z_iconst (M := M_X12_ask) 1 dX12_ask_1 ?_
  refine z_putIH (M := M_X12_ask) 2 dX12_ask_2 p_X12_133 o_108 rfl (u_108_0 G0) ((FR.rf (cs := [115, 116, 117, 118, 119, 120, 121, 122, 123, 124, 125, 126, 127, 128, 129, 130, 131, 132, 133, 134, 135, 136, 138]) (ss := [(108, 0), (108, 21), (108, 44), (108, 45), (108, 46), (108, 47)]) (h := h0)).up rfl) (fun h1 E1 G1 R1 => ?_)
  refine z_iload_n (M := M_X12_ask) 5 dX12_ask_5 rfl ?_
  refine z_i2l (M := M_X12_ask) 6 dX12_ask_6 ?_
  refine z_lconst (M := M_X12_ask) 7 dX12_ask_7 (v := 0) ?_
  refine z_ldc2 (M := M_X12_ask) 8 dX12_ask_8 k_X12_182 ?_
  refine z_sI (M := M_X12_ask) 11 dX12_ask_11 t_X12_in l_X12_143 (m_rr_of rfl) (rest := []) (c_X12_in h1 a1 0 2 G1) rfl rfl (Nat.le_of_ble_eq_true rfl) ⟨rfl, rfl⟩ (fun x1 h2 qx1 => ?_)
  obtain ⟨rfl, ⟨rfl, cx1⟩ | ⟨rfl, cx1⟩⟩ := qx1
  · refine z_if_eq_F (M := M_X12_ask) 14 dX12_ask_14 24 rfl (by omega) ?_
    refine z_aload_n (M := M_X12_ask) 17 dX12_ask_17 rfl ?_
    refine z_vI (M := M_X12_ask) 18 dX12_ask_18 t_X12_canBeNow l_X12_377 (m_rr_of rfl) (rest := []) (c_X12_canBeNow2 h1 G1 (NP.call hN R1 (fun _ => rfl) (fun _ => rfl) (fun _ => rfl))) o_108 rfl rfl rfl (Nat.le_of_ble_eq_true rfl) ⟨rfl, rfl⟩ (fun x2 h3 qx2 => ?_)
    obtain ⟨G3, S3, ax2, bx2, fx2_0, fx2_1⟩ := qx2
    rw [(FR.row R1 (fun _ => rfl) : h1 110 = h0 110)] at fx2_1
    have R3 := R1.call S3 (by decide +kernel)
    refine z_if_ne (M := M_X12_ask) 21 dX12_ask_21 26 rfl (fun c3 => ?_) (fun c3 => ?_)
    · have an := fx2_0 (by omega)
      refine z_iconst (M := M_X12_ask) 26 dX12_ask_26 ?_
      refine z_istore_n (M := M_X12_ask) 27 dX12_ask_27 (ls' := [some (mR 108), some (mI a1), some (mI (-1)), none, none, none, none]) (by decide) rfl ?_
      refine z_iconst (M := M_X12_ask) 28 dX12_ask_28 ?_
      refine z_istore_n (M := M_X12_ask) 29 dX12_ask_29 (ls' := [some (mR 108), some (mI a1), some (mI (-1)), some (mI (-1)), none, none, none]) (by decide) rfl ?_
      refine z_iconst (M := M_X12_ask) 30 dX12_ask_30 ?_
      refine z_istore (M := M_X12_ask) 31 dX12_ask_31 (ls' := [some (mR 108), some (mI a1), some (mI (-1)), some (mI (-1)), some (mI 0), none, none]) (by decide) rfl ?_
      exact z_mask [true, true, true, true, true, false, false] rfl (ih.1 (-1) (-1) 0 h3 G3 R3 (by omega) (by omega) (by omega) (by omega) (by omega) (by omega) (by omega) (by omega) (gG_b an R1 (fun _ => rfl)) (Or.inl ⟨rfl, rfl⟩) (by omega))
    · refine z_iconst (M := M_X12_ask) 24 dX12_ask_24 ?_
      exact z_retI (M := M_X12_ask) 25 dX12_ask_25 rfl ⟨G3, R3, Or.inl ⟨fun z => absurd (fx2_1 (by omega)) z.2, rfl⟩⟩
  · refine z_if_eq_T (M := M_X12_ask) 14 dX12_ask_14 24 rfl (by omega) ?_
    refine z_iconst (M := M_X12_ask) 24 dX12_ask_24 ?_
    exact z_retI (M := M_X12_ask) 25 dX12_ask_25 rfl ⟨G1, R1, Or.inl ⟨fun z => cx1 z.1, rfl⟩⟩
/-! Integer.bitCount of 32 bits -/
theorem land_split {i a b c d : Nat} (hb : b < 2 ^ i) (hd : d < 2 ^ i) : (2 ^ i * a + b) &&& (2 ^ i * c + d) = 2 ^ i * (a &&& c) + (b &&& d) := by
  apply Nat.eq_of_testBit_eq
  intro j
  have hbd : b &&& d < 2 ^ i := Nat.lt_of_le_of_lt Nat.and_le_left hb
  rw [Nat.testBit_and, Nat.testBit_two_pow_mul_add a hb j, Nat.testBit_two_pow_mul_add c hd j, Nat.testBit_two_pow_mul_add (a &&& c) hbd j]
  by_cases g : j < i
  · rw [if_pos g, if_pos g, if_pos g, Nat.testBit_and]
  · rw [if_neg g, if_neg g, if_neg g, Nat.testBit_and]
def A16 (x : Nat) : Nat := x - ((x >>> 1) &&& 21845)
def B16 (a : Nat) : Nat := (a &&& 13107) + ((a >>> 2) &&& 13107)
def C16 (b : Nat) : Nat := (b + (b >>> 4)) &&& 3855
def ck16 (h l : Nat) : Bool :=
  let x := 256 * h + l
  let a := A16 x
  let b := B16 a
  Nat.ble ((x >>> 1) &&& 21845) x && (Nat.ble a 65535 && (Nat.ble b 17476 && (Nat.ble (b % 16) 4 && Nat.beq (C16 b) (256 * T8 h + T8 l))))
theorem ck_all : bAll 256 (fun h => bAll 256 (fun l => ck16 h l)) = true := by decide +kernel
theorem ck_of {x : Nat} (hx : x < 65536) : (x >>> 1) &&& 21845 ≤ x ∧ A16 x ≤ 65535 ∧ B16 (A16 x) ≤ 17476 ∧ B16 (A16 x) % 16 ≤ 4 ∧ C16 (B16 (A16 x)) = 256 * T8 (x / 256) + T8 (x % 256) := by
  have z := bAll_s (bAll_s ck_all (x / 256) (by omega)) (x % 256) (by omega)
  unfold ck16 at z
  simp only [show 256 * (x / 256) + x % 256 = x by omega, Bool.and_eq_true] at z
  exact ⟨Nat.le_of_ble_eq_true z.1, Nat.le_of_ble_eq_true z.2.1, Nat.le_of_ble_eq_true z.2.2.1, Nat.le_of_ble_eq_true z.2.2.2.1, Nat.eq_of_beq_eq_true z.2.2.2.2⟩
theorem T8_le {l : Nat} : T8 l ≤ 8 := by unfold T8; omega
theorem swA {H L : Nat} (hL : L < 65536) : ((65536 * H + L) >>> 1) &&& 1431655765 = 65536 * ((H >>> 1) &&& 21845) + ((L >>> 1) &&& 21845) := by
  simp only [Nat.shiftRight_eq_div_pow]
  have e1 : (65536 * H + L) / 2 ^ 1 = 2 ^ 16 * (H / 2 ^ 1) + (2 ^ 15 * (H % 2) + L / 2 ^ 1) := by omega
  have e2 : (1431655765 : Nat) = 2 ^ 16 * 21845 + 21845 := by decide
  rw [e1, e2, land_split (by omega) (by decide)]
  have e3 : (21845 : Nat) = 2 ^ 15 * 0 + 21845 := by decide
  have k : (2 ^ 15 * (H % 2) + L / 2 ^ 1) &&& 21845 = (L / 2 ^ 1) &&& 21845 := by
    conv => lhs; rw [e3]
    rw [land_split (by omega) (by decide), Nat.and_zero]; omega
  rw [k]
theorem sB {a b : Nat} (hb : b < 65536) : (65536 * a + b) &&& 858993459 = 65536 * (a &&& 13107) + (b &&& 13107) := by
  have e2 : (858993459 : Nat) = 2 ^ 16 * 13107 + 13107 := by decide
  rw [e2]
  exact land_split (i := 16) hb (by decide)
theorem sB2 {a b : Nat} (hb : b < 65536) : ((65536 * a + b) >>> 2) &&& 858993459 = 65536 * ((a >>> 2) &&& 13107) + ((b >>> 2) &&& 13107) := by
  simp only [Nat.shiftRight_eq_div_pow]
  have e1 : (65536 * a + b) / 2 ^ 2 = 65536 * (a / 2 ^ 2) + (2 ^ 14 * (a % 4) + b / 2 ^ 2) := by omega
  rw [e1, sB (by omega)]
  have e3 : (13107 : Nat) = 2 ^ 14 * 0 + 13107 := by decide
  have k : (2 ^ 14 * (a % 4) + b / 2 ^ 2) &&& 13107 = (b / 2 ^ 2) &&& 13107 := by
    conv => lhs; rw [e3]
    rw [land_split (by omega) (by decide), Nat.and_zero]; omega
  rw [k]
theorem sC {p q : Nat} (hp : p % 16 ≤ 4) (hq : q ≤ 17476) : ((65536 * p + q) + ((65536 * p + q) >>> 4)) &&& 252645135 = 65536 * C16 p + C16 q := by
  unfold C16
  simp only [Nat.shiftRight_eq_div_pow]
  have e1 : (65536 * p + q) + (65536 * p + q) / 2 ^ 4 = 2 ^ 16 * (p + p / 2 ^ 4) + (2 ^ 12 * (p % 16) + (q + q / 2 ^ 4)) := by omega
  have e2 : (252645135 : Nat) = 2 ^ 16 * 3855 + 3855 := by decide
  rw [e1, e2, land_split (by omega) (by decide)]
  have e3 : (3855 : Nat) = 2 ^ 12 * 0 + 3855 := by decide
  have e4 : 2 ^ 12 * (p % 16) + (q + q / 2 ^ 4) = 2 ^ 12 * (p % 16 + (q + q / 2 ^ 4) / 2 ^ 12) + (q + q / 2 ^ 4) % 2 ^ 12 := by omega
  have e5 : q + q / 2 ^ 4 = 2 ^ 12 * ((q + q / 2 ^ 4) / 2 ^ 12) + (q + q / 2 ^ 4) % 2 ^ 12 := by omega
  have m : (q + q / 2 ^ 4) % 2 ^ 12 < 2 ^ 12 := Nat.mod_lt _ (by decide)
  have k : (2 ^ 12 * (p % 16) + (q + q / 2 ^ 4)) &&& 3855 = (q + q / 2 ^ 4) &&& 3855 := by
    rw [e4]
    conv => rhs; rw [e5]
    generalize (q + q / 2 ^ 4) % 2 ^ 12 = v at m
    generalize (q + q / 2 ^ 4) / 2 ^ 12 = u
    conv => lhs; rw [e3]
    conv => rhs; rw [e3]
    rw [land_split m (by decide), land_split m (by decide), Nat.and_zero, Nat.and_zero]
  rw [k]
theorem bc32 {n : Nat} (hn : n < 4294967296) : bcN n = T8 (n / 16777216) + T8 (n / 65536 % 256) + T8 (n / 256 % 256) + T8 (n % 256) := by
  have e : n = 65536 * (n / 65536) + n % 65536 := by omega
  obtain ⟨h1, h2, h3, h4, h5⟩ := ck_of (x := n / 65536) (by omega)
  obtain ⟨l1, l2, l3, l4, l5⟩ := ck_of (x := n % 65536) (by omega)
  have a1 : n - ((n >>> 1) &&& 1431655765) = 65536 * A16 (n / 65536) + A16 (n % 65536) := by
    have s := swA (H := n / 65536) (L := n % 65536) (by omega)
    rw [← e] at s
    rw [s]
    unfold A16
    omega
  have b1 : ((n - ((n >>> 1) &&& 1431655765)) &&& 858993459) + (((n - ((n >>> 1) &&& 1431655765)) >>> 2) &&& 858993459) = 65536 * B16 (A16 (n / 65536)) + B16 (A16 (n % 65536)) := by
    rw [a1, sB (by omega), sB2 (by omega)]
    unfold B16
    omega
  have c1 := sC h4 l3
  rw [← b1] at c1
  unfold bcN
  simp only [c1, h5, l5]
  rw [show n / 65536 / 256 = n / 16777216 by omega, show n % 65536 / 256 = n / 256 % 256 by omega, show n % 65536 % 256 = n % 256 by omega]
  clear c1 b1 a1 h1 h2 h3 h4 h5 l1 l2 l3 l4 l5
  have t3 := T8_le (l := n / 16777216)
  have t2 := T8_le (l := n / 65536 % 256)
  have t1 := T8_le (l := n / 256 % 256)
  have t0 := T8_le (l := n % 256)
  generalize T8 (n / 16777216) = u3 at t3 ⊢
  generalize T8 (n / 65536 % 256) = u2 at t2 ⊢
  generalize T8 (n / 256 % 256) = u1 at t1 ⊢
  generalize T8 (n % 256) = u0 at t0 ⊢
  rw [show (63 : Nat) = 2 ^ 6 - 1 by decide, Nat.and_two_pow_sub_one_eq_mod]
  simp only [Nat.shiftRight_eq_div_pow]
  have d1 : (65536 * (256 * u3 + u2) + (256 * u1 + u0)) / 2 ^ 8 = 65536 * u3 + 256 * u2 + u1 := by omega
  rw [d1]
  have d2 : (65536 * (256 * u3 + u2) + (256 * u1 + u0) + (65536 * u3 + 256 * u2 + u1)) / 2 ^ 16 = 256 * u3 + u2 + u3 := by omega
  rw [d2]
  omega
/-- the bits as a number from nought -/
def bU (c : Int) : Nat := (Int32.ofInt c).toBitVec.toNat
theorem bU_lt (c : Int) : bU c < 4294967296 := (Int32.ofInt c).toBitVec.isLt
theorem bU_e (c : Int) : ((bU c : Nat) : Int) = c % 4294967296 := by
  unfold bU
  show (((BitVec.ofInt 32 c).toNat : Nat) : Int) = _
  rw [BitVec.toNat_ofInt]
  have := Int.emod_nonneg c (show (4294967296 : Int) ≠ 0 by decide)
  omega
theorem bt_U {c : Int} {p : Nat} : bt c p = decide (bU c / 2 ^ p % 2 = 1) := by
  unfold bt bU
  show (Int32.ofInt c).toBitVec.toNat.testBit p = _
  rw [Nat.testBit_eq_decide_div_mod_eq]
theorem m_and_u {c : Int} {b : Nat} (hb : b < 2147483648) : m_and c (b : Int) = ((bU c &&& b : Nat) : Int) := by
  unfold m_and bU
  show ((Int32.ofInt c &&& Int32.ofInt (b : Int)).toBitVec).toInt = _
  rw [Int32.toBitVec_and, nb]
  refine nbi ?_ (Nat.lt_of_le_of_lt Nat.and_le_right hb)
  rw [BitVec.toNat_and, BitVec.toNat_ofNat, Nat.mod_eq_of_lt (show b < 2 ^ 32 by omega)]
theorem m_ushr_u {c : Int} {k : Nat} (hk : k < 32) (h1 : 1 ≤ k) : m_ushr c (k : Int) = ((bU c >>> k : Nat) : Int) := by
  unfold m_ushr
  show (((Int32.ofInt c).toUInt32 >>> ((Int32.ofInt (k : Int)).toUInt32 &&& Int32.toUInt32 31)).toBitVec).toInt = _
  have hs : bU c >>> k < 2147483648 := by
    rw [Nat.shiftRight_eq_div_pow]
    have u := bU_lt c
    have p : 2 ^ 1 ≤ 2 ^ k := Nat.pow_le_pow_right (by decide) h1
    exact Nat.lt_of_le_of_lt (Nat.div_le_div_left p (by decide)) (by omega)
  refine nbi ?_ hs
  rw [UInt32.toBitVec_shiftRight, us_am ⟨k, hk⟩]
  show ((Int32.ofInt c).toBitVec >>> (BitVec.ofNat 32 k % 32#32)).toNat = _
  rw [us_mod ⟨k, hk⟩, BitVec.ushiftRight_eq', BitVec.toNat_ushiftRight, BitVec.toNat_ofNat, Nat.mod_eq_of_lt (show k < 2 ^ 32 by omega)]
  rfl
theorem bc_run32 {c : Int} {x1 x2 x3 x4 x5 x6 x7 x8 x9 x10 x11 x12 x13 x14 x15 : Int} (e1 : m_ushr c 1 = x1) (e2 : m_and x1 1431655765 = x2) (e3 : m_w (c - x2) = x3) (e4 : m_and x3 858993459 = x4) (e5 : m_ushr x3 2 = x5) (e6 : m_and x5 858993459 = x6) (e7 : m_w (x4 + x6) = x7) (e8 : m_ushr x7 4 = x8) (e9 : m_w (x7 + x8) = x9) (e10 : m_and x9 252645135 = x10) (e11 : m_ushr x10 8 = x11) (e12 : m_w (x10 + x11) = x12) (e13 : m_ushr x12 16 = x13) (e14 : m_w (x12 + x13) = x14) (e15 : m_and x14 63 = x15) : x15 = (bcN (bU c) : Int) := by
  have hn := bU_lt c
  have he := bU_e c
  generalize hN : bU c = n at hn he
  have f1 : x1 = ((n >>> 1 : Nat) : Int) := by rw [← e1, ← hN]; exact m_ushr_u (k := 1) (by decide) (by decide)
  have b1 : n >>> 1 < 2147483648 := by rw [Nat.shiftRight_eq_div_pow]; omega
  have f2 : x2 = (((n >>> 1) &&& 1431655765 : Nat) : Int) := by rw [← e2, f1]; exact m_and_n (b := 1431655765) b1 (by decide)
  have b2 : (n >>> 1) &&& 1431655765 ≤ n >>> 1 := Nat.and_le_left
  have b3 : n >>> 1 ≤ n := by rw [Nat.shiftRight_eq_div_pow]; exact Nat.div_le_self _ _
  generalize hA : n - ((n >>> 1) &&& 1431655765) = A
  have f3 : bU x3 = A := by
    have z := bU_e x3
    have w : x3 % 4294967296 = (c - x2) % 4294967296 := by rw [← e3]; exact Int.bmod_emod
    rw [w, f2] at z
    omega
  have f4 : x4 = ((A &&& 858993459 : Nat) : Int) := by rw [← e4, ← f3]; exact m_and_u (b := 858993459) (by decide)
  have f5 : x5 = ((A >>> 2 : Nat) : Int) := by rw [← e5, ← f3]; exact m_ushr_u (k := 2) (by decide) (by decide)
  have b5 : A >>> 2 < 2147483648 := by rw [Nat.shiftRight_eq_div_pow]; omega
  have f6 : x6 = (((A >>> 2) &&& 858993459 : Nat) : Int) := by rw [← e6, f5]; exact m_and_n (b := 858993459) b5 (by decide)
  have b4 : A &&& 858993459 ≤ 858993459 := Nat.and_le_right
  have b6 : (A >>> 2) &&& 858993459 ≤ 858993459 := Nat.and_le_right
  generalize hB : (A &&& 858993459) + ((A >>> 2) &&& 858993459) = B
  have f7 : x7 = (B : Int) := by rw [← e7, m_w_id (by omega) (by omega)]; omega
  have f8 : x8 = ((B >>> 4 : Nat) : Int) := by rw [← e8, f7]; exact m_ushr_n (k := 4) (by omega) (by decide)
  have b8 : B >>> 4 ≤ 107374182 := by rw [Nat.shiftRight_eq_div_pow]; omega
  have f9 : x9 = ((B + (B >>> 4) : Nat) : Int) := by rw [← e9, m_w_id (by omega) (by omega)]; omega
  have b10 : (B + (B >>> 4)) &&& 252645135 ≤ 252645135 := Nat.and_le_right
  generalize hC : (B + (B >>> 4)) &&& 252645135 = C at b10
  have f10 : x10 = (C : Int) := by rw [← e10, f9, ← hC]; exact m_and_n (b := 252645135) (by omega) (by decide)
  have f11 : x11 = ((C >>> 8 : Nat) : Int) := by rw [← e11, f10]; exact m_ushr_n (k := 8) (by omega) (by decide)
  have b11 : C >>> 8 ≤ C := by rw [Nat.shiftRight_eq_div_pow]; exact Nat.div_le_self _ _
  generalize hD : C + (C >>> 8) = D
  have f12 : x12 = (D : Int) := by rw [← e12, m_w_id (by omega) (by omega)]; omega
  have f13 : x13 = ((D >>> 16 : Nat) : Int) := by rw [← e13, f12]; exact m_ushr_n (k := 16) (by omega) (by decide)
  have b13 : D >>> 16 ≤ D := by rw [Nat.shiftRight_eq_div_pow]; exact Nat.div_le_self _ _
  have f14 : x14 = ((D + (D >>> 16) : Nat) : Int) := by rw [← e14, m_w_id (by omega) (by omega)]; omega
  have f15 : x15 = (((D + (D >>> 16)) &&& 63 : Nat) : Int) := by rw [← e15, f14]; exact m_and_n (b := 63) (by omega) (by decide)
  rw [f15]
  unfold bcN
  simp only [hA, hB, hC, hD]
/-- how many of the first bits are set -/
def nB (c : Int) : Nat → Nat
  | 0 => 0
  | k + 1 => nB c k + (if bt c k = true then 1 else 0)
theorem nB_s {c : Int} {k : Nat} : nB c (k + 1) = nB c k + bU c / 2 ^ k % 2 := by
  show nB c k + (if bt c k = true then 1 else 0) = _
  rw [bt_U]
  have m := Nat.mod_two_eq_zero_or_one (bU c / 2 ^ k)
  rcases m with z | z
  · rw [z]; rfl
  · rw [z]; rfl
theorem nB_32 (c : Int) : nB c 32 = bcN (bU c) := by
  have u := bU_lt c
  rw [bc32 u]
  have e0 : nB c 8 = T8 (bU c % 256) := by
    simp only [nB_s]
    show 0 + _ + _ + _ + _ + _ + _ + _ + _ = _
    unfold T8
    omega
  have e1 : nB c 16 = nB c 8 + T8 (bU c / 256 % 256) := by
    rw [nB_s, nB_s, nB_s, nB_s, nB_s, nB_s, nB_s, nB_s]
    unfold T8
    omega
  have e2 : nB c 24 = nB c 16 + T8 (bU c / 65536 % 256) := by
    rw [nB_s, nB_s, nB_s, nB_s, nB_s, nB_s, nB_s, nB_s]
    unfold T8
    omega
  have e3 : nB c 32 = nB c 24 + T8 (bU c / 16777216) := by
    rw [nB_s, nB_s, nB_s, nB_s, nB_s, nB_s, nB_s, nB_s]
    unfold T8
    omega
  omega
/-! weeks (or ways) that are so: how many, the first, the last -/
noncomputable def vwN (P : Nat → Prop) : Nat → Int
  | 0 => 0
  | n + 1 => vwN P n + cif (P n) 1 0
noncomputable def vwL (P : Nat → Prop) : Nat → Int
  | 0 => -1
  | n + 1 => cif (vwL P n = -1 ∧ P n) (n : Int) (vwL P n)
noncomputable def vwH (P : Nat → Prop) : Nat → Int
  | 0 => -1
  | n + 1 => cif (P n) (n : Int) (vwH P n)
noncomputable def vwF (P : Nat → Prop) (w : Int) : Int := if w = 0 then vwN P 32 else if w = 1 then vwL P 32 else vwH P 32
theorem vwN_y {P : Nat → Prop} {n : Nat} (c : P n) : vwN P (n + 1) = vwN P n + 1 := by
  show vwN P n + cif (P n) 1 0 = _
  rw [cif_pos c]
theorem vwN_n {P : Nat → Prop} {n : Nat} (c : ¬ P n) : vwN P (n + 1) = vwN P n := by
  show vwN P n + cif (P n) 1 0 = _
  rw [cif_neg c, Int.add_zero]
theorem vwL_y {P : Nat → Prop} {n : Nat} (c : P n) (e : vwL P n = -1) : vwL P (n + 1) = (n : Int) := cif_pos ⟨e, c⟩
theorem vwL_k {P : Nat → Prop} {n : Nat} (e : vwL P n ≠ -1) : vwL P (n + 1) = vwL P n := cif_neg (fun z => e z.1)
theorem vwL_n {P : Nat → Prop} {n : Nat} (c : ¬ P n) : vwL P (n + 1) = vwL P n := cif_neg (fun z => c z.2)
theorem vwH_y {P : Nat → Prop} {n : Nat} (c : P n) : vwH P (n + 1) = (n : Int) := cif_pos c
theorem vwH_n {P : Nat → Prop} {n : Nat} (c : ¬ P n) : vwH P (n + 1) = vwH P n := cif_neg c
theorem vwN_b {P : Nat → Prop} : ∀ n : Nat, 0 ≤ vwN P n ∧ vwN P n ≤ (n : Int)
  | 0 => ⟨Int.le_refl _, Int.le_refl _⟩
  | n + 1 => by
    have i := vwN_b (P := P) n
    by_cases c : P n
    · rw [vwN_y c]; omega
    · rw [vwN_n c]; omega
theorem vw_cg {P Q : Nat → Prop} : ∀ m : Nat, (∀ n, n < m → (P n ↔ Q n)) → vwN P m = vwN Q m ∧ vwL P m = vwL Q m ∧ vwH P m = vwH Q m
  | 0, _ => ⟨rfl, rfl, rfl⟩
  | m + 1, h => by
    obtain ⟨i1, i2, i3⟩ := vw_cg m (fun n hn => h n (by omega))
    have e := h m (by omega)
    by_cases c : P m
    · have c' := e.mp c
      refine ⟨by rw [vwN_y c, vwN_y c', i1], ?_, by rw [vwH_y c, vwH_y c']⟩
      by_cases z : vwL P m = -1
      · rw [vwL_y c z, vwL_y c' (i2.symm.trans z)]
      · rw [vwL_k z, vwL_k (fun y => z (i2.trans y)), i2]
    · have c' : ¬ Q m := fun z => c (e.mpr z)
      exact ⟨by rw [vwN_n c, vwN_n c', i1], by rw [vwL_n c, vwL_n c', i2], by rw [vwH_n c, vwH_n c', i3]⟩
theorem vwL_f {P : Nat → Prop} {n : Nat} (c : P n) (e : vwL P n = -1) : ∀ m : Nat, vwL P (n + 1 + m) = (n : Int)
  | 0 => vwL_y c e
  | m + 1 => by
    have i := vwL_f c e m
    have k : vwL P (n + 1 + m + 1) = vwL P (n + 1 + m) := vwL_k (by rw [i]; omega)
    exact k.trans i
theorem vwLH {P : Nat → Prop} : ∀ n : Nat, vwL P n = -1 ↔ vwH P n = -1
  | 0 => Iff.rfl
  | n + 1 => by
    have i := vwLH (P := P) n
    by_cases c : P n
    · rw [vwH_y c]
      by_cases z : vwL P n = -1
      · rw [vwL_y c z]
      · rw [vwL_k z]; exact ⟨fun y => absurd y z, fun y => by omega⟩
    · rw [vwL_n c, vwH_n c]; exact i
/-- the three together -/
def vw3 (P : Nat → Prop) (l a b c : Int) : Prop := a = vwN P l.toNat ∧ b = vwL P l.toNat ∧ c = vwH P l.toNat
theorem vw3_n {P : Nat → Prop} {l a b c : Int} (h0 : 0 ≤ l) (I : vw3 P l a b c) (n : ¬ P l.toNat) : vw3 P (l + 1) a b c := by
  obtain ⟨i1, i2, i3⟩ := I
  unfold vw3
  rw [show (l + 1).toNat = l.toNat + 1 by omega, vwN_n n, vwL_n n, vwH_n n]
  exact ⟨i1, i2, i3⟩
theorem vw3_l {P : Nat → Prop} {l a b c : Int} (h0 : 0 ≤ l) (I : vw3 P l a b c) (y : P l.toNat) (e : b = -1) : vw3 P (l + 1) (a + 1) l l := by
  obtain ⟨i1, i2, i3⟩ := I
  unfold vw3
  rw [show (l + 1).toNat = l.toNat + 1 by omega, vwN_y y, vwL_y y (i2.symm.trans e), vwH_y y]
  exact ⟨by omega, by omega, by omega⟩
theorem vw3_k {P : Nat → Prop} {l a b c : Int} (h0 : 0 ≤ l) (I : vw3 P l a b c) (y : P l.toNat) (e : b ≠ -1) : vw3 P (l + 1) (a + 1) b l := by
  obtain ⟨i1, i2, i3⟩ := I
  unfold vw3
  rw [show (l + 1).toNat = l.toNat + 1 by omega, vwN_y y, vwL_k (fun z => e (i2.trans z)), vwH_y y]
  exact ⟨by omega, i2, by omega⟩
theorem vw3_b {P : Nat → Prop} {l a b c : Int} (h0 : 0 ≤ l) (I : vw3 P l a b c) : 0 ≤ a ∧ a ≤ l := by
  have z := vwN_b (P := P) l.toNat
  rw [← I.1] at z
  omega
theorem vw3_0 {P : Nat → Prop} : vw3 P 0 0 (-1) (-1) := ⟨rfl, rfl, rfl⟩
theorem vw3_e {P : Nat → Prop} {l a b c w x : Int} (I : vw3 P l a b c) (hl : l = 32) (h : (w = 0 ∧ x = a) ∨ (w = 1 ∧ x = b) ∨ (w ≠ 0 ∧ w ≠ 1 ∧ x = c)) : x = vwF P w := by
  subst hl
  obtain ⟨i1, i2, i3⟩ := I
  have i1' : a = vwN P 32 := i1
  have i2' : b = vwL P 32 := i2
  have i3' : c = vwH P 32 := i3
  unfold vwF
  rcases h with ⟨h1, h2⟩ | ⟨h1, h2⟩ | ⟨h1, h2, h3⟩
  · rw [if_pos h1, h2, i1']
  · rw [if_neg (by omega), if_pos h1, h2, i2']
  · rw [if_neg h1, if_neg h2, h3, i3']
/-! as bits -/
def vBt (c : Int) (k : Nat) : Prop := bt c k = true
theorem vwN_nB (c : Int) : ∀ n : Nat, vwN (vBt c) n = ((nB c n : Nat) : Int)
  | 0 => rfl
  | n + 1 => by
    have i := vwN_nB c n
    show _ = ((nB c n + (if bt c n = true then 1 else 0) : Nat) : Int)
    by_cases z : bt c n = true
    · rw [vwN_y (show vBt c n from z), i, if_pos z]; omega
    · rw [vwN_n (show ¬ vBt c n from z), i, if_neg z]; omega
def bsI (P : Nat → Prop) (c l : Int) : Prop := ∀ j : Nat, j < 32 → (bt c j = true ↔ ((j : Int) < l ∧ P j))
theorem bsI_0 {P : Nat → Prop} {l : Int} (h : ∀ j : Nat, (j : Int) < l → ¬ P j) : bsI P 0 l := fun j hj => ⟨fun z => absurd ((bt_00 ⟨j, hj⟩).symm.trans z) (by decide), fun z => absurd z.2 (h j z.1)⟩
theorem bsI_n {P : Nat → Prop} {c l : Int} (I : bsI P c l) (h0 : 0 ≤ l) (n : ¬ P l.toNat) : bsI P c (l + 1) := fun j hj => (I j hj).trans ⟨fun z => ⟨by omega, z.2⟩, fun z => ⟨by
    by_cases g : j = l.toNat
    · exact absurd (g ▸ z.2) n
    · have := z.1; omega, z.2⟩⟩
theorem bsI_y {P : Nat → Prop} {c l x x' : Int} (I : bsI P c l) (h0 : 0 ≤ l) (h1 : l ≤ 31) (y : P l.toNat) (e1 : m_shl 1 l = x) (e2 : m_or c x = x') : bsI P x' (l + 1) := fun j hj => by
  have b := bt_or (c := c) (e := l.toNat) (j := j) (by omega) hj
  rw [show ((l.toNat : Nat) : Int) = l by omega, e1, e2] at b
  rw [b, Bool.or_eq_true, I j hj, decide_eq_true_iff]
  constructor
  · rintro (⟨z1, z2⟩ | z)
    · exact ⟨by omega, z2⟩
    · subst z; exact ⟨by omega, y⟩
  · rintro ⟨z1, z2⟩
    by_cases g : j = l.toNat
    · exact Or.inr g
    · exact Or.inl ⟨by omega, z2⟩
theorem bsI_F {P : Nat → Prop} {c l : Int} (I : bsI P c l) (hl : l = 32) (w : Int) : vwF (vBt c) w = vwF P w := by
  obtain ⟨e1, e2, e3⟩ := vw_cg (P := vBt c) (Q := P) 32 (fun n hn => (I n hn).trans ⟨fun z => z.2, fun z => ⟨by omega, z⟩⟩)
  unfold vwF
  rw [e1, e2, e3]
theorem ofw_b {c l : Int} (h0 : 0 ≤ l) (h1 : l ≤ 31) : m_and (m_shr c l) 1 = 1 ↔ vBt c l.toNat := by
  have z := hasBit_iff (c := c) (e := l.toNat) (by omega)
  rw [show ((l.toNat : Nat) : Int) = l by omega] at z
  exact z
theorem ofw_y {c l : Int} (h0 : 0 ≤ l) (h1 : l ≤ 31) (cx : m_and (m_shr c l) 1 = 1) : l = vwH (vBt c) (l + 1).toNat := by
  rw [show (l + 1).toNat = l.toNat + 1 by omega, vwH_y ((ofw_b h0 h1).mp cx)]; omega
theorem ofw_n {c l y : Int} (h0 : 0 ≤ l) (h1 : l ≤ 31) (cx : ¬ m_and (m_shr c l) 1 = 1) (e : y = vwH (vBt c) l.toNat) : y = vwH (vBt c) (l + 1).toNat := by
  rw [show (l + 1).toNat = l.toNat + 1 by omega, vwH_n (fun z => cx ((ofw_b h0 h1).mpr z))]; exact e
theorem ofw_e {c a l y : Int} (hl : l = 32) (a0 : a ≠ 0) (e : y = vwH (vBt c) l.toNat) (q : a = 1 → y = -1) : y = vwF (vBt c) a := by
  subst hl
  have e' : y = vwH (vBt c) 32 := e
  unfold vwF
  rw [if_neg a0]
  by_cases z : a = 1
  · rw [if_pos z, q z]
    exact ((vwLH (P := vBt c) 32).mpr (e'.symm.trans (q z))).symm
  · rw [if_neg z]; exact e'
theorem ofw_f {c a l y : Int} (h0 : 0 ≤ l) (h1 : l ≤ 31) (a1 : a = 1) (cx : m_and (m_shr c l) 1 = 1) (e : y = vwH (vBt c) l.toNat) (q : y = -1) : l = vwF (vBt c) a := by
  subst a1
  unfold vwF
  rw [if_neg (by decide), if_pos rfl]
  have z := vwL_f ((ofw_b h0 h1).mp cx) ((vwLH _).mpr (e.symm.trans q)) (31 - l.toNat)
  rw [show l.toNat + 1 + (31 - l.toNat) = 32 by omega] at z
  rw [z]; omega
theorem ofw_0 {c a x : Int} (c1 : a = 0) (f : ((bcN (bU c) : Nat) : Int) = x) : x = vwF (vBt c) a := by
  unfold vwF
  rw [if_pos (by omega), vwN_nB, nB_32, f]
abbrev P_J6_bitCount_0f7a44 (h0 : m_H) (a0 : Int) : Int → m_H → Prop := fun x h' => GI h' ∧ FR [] [] h0 h' ∧ 0 ≤ x ∧ x ≤ 63 ∧ ((bcN (bU a0) : Nat) : Int) = x
set_option maxHeartbeats 4000000 in
set_option maxRecDepth 100000 in
theorem c_J6_bitCount_0f7a44 (h0 : m_H) (a0 : Int) (G0 : GI h0) : m_CI M_J6_bitCount_0f7a4 [mI a0] h0 (P_J6_bitCount_0f7a44 h0 a0) := by
  refine m_CI_of ⟨by decide, rfl, by simp [m_arg, m_isL, M_J6_bitCount_0f7a4], ⟨rfl, rfl⟩, rfl, rfl⟩ (ls := [some (mI a0)]) rfl ?_
  refine z_ok (fun _ _ ok => ?_)
  have oa0 : m_32 a0 := ok 0 _ rfl
  unfold m_32 at oa0
  refine z_iload_n (M := M_J6_bitCount_0f7a4) 0 dJ6_bitCount_0f7a4_0 rfl ?_
  refine z_iload_n (M := M_J6_bitCount_0f7a4) 1 dJ6_bitCount_0f7a4_1 rfl ?_
  refine z_iconst (M := M_J6_bitCount_0f7a4) 2 dJ6_bitCount_0f7a4_2 ?_
  refine z_iushr (M := M_J6_bitCount_0f7a4) 3 dJ6_bitCount_0f7a4_3 ?_
  refine z_topm (fun x1 ex1 ox1 => ?_)
  unfold m_32 at ox1
  refine z_ldcw (M := M_J6_bitCount_0f7a4) 4 dJ6_bitCount_0f7a4_4 k_J6_265 ?_
  refine z_iand (M := M_J6_bitCount_0f7a4) 7 dJ6_bitCount_0f7a4_7 ?_
  refine z_topm (fun x2 ex2 ox2 => ?_)
  unfold m_32 at ox2
  refine z_isub (M := M_J6_bitCount_0f7a4) 8 dJ6_bitCount_0f7a4_8 ?_
  refine z_topm (fun x3 ex3 ox3 => ?_)
  unfold m_32 at ox3
  refine z_istore_n (M := M_J6_bitCount_0f7a4) 9 dJ6_bitCount_0f7a4_9 (ls' := [some (mI x3)]) (by decide) rfl ?_
  refine z_iload_n (M := M_J6_bitCount_0f7a4) 10 dJ6_bitCount_0f7a4_10 rfl ?_
  refine z_ldcw (M := M_J6_bitCount_0f7a4) 11 dJ6_bitCount_0f7a4_11 k_J6_266 ?_
  refine z_iand (M := M_J6_bitCount_0f7a4) 14 dJ6_bitCount_0f7a4_14 ?_
  refine z_topm (fun x4 ex4 ox4 => ?_)
  unfold m_32 at ox4
  refine z_iload_n (M := M_J6_bitCount_0f7a4) 15 dJ6_bitCount_0f7a4_15 rfl ?_
  refine z_iconst (M := M_J6_bitCount_0f7a4) 16 dJ6_bitCount_0f7a4_16 ?_
  refine z_iushr (M := M_J6_bitCount_0f7a4) 17 dJ6_bitCount_0f7a4_17 ?_
  refine z_topm (fun x5 ex5 ox5 => ?_)
  unfold m_32 at ox5
  refine z_ldcw (M := M_J6_bitCount_0f7a4) 18 dJ6_bitCount_0f7a4_18 k_J6_266 ?_
  refine z_iand (M := M_J6_bitCount_0f7a4) 21 dJ6_bitCount_0f7a4_21 ?_
  refine z_topm (fun x6 ex6 ox6 => ?_)
  unfold m_32 at ox6
  refine z_iadd (M := M_J6_bitCount_0f7a4) 22 dJ6_bitCount_0f7a4_22 ?_
  refine z_topm (fun x7 ex7 ox7 => ?_)
  unfold m_32 at ox7
  refine z_istore_n (M := M_J6_bitCount_0f7a4) 23 dJ6_bitCount_0f7a4_23 (ls' := [some (mI x7)]) (by decide) rfl ?_
  refine z_iload_n (M := M_J6_bitCount_0f7a4) 24 dJ6_bitCount_0f7a4_24 rfl ?_
  refine z_iload_n (M := M_J6_bitCount_0f7a4) 25 dJ6_bitCount_0f7a4_25 rfl ?_
  refine z_iconst (M := M_J6_bitCount_0f7a4) 26 dJ6_bitCount_0f7a4_26 ?_
  refine z_iushr (M := M_J6_bitCount_0f7a4) 27 dJ6_bitCount_0f7a4_27 ?_
  refine z_topm (fun x8 ex8 ox8 => ?_)
  unfold m_32 at ox8
  refine z_iadd (M := M_J6_bitCount_0f7a4) 28 dJ6_bitCount_0f7a4_28 ?_
  refine z_topm (fun x9 ex9 ox9 => ?_)
  unfold m_32 at ox9
  refine z_ldcw (M := M_J6_bitCount_0f7a4) 29 dJ6_bitCount_0f7a4_29 k_J6_267 ?_
  refine z_iand (M := M_J6_bitCount_0f7a4) 32 dJ6_bitCount_0f7a4_32 ?_
  refine z_topm (fun x10 ex10 ox10 => ?_)
  unfold m_32 at ox10
  refine z_istore_n (M := M_J6_bitCount_0f7a4) 33 dJ6_bitCount_0f7a4_33 (ls' := [some (mI x10)]) (by decide) rfl ?_
  refine z_iload_n (M := M_J6_bitCount_0f7a4) 34 dJ6_bitCount_0f7a4_34 rfl ?_
  refine z_iload_n (M := M_J6_bitCount_0f7a4) 35 dJ6_bitCount_0f7a4_35 rfl ?_
  refine z_bipush (M := M_J6_bitCount_0f7a4) 36 dJ6_bitCount_0f7a4_36 ?_
  refine z_iushr (M := M_J6_bitCount_0f7a4) 38 dJ6_bitCount_0f7a4_38 ?_
  refine z_topm (fun x11 ex11 ox11 => ?_)
  unfold m_32 at ox11
  refine z_iadd (M := M_J6_bitCount_0f7a4) 39 dJ6_bitCount_0f7a4_39 ?_
  refine z_topm (fun x12 ex12 ox12 => ?_)
  unfold m_32 at ox12
  refine z_istore_n (M := M_J6_bitCount_0f7a4) 40 dJ6_bitCount_0f7a4_40 (ls' := [some (mI x12)]) (by decide) rfl ?_
  refine z_iload_n (M := M_J6_bitCount_0f7a4) 41 dJ6_bitCount_0f7a4_41 rfl ?_
  refine z_iload_n (M := M_J6_bitCount_0f7a4) 42 dJ6_bitCount_0f7a4_42 rfl ?_
  refine z_bipush (M := M_J6_bitCount_0f7a4) 43 dJ6_bitCount_0f7a4_43 ?_
  refine z_iushr (M := M_J6_bitCount_0f7a4) 45 dJ6_bitCount_0f7a4_45 ?_
  refine z_topm (fun x13 ex13 ox13 => ?_)
  unfold m_32 at ox13
  refine z_iadd (M := M_J6_bitCount_0f7a4) 46 dJ6_bitCount_0f7a4_46 ?_
  refine z_topm (fun x14 ex14 ox14 => ?_)
  unfold m_32 at ox14
  refine z_istore_n (M := M_J6_bitCount_0f7a4) 47 dJ6_bitCount_0f7a4_47 (ls' := [some (mI x14)]) (by decide) rfl ?_
  refine z_iload_n (M := M_J6_bitCount_0f7a4) 48 dJ6_bitCount_0f7a4_48 rfl ?_
  refine z_bipush (M := M_J6_bitCount_0f7a4) 49 dJ6_bitCount_0f7a4_49 ?_
  refine z_iand (M := M_J6_bitCount_0f7a4) 51 dJ6_bitCount_0f7a4_51 ?_
  refine z_topBI (m_and_63 _) (fun x15 ex15 ax15 bx15 => ?_)
  exact z_retI (M := M_J6_bitCount_0f7a4) 52 dJ6_bitCount_0f7a4_52 rfl ⟨G0, (FR.rf (cs := []) (ss := []) (h := h0)), by omega, by omega, (bc_run32 ex1 ex2 ex3 ex4 ex5 ex6 ex7 ex8 ex9 ex10 ex11 ex12 ex13 ex14 ex15).symm⟩
abbrev P_X11_ofWeeks3 (h0 : m_H) (a0 a1 : Int) : Int → m_H → Prop := fun x h' => GI h' ∧ FR [] [] h0 h' ∧ (-1) ≤ x ∧ x ≤ 63 ∧ x = vwF (vBt a0) a1
def q_X11_ofWeeks3 (h0 : m_H) (a0 a1 : Int) (n : Nat) : Prop := (∀ (l2 l3 : Int) (h : m_H), GI h → FR [] [] h0 h → (-1) ≤ l2 → l2 ≤ 31 → 0 ≤ l3 → l3 ≤ 32 → (-2147483648) ≤ a0 → a0 ≤ 2147483647 → (-2147483648) ≤ a1 → a1 ≤ 2147483647 → (a1 ≠ 0 ∧ l2 = vwH (vBt a0) l3.toNat ∧ (a1 = 1 → l2 = -1)) → 2 * (32 - l3) + (1) ≤ (n : Int) → m_Z oF M_X11_ofWeeks 13 [some (mI a0), some (mI a1), some (mI l2), some (mI l3)] [] h (m_QI (P_X11_ofWeeks3 h0 a0 a1)))
set_option maxHeartbeats 4000000 in
set_option maxRecDepth 100000 in
theorem s_X11_ofWeeks3_13 (h0 : m_H) (a0 a1 : Int) (G0 : GI h0) (n : Nat) (ih : q_X11_ofWeeks3 h0 a0 a1 n) : ∀ (l2 l3 : Int) (h : m_H), GI h → FR [] [] h0 h → (-1) ≤ l2 → l2 ≤ 31 → 0 ≤ l3 → l3 ≤ 32 → (-2147483648) ≤ a0 → a0 ≤ 2147483647 → (-2147483648) ≤ a1 → a1 ≤ 2147483647 → (a1 ≠ 0 ∧ l2 = vwH (vBt a0) l3.toNat ∧ (a1 = 1 → l2 = -1)) → 2 * (32 - l3) + (1) ≤ ((n + 1 : Nat) : Int) → m_Z oF M_X11_ofWeeks 13 [some (mI a0), some (mI a1), some (mI l2), some (mI l3)] [] h (m_QI (P_X11_ofWeeks3 h0 a0 a1)) := by
  intro l2 l3 h G R v0 v1 v2 v3 v4 v5 v6 v7 i1 hr
  refine z_iload_n (M := M_X11_ofWeeks) 13 dX11_ofWeeks_13 rfl ?_
  refine z_bipush (M := M_X11_ofWeeks) 14 dX11_ofWeeks_14 ?_
  refine z_icmp_ge (M := M_X11_ofWeeks) 16 dX11_ofWeeks_16 43 rfl (fun c1 => ?_) (fun c1 => ?_)
  · refine z_iload_n (M := M_X11_ofWeeks) 43 dX11_ofWeeks_43 rfl ?_
    exact z_retI (M := M_X11_ofWeeks) 44 dX11_ofWeeks_44 rfl ⟨G, R, by omega, by omega, ofw_e (by omega) i1.1 i1.2.1 i1.2.2⟩
  · refine z_iload_n (M := M_X11_ofWeeks) 19 dX11_ofWeeks_19 rfl ?_
    refine z_iload_n (M := M_X11_ofWeeks) 20 dX11_ofWeeks_20 rfl ?_
    refine z_sI (M := M_X11_ofWeeks) 21 dX11_ofWeeks_21 t_X11_hasBit l_X11_435 (m_rr_of rfl) (rest := []) (c_X11_hasBit h a0 l3 G) rfl rfl (Nat.le_of_ble_eq_true rfl) ⟨rfl, rfl⟩ (fun x2 h1 qx2 => ?_)
    obtain ⟨rfl, ⟨rfl, cx2⟩ | ⟨rfl, cx2⟩⟩ := qx2
    · refine z_if_eq_F (M := M_X11_ofWeeks) 24 dX11_ofWeeks_24 37 rfl (by omega) ?_
      refine z_iload_n (M := M_X11_ofWeeks) 27 dX11_ofWeeks_27 rfl ?_
      refine z_istore_n (M := M_X11_ofWeeks) 28 dX11_ofWeeks_28 (ls' := [some (mI a0), some (mI a1), some (mI l3), some (mI l3)]) (by decide) rfl ?_
      refine z_iload_n (M := M_X11_ofWeeks) 29 dX11_ofWeeks_29 rfl ?_
      refine z_iconst (M := M_X11_ofWeeks) 30 dX11_ofWeeks_30 ?_
      refine z_icmp_ne (M := M_X11_ofWeeks) 31 dX11_ofWeeks_31 37 rfl (fun c3 => ?_) (fun c3 => ?_)
      · refine z_iincN (M := M_X11_ofWeeks) 37 dX11_ofWeeks_37 (ls' := [some (mI a0), some (mI a1), some (mI l3), some (mI (l3 + 1))]) (by decide) rfl (by (unfold m_32; decide)) (by omega) (by omega) rfl ?_
        refine z_goto (M := M_X11_ofWeeks) 40 dX11_ofWeeks_40 13 rfl ?_
        exact z_mask [true, true, true, true] rfl (ih l3 (l3 + 1) h G R (by omega) (by omega) (by omega) (by omega) (by omega) (by omega) (by omega) (by omega) ⟨i1.1, ofw_y (by omega) (by omega) cx2, fun z => absurd z c3⟩ (by omega))
      · refine z_goto (M := M_X11_ofWeeks) 34 dX11_ofWeeks_34 43 rfl ?_
        refine z_iload_n (M := M_X11_ofWeeks) 43 dX11_ofWeeks_43 rfl ?_
        exact z_retI (M := M_X11_ofWeeks) 44 dX11_ofWeeks_44 rfl ⟨G, R, by omega, by omega, ofw_f (by omega) (by omega) (by omega) cx2 i1.2.1 (i1.2.2 (by omega))⟩
    · refine z_if_eq_T (M := M_X11_ofWeeks) 24 dX11_ofWeeks_24 37 rfl (by omega) ?_
      refine z_iincN (M := M_X11_ofWeeks) 37 dX11_ofWeeks_37 (ls' := [some (mI a0), some (mI a1), some (mI l2), some (mI (l3 + 1))]) (by decide) rfl (by (unfold m_32; decide)) (by omega) (by omega) rfl ?_
      refine z_goto (M := M_X11_ofWeeks) 40 dX11_ofWeeks_40 13 rfl ?_
      exact z_mask [true, true, true, true] rfl (ih l2 (l3 + 1) h G R (by omega) (by omega) (by omega) (by omega) (by omega) (by omega) (by omega) (by omega) ⟨i1.1, ofw_n (by omega) (by omega) cx2 i1.2.1, i1.2.2⟩ (by omega))
theorem a_X11_ofWeeks3 (h0 : m_H) (a0 a1 : Int) (G0 : GI h0) : ∀ n, q_X11_ofWeeks3 h0 a0 a1 n := by
  intro n
  induction n with
  | zero => unfold q_X11_ofWeeks3; intros; omega
  | succ n ih => exact s_X11_ofWeeks3_13 h0 a0 a1 G0 n ih
set_option maxHeartbeats 4000000 in
set_option maxRecDepth 100000 in
theorem c_X11_ofWeeks3 (h0 : m_H) (a0 a1 : Int) (G0 : GI h0) : m_CI M_X11_ofWeeks [mI a0, mI a1] h0 (P_X11_ofWeeks3 h0 a0 a1) := by
  refine m_CI_of ⟨by decide, rfl, by simp [m_arg, m_isL, M_X11_ofWeeks], ⟨rfl, rfl⟩, rfl, rfl⟩ (ls := [some (mI a0), some (mI a1), none, none]) rfl ?_
  have ih := a_X11_ofWeeks3 h0 a0 a1 G0 72
  refine z_ok (fun _ _ ok => ?_)
  have oa0 : m_32 a0 := ok 0 _ rfl
  unfold m_32 at oa0
  have oa1 : m_32 a1 := ok 1 _ rfl
  unfold m_32 at oa1
  refine z_iload_n (M := M_X11_ofWeeks) 0 dX11_ofWeeks_0 rfl ?_
  refine z_if_ne (M := M_X11_ofWeeks) 1 dX11_ofWeeks_1 9 rfl (fun c1 => ?_) (fun c1 => ?_)
  · refine z_iconst (M := M_X11_ofWeeks) 9 dX11_ofWeeks_9 ?_
    refine z_istore_n (M := M_X11_ofWeeks) 10 dX11_ofWeeks_10 (ls' := [some (mI a0), some (mI a1), some (mI (-1)), none]) (by decide) rfl ?_
    refine z_iconst (M := M_X11_ofWeeks) 11 dX11_ofWeeks_11 ?_
    refine z_istore_n (M := M_X11_ofWeeks) 12 dX11_ofWeeks_12 (ls' := [some (mI a0), some (mI a1), some (mI (-1)), some (mI 0)]) (by decide) rfl ?_
    exact z_mask [true, true, true, true] rfl (ih (-1) 0 h0 G0 (FR.rf (cs := []) (ss := []) (h := h0)) (by omega) (by omega) (by omega) (by omega) (by omega) (by omega) (by omega) (by omega) ⟨c1, rfl, fun _ => rfl⟩ (by omega))
  · refine z_iload_n (M := M_X11_ofWeeks) 4 dX11_ofWeeks_4 rfl ?_
    refine z_sI (M := M_X11_ofWeeks) 5 dX11_ofWeeks_5 t_J6_bitCount_0f7a4 l_X11_415 (m_rr_of rfl) (rest := []) (c_J6_bitCount_0f7a44 h0 a0 G0) rfl rfl (Nat.le_of_ble_eq_true rfl) ⟨rfl, rfl⟩ (fun x2 h1 qx2 => ?_)
    obtain ⟨G1, S1, ax2, bx2, fx2⟩ := qx2
    have R1 := (FR.rf (cs := []) (ss := []) (h := h0)).call S1 (by decide +kernel)
    exact z_retI (M := M_X11_ofWeeks) 8 dX11_ofWeeks_8 rfl ⟨G1, R1, by omega, by omega, ofw_0 c1 fx2⟩
/-! dates -/
def dtP (r : Nat → Int) (t n k : Int) (w : Nat) : Prop := r (10 + w) ≠ -1 ∧ ∃ B C, BX (bR r) (12 + r (10 + w)).toNat (lnV (r (42 + t.toNat)) t (w : Int)).toNat B ∧ BX (bR r) (lnV (r (42 + t.toNat)) t (w : Int)).toNat (12 + r (10 + w)).toNat C ∧ tlU B n k ∧ tlO C n k
def dtK (r : Nat → Int) (t n k w : Int) : Prop := (0 ≤ t ∧ t ≤ 5) ∧ (1 ≤ n ∧ n ≤ 99) ∧ (0 ≤ k ∧ k ≤ 2) ∧ (0 ≤ w ∧ w ≤ 2) ∧ ¬ gain (bR r)
def dtQ (r : Nat → Int) (t n k w x : Int) : Prop := (¬ dtK r t n k w ∧ x = -2) ∨ (dtK r t n k w ∧ x = vwF (dtP r t n k) w)
theorem dt_iff {r : Nat → Int} (hE : ∀ e ∈ bR r, gEo e) {t n k x1 x3 : Int} {w : Nat} {B C : Int × Int × Int} {p : Prop} (e1 : r (10 + w) = x1) (c : x1 ≠ -1) (e3 : lnV (r (42 + t.toNat)) t (w : Int) = x3) (b : BX (bR r) (12 + x1).toNat x3.toNat B) (g : BX (bR r) x3.toNat (12 + x1).toNat C) (f : p ↔ (tlU B n k ∧ tlO C n k)) : p ↔ dtP r t n k w := by
  rw [f]
  constructor
  · rintro ⟨u, o⟩
    refine ⟨by rw [e1]; exact c, B, C, ?_, ?_, u, o⟩
    · rw [e1, e3]; exact b
    · rw [e1, e3]; exact g
  · rintro ⟨_, B', C', b', g', u, o⟩
    rw [e1, e3] at b' g'
    exact ⟨(U_eq hE b b' n k).mpr u, (O_eq hE g g' n k).mpr o⟩
theorem tlF_p {B C : Int × Int × Int} {n k x : Int} (t : tlF B C n k x) : 0 < x ↔ (tlU B n k ∧ tlO C n k) := by
  rcases t with ⟨p, q⟩ | ⟨p, ⟨_, q⟩ | ⟨_, q⟩⟩
  · exact ⟨fun z => by omega, fun z => absurd z p⟩
  · exact ⟨fun _ => p, fun _ => by omega⟩
  · exact ⟨fun _ => p, fun _ => by omega⟩
theorem thr_ln {h : m_H} {t w x : Int} (R : LR 1 h (h 110)) (ht : 0 ≤ t ∧ t ≤ 5) (e : lnV (h (1 + 2) t.toNat) t w = x) : thr (h 110) x := by
  refine (thr_c R).mp ?_
  unfold lnV at e
  by_cases g : h (1 + 2) t.toNat = -1 ∨ w < h (1 + 2) t.toNat
  · rw [if_pos g] at e
    exact ⟨by omega, by omega, Or.inl (by omega)⟩
  · rw [if_neg g] at e
    refine ⟨by omega, by omega, Or.inr (Or.inr ?_)⟩
    rw [show (x - 6).toNat = t.toNat by omega]
    exact fun z => g (Or.inl z)
theorem lr_k {L : Nat} {h : m_H} {r : Nat → Int} (R : LR L h r) {j : Nat} (hj : j < 32) : r (10 + j) = h (L + 1) j := (R.2.1 j hj).symm
theorem lr_c {L : Nat} {h : m_H} {r : Nat → Int} (R : LR L h r) {j : Nat} (hj : j < 6) : r (42 + j) = h (L + 2) j := (R.2.2.1 j hj).symm
theorem dt_at {h0 h : m_H} {l x : Int} (r_ : h 110 = h0 110) (hl : 0 ≤ l) (e : h 110 (10 + l).toNat = x) : h0 110 (10 + l.toNat) = x := by
  rw [← r_, ← e, show (10 + l).toNat = 10 + l.toNat by omega]
theorem dt_ct {h0 h : m_H} {t x : Int} (r_ : h 110 = h0 110) (hl : 0 ≤ t) (e : h 110 (42 + t).toNat = x) : h0 110 (42 + t.toNat) = x := by
  rw [← r_, ← e, show (42 + t).toNat = 42 + t.toNat by omega]
theorem dt_ln {r : Nat → Int} {t w x6 y : Int} (hw : 0 ≤ w) (e : r (42 + t.toNat) = x6) (c : ((x6 = -1 ∨ w < x6) ∧ y = t) ∨ (¬ (x6 = -1 ∨ w < x6) ∧ y = 6 + t)) : lnV (r (42 + t.toNat)) t ((w.toNat : Nat) : Int) = y := by
  rw [e, show ((w.toNat : Nat) : Int) = w by omega]
  unfold lnV
  rcases c with ⟨c1, c2⟩ | ⟨c1, c2⟩
  · rw [if_pos c1, c2]
  · rw [if_neg c1, c2]; omega
theorem LX.dates {h h1 : m_H} {t n k w x y : Int} {cs : List Nat} {ss : List (Nat × Nat)} (G : GI h) (N : NP h) (S1 : FR cs ss h h1) (A : dtQ (h 110) t n k w x) (B : dtQ (h1 110) t n k w y) (o : out 110 110 cs ss = true) : x = y := by
  rw [rowz S1 (fr_out o (by decide) (by decide))] at B
  rcases A with ⟨a1, a2⟩ | ⟨a1, a2⟩ <;> rcases B with ⟨b1, b2⟩ | ⟨b1, b2⟩
  · omega
  · exact absurd b1 a1
  · exact absurd a1 b1
  · rw [a2, b2]
abbrev P_X11_couldBeTold3 (h0 : m_H) (a1 a2 a3 a4 : Int) : Int → m_H → Prop := fun x h' => GI h' ∧ FR (csB ++ []) [] h0 h' ∧ 0 ≤ x ∧ x ≤ 1 ∧ (∀ c, c ≠ 94 → c ≠ 95 → h' c = h0 c) ∧ (x = 1 ↔ dtP (h0 110) a1 a3 a4 a2.toNat)
set_option maxHeartbeats 4000000 in
set_option maxRecDepth 100000 in
theorem c_X11_couldBeTold3 (h0 : m_H) (a1 a2 a3 a4 : Int) (G0 : GI h0) (pa1 : 0 ≤ a1 ∧ a1 ≤ 5) (pa2 : 0 ≤ a2 ∧ a2 ≤ 31) (hR : LR 1 h0 (h0 110)) (hN : NP h0) (hT : TM (h0 110) h0) (ng : ¬ gain (bR (h0 110))) (pn : 1 ≤ a3 ∧ a3 ≤ 99) (pk : 0 ≤ a4 ∧ a4 ≤ 2) : m_CI M_X11_couldBeTold [mR 0, mI a1, mI a2, mI a3, mI a4] h0 (P_X11_couldBeTold3 h0 a1 a2 a3 a4) := by
  refine m_CI_of ⟨by decide, rfl, by simp [m_arg, m_isL, M_X11_couldBeTold], ⟨rfl, rfl⟩, rfl, rfl⟩ (ls := [some (mR 0), some (mI a1), some (mI a2), some (mI a3), some (mI a4), none]) rfl ?_
  refine z_ok (fun _ _ ok => ?_)
  have oa3 : m_32 a3 := ok 3 _ rfl
  unfold m_32 at oa3
  have oa4 : m_32 a4 := ok 4 _ rfl
  unfold m_32 at oa4
  refine z_aload_n (M := M_X11_couldBeTold) 0 dX11_couldBeTold_0 rfl ?_
  refine z_getR (M := M_X11_couldBeTold) 1 dX11_couldBeTold_1 f_X11_12 o_0 rfl (g_0_0 G0) ?_
  refine z_getR (M := M_X11_couldBeTold) 4 dX11_couldBeTold_4 f_X11_120 o_1 rfl (g_1_0 G0) ?_
  refine z_iload_n (M := M_X11_couldBeTold) 7 dX11_couldBeTold_7 rfl ?_
  refine z_ialdG (M := M_X11_couldBeTold) 8 dX11_couldBeTold_8 o_2 (by omega) (by omega) (g_2 G0 (by omega)) (fun x1 ex1 ax1 bx1 => ?_)
  refine z_istore (M := M_X11_couldBeTold) 9 dX11_couldBeTold_9 (ls' := [some (mR 0), some (mI a1), some (mI a2), some (mI a3), some (mI a4), some (mI x1)]) (by decide) rfl ?_
  refine z_iload (M := M_X11_couldBeTold) 11 dX11_couldBeTold_11 rfl ?_
  refine z_iconst (M := M_X11_couldBeTold) 13 dX11_couldBeTold_13 ?_
  refine z_icmp_ne (M := M_X11_couldBeTold) 14 dX11_couldBeTold_14 19 rfl (fun c2 => ?_) (fun c2 => ?_)
  · refine z_aload_n (M := M_X11_couldBeTold) 19 dX11_couldBeTold_19 rfl ?_
    refine z_getR (M := M_X11_couldBeTold) 20 dX11_couldBeTold_20 f_X11_53 o_0 rfl (g_0_7 G0) ?_
    refine z_aload_n (M := M_X11_couldBeTold) 23 dX11_couldBeTold_23 rfl ?_
    refine z_getR (M := M_X11_couldBeTold) 24 dX11_couldBeTold_24 f_X11_46 o_0 rfl (g_0_6 G0) ?_
    refine z_aload_n (M := M_X11_couldBeTold) 27 dX11_couldBeTold_27 rfl ?_
    refine z_getR (M := M_X11_couldBeTold) 28 dX11_couldBeTold_28 f_X11_12 o_0 rfl (g_0_0 G0) ?_
    refine z_iload_n (M := M_X11_couldBeTold) 31 dX11_couldBeTold_31 rfl ?_
    refine z_iload_n (M := M_X11_couldBeTold) 32 dX11_couldBeTold_32 rfl ?_
    refine z_vI (M := M_X11_couldBeTold) 33 dX11_couldBeTold_33 t_X4_lengthIn l_X11_409 (m_rr_of rfl) (rest := [mR 38, mR 93]) (c_X4_lengthIn2 h0 1 a1 a2 (Or.inl rfl) G0 ⟨by omega, by omega⟩) o_1 rfl rfl rfl (Nat.le_of_ble_eq_true rfl) ⟨rfl, rfl⟩ (fun x3 h1 qx3 => ?_)
    obtain ⟨G1, S1, ax3, bx3, fx3⟩ := qx3
    have k1_ : h0 110 (10 + a2.toNat) = x1 := (lr_k hR (by omega)).trans ex1
    have k3_ : lnV (h0 110 (42 + a1.toNat)) a1 ((a2.toNat : Nat) : Int) = x3 := by rw [show ((a2.toNat : Nat) : Int) = a2 by omega, lr_c hR (show a1.toNat < 6 by omega)]; exact fx3
    have R1 := (FR.rf (cs := (csB ++ [])) (ss := []) (h := h0)).call S1 (by decide +kernel)
    refine z_bipush (M := M_X11_couldBeTold) 36 dX11_couldBeTold_36 ?_
    refine z_iload (M := M_X11_couldBeTold) 38 dX11_couldBeTold_38 rfl ?_
    refine z_iaddN (M := M_X11_couldBeTold) 40 dX11_couldBeTold_40 (by omega) (by omega) ?_
    refine z_vV (M := M_X11_couldBeTold) 41 dX11_couldBeTold_41 t_X7_measure l_X11_427 (m_rr_of rfl) (rest := []) (c_X7_measure2 h1 x3 (12 + x1) G1 ⟨by omega, by omega⟩ ⟨by omega, by omega⟩ (by rw [frE S1]; exact hT.H) (by rw [frE S1]; exact hT.R)) o_93 rfl rfl rfl (Nat.le_of_ble_eq_true rfl) ⟨rfl, rfl⟩ (fun h2 qx4 => ?_)
    obtain ⟨G2, S2, M1, M2, M3⟩ := qx4
    rw [frE S1] at M1 M2 M3
    have t1_ : thr (h0 110) x3 := thr_ln hR pa1 fx3
    have t2_ : thr (h0 110) (12 + x1) := ⟨by omega, by omega, Or.inr (Or.inl (by omega))⟩
    have c1_ := hT.cp G0 hN ng t1_ t2_ M2 (by have z := g_95_2 G2; show h2 95 2 = 0 ∨ h2 95 2 = 1; omega)
    have c2_ := hT.cp G0 hN ng t2_ t1_ M3 (by have z := g_94_2 G2; show h2 94 2 = 0 ∨ h2 94 2 = 1; omega)
    have pb1_ : (1 ≤ h2 95 0 ∧ h2 95 0 ≤ 1600000000) ∧ (0 ≤ h2 95 1 ∧ h2 95 1 ≤ 1600000000) := by have z := c1_.2.1; unfold pBb bd at z; simp only at z; omega
    have pb2_ : (1 ≤ h2 94 0 ∧ h2 94 0 ≤ 1600000000) ∧ (0 ≤ h2 94 1 ∧ h2 94 1 ≤ 1600000000) := by have z := c2_.2.1; unfold pBb bd at z; simp only at z; omega
    have R2 := R1.call S2 (by decide +kernel)
    refine z_aload_n (M := M_X11_couldBeTold) 44 dX11_couldBeTold_44 rfl ?_
    refine z_getR (M := M_X11_couldBeTold) 45 dX11_couldBeTold_45 f_X11_53 o_0 rfl (g_0_7 G2) ?_
    refine z_iload_n (M := M_X11_couldBeTold) 48 dX11_couldBeTold_48 rfl ?_
    refine z_iload (M := M_X11_couldBeTold) 49 dX11_couldBeTold_49 rfl ?_
    refine z_vI (M := M_X11_couldBeTold) 51 dX11_couldBeTold_51 t_X7_allows l_X11_304 (m_rr_of rfl) (rest := []) (c_X7_allows4 h2 a3 a4 G2 pn pk pb2_ pb1_) o_93 rfl rfl rfl (Nat.le_of_ble_eq_true rfl) ⟨rfl, rfl⟩ (fun x5 h3 qx5 => ?_)
    obtain ⟨G3, S3, ax5, bx5, fx5⟩ := qx5
    have R3 := R2.call S3 (by decide +kernel)
    exact z_retZ (M := M_X11_couldBeTold) 54 dX11_couldBeTold_54 rfl (by omega) ⟨G3, R3, by omega, by omega, fun c d1 d2 => (by rw [frE S3]; exact M1 c d1 d2), dt_iff (bR_ok G0 hN) k1_ c2 k3_ ⟨c2_.1, c2_.2.2.1⟩ ⟨c1_.1, c1_.2.2.1⟩ fx5⟩
  · refine z_iconst (M := M_X11_couldBeTold) 17 dX11_couldBeTold_17 ?_
    exact z_retZ (M := M_X11_couldBeTold) 18 dX11_couldBeTold_18 rfl (by omega) ⟨G0, (FR.rf (cs := (csB ++ [])) (ss := []) (h := h0)), by omega, by omega, fun _ _ _ => rfl, ⟨fun z => absurd z (by decide), fun z => absurd ((lr_k hR (show a2.toNat < 32 by omega)).trans (ex1.trans (by omega))) z.1⟩⟩
abbrev P_X11_dates3 (h0 : m_H) (a1 a2 a3 a4 : Int) : Int → m_H → Prop := fun x h' => GI h' ∧ FR (csB ++ [39, 40, 41]) [] h0 h' ∧ (-2) ≤ x ∧ x ≤ 63 ∧ dtQ (h0 110) a1 a2 a3 a4 x
def q_X11_dates3 (h0 : m_H) (a1 a2 a3 a4 : Int) (n : Nat) : Prop := (∀ (l6 l7 : Int) (h : m_H), GI h → FR (csB ++ [39, 40, 41]) [] h0 h → 0 ≤ l7 → l7 ≤ 32 → 0 ≤ a1 → a1 ≤ 5 → 1 ≤ a2 → a2 ≤ 99 → 0 ≤ a3 → a3 ≤ 2 → 0 ≤ a4 → a4 ≤ 2 → (TM (h0 110) h ∧ ¬ gain (bR (h0 110)) ∧ bsI (dtP (h0 110) a1 a2 a3) l6 l7) → 2 * (32 - l7) + (1) ≤ (n : Int) → m_Z oF M_X11_dates 59 [some (mR 0), some (mI a1), some (mI a2), some (mI a3), some (mI a4), none, some (mI l6), some (mI l7)] [] h (m_QI (P_X11_dates3 h0 a1 a2 a3 a4)))
set_option maxHeartbeats 4000000 in
set_option maxRecDepth 100000 in
theorem s_X11_dates3_59 (h0 : m_H) (a1 a2 a3 a4 : Int) (G0 : GI h0) (hR : LR 1 h0 (h0 110)) (hN : NP h0) (n : Nat) (ih : q_X11_dates3 h0 a1 a2 a3 a4 n) : ∀ (l6 l7 : Int) (h : m_H), GI h → FR (csB ++ [39, 40, 41]) [] h0 h → 0 ≤ l7 → l7 ≤ 32 → 0 ≤ a1 → a1 ≤ 5 → 1 ≤ a2 → a2 ≤ 99 → 0 ≤ a3 → a3 ≤ 2 → 0 ≤ a4 → a4 ≤ 2 → (TM (h0 110) h ∧ ¬ gain (bR (h0 110)) ∧ bsI (dtP (h0 110) a1 a2 a3) l6 l7) → 2 * (32 - l7) + (1) ≤ ((n + 1 : Nat) : Int) → m_Z oF M_X11_dates 59 [some (mR 0), some (mI a1), some (mI a2), some (mI a3), some (mI a4), none, some (mI l6), some (mI l7)] [] h (m_QI (P_X11_dates3 h0 a1 a2 a3 a4)) := by
  intro l6 l7 h G R v0 v1 v2 v3 v4 v5 v6 v7 v8 v9 i1 hr
  have r_ : h 110 = h0 110 := FR.row R (fun _ => rfl)
  have R_ : LR 1 h (h 110) := by rw [r_]; exact LR.S hR R (by decide)
  have N_ : NP h := NP.call hN R (fun _ => rfl) (fun _ => rfl) (fun _ => rfl)
  have T_ : TM (h 110) h := by rw [r_]; exact i1.1
  have g_ : ¬ gain (bR (h 110)) := by rw [r_]; exact i1.2.1
  refine z_ok (fun ostk _ olocs => ?_)
  have ol6 : m_32 l6 := olocs 6 _ rfl
  unfold m_32 at ol6
  refine z_iload (M := M_X11_dates) 59 dX11_dates_59 rfl ?_
  refine z_bipush (M := M_X11_dates) 61 dX11_dates_61 ?_
  refine z_icmp_ge (M := M_X11_dates) 63 dX11_dates_63 93 rfl (fun c1 => ?_) (fun c1 => ?_)
  · refine z_iload (M := M_X11_dates) 93 dX11_dates_93 rfl ?_
    refine z_iload (M := M_X11_dates) 95 dX11_dates_95 rfl ?_
    refine z_sI (M := M_X11_dates) 97 dX11_dates_97 t_X11_ofWeeks l_X11_326 (m_rr_of rfl) (rest := []) (c_X11_ofWeeks3 h l6 a4 G) rfl rfl (Nat.le_of_ble_eq_true rfl) ⟨rfl, rfl⟩ (fun x2 h1 qx2 => ?_)
    obtain ⟨G1, S1, ax2, bx2, fx2⟩ := qx2
    have R1 := R.call S1 (by decide +kernel)
    exact z_retI (M := M_X11_dates) 100 dX11_dates_100 rfl ⟨G1, R1, by omega, by omega, Or.inr ⟨⟨⟨by omega, by omega⟩, ⟨by omega, by omega⟩, ⟨by omega, by omega⟩, ⟨by omega, by omega⟩, i1.2.1⟩, fx2.trans (bsI_F i1.2.2 (by omega) a4)⟩⟩
  · refine z_aload_n (M := M_X11_dates) 66 dX11_dates_66 rfl ?_
    refine z_iload_n (M := M_X11_dates) 67 dX11_dates_67 rfl ?_
    refine z_iload (M := M_X11_dates) 68 dX11_dates_68 rfl ?_
    refine z_iload_n (M := M_X11_dates) 70 dX11_dates_70 rfl ?_
    refine z_iload_n (M := M_X11_dates) 71 dX11_dates_71 rfl ?_
    refine z_vI (M := M_X11_dates) 72 dX11_dates_72 t_X11_couldBeTold l_X11_323 (m_rr_of rfl) (rest := []) (c_X11_couldBeTold3 h a1 l7 a2 a3 G ⟨by omega, by omega⟩ ⟨by omega, by omega⟩ R_ N_ T_ g_ ⟨by omega, by omega⟩ ⟨by omega, by omega⟩) o_0 rfl rfl rfl (Nat.le_of_ble_eq_true rfl) ⟨rfl, rfl⟩ (fun x3 h2 qx3 => ?_)
    obtain ⟨G2, S2, ax3, bx3, e_, m_⟩ := qx3
    rw [r_] at m_
    have R2 := R.call S2 (by decide +kernel)
    refine z_if_eq (M := M_X11_dates) 75 dX11_dates_75 87 rfl (fun c4 => ?_) (fun c4 => ?_)
    · refine z_iincN (M := M_X11_dates) 87 dX11_dates_87 (ls' := [some (mR 0), some (mI a1), some (mI a2), some (mI a3), some (mI a4), none, some (mI l6), some (mI (l7 + 1))]) (by decide) rfl (by (unfold m_32; decide)) (by omega) (by omega) rfl ?_
      refine z_goto (M := M_X11_dates) 90 dX11_dates_90 59 rfl ?_
      exact z_mask [true, true, true, true, true, false, true, true] rfl (ih l6 (l7 + 1) h2 G2 R2 (by omega) (by omega) (by omega) (by omega) (by omega) (by omega) (by omega) (by omega) (by omega) (by omega) ⟨i1.1.step e_, i1.2.1, bsI_n i1.2.2 (by omega) (fun z => absurd (m_.mpr z) (by omega))⟩ (by omega))
    · refine z_iload (M := M_X11_dates) 78 dX11_dates_78 rfl ?_
      refine z_iconst (M := M_X11_dates) 80 dX11_dates_80 ?_
      refine z_iload (M := M_X11_dates) 81 dX11_dates_81 rfl ?_
      refine z_ishl (M := M_X11_dates) 83 dX11_dates_83 ?_
      refine z_topm (fun x5 ex5 ox5 => ?_)
      unfold m_32 at ox5
      refine z_ior (M := M_X11_dates) 84 dX11_dates_84 ?_
      refine z_topm (fun x6 ex6 ox6 => ?_)
      unfold m_32 at ox6
      refine z_istore (M := M_X11_dates) 85 dX11_dates_85 (ls' := [some (mR 0), some (mI a1), some (mI a2), some (mI a3), some (mI a4), none, some (mI x6), some (mI l7)]) (by decide) rfl ?_
      refine z_iincN (M := M_X11_dates) 87 dX11_dates_87 (ls' := [some (mR 0), some (mI a1), some (mI a2), some (mI a3), some (mI a4), none, some (mI x6), some (mI (l7 + 1))]) (by decide) rfl (by (unfold m_32; decide)) (by omega) (by omega) rfl ?_
      refine z_goto (M := M_X11_dates) 90 dX11_dates_90 59 rfl ?_
      exact z_mask [true, true, true, true, true, false, true, true] rfl (ih x6 (l7 + 1) h2 G2 R2 (by omega) (by omega) (by omega) (by omega) (by omega) (by omega) (by omega) (by omega) (by omega) (by omega) ⟨i1.1.step e_, i1.2.1, bsI_y i1.2.2 (by omega) (by omega) (m_.mp (by omega)) ex5 ex6⟩ (by omega))
theorem a_X11_dates3 (h0 : m_H) (a1 a2 a3 a4 : Int) (G0 : GI h0) (hR : LR 1 h0 (h0 110)) (hN : NP h0) : ∀ n, q_X11_dates3 h0 a1 a2 a3 a4 n := by
  intro n
  induction n with
  | zero => unfold q_X11_dates3; intros; omega
  | succ n ih => exact s_X11_dates3_59 h0 a1 a2 a3 a4 G0 hR hN n ih
set_option maxHeartbeats 4000000 in
set_option maxRecDepth 100000 in
theorem c_X11_dates3 (h0 : m_H) (a1 a2 a3 a4 : Int) (G0 : GI h0) (hR : LR 1 h0 (h0 110)) (hN : NP h0) : m_CI M_X11_dates [mR 0, mI a1, mI a2, mI a3, mI a4] h0 (P_X11_dates3 h0 a1 a2 a3 a4) := by
  refine m_CI_of ⟨by decide, rfl, by simp [m_arg, m_isL, M_X11_dates], ⟨rfl, rfl⟩, rfl, rfl⟩ (ls := [some (mR 0), some (mI a1), some (mI a2), some (mI a3), some (mI a4), none, none, none]) rfl ?_
  have ih := a_X11_dates3 h0 a1 a2 a3 a4 G0 hR hN 72
  refine z_ok (fun _ _ ok => ?_)
  have oa1 : m_32 a1 := ok 1 _ rfl
  unfold m_32 at oa1
  have oa2 : m_32 a2 := ok 2 _ rfl
  unfold m_32 at oa2
  have oa3 : m_32 a3 := ok 3 _ rfl
  unfold m_32 at oa3
  have oa4 : m_32 a4 := ok 4 _ rfl
  unfold m_32 at oa4
  refine z_iload_n (M := M_X11_dates) 0 dX11_dates_0 rfl ?_
  refine z_sI (M := M_X11_dates) 1 dX11_dates_1 t_X11_isThing l_X11_126 (m_rr_of rfl) (rest := []) (c_X11_isThing h0 a1 G0) rfl rfl (Nat.le_of_ble_eq_true rfl) ⟨rfl, rfl⟩ (fun x1 h1 qx1 => ?_)
  obtain ⟨rfl, ⟨rfl, cx1⟩ | ⟨rfl, cx1⟩⟩ := qx1
  · refine z_if_eq_F (M := M_X11_dates) 4 dX11_dates_4 35 rfl (by omega) ?_
    refine z_iload_n (M := M_X11_dates) 7 dX11_dates_7 rfl ?_
    refine z_sI (M := M_X11_dates) 8 dX11_dates_8 t_X11_isNumber l_X11_298 (m_rr_of rfl) (rest := []) (c_X11_isNumber h0 a2 G0) rfl rfl (Nat.le_of_ble_eq_true rfl) ⟨rfl, rfl⟩ (fun x2 h2 qx2 => ?_)
    obtain ⟨rfl, ⟨rfl, cx2⟩ | ⟨rfl, cx2⟩⟩ := qx2
    · refine z_if_eq_F (M := M_X11_dates) 11 dX11_dates_11 35 rfl (by omega) ?_
      refine z_iload_n (M := M_X11_dates) 14 dX11_dates_14 rfl ?_
      refine z_sI (M := M_X11_dates) 15 dX11_dates_15 t_X11_isKind l_X11_301 (m_rr_of rfl) (rest := []) (c_X11_isKind h0 a3 G0) rfl rfl (Nat.le_of_ble_eq_true rfl) ⟨rfl, rfl⟩ (fun x3 h3 qx3 => ?_)
      obtain ⟨rfl, ⟨rfl, cx3⟩ | ⟨rfl, cx3⟩⟩ := qx3
      · refine z_if_eq_F (M := M_X11_dates) 18 dX11_dates_18 35 rfl (by omega) ?_
        refine z_iload (M := M_X11_dates) 21 dX11_dates_21 rfl ?_
        refine z_iconst (M := M_X11_dates) 23 dX11_dates_23 ?_
        refine z_iconst (M := M_X11_dates) 24 dX11_dates_24 ?_
        refine z_sI (M := M_X11_dates) 25 dX11_dates_25 t_X11_within l_X11_112 (m_rr_of rfl) (rest := []) (c_X11_within h0 a4 0 2 G0) rfl rfl (Nat.le_of_ble_eq_true rfl) ⟨rfl, rfl⟩ (fun x4 h4 qx4 => ?_)
        obtain ⟨rfl, ⟨rfl, cx4⟩ | ⟨rfl, cx4⟩⟩ := qx4
        · refine z_if_eq_F (M := M_X11_dates) 28 dX11_dates_28 35 rfl (by omega) ?_
          refine z_iconst (M := M_X11_dates) 31 dX11_dates_31 ?_
          refine z_goto (M := M_X11_dates) 32 dX11_dates_32 36 rfl ?_
          refine z_istore (M := M_X11_dates) 36 dX11_dates_36 (ls' := [some (mR 0), some (mI a1), some (mI a2), some (mI a3), some (mI a4), some (mI 1), none, none]) (by decide) rfl ?_
          refine z_iload (M := M_X11_dates) 38 dX11_dates_38 rfl ?_
          refine z_if_eq_F (M := M_X11_dates) 40 dX11_dates_40 50 rfl (by omega) ?_
          refine z_aload_n (M := M_X11_dates) 43 dX11_dates_43 rfl ?_
          refine z_vI (M := M_X11_dates) 44 dX11_dates_44 t_X11_canBe l_X11_208 (m_rr_of rfl) (rest := []) (c_X11_canBe2 h0 G0 hR hN) o_0 rfl rfl rfl (Nat.le_of_ble_eq_true rfl) ⟨rfl, rfl⟩ (fun x5 h5 qx5 => ?_)
          obtain ⟨G5, S5, ax5, bx5, fx5⟩ := qx5
          have R5 := (FR.rf (cs := (csB ++ [39, 40, 41])) (ss := []) (h := h0)).call S5 (by decide +kernel)
          refine z_if_ne (M := M_X11_dates) 47 dX11_dates_47 53 rfl (fun c6 => ?_) (fun c6 => ?_)
          · refine z_iconst (M := M_X11_dates) 53 dX11_dates_53 ?_
            refine z_istore (M := M_X11_dates) 54 dX11_dates_54 (ls' := [some (mR 0), some (mI a1), some (mI a2), some (mI a3), some (mI a4), some (mI 1), some (mI 0), none]) (by decide) rfl ?_
            refine z_iconst (M := M_X11_dates) 56 dX11_dates_56 ?_
            refine z_istore (M := M_X11_dates) 57 dX11_dates_57 (ls' := [some (mR 0), some (mI a1), some (mI a2), some (mI a3), some (mI a4), some (mI 1), some (mI 0), some (mI 0)]) (by decide) rfl ?_
            exact z_mask [true, true, true, true, true, false, true, true] rfl (ih 0 0 h5 G5 R5 (by omega) (by omega) (by omega) (by omega) (by omega) (by omega) (by omega) (by omega) (by omega) (by omega) ⟨⟨h5, _, fx5.2 (by omega), fun _ _ _ => rfl⟩, fx5.1.mp (by omega), bsI_0 (fun j hj => absurd hj (by omega))⟩ (by omega))
          · refine z_bipush (M := M_X11_dates) 50 dX11_dates_50 ?_
            exact z_retI (M := M_X11_dates) 52 dX11_dates_52 rfl ⟨G5, R5, by omega, by omega, Or.inl ⟨fun z => absurd (fx5.1.mpr z.2.2.2.2) (by omega), rfl⟩⟩
        · refine z_if_eq_T (M := M_X11_dates) 28 dX11_dates_28 35 rfl (by omega) ?_
          refine z_iconst (M := M_X11_dates) 35 dX11_dates_35 ?_
          refine z_istore (M := M_X11_dates) 36 dX11_dates_36 (ls' := [some (mR 0), some (mI a1), some (mI a2), some (mI a3), some (mI a4), some (mI 0), none, none]) (by decide) rfl ?_
          refine z_iload (M := M_X11_dates) 38 dX11_dates_38 rfl ?_
          refine z_if_eq_T (M := M_X11_dates) 40 dX11_dates_40 50 rfl (by omega) ?_
          refine z_bipush (M := M_X11_dates) 50 dX11_dates_50 ?_
          exact z_retI (M := M_X11_dates) 52 dX11_dates_52 rfl ⟨G0, (FR.rf (cs := (csB ++ [39, 40, 41])) (ss := []) (h := h0)), by omega, by omega, Or.inl ⟨fun z => cx4 z.2.2.2.1, rfl⟩⟩
      · refine z_if_eq_T (M := M_X11_dates) 18 dX11_dates_18 35 rfl (by omega) ?_
        refine z_iconst (M := M_X11_dates) 35 dX11_dates_35 ?_
        refine z_istore (M := M_X11_dates) 36 dX11_dates_36 (ls' := [some (mR 0), some (mI a1), some (mI a2), some (mI a3), some (mI a4), some (mI 0), none, none]) (by decide) rfl ?_
        refine z_iload (M := M_X11_dates) 38 dX11_dates_38 rfl ?_
        refine z_if_eq_T (M := M_X11_dates) 40 dX11_dates_40 50 rfl (by omega) ?_
        refine z_bipush (M := M_X11_dates) 50 dX11_dates_50 ?_
        exact z_retI (M := M_X11_dates) 52 dX11_dates_52 rfl ⟨G0, (FR.rf (cs := (csB ++ [39, 40, 41])) (ss := []) (h := h0)), by omega, by omega, Or.inl ⟨fun z => cx3 z.2.2.1, rfl⟩⟩
    · refine z_if_eq_T (M := M_X11_dates) 11 dX11_dates_11 35 rfl (by omega) ?_
      refine z_iconst (M := M_X11_dates) 35 dX11_dates_35 ?_
      refine z_istore (M := M_X11_dates) 36 dX11_dates_36 (ls' := [some (mR 0), some (mI a1), some (mI a2), some (mI a3), some (mI a4), some (mI 0), none, none]) (by decide) rfl ?_
      refine z_iload (M := M_X11_dates) 38 dX11_dates_38 rfl ?_
      refine z_if_eq_T (M := M_X11_dates) 40 dX11_dates_40 50 rfl (by omega) ?_
      refine z_bipush (M := M_X11_dates) 50 dX11_dates_50 ?_
      exact z_retI (M := M_X11_dates) 52 dX11_dates_52 rfl ⟨G0, (FR.rf (cs := (csB ++ [39, 40, 41])) (ss := []) (h := h0)), by omega, by omega, Or.inl ⟨fun z => cx2 z.2.1, rfl⟩⟩
  · refine z_if_eq_T (M := M_X11_dates) 4 dX11_dates_4 35 rfl (by omega) ?_
    refine z_iconst (M := M_X11_dates) 35 dX11_dates_35 ?_
    refine z_istore (M := M_X11_dates) 36 dX11_dates_36 (ls' := [some (mR 0), some (mI a1), some (mI a2), some (mI a3), some (mI a4), some (mI 0), none, none]) (by decide) rfl ?_
    refine z_iload (M := M_X11_dates) 38 dX11_dates_38 rfl ?_
    refine z_if_eq_T (M := M_X11_dates) 40 dX11_dates_40 50 rfl (by omega) ?_
    refine z_bipush (M := M_X11_dates) 50 dX11_dates_50 ?_
    exact z_retI (M := M_X11_dates) 52 dX11_dates_52 rfl ⟨G0, (FR.rf (cs := (csB ++ [39, 40, 41])) (ss := []) (h := h0)), by omega, by omega, Or.inl ⟨fun z => cx1 z.1, rfl⟩⟩
abbrev P_X12_dates3 (h0 : m_H) (a1 a2 a3 a4 : Int) : Int → m_H → Prop := fun x h' => GI h' ∧ FR [115, 116, 117, 118, 119, 120, 121, 122, 123, 124, 125, 126, 127, 128, 129, 130, 131, 132, 133, 134, 135, 136, 138] [(108, 0), (108, 21), (108, 44), (108, 45), (108, 46), (108, 47)] h0 h' ∧ dtQ (h0 110) a1 a2 a3 a4 x
def q_X12_dates3 (h0 : m_H) (a1 a2 a3 a4 : Int) (n : Nat) : Prop := (∀ (l5 l6 l7 l8 : Int) (h : m_H), GI h → FR [115, 116, 117, 118, 119, 120, 121, 122, 123, 124, 125, 126, 127, 128, 129, 130, 131, 132, 133, 134, 135, 136, 138] [(108, 0), (108, 21), (108, 44), (108, 45), (108, 46), (108, 47)] h0 h → (-1) ≤ l6 → l6 ≤ 31 → (-1) ≤ l7 → l7 ≤ 31 → 0 ≤ l8 → l8 ≤ 32 → 0 ≤ a1 → a1 ≤ 5 → 1 ≤ a2 → a2 ≤ 99 → 0 ≤ a3 → a3 ≤ 2 → 0 ≤ a4 → a4 ≤ 2 → (gG (bR (h0 110))) → (vw3 (dtP (h0 110) a1 a2 a3) l8 l5 l6 l7) → 2 * (32 - l8) + (1) ≤ (n : Int) → m_Z oF M_X12_dates 71 [some (mR 108), some (mI a1), some (mI a2), some (mI a3), some (mI a4), some (mI l5), some (mI l6), some (mI l7), some (mI l8), none] [] h (m_QI (P_X12_dates3 h0 a1 a2 a3 a4)))
set_option maxHeartbeats 4000000 in
set_option maxRecDepth 100000 in
theorem s_X12_dates3_71 (h0 : m_H) (a1 a2 a3 a4 : Int) (G0 : GI h0) (hN : NP h0) (n : Nat) (ih : q_X12_dates3 h0 a1 a2 a3 a4 n) : ∀ (l5 l6 l7 l8 : Int) (h : m_H), GI h → FR [115, 116, 117, 118, 119, 120, 121, 122, 123, 124, 125, 126, 127, 128, 129, 130, 131, 132, 133, 134, 135, 136, 138] [(108, 0), (108, 21), (108, 44), (108, 45), (108, 46), (108, 47)] h0 h → (-1) ≤ l6 → l6 ≤ 31 → (-1) ≤ l7 → l7 ≤ 31 → 0 ≤ l8 → l8 ≤ 32 → 0 ≤ a1 → a1 ≤ 5 → 1 ≤ a2 → a2 ≤ 99 → 0 ≤ a3 → a3 ≤ 2 → 0 ≤ a4 → a4 ≤ 2 → (gG (bR (h0 110))) → (vw3 (dtP (h0 110) a1 a2 a3) l8 l5 l6 l7) → 2 * (32 - l8) + (1) ≤ ((n + 1 : Nat) : Int) → m_Z oF M_X12_dates 71 [some (mR 108), some (mI a1), some (mI a2), some (mI a3), some (mI a4), some (mI l5), some (mI l6), some (mI l7), some (mI l8), none] [] h (m_QI (P_X12_dates3 h0 a1 a2 a3 a4)) := by
  intro l5 l6 l7 l8 h G R v0 v1 v2 v3 v4 v5 v6 v7 v8 v9 v10 v11 v12 v13 i0 i1 hr
  have r_ : h 110 = h0 110 := FR.row R (fun _ => rfl)
  have E_ := bR_ok G0 hN
  have ng_ := gG_no E_ i0
  have lb_ := vw3_b v4 i1
  refine z_ok (fun ostk _ olocs => ?_)
  have ol5 : m_32 l5 := olocs 5 _ rfl
  unfold m_32 at ol5
  refine z_iload (M := M_X12_dates) 71 dX12_dates_71 rfl ?_
  refine z_bipush (M := M_X12_dates) 73 dX12_dates_73 ?_
  refine z_icmp_ge (M := M_X12_dates) 75 dX12_dates_75 182 rfl (fun c1 => ?_) (fun c1 => ?_)
  · refine z_iload (M := M_X12_dates) 182 dX12_dates_182 rfl ?_
    refine z_if_ne (M := M_X12_dates) 184 dX12_dates_184 192 rfl (fun c2 => ?_) (fun c2 => ?_)
    · refine z_iload (M := M_X12_dates) 192 dX12_dates_192 rfl ?_
      refine z_iconst (M := M_X12_dates) 194 dX12_dates_194 ?_
      refine z_icmp_ne (M := M_X12_dates) 195 dX12_dates_195 203 rfl (fun c3 => ?_) (fun c3 => ?_)
      · refine z_iload (M := M_X12_dates) 203 dX12_dates_203 rfl ?_
        exact z_retI (M := M_X12_dates) 205 dX12_dates_205 rfl ⟨G, R, Or.inr ⟨⟨⟨by omega, by omega⟩, ⟨by omega, by omega⟩, ⟨by omega, by omega⟩, ⟨by omega, by omega⟩, ng_⟩, vw3_e i1 (by omega) (Or.inr (Or.inr ⟨by omega, by omega, rfl⟩))⟩⟩
      · refine z_iload (M := M_X12_dates) 198 dX12_dates_198 rfl ?_
        refine z_goto (M := M_X12_dates) 200 dX12_dates_200 205 rfl ?_
        exact z_retI (M := M_X12_dates) 205 dX12_dates_205 rfl ⟨G, R, Or.inr ⟨⟨⟨by omega, by omega⟩, ⟨by omega, by omega⟩, ⟨by omega, by omega⟩, ⟨by omega, by omega⟩, ng_⟩, vw3_e i1 (by omega) (Or.inr (Or.inl ⟨by omega, rfl⟩))⟩⟩
    · refine z_iload (M := M_X12_dates) 187 dX12_dates_187 rfl ?_
      refine z_goto (M := M_X12_dates) 189 dX12_dates_189 205 rfl ?_
      exact z_retI (M := M_X12_dates) 205 dX12_dates_205 rfl ⟨G, R, Or.inr ⟨⟨⟨by omega, by omega⟩, ⟨by omega, by omega⟩, ⟨by omega, by omega⟩, ⟨by omega, by omega⟩, ng_⟩, vw3_e i1 (by omega) (Or.inl ⟨by omega, rfl⟩)⟩⟩
  · refine z_aload_n (M := M_X12_dates) 78 dX12_dates_78 rfl ?_
    refine z_getR (M := M_X12_dates) 79 dX12_dates_79 f_X12_13 o_108 rfl (g_108_3 G) ?_
    refine z_bipush (M := M_X12_dates) 82 dX12_dates_82 ?_
    refine z_iload (M := M_X12_dates) 84 dX12_dates_84 rfl ?_
    refine z_iaddN (M := M_X12_dates) 86 dX12_dates_86 (by omega) (by omega) ?_
    refine z_ialdG (M := M_X12_dates) 87 dX12_dates_87 o_110 (by omega) (by omega) (gw_w G (by omega) (by omega)) (fun x4 ex4 ax4 bx4 => ?_)
    refine z_iconst (M := M_X12_dates) 88 dX12_dates_88 ?_
    refine z_icmp_eq (M := M_X12_dates) 89 dX12_dates_89 176 rfl (fun c5 => ?_) (fun c5 => ?_)
    · refine z_iincN (M := M_X12_dates) 176 dX12_dates_176 (ls' := [some (mR 108), some (mI a1), some (mI a2), some (mI a3), some (mI a4), some (mI l5), some (mI l6), some (mI l7), some (mI (l8 + 1)), none]) (by decide) rfl (by (unfold m_32; decide)) (by omega) (by omega) rfl ?_
      refine z_goto (M := M_X12_dates) 179 dX12_dates_179 71 rfl ?_
      exact z_mask [true, true, true, true, true, true, true, true, true, false] rfl (ih l5 l6 l7 (l8 + 1) h G R (by omega) (by omega) (by omega) (by omega) (by omega) (by omega) (by omega) (by omega) (by omega) (by omega) (by omega) (by omega) (by omega) (by omega) i0 (vw3_n (by omega) i1 (fun z => z.1 ((dt_at r_ (by omega) ex4).trans c5))) (by omega))
    · refine z_aload_n (M := M_X12_dates) 92 dX12_dates_92 rfl ?_
      refine z_getR (M := M_X12_dates) 93 dX12_dates_93 f_X12_13 o_108 rfl (g_108_3 G) ?_
      refine z_bipush (M := M_X12_dates) 96 dX12_dates_96 ?_
      refine z_iload_n (M := M_X12_dates) 98 dX12_dates_98 rfl ?_
      refine z_iaddN (M := M_X12_dates) 99 dX12_dates_99 (by omega) (by omega) ?_
      refine z_ialdG (M := M_X12_dates) 100 dX12_dates_100 o_110 (by omega) (by omega) (gw_c G (by omega) (by omega)) (fun x6 ex6 ax6 bx6 => ?_)
      refine z_iconst (M := M_X12_dates) 101 dX12_dates_101 ?_
      refine z_icmp_eq (M := M_X12_dates) 102 dX12_dates_102 126 rfl (fun c7 => ?_) (fun c7 => ?_)
      · refine z_iload_n (M := M_X12_dates) 126 dX12_dates_126 rfl ?_
        refine z_istore (M := M_X12_dates) 127 dX12_dates_127 (ls' := [some (mR 108), some (mI a1), some (mI a2), some (mI a3), some (mI a4), some (mI l5), some (mI l6), some (mI l7), some (mI l8), some (mI a1)]) (by decide) rfl ?_
        refine z_aload_n (M := M_X12_dates) 129 dX12_dates_129 rfl ?_
        refine z_iload (M := M_X12_dates) 130 dX12_dates_130 rfl ?_
        refine z_aload_n (M := M_X12_dates) 132 dX12_dates_132 rfl ?_
        refine z_getR (M := M_X12_dates) 133 dX12_dates_133 f_X12_13 o_108 rfl (g_108_3 G) ?_
        refine z_bipush (M := M_X12_dates) 136 dX12_dates_136 ?_
        refine z_iload (M := M_X12_dates) 138 dX12_dates_138 rfl ?_
        refine z_iaddN (M := M_X12_dates) 140 dX12_dates_140 (by omega) (by omega) ?_
        refine z_ialdE (M := M_X12_dates) 141 dX12_dates_141 o_110 (by omega) (by omega) ex4 ?_
        refine z_vV (M := M_X12_dates) 142 dX12_dates_142 t_X12_findEnds l_X12_428 (m_rr_of rfl) (rest := []) (c_X12_findEnds4 h a1 x4 G ⟨by omega, by omega⟩ ⟨by omega, by omega⟩ (NP.call hN R (fun _ => rfl) (fun _ => rfl) (fun _ => rfl)) (gG_f i0 R (fun _ => rfl))) o_108 rfl rfl rfl (Nat.le_of_ble_eq_true rfl) ⟨rfl, rfl⟩ (fun h1 qx8 => ?_)
        obtain ⟨G1, S1, fx8_0, fx8_1, fx8_2⟩ := qx8
        have R1 := R.call S1 (by decide +kernel)
        refine z_aload_n (M := M_X12_dates) 145 dX12_dates_145 rfl ?_
        refine z_iload_n (M := M_X12_dates) 146 dX12_dates_146 rfl ?_
        refine z_iload_n (M := M_X12_dates) 147 dX12_dates_147 rfl ?_
        refine z_vI (M := M_X12_dates) 148 dX12_dates_148 t_X12_tells l_X12_431 (m_rr_of rfl) (rest := []) (c_X12_tells4 h1 a2 a3 G1 ⟨by omega, by omega⟩ ⟨by omega, by omega⟩ ⟨fx8_1.2, fx8_2.2⟩) o_108 rfl rfl rfl (Nat.le_of_ble_eq_true rfl) ⟨rfl, rfl⟩ (fun x9 h2 qx9 => ?_)
        obtain ⟨G2, S2, ax9, bx9, fx9⟩ := qx9
        unfold lP at fx8_1
        unfold hP at fx8_2
        rw [r_] at fx8_1 fx8_2
        have p_ : 0 < x9 ↔ dtP (h0 110) a1 a2 a3 l8.toNat := dt_iff E_ (dt_at r_ (by omega) ex4) c5 (dt_ln (by omega) (dt_ct r_ (by omega) ex6) (Or.inl ⟨Or.inl c7, rfl⟩)) fx8_1.1 fx8_2.1 (tlF_p fx9)
        have R2 := R1.call S2 (by decide +kernel)
        refine z_if_le (M := M_X12_dates) 151 dX12_dates_151 176 rfl (fun c10 => ?_) (fun c10 => ?_)
        · refine z_iincN (M := M_X12_dates) 176 dX12_dates_176 (ls' := [some (mR 108), some (mI a1), some (mI a2), some (mI a3), some (mI a4), some (mI l5), some (mI l6), some (mI l7), some (mI (l8 + 1)), some (mI a1)]) (by decide) rfl (by (unfold m_32; decide)) (by omega) (by omega) rfl ?_
          refine z_goto (M := M_X12_dates) 179 dX12_dates_179 71 rfl ?_
          exact z_mask [true, true, true, true, true, true, true, true, true, false] rfl (ih l5 l6 l7 (l8 + 1) h2 G2 R2 (by omega) (by omega) (by omega) (by omega) (by omega) (by omega) (by omega) (by omega) (by omega) (by omega) (by omega) (by omega) (by omega) (by omega) i0 (vw3_n (by omega) i1 (fun z => absurd (p_.mpr z) (by omega))) (by omega))
        · refine z_iincN (M := M_X12_dates) 154 dX12_dates_154 (ls' := [some (mR 108), some (mI a1), some (mI a2), some (mI a3), some (mI a4), some (mI (l5 + 1)), some (mI l6), some (mI l7), some (mI l8), some (mI a1)]) (by decide) rfl (by (unfold m_32; decide)) (by omega) (by omega) rfl ?_
          refine z_iload (M := M_X12_dates) 157 dX12_dates_157 rfl ?_
          refine z_iconst (M := M_X12_dates) 159 dX12_dates_159 ?_
          refine z_icmp_ne (M := M_X12_dates) 160 dX12_dates_160 168 rfl (fun c12 => ?_) (fun c12 => ?_)
          · refine z_iload (M := M_X12_dates) 168 dX12_dates_168 rfl ?_
            refine z_istore (M := M_X12_dates) 170 dX12_dates_170 (ls' := [some (mR 108), some (mI a1), some (mI a2), some (mI a3), some (mI a4), some (mI (l5 + 1)), some (mI l6), some (mI l7), some (mI l8), some (mI a1)]) (by decide) rfl ?_
            refine z_iload (M := M_X12_dates) 172 dX12_dates_172 rfl ?_
            refine z_istore (M := M_X12_dates) 174 dX12_dates_174 (ls' := [some (mR 108), some (mI a1), some (mI a2), some (mI a3), some (mI a4), some (mI (l5 + 1)), some (mI l6), some (mI l8), some (mI l8), some (mI a1)]) (by decide) rfl ?_
            refine z_iincN (M := M_X12_dates) 176 dX12_dates_176 (ls' := [some (mR 108), some (mI a1), some (mI a2), some (mI a3), some (mI a4), some (mI (l5 + 1)), some (mI l6), some (mI l8), some (mI (l8 + 1)), some (mI a1)]) (by decide) rfl (by (unfold m_32; decide)) (by omega) (by omega) rfl ?_
            refine z_goto (M := M_X12_dates) 179 dX12_dates_179 71 rfl ?_
            exact z_mask [true, true, true, true, true, true, true, true, true, false] rfl (ih (l5 + 1) l6 l8 (l8 + 1) h2 G2 R2 (by omega) (by omega) (by omega) (by omega) (by omega) (by omega) (by omega) (by omega) (by omega) (by omega) (by omega) (by omega) (by omega) (by omega) i0 (vw3_k (by omega) i1 (p_.mp (by omega)) (by omega)) (by omega))
          · refine z_iload (M := M_X12_dates) 163 dX12_dates_163 rfl ?_
            refine z_goto (M := M_X12_dates) 165 dX12_dates_165 170 rfl ?_
            refine z_istore (M := M_X12_dates) 170 dX12_dates_170 (ls' := [some (mR 108), some (mI a1), some (mI a2), some (mI a3), some (mI a4), some (mI (l5 + 1)), some (mI l8), some (mI l7), some (mI l8), some (mI a1)]) (by decide) rfl ?_
            refine z_iload (M := M_X12_dates) 172 dX12_dates_172 rfl ?_
            refine z_istore (M := M_X12_dates) 174 dX12_dates_174 (ls' := [some (mR 108), some (mI a1), some (mI a2), some (mI a3), some (mI a4), some (mI (l5 + 1)), some (mI l8), some (mI l8), some (mI l8), some (mI a1)]) (by decide) rfl ?_
            refine z_iincN (M := M_X12_dates) 176 dX12_dates_176 (ls' := [some (mR 108), some (mI a1), some (mI a2), some (mI a3), some (mI a4), some (mI (l5 + 1)), some (mI l8), some (mI l8), some (mI (l8 + 1)), some (mI a1)]) (by decide) rfl (by (unfold m_32; decide)) (by omega) (by omega) rfl ?_
            refine z_goto (M := M_X12_dates) 179 dX12_dates_179 71 rfl ?_
            exact z_mask [true, true, true, true, true, true, true, true, true, false] rfl (ih (l5 + 1) l8 l8 (l8 + 1) h2 G2 R2 (by omega) (by omega) (by omega) (by omega) (by omega) (by omega) (by omega) (by omega) (by omega) (by omega) (by omega) (by omega) (by omega) (by omega) i0 (vw3_l (by omega) i1 (p_.mp (by omega)) (by omega)) (by omega))
      · refine z_iload (M := M_X12_dates) 105 dX12_dates_105 rfl ?_
        refine z_aload_n (M := M_X12_dates) 107 dX12_dates_107 rfl ?_
        refine z_getR (M := M_X12_dates) 108 dX12_dates_108 f_X12_13 o_108 rfl (g_108_3 G) ?_
        refine z_bipush (M := M_X12_dates) 111 dX12_dates_111 ?_
        refine z_iload_n (M := M_X12_dates) 113 dX12_dates_113 rfl ?_
        refine z_iaddN (M := M_X12_dates) 114 dX12_dates_114 (by omega) (by omega) ?_
        refine z_ialdE (M := M_X12_dates) 115 dX12_dates_115 o_110 (by omega) (by omega) ex6 ?_
        refine z_icmp_lt (M := M_X12_dates) 116 dX12_dates_116 126 rfl (fun c13 => ?_) (fun c13 => ?_)
        · refine z_iload_n (M := M_X12_dates) 126 dX12_dates_126 rfl ?_
          refine z_istore (M := M_X12_dates) 127 dX12_dates_127 (ls' := [some (mR 108), some (mI a1), some (mI a2), some (mI a3), some (mI a4), some (mI l5), some (mI l6), some (mI l7), some (mI l8), some (mI a1)]) (by decide) rfl ?_
          refine z_aload_n (M := M_X12_dates) 129 dX12_dates_129 rfl ?_
          refine z_iload (M := M_X12_dates) 130 dX12_dates_130 rfl ?_
          refine z_aload_n (M := M_X12_dates) 132 dX12_dates_132 rfl ?_
          refine z_getR (M := M_X12_dates) 133 dX12_dates_133 f_X12_13 o_108 rfl (g_108_3 G) ?_
          refine z_bipush (M := M_X12_dates) 136 dX12_dates_136 ?_
          refine z_iload (M := M_X12_dates) 138 dX12_dates_138 rfl ?_
          refine z_iaddN (M := M_X12_dates) 140 dX12_dates_140 (by omega) (by omega) ?_
          refine z_ialdE (M := M_X12_dates) 141 dX12_dates_141 o_110 (by omega) (by omega) ex4 ?_
          refine z_vV (M := M_X12_dates) 142 dX12_dates_142 t_X12_findEnds l_X12_428 (m_rr_of rfl) (rest := []) (c_X12_findEnds4 h a1 x4 G ⟨by omega, by omega⟩ ⟨by omega, by omega⟩ (NP.call hN R (fun _ => rfl) (fun _ => rfl) (fun _ => rfl)) (gG_f i0 R (fun _ => rfl))) o_108 rfl rfl rfl (Nat.le_of_ble_eq_true rfl) ⟨rfl, rfl⟩ (fun h3 qx14 => ?_)
          obtain ⟨G3, S3, fx14_0, fx14_1, fx14_2⟩ := qx14
          have R3 := R.call S3 (by decide +kernel)
          refine z_aload_n (M := M_X12_dates) 145 dX12_dates_145 rfl ?_
          refine z_iload_n (M := M_X12_dates) 146 dX12_dates_146 rfl ?_
          refine z_iload_n (M := M_X12_dates) 147 dX12_dates_147 rfl ?_
          refine z_vI (M := M_X12_dates) 148 dX12_dates_148 t_X12_tells l_X12_431 (m_rr_of rfl) (rest := []) (c_X12_tells4 h3 a2 a3 G3 ⟨by omega, by omega⟩ ⟨by omega, by omega⟩ ⟨fx14_1.2, fx14_2.2⟩) o_108 rfl rfl rfl (Nat.le_of_ble_eq_true rfl) ⟨rfl, rfl⟩ (fun x15 h4 qx15 => ?_)
          obtain ⟨G4, S4, ax15, bx15, fx15⟩ := qx15
          unfold lP at fx14_1
          unfold hP at fx14_2
          rw [r_] at fx14_1 fx14_2
          have p_ : 0 < x15 ↔ dtP (h0 110) a1 a2 a3 l8.toNat := dt_iff E_ (dt_at r_ (by omega) ex4) c5 (dt_ln (by omega) (dt_ct r_ (by omega) ex6) (Or.inl ⟨Or.inr c13, rfl⟩)) fx14_1.1 fx14_2.1 (tlF_p fx15)
          have R4 := R3.call S4 (by decide +kernel)
          refine z_if_le (M := M_X12_dates) 151 dX12_dates_151 176 rfl (fun c16 => ?_) (fun c16 => ?_)
          · refine z_iincN (M := M_X12_dates) 176 dX12_dates_176 (ls' := [some (mR 108), some (mI a1), some (mI a2), some (mI a3), some (mI a4), some (mI l5), some (mI l6), some (mI l7), some (mI (l8 + 1)), some (mI a1)]) (by decide) rfl (by (unfold m_32; decide)) (by omega) (by omega) rfl ?_
            refine z_goto (M := M_X12_dates) 179 dX12_dates_179 71 rfl ?_
            exact z_mask [true, true, true, true, true, true, true, true, true, false] rfl (ih l5 l6 l7 (l8 + 1) h4 G4 R4 (by omega) (by omega) (by omega) (by omega) (by omega) (by omega) (by omega) (by omega) (by omega) (by omega) (by omega) (by omega) (by omega) (by omega) i0 (vw3_n (by omega) i1 (fun z => absurd (p_.mpr z) (by omega))) (by omega))
          · refine z_iincN (M := M_X12_dates) 154 dX12_dates_154 (ls' := [some (mR 108), some (mI a1), some (mI a2), some (mI a3), some (mI a4), some (mI (l5 + 1)), some (mI l6), some (mI l7), some (mI l8), some (mI a1)]) (by decide) rfl (by (unfold m_32; decide)) (by omega) (by omega) rfl ?_
            refine z_iload (M := M_X12_dates) 157 dX12_dates_157 rfl ?_
            refine z_iconst (M := M_X12_dates) 159 dX12_dates_159 ?_
            refine z_icmp_ne (M := M_X12_dates) 160 dX12_dates_160 168 rfl (fun c18 => ?_) (fun c18 => ?_)
            · refine z_iload (M := M_X12_dates) 168 dX12_dates_168 rfl ?_
              refine z_istore (M := M_X12_dates) 170 dX12_dates_170 (ls' := [some (mR 108), some (mI a1), some (mI a2), some (mI a3), some (mI a4), some (mI (l5 + 1)), some (mI l6), some (mI l7), some (mI l8), some (mI a1)]) (by decide) rfl ?_
              refine z_iload (M := M_X12_dates) 172 dX12_dates_172 rfl ?_
              refine z_istore (M := M_X12_dates) 174 dX12_dates_174 (ls' := [some (mR 108), some (mI a1), some (mI a2), some (mI a3), some (mI a4), some (mI (l5 + 1)), some (mI l6), some (mI l8), some (mI l8), some (mI a1)]) (by decide) rfl ?_
              refine z_iincN (M := M_X12_dates) 176 dX12_dates_176 (ls' := [some (mR 108), some (mI a1), some (mI a2), some (mI a3), some (mI a4), some (mI (l5 + 1)), some (mI l6), some (mI l8), some (mI (l8 + 1)), some (mI a1)]) (by decide) rfl (by (unfold m_32; decide)) (by omega) (by omega) rfl ?_
              refine z_goto (M := M_X12_dates) 179 dX12_dates_179 71 rfl ?_
              exact z_mask [true, true, true, true, true, true, true, true, true, false] rfl (ih (l5 + 1) l6 l8 (l8 + 1) h4 G4 R4 (by omega) (by omega) (by omega) (by omega) (by omega) (by omega) (by omega) (by omega) (by omega) (by omega) (by omega) (by omega) (by omega) (by omega) i0 (vw3_k (by omega) i1 (p_.mp (by omega)) (by omega)) (by omega))
            · refine z_iload (M := M_X12_dates) 163 dX12_dates_163 rfl ?_
              refine z_goto (M := M_X12_dates) 165 dX12_dates_165 170 rfl ?_
              refine z_istore (M := M_X12_dates) 170 dX12_dates_170 (ls' := [some (mR 108), some (mI a1), some (mI a2), some (mI a3), some (mI a4), some (mI (l5 + 1)), some (mI l8), some (mI l7), some (mI l8), some (mI a1)]) (by decide) rfl ?_
              refine z_iload (M := M_X12_dates) 172 dX12_dates_172 rfl ?_
              refine z_istore (M := M_X12_dates) 174 dX12_dates_174 (ls' := [some (mR 108), some (mI a1), some (mI a2), some (mI a3), some (mI a4), some (mI (l5 + 1)), some (mI l8), some (mI l8), some (mI l8), some (mI a1)]) (by decide) rfl ?_
              refine z_iincN (M := M_X12_dates) 176 dX12_dates_176 (ls' := [some (mR 108), some (mI a1), some (mI a2), some (mI a3), some (mI a4), some (mI (l5 + 1)), some (mI l8), some (mI l8), some (mI (l8 + 1)), some (mI a1)]) (by decide) rfl (by (unfold m_32; decide)) (by omega) (by omega) rfl ?_
              refine z_goto (M := M_X12_dates) 179 dX12_dates_179 71 rfl ?_
              exact z_mask [true, true, true, true, true, true, true, true, true, false] rfl (ih (l5 + 1) l8 l8 (l8 + 1) h4 G4 R4 (by omega) (by omega) (by omega) (by omega) (by omega) (by omega) (by omega) (by omega) (by omega) (by omega) (by omega) (by omega) (by omega) (by omega) i0 (vw3_l (by omega) i1 (p_.mp (by omega)) (by omega)) (by omega))
        · refine z_bipush (M := M_X12_dates) 119 dX12_dates_119 ?_
          refine z_iload_n (M := M_X12_dates) 121 dX12_dates_121 rfl ?_
          refine z_iaddN (M := M_X12_dates) 122 dX12_dates_122 (by omega) (by omega) ?_
          refine z_goto (M := M_X12_dates) 123 dX12_dates_123 127 rfl ?_
          refine z_istore (M := M_X12_dates) 127 dX12_dates_127 (ls' := [some (mR 108), some (mI a1), some (mI a2), some (mI a3), some (mI a4), some (mI l5), some (mI l6), some (mI l7), some (mI l8), some (mI (6 + a1))]) (by decide) rfl ?_
          refine z_aload_n (M := M_X12_dates) 129 dX12_dates_129 rfl ?_
          refine z_iload (M := M_X12_dates) 130 dX12_dates_130 rfl ?_
          refine z_aload_n (M := M_X12_dates) 132 dX12_dates_132 rfl ?_
          refine z_getR (M := M_X12_dates) 133 dX12_dates_133 f_X12_13 o_108 rfl (g_108_3 G) ?_
          refine z_bipush (M := M_X12_dates) 136 dX12_dates_136 ?_
          refine z_iload (M := M_X12_dates) 138 dX12_dates_138 rfl ?_
          refine z_iaddN (M := M_X12_dates) 140 dX12_dates_140 (by omega) (by omega) ?_
          refine z_ialdE (M := M_X12_dates) 141 dX12_dates_141 o_110 (by omega) (by omega) ex4 ?_
          refine z_vV (M := M_X12_dates) 142 dX12_dates_142 t_X12_findEnds l_X12_428 (m_rr_of rfl) (rest := []) (c_X12_findEnds4 h (6 + a1) x4 G ⟨by omega, by omega⟩ ⟨by omega, by omega⟩ (NP.call hN R (fun _ => rfl) (fun _ => rfl) (fun _ => rfl)) (gG_f i0 R (fun _ => rfl))) o_108 rfl rfl rfl (Nat.le_of_ble_eq_true rfl) ⟨rfl, rfl⟩ (fun h5 qx19 => ?_)
          obtain ⟨G5, S5, fx19_0, fx19_1, fx19_2⟩ := qx19
          have R5 := R.call S5 (by decide +kernel)
          refine z_aload_n (M := M_X12_dates) 145 dX12_dates_145 rfl ?_
          refine z_iload_n (M := M_X12_dates) 146 dX12_dates_146 rfl ?_
          refine z_iload_n (M := M_X12_dates) 147 dX12_dates_147 rfl ?_
          refine z_vI (M := M_X12_dates) 148 dX12_dates_148 t_X12_tells l_X12_431 (m_rr_of rfl) (rest := []) (c_X12_tells4 h5 a2 a3 G5 ⟨by omega, by omega⟩ ⟨by omega, by omega⟩ ⟨fx19_1.2, fx19_2.2⟩) o_108 rfl rfl rfl (Nat.le_of_ble_eq_true rfl) ⟨rfl, rfl⟩ (fun x20 h6 qx20 => ?_)
          obtain ⟨G6, S6, ax20, bx20, fx20⟩ := qx20
          unfold lP at fx19_1
          unfold hP at fx19_2
          rw [r_] at fx19_1 fx19_2
          have p_ : 0 < x20 ↔ dtP (h0 110) a1 a2 a3 l8.toNat := dt_iff E_ (dt_at r_ (by omega) ex4) c5 (dt_ln (by omega) (dt_ct r_ (by omega) ex6) (Or.inr ⟨by omega, rfl⟩)) fx19_1.1 fx19_2.1 (tlF_p fx20)
          have R6 := R5.call S6 (by decide +kernel)
          refine z_if_le (M := M_X12_dates) 151 dX12_dates_151 176 rfl (fun c21 => ?_) (fun c21 => ?_)
          · refine z_iincN (M := M_X12_dates) 176 dX12_dates_176 (ls' := [some (mR 108), some (mI a1), some (mI a2), some (mI a3), some (mI a4), some (mI l5), some (mI l6), some (mI l7), some (mI (l8 + 1)), some (mI (6 + a1))]) (by decide) rfl (by (unfold m_32; decide)) (by omega) (by omega) rfl ?_
            refine z_goto (M := M_X12_dates) 179 dX12_dates_179 71 rfl ?_
            exact z_mask [true, true, true, true, true, true, true, true, true, false] rfl (ih l5 l6 l7 (l8 + 1) h6 G6 R6 (by omega) (by omega) (by omega) (by omega) (by omega) (by omega) (by omega) (by omega) (by omega) (by omega) (by omega) (by omega) (by omega) (by omega) i0 (vw3_n (by omega) i1 (fun z => absurd (p_.mpr z) (by omega))) (by omega))
          · refine z_iincN (M := M_X12_dates) 154 dX12_dates_154 (ls' := [some (mR 108), some (mI a1), some (mI a2), some (mI a3), some (mI a4), some (mI (l5 + 1)), some (mI l6), some (mI l7), some (mI l8), some (mI (6 + a1))]) (by decide) rfl (by (unfold m_32; decide)) (by omega) (by omega) rfl ?_
            refine z_iload (M := M_X12_dates) 157 dX12_dates_157 rfl ?_
            refine z_iconst (M := M_X12_dates) 159 dX12_dates_159 ?_
            refine z_icmp_ne (M := M_X12_dates) 160 dX12_dates_160 168 rfl (fun c23 => ?_) (fun c23 => ?_)
            · refine z_iload (M := M_X12_dates) 168 dX12_dates_168 rfl ?_
              refine z_istore (M := M_X12_dates) 170 dX12_dates_170 (ls' := [some (mR 108), some (mI a1), some (mI a2), some (mI a3), some (mI a4), some (mI (l5 + 1)), some (mI l6), some (mI l7), some (mI l8), some (mI (6 + a1))]) (by decide) rfl ?_
              refine z_iload (M := M_X12_dates) 172 dX12_dates_172 rfl ?_
              refine z_istore (M := M_X12_dates) 174 dX12_dates_174 (ls' := [some (mR 108), some (mI a1), some (mI a2), some (mI a3), some (mI a4), some (mI (l5 + 1)), some (mI l6), some (mI l8), some (mI l8), some (mI (6 + a1))]) (by decide) rfl ?_
              refine z_iincN (M := M_X12_dates) 176 dX12_dates_176 (ls' := [some (mR 108), some (mI a1), some (mI a2), some (mI a3), some (mI a4), some (mI (l5 + 1)), some (mI l6), some (mI l8), some (mI (l8 + 1)), some (mI (6 + a1))]) (by decide) rfl (by (unfold m_32; decide)) (by omega) (by omega) rfl ?_
              refine z_goto (M := M_X12_dates) 179 dX12_dates_179 71 rfl ?_
              exact z_mask [true, true, true, true, true, true, true, true, true, false] rfl (ih (l5 + 1) l6 l8 (l8 + 1) h6 G6 R6 (by omega) (by omega) (by omega) (by omega) (by omega) (by omega) (by omega) (by omega) (by omega) (by omega) (by omega) (by omega) (by omega) (by omega) i0 (vw3_k (by omega) i1 (p_.mp (by omega)) (by omega)) (by omega))
            · refine z_iload (M := M_X12_dates) 163 dX12_dates_163 rfl ?_
              refine z_goto (M := M_X12_dates) 165 dX12_dates_165 170 rfl ?_
              refine z_istore (M := M_X12_dates) 170 dX12_dates_170 (ls' := [some (mR 108), some (mI a1), some (mI a2), some (mI a3), some (mI a4), some (mI (l5 + 1)), some (mI l8), some (mI l7), some (mI l8), some (mI (6 + a1))]) (by decide) rfl ?_
              refine z_iload (M := M_X12_dates) 172 dX12_dates_172 rfl ?_
              refine z_istore (M := M_X12_dates) 174 dX12_dates_174 (ls' := [some (mR 108), some (mI a1), some (mI a2), some (mI a3), some (mI a4), some (mI (l5 + 1)), some (mI l8), some (mI l8), some (mI l8), some (mI (6 + a1))]) (by decide) rfl ?_
              refine z_iincN (M := M_X12_dates) 176 dX12_dates_176 (ls' := [some (mR 108), some (mI a1), some (mI a2), some (mI a3), some (mI a4), some (mI (l5 + 1)), some (mI l8), some (mI l8), some (mI (l8 + 1)), some (mI (6 + a1))]) (by decide) rfl (by (unfold m_32; decide)) (by omega) (by omega) rfl ?_
              refine z_goto (M := M_X12_dates) 179 dX12_dates_179 71 rfl ?_
              exact z_mask [true, true, true, true, true, true, true, true, true, false] rfl (ih (l5 + 1) l8 l8 (l8 + 1) h6 G6 R6 (by omega) (by omega) (by omega) (by omega) (by omega) (by omega) (by omega) (by omega) (by omega) (by omega) (by omega) (by omega) (by omega) (by omega) i0 (vw3_l (by omega) i1 (p_.mp (by omega)) (by omega)) (by omega))
theorem a_X12_dates3 (h0 : m_H) (a1 a2 a3 a4 : Int) (G0 : GI h0) (hN : NP h0) : ∀ n, q_X12_dates3 h0 a1 a2 a3 a4 n := by
  intro n
  induction n with
  | zero => unfold q_X12_dates3; intros; omega
  | succ n ih => exact s_X12_dates3_71 h0 a1 a2 a3 a4 G0 hN n ih
set_option maxHeartbeats 4000000 in
set_option maxRecDepth 100000 in
theorem c_X12_dates3 (h0 : m_H) (a1 a2 a3 a4 : Int) (G0 : GI h0) (hN : NP h0) : m_CI M_X12_dates [mR 108, mI a1, mI a2, mI a3, mI a4] h0 (P_X12_dates3 h0 a1 a2 a3 a4) := by
  refine m_CI_of ⟨by decide, rfl, by simp [m_arg, m_isL, M_X12_dates], ⟨rfl, rfl⟩, rfl, rfl⟩ (ls := [some (mR 108), some (mI a1), some (mI a2), some (mI a3), some (mI a4), none, none, none, none, none]) rfl ?_
  have ih := a_X12_dates3 h0 a1 a2 a3 a4 G0 hN 72
  refine z_ok (fun _ _ ok => ?_)
  have oa1 : m_32 a1 := ok 1 _ rfl
  unfold m_32 at oa1
  have oa2 : m_32 a2 := ok 2 _ rfl
  unfold m_32 at oa2
  have oa3 : m_32 a3 := ok 3 _ rfl
  unfold m_32 at oa3
  have oa4 : m_32 a4 := ok 4 _ rfl
  unfold m_32 at oa4
  refine z_aload_n (M := M_X12_dates) 0 dX12_dates_0 rfl ?_
  refine z_iconst (M := M_X12_dates) 1 dX12_dates_1 ?_
  refine z_putIH (M := M_X12_dates) 2 dX12_dates_2 p_X12_133 o_108 rfl (u_108_0 G0) ((FR.rf (cs := [115, 116, 117, 118, 119, 120, 121, 122, 123, 124, 125, 126, 127, 128, 129, 130, 131, 132, 133, 134, 135, 136, 138]) (ss := [(108, 0), (108, 21), (108, 44), (108, 45), (108, 46), (108, 47)]) (h := h0)).up rfl) (fun h1 E1 G1 R1 => ?_)
  refine z_iload_n (M := M_X12_dates) 5 dX12_dates_5 rfl ?_
  refine z_sI (M := M_X12_dates) 6 dX12_dates_6 t_X12_isThing l_X12_166 (m_rr_of rfl) (rest := []) (c_X12_isThing h1 a1 G1) rfl rfl (Nat.le_of_ble_eq_true rfl) ⟨rfl, rfl⟩ (fun x1 h2 qx1 => ?_)
  obtain ⟨rfl, ⟨rfl, cx1⟩ | ⟨rfl, cx1⟩⟩ := qx1
  · refine z_if_eq_F (M := M_X12_dates) 9 dX12_dates_9 56 rfl (by omega) ?_
    refine z_iload_n (M := M_X12_dates) 12 dX12_dates_12 rfl ?_
    refine z_i2l (M := M_X12_dates) 13 dX12_dates_13 ?_
    refine z_lconst (M := M_X12_dates) 14 dX12_dates_14 (v := 1) ?_
    refine z_ldc2 (M := M_X12_dates) 15 dX12_dates_15 k_X12_180 ?_
    refine z_sI (M := M_X12_dates) 18 dX12_dates_18 t_X12_in l_X12_143 (m_rr_of rfl) (rest := []) (c_X12_in h1 a2 1 99 G1) rfl rfl (Nat.le_of_ble_eq_true rfl) ⟨rfl, rfl⟩ (fun x2 h3 qx2 => ?_)
    obtain ⟨rfl, ⟨rfl, cx2⟩ | ⟨rfl, cx2⟩⟩ := qx2
    · refine z_if_eq_F (M := M_X12_dates) 21 dX12_dates_21 56 rfl (by omega) ?_
      refine z_iload_n (M := M_X12_dates) 24 dX12_dates_24 rfl ?_
      refine z_i2l (M := M_X12_dates) 25 dX12_dates_25 ?_
      refine z_lconst (M := M_X12_dates) 26 dX12_dates_26 (v := 0) ?_
      refine z_ldc2 (M := M_X12_dates) 27 dX12_dates_27 k_X12_182 ?_
      refine z_sI (M := M_X12_dates) 30 dX12_dates_30 t_X12_in l_X12_143 (m_rr_of rfl) (rest := []) (c_X12_in h1 a3 0 2 G1) rfl rfl (Nat.le_of_ble_eq_true rfl) ⟨rfl, rfl⟩ (fun x3 h4 qx3 => ?_)
      obtain ⟨rfl, ⟨rfl, cx3⟩ | ⟨rfl, cx3⟩⟩ := qx3
      · refine z_if_eq_F (M := M_X12_dates) 33 dX12_dates_33 56 rfl (by omega) ?_
        refine z_iload (M := M_X12_dates) 36 dX12_dates_36 rfl ?_
        refine z_i2l (M := M_X12_dates) 38 dX12_dates_38 ?_
        refine z_lconst (M := M_X12_dates) 39 dX12_dates_39 (v := 0) ?_
        refine z_ldc2 (M := M_X12_dates) 40 dX12_dates_40 k_X12_182 ?_
        refine z_sI (M := M_X12_dates) 43 dX12_dates_43 t_X12_in l_X12_143 (m_rr_of rfl) (rest := []) (c_X12_in h1 a4 0 2 G1) rfl rfl (Nat.le_of_ble_eq_true rfl) ⟨rfl, rfl⟩ (fun x4 h5 qx4 => ?_)
        obtain ⟨rfl, ⟨rfl, cx4⟩ | ⟨rfl, cx4⟩⟩ := qx4
        · refine z_if_eq_F (M := M_X12_dates) 46 dX12_dates_46 56 rfl (by omega) ?_
          refine z_aload_n (M := M_X12_dates) 49 dX12_dates_49 rfl ?_
          refine z_vI (M := M_X12_dates) 50 dX12_dates_50 t_X12_canBeNow l_X12_377 (m_rr_of rfl) (rest := []) (c_X12_canBeNow2 h1 G1 (NP.call hN R1 (fun _ => rfl) (fun _ => rfl) (fun _ => rfl))) o_108 rfl rfl rfl (Nat.le_of_ble_eq_true rfl) ⟨rfl, rfl⟩ (fun x5 h6 qx5 => ?_)
          obtain ⟨G6, S6, ax5, bx5, fx5_0, fx5_1⟩ := qx5
          rw [(FR.row R1 (fun _ => rfl) : h1 110 = h0 110)] at fx5_1
          have R6 := R1.call S6 (by decide +kernel)
          refine z_if_ne (M := M_X12_dates) 53 dX12_dates_53 59 rfl (fun c6 => ?_) (fun c6 => ?_)
          · have an := fx5_0 (by omega)
            refine z_iconst (M := M_X12_dates) 59 dX12_dates_59 ?_
            refine z_istore (M := M_X12_dates) 60 dX12_dates_60 (ls' := [some (mR 108), some (mI a1), some (mI a2), some (mI a3), some (mI a4), some (mI 0), none, none, none, none]) (by decide) rfl ?_
            refine z_iconst (M := M_X12_dates) 62 dX12_dates_62 ?_
            refine z_istore (M := M_X12_dates) 63 dX12_dates_63 (ls' := [some (mR 108), some (mI a1), some (mI a2), some (mI a3), some (mI a4), some (mI 0), some (mI (-1)), none, none, none]) (by decide) rfl ?_
            refine z_iconst (M := M_X12_dates) 65 dX12_dates_65 ?_
            refine z_istore (M := M_X12_dates) 66 dX12_dates_66 (ls' := [some (mR 108), some (mI a1), some (mI a2), some (mI a3), some (mI a4), some (mI 0), some (mI (-1)), some (mI (-1)), none, none]) (by decide) rfl ?_
            refine z_iconst (M := M_X12_dates) 68 dX12_dates_68 ?_
            refine z_istore (M := M_X12_dates) 69 dX12_dates_69 (ls' := [some (mR 108), some (mI a1), some (mI a2), some (mI a3), some (mI a4), some (mI 0), some (mI (-1)), some (mI (-1)), some (mI 0), none]) (by decide) rfl ?_
            exact z_mask [true, true, true, true, true, true, true, true, true, false] rfl (ih 0 (-1) (-1) 0 h6 G6 R6 (by omega) (by omega) (by omega) (by omega) (by omega) (by omega) (by omega) (by omega) (by omega) (by omega) (by omega) (by omega) (by omega) (by omega) (gG_b an R1 (fun _ => rfl)) vw3_0 (by omega))
          · refine z_bipush (M := M_X12_dates) 56 dX12_dates_56 ?_
            exact z_retI (M := M_X12_dates) 58 dX12_dates_58 rfl ⟨G6, R6, Or.inl ⟨fun z => z.2.2.2.2 (fx5_1 (by omega)), rfl⟩⟩
        · refine z_if_eq_T (M := M_X12_dates) 46 dX12_dates_46 56 rfl (by omega) ?_
          refine z_bipush (M := M_X12_dates) 56 dX12_dates_56 ?_
          exact z_retI (M := M_X12_dates) 58 dX12_dates_58 rfl ⟨G1, R1, Or.inl ⟨fun z => cx4 z.2.2.2.1, rfl⟩⟩
      · refine z_if_eq_T (M := M_X12_dates) 33 dX12_dates_33 56 rfl (by omega) ?_
        refine z_bipush (M := M_X12_dates) 56 dX12_dates_56 ?_
        exact z_retI (M := M_X12_dates) 58 dX12_dates_58 rfl ⟨G1, R1, Or.inl ⟨fun z => cx3 z.2.2.1, rfl⟩⟩
    · refine z_if_eq_T (M := M_X12_dates) 21 dX12_dates_21 56 rfl (by omega) ?_
      refine z_bipush (M := M_X12_dates) 56 dX12_dates_56 ?_
      exact z_retI (M := M_X12_dates) 58 dX12_dates_58 rfl ⟨G1, R1, Or.inl ⟨fun z => cx2 z.2.1, rfl⟩⟩
  · refine z_if_eq_T (M := M_X12_dates) 9 dX12_dates_9 56 rfl (by omega) ?_
    refine z_bipush (M := M_X12_dates) 56 dX12_dates_56 ?_
    exact z_retI (M := M_X12_dates) 58 dX12_dates_58 rfl ⟨G1, R1, Or.inl ⟨fun z => cx1 z.1, rfl⟩⟩
/-! who kept the gate: the weeks asked, the ways -/
def skE (r : Nat → Int) (w n : Int) : Prop := ∃ e : Nat, (e : Int) < n ∧ r (5 * e + 84) = 1 ∧ r (5 * e + 81) = w
theorem skE_0 {r : Nat → Int} {w : Int} : ¬ skE r w 0 := fun ⟨e, h, _⟩ => by omega
theorem skE_le {r : Nat → Int} {w n m : Int} (h : n ≤ m) (z : skE r w n) : skE r w m := by
  obtain ⟨e, a, b⟩ := z
  exact ⟨e, by omega, b⟩
theorem skE_s {r : Nat → Int} {w l : Int} (h0 : 0 ≤ l) (i : ¬ skE r w l) (n : ¬ (r (5 * l.toNat + 84) = 1 ∧ r (5 * l.toNat + 81) = w)) : ¬ skE r w (l + 1) := by
  rintro ⟨e, a, b, c⟩
  by_cases g : e = l.toNat
  · subst g; exact n ⟨b, c⟩
  · exact i ⟨e, by omega, b, c⟩
def askP (r : Nat → Int) (w : Nat) : Prop := r (10 + w) = -1 ∧ skE r (w : Int) (r 0)
noncomputable def skA (P : Nat → Prop) : Nat → Nat → Int
  | 0, _ => 0
  | n + 1, i => cif (P n ∧ (i : Int) = vwN P n) (n : Int) (skA P n i)
def skI (P : Nat → Prop) (g : Nat → Int) (l s : Int) : Prop := s = vwN P l.toNat ∧ s ≤ 3 ∧ ∀ i : Nat, (i : Int) < s → g i = skA P l.toNat i
theorem skI_0 {P : Nat → Prop} {g : Nat → Int} {s : Int} (e : s = 0) : skI P g 0 s := ⟨e, by omega, fun i hi => by omega⟩
theorem skI_n {P : Nat → Prop} {g : Nat → Int} {l s : Int} (I : skI P g l s) (h0 : 0 ≤ l) (n : ¬ P l.toNat) : skI P g (l + 1) s := by
  obtain ⟨a, b, c⟩ := I
  have e : (l + 1).toNat = l.toNat + 1 := by omega
  refine ⟨by rw [e, vwN_n n]; exact a, b, fun i hi => ?_⟩
  rw [e, c i hi]
  exact (cif_neg (fun z => n z.1)).symm
theorem skI_y {P : Nat → Prop} {h1 h2 h3 : m_H} {a b s : Nat} {l x : Int} (I : skI P (h1 a) l (h1 b s)) (ab : a ≠ b) (ex : h1 b s = x) (h0 : 0 ≤ l) (y : P l.toNat) (c : x < 3) (x0 : 0 ≤ x) (E2 : h2 = m_up h1 a x.toNat l) (E3 : h3 = m_up h2 b s (x + 1)) : skI P (h3 a) (l + 1) (h3 b s) := by
  obtain ⟨i1, i2, i3⟩ := I
  have e : (l + 1).toNat = l.toNat + 1 := by omega
  have ea : h3 a = h2 a := upo E3 ab
  rw [upE E3, ea]
  refine ⟨by rw [e, vwN_y y]; omega, by omega, fun i hi => ?_⟩
  rw [e]
  by_cases g : i = x.toNat
  · subst g
    rw [upE E2]
    have k : skA P (l.toNat + 1) x.toNat = ((l.toNat : Nat) : Int) := cif_pos ⟨y, by omega⟩
    rw [k]; omega
  · rw [upN E2 (fun z => g z.2), i3 i (by omega)]
    exact (cif_neg (fun z => by have := z.2; omega)).symm
theorem vwN_le {P : Nat → Prop} {n : Nat} : ∀ m : Nat, vwN P n ≤ vwN P (n + m)
  | 0 => Int.le_refl _
  | m + 1 => by
    have i := vwN_le (P := P) (n := n) m
    show vwN P n ≤ vwN P (n + m + 1)
    by_cases c : P (n + m)
    · rw [vwN_y c]; omega
    · rw [vwN_n c]; exact i
theorem skI_4 {P : Nat → Prop} {g : Nat → Int} {l s : Int} (I : skI P g l s) (h0 : 0 ≤ l) (h1 : l ≤ 31) (y : P l.toNat) (c : ¬ s < 3) : ¬ vwN P 32 ≤ 3 := by
  have z := vwN_le (P := P) (n := l.toNat + 1) (31 - l.toNat)
  rw [vwN_y y, show l.toNat + 1 + (31 - l.toNat) = 32 by omega] at z
  have := I.1
  omega
/-- what stands in the array: weeks that are asked, each at its place -/
theorem skA_is {P : Nat → Prop} : ∀ (n i : Nat), (i : Int) < vwN P n → ∃ w : Nat, w < n ∧ P w ∧ skA P n i = (w : Int) ∧ vwN P w = (i : Int)
  | 0, i, h => by
    have h' : (i : Int) < 0 := h
    omega
  | n + 1, i, h => by
    by_cases c : P n
    · by_cases g : (i : Int) = vwN P n
      · exact ⟨n, by omega, c, cif_pos ⟨c, g⟩, g.symm⟩
      · rw [vwN_y c] at h
        obtain ⟨w, a, b, d, e⟩ := skA_is (P := P) n i (by omega)
        exact ⟨w, by omega, b, (cif_neg (fun z => g z.2)).trans d, e⟩
    · rw [vwN_n c] at h
      obtain ⟨w, a, b, d, e⟩ := skA_is n i h
      exact ⟨w, by omega, b, (cif_neg (fun z => c z.1)).trans d, e⟩
theorem skA_inj {P : Nat → Prop} {n i k : Nat} (hi : (i : Int) < vwN P n) (hk : (k : Int) < vwN P n) (e : skA P n i = skA P n k) : i = k := by
  obtain ⟨w, _, _, a, b⟩ := skA_is n i hi
  obtain ⟨v, _, _, c, d⟩ := skA_is n k hk
  rw [a, c] at e
  have : w = v := by omega
  subst this
  omega
noncomputable def skN (r : Nat → Int) : Int := vwN (askP r) 32
noncomputable def skAr (r : Nat → Int) : Nat → Int := skA (askP r) 32
def kb (c : Int) (i : Nat) : Int := m_and (m_shr c (2 * (i : Int))) 3
theorem kb_b (c : Int) (i : Nat) : 0 ≤ kb c i ∧ kb c i ≤ 3 := m_and_3 _
/-- the keepers by a code -/
def kS (r A : Nat → Int) (c : Int) : Nat → Nat → Int
  | 0, j => r (10 + j)
  | m + 1, j => if A m = (j : Int) then kb c m else kS r A c m j
theorem kS_out {r A : Nat → Int} {c : Int} {j : Nat} : ∀ m : Nat, (∀ i, i < m → A i ≠ (j : Int)) → kS r A c m j = r (10 + j)
  | 0, _ => rfl
  | m + 1, h => by
    have e : kS r A c (m + 1) j = kS r A c m j := if_neg (h m (by omega))
    rw [e]; exact kS_out m (fun i hi => h i (by omega))
theorem kS_b {r A : Nat → Int} {c : Int} (hk : ∀ j, j < 32 → -1 ≤ r (10 + j) ∧ r (10 + j) ≤ 3) : ∀ m j : Nat, j < 32 → -1 ≤ kS r A c m j ∧ kS r A c m j ≤ 3
  | 0, j, h => hk j h
  | m + 1, j, h => by
    show -1 ≤ (if A m = (j : Int) then kb c m else kS r A c m j) ∧ (if A m = (j : Int) then kb c m else kS r A c m j) ≤ 3
    have i := kS_b (A := A) (c := c) hk m j h
    have b := kb_b c m
    split <;> omega
def skQ (r : Nat → Int) (c : Nat) : Prop := ¬ gnP r (kS r (skAr r) (c : Int) (skN r).toNat) (fun j => r (42 + j)) (cF r)
noncomputable def skM4 (r : Nat → Int) : Nat := 4 ^ (skN r).toNat
noncomputable def skW (r : Nat → Int) (i k n : Nat) : Int := vwN (fun c => skQ r c ∧ kb (c : Int) i = (k : Int)) n
def skK (r K : Nat → Int) (c i : Int) : Prop := ∀ j : Nat, j < 32 → (∀ m : Nat, i ≤ (m : Int) → (m : Int) < skN r → skAr r m ≠ (j : Int)) → K j = kS r (skAr r) c i.toNat j
theorem skK_0 {r K : Nat → Int} {c d : Int} (k : skK r K d 0) : skK r K c 0 := fun j hj h => k j hj h
theorem skK_s {r K K' : Nat → Int} {c i x : Int} (h0 : 0 ≤ i) (k : skK r K c i) (e : skAr r i.toNat = x) (x0 : 0 ≤ x) (E : ∀ j : Nat, K' j = if j = x.toNat then kb c i.toNat else K j) : skK r K' c (i + 1) := fun j hj h => by
  rw [E, show (i + 1).toNat = i.toNat + 1 by omega]
  show _ = if skAr r i.toNat = (j : Int) then kb c i.toNat else kS r (skAr r) c i.toNat j
  rw [e]
  by_cases g : j = x.toNat
  · rw [if_pos g, if_pos (by omega)]
  · rw [if_neg g, if_neg (by omega)]
    refine k j hj (fun m h1 h2 => ?_)
    by_cases q : m = i.toNat
    · subst q; rw [e]; omega
    · exact h m (by omega) h2
theorem skK_e {r K : Nat → Int} {c i : Int} (k : skK r K c i) (hi : skN r ≤ i) : ∀ j : Nat, j < 32 → K j = kS r (skAr r) c i.toNat j := fun j hj => k j hj (fun m h1 h2 => by omega)
theorem skK_z {r K : Nat → Int} {c d i : Int} (i0 : 0 ≤ i) (k : skK r K c i) (hi : skN r = i) : skK r K d 0 := fun j hj h => by
  rw [skK_e k (by omega) j hj, kS_out _ (fun m hm => h m (by omega) (by omega))]
  rfl
/-! the class's ledger, but for the keepers -/
def skL (L : Nat) (h : m_H) (r : Nat → Int) : Prop := RB r ∧ (∀ j, j < 6 → h (L + 2) j = r (42 + j)) ∧ h L 7 = r 0 ∧ LE L h r ∧ SB (h L 9) r ∧ CB (h L 8) r
theorem skL_to {L : Nat} {h h' : m_H} {r : Nat → Int} (X : skL L h r) (e : ∀ i, i < 8 → i ≠ 1 → h' (L + i) = h (L + i)) : skL L h' r := by
  obtain ⟨b, c, n, q, sb, cb⟩ := X
  have e0 : h' L = h L := e 0 (by decide) (by decide)
  refine ⟨b, fun j hj => by rw [e 2 (by decide) (by decide)]; exact c j hj, by rw [e0]; exact n, fun x hx => ?_, by rw [e0]; exact sb, by rw [e0]; exact cb⟩
  rw [e 3 (by decide) (by decide), e 4 (by decide) (by decide), e 5 (by decide) (by decide), e 6 (by decide) (by decide)]; exact q x hx
theorem skL_of {L : Nat} {h : m_H} {r : Nat → Int} (R : LR L h r) : skL L h r := ⟨R.1, R.2.2.1, R.2.2.2.2.1, R.2.2.2.2.2.1, R.2.2.2.2.2.2.2, R.2.2.2.2.2.2.1⟩
theorem skled {L : Nat} (hL : isL L) {cs : List Nat} {ss : List (Nat × Nat)} {h h' : m_H} (S : FR cs ss h h') (o : out 1 33 cs ss = true) : ∀ i, i < 8 → h' (L + i) = h (L + i) := fun i hi => rowz S (fr_out o (by unfold isL at hL; omega) (by unfold isL at hL; omega))
def skG (r : Nat → Int) : Prop := (∀ j, j < 32 → -1 ≤ r (10 + j) ∧ r (10 + j) ≤ 3) ∧ SH r ∧ ∀ K C : Nat → Int, (∀ j, j < 32 → -1 ≤ K j ∧ K j ≤ 3) → EN r K ∧ ∀ en, ∀ q ∈ bL r K C en, gEo q
theorem skG_of {h : m_H} (G : GI h) (N : NP h) : skG (h 110) := ⟨kp_of G, SH_of G, fun _ _ hk => ⟨EN_k G N hk, fun _ => bL_ok G N hk⟩⟩
theorem sk_cb {c l : Int} {r : Nat → Int} (cb : CB c r) (h0 : 0 ≤ l) (h1 : l ≤ 31) (h2 : l < r 0) : m_and (m_shr c l) 1 = 1 ↔ r (5 * l.toNat + 84) = 1 := by
  have z := cb l.toNat (by omega)
  rw [ofw_b h0 h1]
  unfold vBt
  rw [z]
  exact ⟨fun y => y.2, fun y => ⟨by omega, y⟩⟩
theorem ask_iff {r : Nat → Int} {l x2 x4 : Int} (h0 : 0 ≤ l) (e : r (10 + l.toNat) = x2) (c : x2 = -1) (f : x4 = 1 ↔ skE r l (r 0)) : x4 = 1 ↔ askP r l.toNat := by
  unfold askP
  rw [show ((l.toNat : Nat) : Int) = l by omega, f]
  exact ⟨fun z => ⟨e.trans c, z⟩, fun z => z.2⟩
abbrev P_X6_hasEntry3 (h0 : m_H) (L : Nat) (a1 : Int) (r : Nat → Int) : Int → m_H → Prop := fun x h' => GI h' ∧ FR [] [] h0 h' ∧ 0 ≤ x ∧ x ≤ 1 ∧ (x = 1 ↔ skE r a1 (r 0))
def q_X6_hasEntry3 (h0 : m_H) (L : Nat) (a1 : Int) (r : Nat → Int) (n : Nat) : Prop := (∀ (l2 : Int) (h : m_H), GI h → FR [] [] h0 h → 0 ≤ l2 → l2 ≤ 24 → (-2147483648) ≤ a1 → a1 ≤ 2147483647 → (¬ skE r a1 l2) → 2 * (24 - l2) + (1) ≤ (n : Int) → m_Z oF M_X6_hasEntry 2 [some (mR L), some (mI a1), some (mI l2)] [] h (m_QI (P_X6_hasEntry3 h0 L a1 r)))
set_option maxHeartbeats 4000000 in
set_option maxRecDepth 100000 in
theorem s_X6_hasEntry3_2 (h0 : m_H) (L : Nat) (a1 : Int) (r : Nat → Int) (hL : isL L) (G0 : GI h0) (hX : skL L h0 r) (n : Nat) (ih : q_X6_hasEntry3 h0 L a1 r n) : ∀ (l2 : Int) (h : m_H), GI h → FR [] [] h0 h → 0 ≤ l2 → l2 ≤ 24 → (-2147483648) ≤ a1 → a1 ≤ 2147483647 → (¬ skE r a1 l2) → 2 * (24 - l2) + (1) ≤ ((n + 1 : Nat) : Int) → m_Z oF M_X6_hasEntry 2 [some (mR L), some (mI a1), some (mI l2)] [] h (m_QI (P_X6_hasEntry3 h0 L a1 r)) := by
  intro l2 h G R v0 v1 v2 v3 i1 hr
  have x_ : skL L h r := by rw [frE R]; exact hX
  have n_ : h L 7 = r 0 := x_.2.2.1
  refine z_iload_n (M := M_X6_hasEntry) 2 dX6_hasEntry_2 rfl ?_
  refine z_aload_n (M := M_X6_hasEntry) 3 dX6_hasEntry_3 rfl ?_
  refine z_getIG (M := M_X6_hasEntry) 4 dX6_hasEntry_4 f_X6_64 (oL hL) (by decide) (gL7 hL G) (fun x1 ex1 ax1 bx1 => ?_)
  refine z_icmp_ge (M := M_X6_hasEntry) 7 dX6_hasEntry_7 36 rfl (fun c2 => ?_) (fun c2 => ?_)
  · refine z_iconst (M := M_X6_hasEntry) 36 dX6_hasEntry_36 ?_
    exact z_retZ (M := M_X6_hasEntry) 37 dX6_hasEntry_37 rfl (by omega) ⟨G, R, by omega, by omega, ⟨fun z => absurd z (by decide), fun z => absurd (skE_le (by omega) z) i1⟩⟩
  · refine z_aload_n (M := M_X6_hasEntry) 10 dX6_hasEntry_10 rfl ?_
    refine z_getR (M := M_X6_hasEntry) 11 dX6_hasEntry_11 f_X6_67 (oL hL) rfl (rL_3 hL G) ?_
    refine z_iload_n (M := M_X6_hasEntry) 14 dX6_hasEntry_14 rfl ?_
    refine z_ialdG (M := M_X6_hasEntry) 15 dX6_hasEntry_15 (oL_4 hL) (by omega) (by omega) (gL_4 hL G (by omega)) (fun x3 ex3 ax3 bx3 => ?_)
    refine z_iload_n (M := M_X6_hasEntry) 16 dX6_hasEntry_16 rfl ?_
    refine z_icmp_ne (M := M_X6_hasEntry) 17 dX6_hasEntry_17 30 rfl (fun c4 => ?_) (fun c4 => ?_)
    · refine z_iincN (M := M_X6_hasEntry) 30 dX6_hasEntry_30 (ls' := [some (mR L), some (mI a1), some (mI (l2 + 1))]) (by decide) rfl (by (unfold m_32; decide)) (by omega) (by omega) rfl ?_
      refine z_goto (M := M_X6_hasEntry) 33 dX6_hasEntry_33 2 rfl ?_
      exact z_mask [true, true, true] rfl (ih (l2 + 1) h G R (by omega) (by omega) (by omega) (by omega) (skE_s (by omega) i1 (fun z => c4 (((x_.2.2.2.1 l2.toNat (by omega)).2.1.symm.trans ex3).symm.trans z.2))) (by omega))
    · refine z_aload_n (M := M_X6_hasEntry) 20 dX6_hasEntry_20 rfl ?_
      refine z_iload_n (M := M_X6_hasEntry) 21 dX6_hasEntry_21 rfl ?_
      refine z_vI (M := M_X6_hasEntry) 22 dX6_hasEntry_22 t_X4_isCounting l_X6_70 (m_rr_of rfl) (rest := []) (c_X4_isCounting2 h L l2 hL G) (oL hL) rfl rfl rfl (Nat.le_of_ble_eq_true rfl) ⟨rfl, rfl⟩ (fun x5 h1 qx5 => ?_)
      obtain ⟨G1, S1, ax5, bx5, fx5⟩ := qx5
      have R1 := R.call S1 (by decide +kernel)
      refine z_if_eq (M := M_X6_hasEntry) 25 dX6_hasEntry_25 30 rfl (fun c6 => ?_) (fun c6 => ?_)
      · refine z_iincN (M := M_X6_hasEntry) 30 dX6_hasEntry_30 (ls' := [some (mR L), some (mI a1), some (mI (l2 + 1))]) (by decide) rfl (by (unfold m_32; decide)) (by omega) (by omega) rfl ?_
        refine z_goto (M := M_X6_hasEntry) 33 dX6_hasEntry_33 2 rfl ?_
        exact z_mask [true, true, true] rfl (ih (l2 + 1) h1 G1 R1 (by omega) (by omega) (by omega) (by omega) (skE_s (by omega) i1 (fun z => absurd (fx5.mpr ((sk_cb x_.2.2.2.2.2 (by omega) (by omega) (by omega)).mpr z.1)) (by omega))) (by omega))
      · refine z_iconst (M := M_X6_hasEntry) 28 dX6_hasEntry_28 ?_
        exact z_retZ (M := M_X6_hasEntry) 29 dX6_hasEntry_29 rfl (by omega) ⟨G1, R1, by omega, by omega, ⟨fun _ => ⟨l2.toNat, by omega, (sk_cb x_.2.2.2.2.2 (by omega) (by omega) (by omega)).mp (fx5.mp (by omega)), ((x_.2.2.2.1 l2.toNat (by omega)).2.1.symm.trans ex3).trans (by omega)⟩, fun _ => rfl⟩⟩
theorem a_X6_hasEntry3 (h0 : m_H) (L : Nat) (a1 : Int) (r : Nat → Int) (hL : isL L) (G0 : GI h0) (hX : skL L h0 r) : ∀ n, q_X6_hasEntry3 h0 L a1 r n := by
  intro n
  induction n with
  | zero => unfold q_X6_hasEntry3; intros; omega
  | succ n ih => exact s_X6_hasEntry3_2 h0 L a1 r hL G0 hX n ih
set_option maxHeartbeats 4000000 in
set_option maxRecDepth 100000 in
theorem c_X6_hasEntry3 (h0 : m_H) (L : Nat) (a1 : Int) (r : Nat → Int) (hL : isL L) (G0 : GI h0) (hX : skL L h0 r) : m_CI M_X6_hasEntry [mR L, mI a1] h0 (P_X6_hasEntry3 h0 L a1 r) := by
  refine m_CI_of ⟨by decide, rfl, by simp [m_arg, m_isL, M_X6_hasEntry], ⟨rfl, rfl⟩, rfl, rfl⟩ (ls := [some (mR L), some (mI a1), none]) rfl ?_
  have ih := a_X6_hasEntry3 h0 L a1 r hL G0 hX 56
  refine z_ok (fun _ _ ok => ?_)
  have oa1 : m_32 a1 := ok 1 _ rfl
  unfold m_32 at oa1
  refine z_iconst (M := M_X6_hasEntry) 0 dX6_hasEntry_0 ?_
  refine z_istore_n (M := M_X6_hasEntry) 1 dX6_hasEntry_1 (ls' := [some (mR L), some (mI a1), some (mI 0)]) (by decide) rfl ?_
  exact z_mask [true, true, true] rfl (ih 0 h0 G0 (FR.rf (cs := []) (ss := []) (h := h0)) (by omega) (by omega) (by omega) (by omega) skE_0 (by omega))
abbrev P_X6_gather3 (h0 : m_H) (L : Nat) (r : Nat → Int) : Int → m_H → Prop := fun x h' => GI h' ∧ FR [103] [(102, 3)] h0 h' ∧ 0 ≤ x ∧ x ≤ 1 ∧ (x = 1 ↔ skN r ≤ 3) ∧ (x = 1 → skI (askP r) (h' 103) 32 (h' 102 3))
def q_X6_gather3 (h0 : m_H) (L : Nat) (r : Nat → Int) (n : Nat) : Prop := (∀ (l2 : Int) (h : m_H), GI h → FR [103] [(102, 3)] h0 h → 0 ≤ l2 → l2 ≤ 32 → (skI (askP r) (h 103) l2 (h 102 3)) → 2 * (32 - l2) + (1) ≤ (n : Int) → m_Z oF M_X6_gather 7 [some (mR 102), some (mR L), some (mI l2)] [] h (m_QI (P_X6_gather3 h0 L r)))
set_option maxHeartbeats 4000000 in
set_option maxRecDepth 100000 in
theorem s_X6_gather3_7 (h0 : m_H) (L : Nat) (r : Nat → Int) (hL : isL L) (G0 : GI h0) (hX : skL L h0 r) (hK : ∀ j, j < 32 → h0 (L + 1) j = r (10 + j)) (n : Nat) (ih : q_X6_gather3 h0 L r n) : ∀ (l2 : Int) (h : m_H), GI h → FR [103] [(102, 3)] h0 h → 0 ≤ l2 → l2 ≤ 32 → (skI (askP r) (h 103) l2 (h 102 3)) → 2 * (32 - l2) + (1) ≤ ((n + 1 : Nat) : Int) → m_Z oF M_X6_gather 7 [some (mR 102), some (mR L), some (mI l2)] [] h (m_QI (P_X6_gather3 h0 L r)) := by
  intro l2 h G R v0 v1 i1 hr
  have l_ := skled hL R (by decide)
  have x_ : skL L h r := skL_to hX (fun i hi _ => l_ i hi)
  have k_ : ∀ j, j < 32 → r (10 + j) = h (L + 1) j := fun j hj => by rw [l_ 1 (by decide)]; exact (hK j hj).symm
  refine z_iload_n (M := M_X6_gather) 7 dX6_gather_7 rfl ?_
  refine z_bipush (M := M_X6_gather) 8 dX6_gather_8 ?_
  refine z_icmp_ge (M := M_X6_gather) 10 dX6_gather_10 70 rfl (fun c1 => ?_) (fun c1 => ?_)
  · refine z_iconst (M := M_X6_gather) 70 dX6_gather_70 ?_
    exact z_retZ (M := M_X6_gather) 71 dX6_gather_71 rfl (by omega) ⟨G, R, by omega, by omega, ⟨fun _ => by have z := i1; rw [show l2 = 32 by omega] at z; have z1 := z.1; have z2 := z.2.1; show vwN (askP r) 32 ≤ 3; rw [show (32 : Int).toNat = 32 from rfl] at z1; omega, fun _ => rfl⟩, fun _ => by have z := i1; rw [show l2 = 32 by omega] at z; exact z⟩
  · refine z_aload_n (M := M_X6_gather) 13 dX6_gather_13 rfl ?_
    refine z_getR (M := M_X6_gather) 14 dX6_gather_14 f_X6_39 (oL hL) rfl (rL_0 hL G) ?_
    refine z_iload_n (M := M_X6_gather) 17 dX6_gather_17 rfl ?_
    refine z_ialdG (M := M_X6_gather) 18 dX6_gather_18 (oL_1 hL) (by omega) (by omega) (gL_1 hL G (by omega)) (fun x2 ex2 ax2 bx2 => ?_)
    refine z_iconst (M := M_X6_gather) 19 dX6_gather_19 ?_
    refine z_icmp_ne (M := M_X6_gather) 20 dX6_gather_20 64 rfl (fun c3 => ?_) (fun c3 => ?_)
    · refine z_iincN (M := M_X6_gather) 64 dX6_gather_64 (ls' := [some (mR 102), some (mR L), some (mI (l2 + 1))]) (by decide) rfl (by (unfold m_32; decide)) (by omega) (by omega) rfl ?_
      refine z_goto (M := M_X6_gather) 67 dX6_gather_67 7 rfl ?_
      exact z_mask [true, true, true] rfl (ih (l2 + 1) h G R (by omega) (by omega) (skI_n i1 (by omega) (fun z => c3 (((k_ l2.toNat (by omega)).trans ex2).symm.trans z.1))) (by omega))
    · refine z_aload_n (M := M_X6_gather) 23 dX6_gather_23 rfl ?_
      refine z_iload_n (M := M_X6_gather) 24 dX6_gather_24 rfl ?_
      refine z_sI (M := M_X6_gather) 25 dX6_gather_25 t_X6_hasEntry l_X6_61 (m_rr_of rfl) (rest := []) (c_X6_hasEntry3 h L l2 r hL G x_) rfl rfl (Nat.le_of_ble_eq_true rfl) ⟨rfl, rfl⟩ (fun x4 h1 qx4 => ?_)
      obtain ⟨G1, S1, ax4, bx4, fx4⟩ := qx4
      have p_ := ask_iff (by omega) ((k_ l2.toNat (by omega)).trans ex2) (by omega) fx4
      have j1 : skI (askP r) (h1 103) l2 (h1 102 3) := by rw [frE S1]; exact i1
      have R1 := R.call S1 (by decide +kernel)
      refine z_if_ne (M := M_X6_gather) 28 dX6_gather_28 34 rfl (fun c5 => ?_) (fun c5 => ?_)
      · refine z_aload_n (M := M_X6_gather) 34 dX6_gather_34 rfl ?_
        refine z_getIG (M := M_X6_gather) 35 dX6_gather_35 f_X6_36 o_102 (by decide) (g_102_3 G1) (fun x6 ex6 ax6 bx6 => ?_)
        refine z_iconst (M := M_X6_gather) 38 dX6_gather_38 ?_
        refine z_icmp_lt (M := M_X6_gather) 39 dX6_gather_39 44 rfl (fun c7 => ?_) (fun c7 => ?_)
        · refine z_aload_n (M := M_X6_gather) 44 dX6_gather_44 rfl ?_
          refine z_getR (M := M_X6_gather) 45 dX6_gather_45 f_X6_9 o_102 rfl (g_102_1 G1) ?_
          refine z_aload_n (M := M_X6_gather) 48 dX6_gather_48 rfl ?_
          refine z_getIE (M := M_X6_gather) 49 dX6_gather_49 f_X6_36 o_102 (by decide) ex6 ?_
          refine z_iload_n (M := M_X6_gather) 52 dX6_gather_52 rfl ?_
          refine z_iastH (M := M_X6_gather) 53 dX6_gather_53 o_103 (by omega) (by omega) (u_103 G1 (by omega) (by omega)) (R1.up rfl) (fun h2 E2 G2 R2 => ?_)
          refine z_aload_n (M := M_X6_gather) 54 dX6_gather_54 rfl ?_
          refine z_dup (M := M_X6_gather) 55 dX6_gather_55 rfl ?_
          refine z_getIE (M := M_X6_gather) 56 dX6_gather_56 f_X6_36 o_102 (by decide) ((upN E2 (fun q => absurd q.1 (by decide))).trans ex6) ?_
          refine z_iconst (M := M_X6_gather) 59 dX6_gather_59 ?_
          refine z_iaddN (M := M_X6_gather) 60 dX6_gather_60 (by omega) (by omega) ?_
          refine z_putIH (M := M_X6_gather) 61 dX6_gather_61 p_X6_36 o_102 rfl (u_102_3 G2 (by omega) (by omega)) (R2.up rfl) (fun h3 E3 G3 R3 => ?_)
          refine z_iincN (M := M_X6_gather) 64 dX6_gather_64 (ls' := [some (mR 102), some (mR L), some (mI (l2 + 1))]) (by decide) rfl (by (unfold m_32; decide)) (by omega) (by omega) rfl ?_
          refine z_goto (M := M_X6_gather) 67 dX6_gather_67 7 rfl ?_
          exact z_mask [true, true, true] rfl (ih (l2 + 1) h3 G3 R3 (by omega) (by omega) (skI_y j1 (by decide) ex6 (by omega) (p_.mp (by omega)) c7 (by omega) E2 E3) (by omega))
        · refine z_iconst (M := M_X6_gather) 42 dX6_gather_42 ?_
          exact z_retZ (M := M_X6_gather) 43 dX6_gather_43 rfl (by omega) ⟨G1, R1, by omega, by omega, ⟨fun z => absurd z (by decide), fun z => absurd z (skI_4 j1 (by omega) (by omega) (p_.mp (by omega)) (by omega))⟩, fun z => absurd z (by decide)⟩
      · refine z_goto (M := M_X6_gather) 31 dX6_gather_31 64 rfl ?_
        refine z_iincN (M := M_X6_gather) 64 dX6_gather_64 (ls' := [some (mR 102), some (mR L), some (mI (l2 + 1))]) (by decide) rfl (by (unfold m_32; decide)) (by omega) (by omega) rfl ?_
        refine z_goto (M := M_X6_gather) 67 dX6_gather_67 7 rfl ?_
        exact z_mask [true, true, true] rfl (ih (l2 + 1) h1 G1 R1 (by omega) (by omega) (skI_n j1 (by omega) (fun z => absurd (p_.mpr z) (by omega))) (by omega))
theorem a_X6_gather3 (h0 : m_H) (L : Nat) (r : Nat → Int) (hL : isL L) (G0 : GI h0) (hX : skL L h0 r) (hK : ∀ j, j < 32 → h0 (L + 1) j = r (10 + j)) : ∀ n, q_X6_gather3 h0 L r n := by
  intro n
  induction n with
  | zero => unfold q_X6_gather3; intros; omega
  | succ n ih => exact s_X6_gather3_7 h0 L r hL G0 hX hK n ih
set_option maxHeartbeats 4000000 in
set_option maxRecDepth 100000 in
theorem c_X6_gather3 (h0 : m_H) (L : Nat) (r : Nat → Int) (hL : isL L) (G0 : GI h0) (hX : skL L h0 r) (hK : ∀ j, j < 32 → h0 (L + 1) j = r (10 + j)) : m_CI M_X6_gather [mR 102, mR L] h0 (P_X6_gather3 h0 L r) := by
  refine m_CI_of ⟨by decide, rfl, by simp [m_arg, m_isL, M_X6_gather], ⟨rfl, rfl⟩, rfl, rfl⟩ (ls := [some (mR 102), some (mR L), none]) rfl ?_
  have ih := a_X6_gather3 h0 L r hL G0 hX hK 72
  refine z_aload_n (M := M_X6_gather) 0 dX6_gather_0 rfl ?_
  refine z_iconst (M := M_X6_gather) 1 dX6_gather_1 ?_
  refine z_putIH (M := M_X6_gather) 2 dX6_gather_2 p_X6_36 o_102 rfl (u_102_3 G0 (by omega) (by omega)) ((FR.rf (cs := [103]) (ss := [(102, 3)]) (h := h0)).up rfl) (fun h1 E1 G1 R1 => ?_)
  refine z_iconst (M := M_X6_gather) 5 dX6_gather_5 ?_
  refine z_istore_n (M := M_X6_gather) 6 dX6_gather_6 (ls' := [some (mR 102), some (mR L), some (mI 0)]) (by decide) rfl ?_
  exact z_mask [true, true, true] rfl (ih 0 h1 G1 R1 (by omega) (by omega) (skI_0 (upE E1)) (by omega))
abbrev P_X6_keeperBy3 (h0 : m_H) (a0 a1 : Int) : Int → m_H → Prop := fun x h' => GI h' ∧ FR [] [] h0 h' ∧ 0 ≤ x ∧ x ≤ 3 ∧ kb a0 a1.toNat = x
set_option maxHeartbeats 4000000 in
set_option maxRecDepth 100000 in
theorem c_X6_keeperBy3 (h0 : m_H) (a0 a1 : Int) (G0 : GI h0) (p1 : 0 ≤ a1 ∧ a1 ≤ 2) : m_CI M_X6_keeperBy [mI a0, mI a1] h0 (P_X6_keeperBy3 h0 a0 a1) := by
  refine m_CI_of ⟨by decide, rfl, by simp [m_arg, m_isL, M_X6_keeperBy], ⟨rfl, rfl⟩, rfl, rfl⟩ (ls := [some (mI a0), some (mI a1)]) rfl ?_
  refine z_ok (fun _ _ ok => ?_)
  have oa0 : m_32 a0 := ok 0 _ rfl
  unfold m_32 at oa0
  have oa1 : m_32 a1 := ok 1 _ rfl
  unfold m_32 at oa1
  refine z_iload_n (M := M_X6_keeperBy) 0 dX6_keeperBy_0 rfl ?_
  refine z_iconst (M := M_X6_keeperBy) 1 dX6_keeperBy_1 ?_
  refine z_iload_n (M := M_X6_keeperBy) 2 dX6_keeperBy_2 rfl ?_
  refine z_imulN (M := M_X6_keeperBy) 3 dX6_keeperBy_3 (by omega) (by omega) ?_
  refine z_ishr (M := M_X6_keeperBy) 4 dX6_keeperBy_4 ?_
  refine z_topm (fun x2 ex2 ox2 => ?_)
  unfold m_32 at ox2
  refine z_iconst (M := M_X6_keeperBy) 5 dX6_keeperBy_5 ?_
  refine z_iand (M := M_X6_keeperBy) 6 dX6_keeperBy_6 ?_
  refine z_topBI (m_and_3 _) (fun x3 ex3 ax3 bx3 => ?_)
  exact z_retI (M := M_X6_keeperBy) 7 dX6_keeperBy_7 rfl ⟨G0, (FR.rf (cs := []) (ss := []) (h := h0)), by omega, by omega, by unfold kb; rw [show ((a1.toNat : Nat) : Int) = a1 by omega, ex2]; exact ex3⟩
/-- a way noted -/
def ntI (h0 h : m_H) (c l : Int) : Prop := ∀ i k : Nat, i < 3 → k < 4 → h 104 (4 * i + k) = h0 104 (4 * i + k) + (if (i : Int) < l ∧ kb c i = (k : Int) then 1 else 0)
theorem ntI_0 {h0 h : m_H} {c : Int} (e : h 104 = h0 104) : ntI h0 h c 0 := fun i k _ _ => by
  rw [e, if_neg (fun z => by have := z.1; omega)]; omega
theorem ntI_v {h0 h : m_H} {c l k x : Int} (I : ntI h0 h c l) (h1 : 0 ≤ l) (h2 : l ≤ 2) (k0 : 0 ≤ k) (k3 : k ≤ 3) (e : h 104 (l * 4 + k).toNat = x) : h0 104 (l * 4 + k).toNat = x := by
  have z := I l.toNat k.toNat (by omega) (by omega)
  rw [if_neg (fun z => by have := z.1; omega), show 4 * l.toNat + k.toNat = (l * 4 + k).toNat by omega] at z
  omega
theorem ntI_s {h0 h h' : m_H} {c l k x : Int} (I : ntI h0 h c l) (h1 : 0 ≤ l) (h2 : l ≤ 2) (k0 : 0 ≤ k) (k3 : k ≤ 3) (ek : kb c l.toNat = k) (e : h 104 (l * 4 + k).toNat = x) (E : h' = m_up h 104 (l * 4 + k).toNat (x + 1)) : ntI h0 h' c (l + 1) := fun i j hi hj => by
  have z := ntI_v I h1 h2 k0 k3 e
  by_cases g : 4 * i + j = (l * 4 + k).toNat
  · have gi : i = l.toNat := by omega
    have gj : (j : Int) = k := by omega
    rw [g, upE E, z, gi, ek, if_pos ⟨by omega, gj.symm⟩]
  · rw [upN E (fun q => g q.2), I i j hi hj]
    by_cases q : (i : Int) < l
    · by_cases w : kb c i = (j : Int)
      · rw [if_pos ⟨q, w⟩, if_pos ⟨by omega, w⟩]
      · rw [if_neg (fun y => w y.2), if_neg (fun y => w y.2)]
    · rw [if_neg (fun y => q y.1), if_neg]
      rintro ⟨y1, y2⟩
      have gi : i = l.toNat := by omega
      rw [gi, ek] at y2
      exact g (by omega)
abbrev P_X6_note3 (h0 : m_H) (a1 : Int) : m_H → Prop := fun h' => GI h' ∧ FR [104] [(102, 4)] h0 h' ∧ h' 102 4 = h0 102 4 + 1 ∧ ntI h0 h' a1 (h0 102 3)
def q_X6_note3 (h0 : m_H) (a1 : Int) (n : Nat) : Prop := (∀ (l2 : Int) (h : m_H), GI h → FR [104] [(102, 4)] h0 h → 0 ≤ l2 → l2 ≤ 3 → (-2147483648) ≤ a1 → a1 ≤ 2147483647 → (h 102 4 = h0 102 4 + 1) → (ntI h0 h a1 l2) → (l2 ≤ h0 102 3) → 2 * (3 - l2) + (1) ≤ (n : Int) → m_Z oF M_X6_note 12 [some (mR 102), some (mI a1), some (mI l2)] [] h (m_QV (P_X6_note3 h0 a1)))
set_option maxHeartbeats 4000000 in
set_option maxRecDepth 100000 in
theorem s_X6_note3_12 (h0 : m_H) (a1 : Int) (G0 : GI h0) (hb : (0 ≤ h0 102 4 ∧ h0 102 4 ≤ 1000) ∧ ∀ j, j < 12 → 0 ≤ h0 104 j ∧ h0 104 j ≤ 1000) (n : Nat) (ih : q_X6_note3 h0 a1 n) : ∀ (l2 : Int) (h : m_H), GI h → FR [104] [(102, 4)] h0 h → 0 ≤ l2 → l2 ≤ 3 → (-2147483648) ≤ a1 → a1 ≤ 2147483647 → (h 102 4 = h0 102 4 + 1) → (ntI h0 h a1 l2) → (l2 ≤ h0 102 3) → 2 * (3 - l2) + (1) ≤ ((n + 1 : Nat) : Int) → m_Z oF M_X6_note 12 [some (mR 102), some (mI a1), some (mI l2)] [] h (m_QV (P_X6_note3 h0 a1)) := by
  intro l2 h G R v0 v1 v2 v3 i1 i2 i3 hr
  have s_ : h 102 3 = h0 102 3 := R 102 3 rfl
  refine z_iload_n (M := M_X6_note) 12 dX6_note_12 rfl ?_
  refine z_aload_n (M := M_X6_note) 13 dX6_note_13 rfl ?_
  refine z_getIG (M := M_X6_note) 14 dX6_note_14 f_X6_36 o_102 (by decide) (g_102_3 G) (fun x1 ex1 ax1 bx1 => ?_)
  refine z_icmp_ge (M := M_X6_note) 17 dX6_note_17 44 rfl (fun c2 => ?_) (fun c2 => ?_)
  · exact z_retV (M := M_X6_note) 44 dX6_note_44 rfl ⟨G, R, i1, (by have e_ : h0 102 3 = l2 := (by omega); rw [e_]; exact i2)⟩
  · refine z_aload_n (M := M_X6_note) 20 dX6_note_20 rfl ?_
    refine z_getR (M := M_X6_note) 21 dX6_note_21 f_X6_15 o_102 rfl (g_102_2 G) ?_
    refine z_iload_n (M := M_X6_note) 24 dX6_note_24 rfl ?_
    refine z_iconst (M := M_X6_note) 25 dX6_note_25 ?_
    refine z_imulN (M := M_X6_note) 26 dX6_note_26 (by omega) (by omega) ?_
    refine z_iload_n (M := M_X6_note) 27 dX6_note_27 rfl ?_
    refine z_iload_n (M := M_X6_note) 28 dX6_note_28 rfl ?_
    refine z_sI (M := M_X6_note) 29 dX6_note_29 t_X6_keeperBy l_X6_44 (m_rr_of rfl) (rest := [mI (l2 * 4), mR 104]) (c_X6_keeperBy3 h a1 l2 G ⟨by omega, by omega⟩) rfl rfl (Nat.le_of_ble_eq_true rfl) ⟨rfl, rfl⟩ (fun x3 h1 qx3 => ?_)
    obtain ⟨G1, S1, ax3, bx3, fx3⟩ := qx3
    have j2 : ntI h0 h1 a1 l2 := by rw [frE S1]; exact i2
    have j1 : h1 102 4 = h0 102 4 + 1 := by rw [frE S1]; exact i1
    have R1 := R.call S1 (by decide +kernel)
    refine z_iaddN (M := M_X6_note) 32 dX6_note_32 (by omega) (by omega) ?_
    refine z_dup2 (M := M_X6_note) 33 dX6_note_33 rfl rfl ?_
    refine z_ialdV (M := M_X6_note) 34 dX6_note_34 o_104 (by omega) (by omega) (fun x4 ex4 => ?_)
    refine z_ok (fun ox4 _ _ => ?_)
    have ox4 := ox4.1; unfold m_ok m_32 at ox4
    refine z_iconst (M := M_X6_note) 35 dX6_note_35 ?_
    have bx_ := hb.2 (l2 * 4 + x3).toNat (by omega)
    rw [ntI_v j2 (by omega) (by omega) (by omega) (by omega) ex4] at bx_
    refine z_iaddN (M := M_X6_note) 36 dX6_note_36 (by omega) (by omega) ?_
    refine z_iastH (M := M_X6_note) 37 dX6_note_37 o_104 (by omega) (by omega) (u_104 G1) (R1.up rfl) (fun h2 E2 G2 R2 => ?_)
    refine z_iincN (M := M_X6_note) 38 dX6_note_38 (ls' := [some (mR 102), some (mI a1), some (mI (l2 + 1))]) (by decide) rfl (by (unfold m_32; decide)) (by omega) (by omega) rfl ?_
    refine z_goto (M := M_X6_note) 41 dX6_note_41 12 rfl ?_
    exact z_mask [true, true, true] rfl (ih (l2 + 1) h2 G2 R2 (by omega) (by omega) (by omega) (by omega) ((upN E2 (fun q => absurd q.1 (by decide))).trans j1) (ntI_s j2 (by omega) (by omega) (by omega) (by omega) fx3 ex4 E2) (by omega) (by omega))
theorem a_X6_note3 (h0 : m_H) (a1 : Int) (G0 : GI h0) (hb : (0 ≤ h0 102 4 ∧ h0 102 4 ≤ 1000) ∧ ∀ j, j < 12 → 0 ≤ h0 104 j ∧ h0 104 j ≤ 1000) : ∀ n, q_X6_note3 h0 a1 n := by
  intro n
  induction n with
  | zero => unfold q_X6_note3; intros; omega
  | succ n ih => exact s_X6_note3_12 h0 a1 G0 hb n ih
set_option maxHeartbeats 4000000 in
set_option maxRecDepth 100000 in
theorem c_X6_note3 (h0 : m_H) (a1 : Int) (G0 : GI h0) (hb : (0 ≤ h0 102 4 ∧ h0 102 4 ≤ 1000) ∧ ∀ j, j < 12 → 0 ≤ h0 104 j ∧ h0 104 j ≤ 1000) : m_CV M_X6_note [mR 102, mI a1] h0 (P_X6_note3 h0 a1) := by
  refine m_CV_of ⟨by decide, rfl, by simp [m_arg, m_isL, M_X6_note], ⟨rfl, rfl⟩, rfl, rfl⟩ (ls := [some (mR 102), some (mI a1), none]) rfl ?_
  have ih := a_X6_note3 h0 a1 G0 hb 14
  refine z_ok (fun _ _ ok => ?_)
  have oa1 : m_32 a1 := ok 1 _ rfl
  unfold m_32 at oa1
  refine z_aload_n (M := M_X6_note) 0 dX6_note_0 rfl ?_
  refine z_dup (M := M_X6_note) 1 dX6_note_1 rfl ?_
  refine z_getIV (M := M_X6_note) 2 dX6_note_2 f_X6_22 o_102 (by decide) (fun x1 ex1 => ?_)
  refine z_ok (fun ox1 _ _ => ?_)
  have ox1 := ox1.1; unfold m_ok m_32 at ox1
  refine z_iconst (M := M_X6_note) 5 dX6_note_5 ?_
  have b1_ := hb.1
  rw [ex1] at b1_
  refine z_iaddN (M := M_X6_note) 6 dX6_note_6 (by omega) (by omega) ?_
  refine z_putIH (M := M_X6_note) 7 dX6_note_7 p_X6_22 o_102 rfl (u_102_4 G0) ((FR.rf (cs := [104]) (ss := [(102, 4)]) (h := h0)).up rfl) (fun h1 E1 G1 R1 => ?_)
  refine z_iconst (M := M_X6_note) 10 dX6_note_10 ?_
  refine z_istore_n (M := M_X6_note) 11 dX6_note_11 (ls' := [some (mR 102), some (mI a1), some (mI 0)]) (by decide) rfl ?_
  exact z_mask [true, true, true] rfl (ih 0 h1 G1 R1 (by omega) (by omega) (by omega) (by omega) ((upE E1).trans (by omega)) (ntI_0 (upo E1 (by decide))) (g_102_3 G0).1 (by omega))
/-- a place among the weeks asked -/
def plQ (g : Nat → Int) (n a x : Int) : Prop := (x = -1 ∧ ∀ i : Nat, (i : Int) < n → g i ≠ a) ∨ ((0 ≤ x ∧ x < n) ∧ g x.toNat = a ∧ ∀ i : Nat, (i : Int) < x → g i ≠ a)
theorem plQ_eq {g : Nat → Int} {n a x y : Int} (h : plQ g n a x) (k : plQ g n a y) : x = y := by
  rcases h with ⟨h1, h2⟩ | ⟨h1, h2, h3⟩ <;> rcases k with ⟨k1, k2⟩ | ⟨k1, k2, k3⟩
  · omega
  · exact absurd k2 (h2 _ (by omega))
  · exact absurd h2 (k2 _ (by omega))
  · rcases Int.lt_trichotomy x y with z | z | z
    · exact absurd h2 (k3 _ (by omega))
    · exact z
    · exact absurd k2 (h3 _ (by omega))
abbrev P_X6_placeOf3 (h0 : m_H) (a1 : Int) : Int → m_H → Prop := fun x h' => GI h' ∧ FR [] [] h0 h' ∧ (-1) ≤ x ∧ x ≤ 2 ∧ plQ (h0 103) (h0 102 3) a1 x
def q_X6_placeOf3 (h0 : m_H) (a1 : Int) (n : Nat) : Prop := (∀ (l2 : Int) (h : m_H), GI h → FR [] [] h0 h → 0 ≤ l2 → l2 ≤ 3 → (-2147483648) ≤ a1 → a1 ≤ 2147483647 → (∀ i : Nat, (i : Int) < l2 → h0 103 i ≠ a1) → 2 * (3 - l2) + (1) ≤ (n : Int) → m_Z oF M_X6_placeOf 2 [some (mR 102), some (mI a1), some (mI l2)] [] h (m_QI (P_X6_placeOf3 h0 a1)))
set_option maxHeartbeats 4000000 in
set_option maxRecDepth 100000 in
theorem s_X6_placeOf3_2 (h0 : m_H) (a1 : Int) (G0 : GI h0) (n : Nat) (ih : q_X6_placeOf3 h0 a1 n) : ∀ (l2 : Int) (h : m_H), GI h → FR [] [] h0 h → 0 ≤ l2 → l2 ≤ 3 → (-2147483648) ≤ a1 → a1 ≤ 2147483647 → (∀ i : Nat, (i : Int) < l2 → h0 103 i ≠ a1) → 2 * (3 - l2) + (1) ≤ ((n + 1 : Nat) : Int) → m_Z oF M_X6_placeOf 2 [some (mR 102), some (mI a1), some (mI l2)] [] h (m_QI (P_X6_placeOf3 h0 a1)) := by
  intro l2 h G R v0 v1 v2 v3 i1 hr
  have e_ := frE R
  have s_ : h 102 3 = h0 102 3 := by rw [e_]
  have t_ : h 103 l2.toNat = h0 103 l2.toNat := by rw [e_]
  refine z_iload_n (M := M_X6_placeOf) 2 dX6_placeOf_2 rfl ?_
  refine z_aload_n (M := M_X6_placeOf) 3 dX6_placeOf_3 rfl ?_
  refine z_getIG (M := M_X6_placeOf) 4 dX6_placeOf_4 f_X6_36 o_102 (by decide) (g_102_3 G) (fun x1 ex1 ax1 bx1 => ?_)
  refine z_icmp_ge (M := M_X6_placeOf) 7 dX6_placeOf_7 28 rfl (fun c2 => ?_) (fun c2 => ?_)
  · refine z_iconst (M := M_X6_placeOf) 28 dX6_placeOf_28 ?_
    exact z_retI (M := M_X6_placeOf) 29 dX6_placeOf_29 rfl ⟨G, R, by omega, by omega, Or.inl ⟨rfl, fun i hi => i1 i (by omega)⟩⟩
  · refine z_aload_n (M := M_X6_placeOf) 10 dX6_placeOf_10 rfl ?_
    refine z_getR (M := M_X6_placeOf) 11 dX6_placeOf_11 f_X6_9 o_102 rfl (g_102_1 G) ?_
    refine z_iload_n (M := M_X6_placeOf) 14 dX6_placeOf_14 rfl ?_
    refine z_ialdG (M := M_X6_placeOf) 15 dX6_placeOf_15 o_103 (by omega) (by omega) (g_103 G (by omega)) (fun x3 ex3 ax3 bx3 => ?_)
    refine z_iload_n (M := M_X6_placeOf) 16 dX6_placeOf_16 rfl ?_
    refine z_icmp_ne (M := M_X6_placeOf) 17 dX6_placeOf_17 22 rfl (fun c4 => ?_) (fun c4 => ?_)
    · refine z_iincN (M := M_X6_placeOf) 22 dX6_placeOf_22 (ls' := [some (mR 102), some (mI a1), some (mI (l2 + 1))]) (by decide) rfl (by (unfold m_32; decide)) (by omega) (by omega) rfl ?_
      refine z_goto (M := M_X6_placeOf) 25 dX6_placeOf_25 2 rfl ?_
      exact z_mask [true, true, true] rfl (ih (l2 + 1) h G R (by omega) (by omega) (by omega) (by omega) (fun i hi => by by_cases g : i = l2.toNat; subst g; rw [← t_, ex3]; exact c4; exact i1 i (by omega)) (by omega))
    · refine z_iload_n (M := M_X6_placeOf) 20 dX6_placeOf_20 rfl ?_
      exact z_retI (M := M_X6_placeOf) 21 dX6_placeOf_21 rfl ⟨G, R, by omega, by omega, Or.inr ⟨⟨by omega, by omega⟩, t_.symm.trans (ex3.trans (by omega)), i1⟩⟩
theorem a_X6_placeOf3 (h0 : m_H) (a1 : Int) (G0 : GI h0) : ∀ n, q_X6_placeOf3 h0 a1 n := by
  intro n
  induction n with
  | zero => unfold q_X6_placeOf3; intros; omega
  | succ n ih => exact s_X6_placeOf3_2 h0 a1 G0 n ih
set_option maxHeartbeats 4000000 in
set_option maxRecDepth 100000 in
theorem c_X6_placeOf3 (h0 : m_H) (a1 : Int) (G0 : GI h0) : m_CI M_X6_placeOf [mR 102, mI a1] h0 (P_X6_placeOf3 h0 a1) := by
  refine m_CI_of ⟨by decide, rfl, by simp [m_arg, m_isL, M_X6_placeOf], ⟨rfl, rfl⟩, rfl, rfl⟩ (ls := [some (mR 102), some (mI a1), none]) rfl ?_
  have ih := a_X6_placeOf3 h0 a1 G0 14
  refine z_ok (fun _ _ ok => ?_)
  have oa1 : m_32 a1 := ok 1 _ rfl
  unfold m_32 at oa1
  refine z_iconst (M := M_X6_placeOf) 0 dX6_placeOf_0 ?_
  refine z_istore_n (M := M_X6_placeOf) 1 dX6_placeOf_1 (ls' := [some (mR 102), some (mI a1), some (mI 0)]) (by decide) rfl ?_
  exact z_mask [true, true, true] rfl (ih 0 h0 G0 (FR.rf (cs := []) (ss := []) (h := h0)) (by omega) (by omega) (by omega) (by omega) (fun i hi => by omega) (by omega))
abbrev P_X6_waysWith3 (h0 : m_H) (a1 a2 : Int) : Int → m_H → Prop := fun x h' => GI h' ∧ FR [] [] h0 h' ∧ ∃ p, plQ (h0 103) (h0 102 3) a1 p ∧ ((p = -1 ∧ x = -1) ∨ (p ≠ -1 ∧ h0 104 (p * 4 + a2).toNat = x))
set_option maxHeartbeats 4000000 in
set_option maxRecDepth 100000 in
theorem c_X6_waysWith3 (h0 : m_H) (a1 a2 : Int) (G0 : GI h0) (pa2 : 0 ≤ a2 ∧ a2 ≤ 3) : m_CI M_X6_waysWith [mR 102, mI a1, mI a2] h0 (P_X6_waysWith3 h0 a1 a2) := by
  refine m_CI_of ⟨by decide, rfl, by simp [m_arg, m_isL, M_X6_waysWith], ⟨rfl, rfl⟩, rfl, rfl⟩ (ls := [some (mR 102), some (mI a1), some (mI a2), none]) rfl ?_
  refine z_ok (fun _ _ ok => ?_)
  have oa1 : m_32 a1 := ok 1 _ rfl
  unfold m_32 at oa1
  refine z_aload_n (M := M_X6_waysWith) 0 dX6_waysWith_0 rfl ?_
  refine z_iload_n (M := M_X6_waysWith) 1 dX6_waysWith_1 rfl ?_
  refine z_vI (M := M_X6_waysWith) 2 dX6_waysWith_2 t_X6_placeOf l_X6_74 (m_rr_of rfl) (rest := []) (c_X6_placeOf3 h0 a1 G0) o_102 rfl rfl rfl (Nat.le_of_ble_eq_true rfl) ⟨rfl, rfl⟩ (fun x1 h1 qx1 => ?_)
  obtain ⟨G1, S1, ax1, bx1, fx1⟩ := qx1
  have R1 := (FR.rf (cs := []) (ss := []) (h := h0)).call S1 (by decide +kernel)
  refine z_istore_n (M := M_X6_waysWith) 5 dX6_waysWith_5 (ls' := [some (mR 102), some (mI a1), some (mI a2), some (mI x1)]) (by decide) rfl ?_
  refine z_iload_n (M := M_X6_waysWith) 6 dX6_waysWith_6 rfl ?_
  refine z_iconst (M := M_X6_waysWith) 7 dX6_waysWith_7 ?_
  refine z_icmp_ne (M := M_X6_waysWith) 8 dX6_waysWith_8 15 rfl (fun c2 => ?_) (fun c2 => ?_)
  · refine z_aload_n (M := M_X6_waysWith) 15 dX6_waysWith_15 rfl ?_
    refine z_getR (M := M_X6_waysWith) 16 dX6_waysWith_16 f_X6_15 o_102 rfl (g_102_2 G1) ?_
    refine z_iload_n (M := M_X6_waysWith) 19 dX6_waysWith_19 rfl ?_
    refine z_iconst (M := M_X6_waysWith) 20 dX6_waysWith_20 ?_
    refine z_imulN (M := M_X6_waysWith) 21 dX6_waysWith_21 (by omega) (by omega) ?_
    refine z_iload_n (M := M_X6_waysWith) 22 dX6_waysWith_22 rfl ?_
    refine z_iaddN (M := M_X6_waysWith) 23 dX6_waysWith_23 (by omega) (by omega) ?_
    refine z_ialdV (M := M_X6_waysWith) 24 dX6_waysWith_24 o_104 (by omega) (by omega) (fun x3 ex3 => ?_)
    refine z_ok (fun ox3 _ _ => ?_)
    have ox3 := ox3.1; unfold m_ok m_32 at ox3
    exact z_retI (M := M_X6_waysWith) 25 dX6_waysWith_25 rfl ⟨G1, R1, ⟨x1, fx1, Or.inr ⟨c2, by rw [frE S1] at ex3; exact ex3⟩⟩⟩
  · refine z_iconst (M := M_X6_waysWith) 11 dX6_waysWith_11 ?_
    refine z_goto (M := M_X6_waysWith) 12 dX6_waysWith_12 25 rfl ?_
    exact z_retI (M := M_X6_waysWith) 25 dX6_waysWith_25 rfl ⟨G1, R1, ⟨x1, fx1, Or.inl ⟨by omega, rfl⟩⟩⟩
def okK (f : Int → Int) (W x : Int) : Prop := (x = 5 ∧ ∀ k, 0 ≤ k → k < 4 → f k ≠ W) ∨ ((0 ≤ x ∧ x ≤ 3) ∧ f x = W ∧ ∀ k, 0 ≤ k → k < x → f k ≠ W)
def okO (h : m_H) (a x : Int) : Prop := ∃ p, plQ (h 103) (h 102 3) a p ∧ (((p = -1 ∨ h 102 4 = 0) ∧ x = -1) ∨ ((p ≠ -1 ∧ h 102 4 ≠ 0) ∧ okK (fun k => h 104 (p * 4 + k).toNat) (h 102 4) x))
def okI (h : m_H) (a p l : Int) : Prop := plQ (h 103) (h 102 3) a p ∧ (p ≠ -1 ∧ h 102 4 ≠ 0) ∧ ∀ k, 0 ≤ k → k < l → h 104 (p * 4 + k).toNat ≠ h 102 4
theorem okI_v {h : m_H} {a p l x q : Int} (I : okI h a p l) (Q : plQ (h 103) (h 102 3) a q) (f : (q = -1 ∧ x = -1) ∨ (q ≠ -1 ∧ h 104 (q * 4 + l).toNat = x)) : h 104 (p * 4 + l).toNat = x := by
  have e := plQ_eq I.1 Q
  subst e
  rcases f with ⟨f1, _⟩ | ⟨_, f2⟩
  · exact absurd f1 I.2.1.1
  · exact f2
theorem okI_s {h : m_H} {a p l x y : Int} (I : okI h a p l) (h0 : 0 ≤ l) (v : h 104 (p * 4 + l).toNat = x) (ey : h 102 4 = y) (c : x ≠ y) : okI h a p (l + 1) := ⟨I.1, I.2.1, fun k k0 k1 => by
  by_cases g : k = l
  · subst g; rw [v, ey]; exact c
  · exact I.2.2 k k0 (by omega)⟩
abbrev P_X6_onlyKeeper3 (h0 : m_H) (a1 : Int) : Int → m_H → Prop := fun x h' => GI h' ∧ FR [] [] h0 h' ∧ (-1) ≤ x ∧ x ≤ 5 ∧ okO h0 a1 x
def q_X6_onlyKeeper3 (h0 : m_H) (a1 : Int) (n : Nat) : Prop := (∀ (l2 : Int) (h : m_H), GI h → FR [] [] h0 h → 0 ≤ l2 → l2 ≤ 4 → (-2147483648) ≤ a1 → a1 ≤ 2147483647 → (∃ p, okI h0 a1 p l2) → 2 * (4 - l2) + (1) ≤ (n : Int) → m_Z oF M_X6_onlyKeeper 20 [some (mR 102), some (mI a1), some (mI l2)] [] h (m_QI (P_X6_onlyKeeper3 h0 a1)))
set_option maxHeartbeats 4000000 in
set_option maxRecDepth 100000 in
theorem s_X6_onlyKeeper3_20 (h0 : m_H) (a1 : Int) (G0 : GI h0) (n : Nat) (ih : q_X6_onlyKeeper3 h0 a1 n) : ∀ (l2 : Int) (h : m_H), GI h → FR [] [] h0 h → 0 ≤ l2 → l2 ≤ 4 → (-2147483648) ≤ a1 → a1 ≤ 2147483647 → (∃ p, okI h0 a1 p l2) → 2 * (4 - l2) + (1) ≤ ((n + 1 : Nat) : Int) → m_Z oF M_X6_onlyKeeper 20 [some (mR 102), some (mI a1), some (mI l2)] [] h (m_QI (P_X6_onlyKeeper3 h0 a1)) := by
  intro l2 h G R v0 v1 v2 v3 i1 hr
  obtain ⟨p, i1⟩ := i1
  have e_ := frE R
  refine z_iload_n (M := M_X6_onlyKeeper) 20 dX6_onlyKeeper_20 rfl ?_
  refine z_iconst (M := M_X6_onlyKeeper) 21 dX6_onlyKeeper_21 ?_
  refine z_icmp_ge (M := M_X6_onlyKeeper) 22 dX6_onlyKeeper_22 46 rfl (fun c1 => ?_) (fun c1 => ?_)
  · refine z_iconst (M := M_X6_onlyKeeper) 46 dX6_onlyKeeper_46 ?_
    exact z_retI (M := M_X6_onlyKeeper) 47 dX6_onlyKeeper_47 rfl ⟨G, R, by omega, by omega, ⟨p, i1.1, Or.inr ⟨i1.2.1, Or.inl ⟨rfl, fun k k0 k1 => i1.2.2 k k0 (by omega)⟩⟩⟩⟩
  · refine z_aload_n (M := M_X6_onlyKeeper) 25 dX6_onlyKeeper_25 rfl ?_
    refine z_iload_n (M := M_X6_onlyKeeper) 26 dX6_onlyKeeper_26 rfl ?_
    refine z_iload_n (M := M_X6_onlyKeeper) 27 dX6_onlyKeeper_27 rfl ?_
    refine z_vI (M := M_X6_onlyKeeper) 28 dX6_onlyKeeper_28 t_X6_waysWith l_X6_78 (m_rr_of rfl) (rest := []) (c_X6_waysWith3 h a1 l2 G ⟨by omega, by omega⟩) o_102 rfl rfl rfl (Nat.le_of_ble_eq_true rfl) ⟨rfl, rfl⟩ (fun x2 h1 qx2 => ?_)
    obtain ⟨G1, S1, q, q1_, q2_⟩ := qx2
    rw [e_] at q1_ q2_
    have v_ := okI_v i1 q1_ q2_
    have w_ : h1 102 4 = h0 102 4 := by rw [frE S1, e_]
    have R1 := R.call S1 (by decide +kernel)
    refine z_ok (fun ox2 _ _ => ?_)
    have ox2 := ox2.1; unfold m_ok m_32 at ox2
    refine z_aload_n (M := M_X6_onlyKeeper) 31 dX6_onlyKeeper_31 rfl ?_
    refine z_getIV (M := M_X6_onlyKeeper) 32 dX6_onlyKeeper_32 f_X6_22 o_102 (by decide) (fun x3 ex3 => ?_)
    refine z_ok (fun ox3 _ _ => ?_)
    have ox3 := ox3.1; unfold m_ok m_32 at ox3
    refine z_icmp_ne (M := M_X6_onlyKeeper) 35 dX6_onlyKeeper_35 40 rfl (fun c4 => ?_) (fun c4 => ?_)
    · refine z_iincN (M := M_X6_onlyKeeper) 40 dX6_onlyKeeper_40 (ls' := [some (mR 102), some (mI a1), some (mI (l2 + 1))]) (by decide) rfl (by (unfold m_32; decide)) (by omega) (by omega) rfl ?_
      refine z_goto (M := M_X6_onlyKeeper) 43 dX6_onlyKeeper_43 20 rfl ?_
      exact z_mask [true, true, true] rfl (ih (l2 + 1) h1 G1 R1 (by omega) (by omega) (by omega) (by omega) ⟨p, okI_s i1 (by omega) v_ (w_.symm.trans ex3) c4⟩ (by omega))
    · refine z_iload_n (M := M_X6_onlyKeeper) 38 dX6_onlyKeeper_38 rfl ?_
      exact z_retI (M := M_X6_onlyKeeper) 39 dX6_onlyKeeper_39 rfl ⟨G1, R1, by omega, by omega, ⟨p, i1.1, Or.inr ⟨i1.2.1, Or.inr ⟨⟨by omega, by omega⟩, (by show h0 104 (p * 4 + l2).toNat = h0 102 4; omega), fun k k0 k1 => i1.2.2 k k0 k1⟩⟩⟩⟩
theorem a_X6_onlyKeeper3 (h0 : m_H) (a1 : Int) (G0 : GI h0) : ∀ n, q_X6_onlyKeeper3 h0 a1 n := by
  intro n
  induction n with
  | zero => unfold q_X6_onlyKeeper3; intros; omega
  | succ n ih => exact s_X6_onlyKeeper3_20 h0 a1 G0 n ih
set_option maxHeartbeats 4000000 in
set_option maxRecDepth 100000 in
theorem c_X6_onlyKeeper3 (h0 : m_H) (a1 : Int) (G0 : GI h0) : m_CI M_X6_onlyKeeper [mR 102, mI a1] h0 (P_X6_onlyKeeper3 h0 a1) := by
  refine m_CI_of ⟨by decide, rfl, by simp [m_arg, m_isL, M_X6_onlyKeeper], ⟨rfl, rfl⟩, rfl, rfl⟩ (ls := [some (mR 102), some (mI a1), none]) rfl ?_
  have ih := a_X6_onlyKeeper3 h0 a1 G0 16
  refine z_ok (fun _ _ ok => ?_)
  have oa1 : m_32 a1 := ok 1 _ rfl
  unfold m_32 at oa1
  refine z_aload_n (M := M_X6_onlyKeeper) 0 dX6_onlyKeeper_0 rfl ?_
  refine z_iload_n (M := M_X6_onlyKeeper) 1 dX6_onlyKeeper_1 rfl ?_
  refine z_vI (M := M_X6_onlyKeeper) 2 dX6_onlyKeeper_2 t_X6_placeOf l_X6_74 (m_rr_of rfl) (rest := []) (c_X6_placeOf3 h0 a1 G0) o_102 rfl rfl rfl (Nat.le_of_ble_eq_true rfl) ⟨rfl, rfl⟩ (fun x1 h1 qx1 => ?_)
  obtain ⟨G1, S1, ax1, bx1, fx1⟩ := qx1
  have R1 := (FR.rf (cs := []) (ss := []) (h := h0)).call S1 (by decide +kernel)
  refine z_iconst (M := M_X6_onlyKeeper) 5 dX6_onlyKeeper_5 ?_
  refine z_icmp_eq (M := M_X6_onlyKeeper) 6 dX6_onlyKeeper_6 16 rfl (fun c2 => ?_) (fun c2 => ?_)
  · refine z_iconst (M := M_X6_onlyKeeper) 16 dX6_onlyKeeper_16 ?_
    exact z_retI (M := M_X6_onlyKeeper) 17 dX6_onlyKeeper_17 rfl ⟨G1, R1, by omega, by omega, ⟨x1, fx1, Or.inl ⟨Or.inl c2, rfl⟩⟩⟩
  · refine z_aload_n (M := M_X6_onlyKeeper) 9 dX6_onlyKeeper_9 rfl ?_
    refine z_getIV (M := M_X6_onlyKeeper) 10 dX6_onlyKeeper_10 f_X6_22 o_102 (by decide) (fun x3 ex3 => ?_)
    refine z_ok (fun ox3 _ _ => ?_)
    have ox3 := ox3.1; unfold m_ok m_32 at ox3
    refine z_if_ne (M := M_X6_onlyKeeper) 13 dX6_onlyKeeper_13 18 rfl (fun c4 => ?_) (fun c4 => ?_)
    · refine z_iconst (M := M_X6_onlyKeeper) 18 dX6_onlyKeeper_18 ?_
      refine z_istore_n (M := M_X6_onlyKeeper) 19 dX6_onlyKeeper_19 (ls' := [some (mR 102), some (mI a1), some (mI 0)]) (by decide) rfl ?_
      exact z_mask [true, true, true] rfl (ih 0 h1 G1 R1 (by omega) (by omega) (by omega) (by omega) ⟨x1, fx1, ⟨c2, by rw [frE S1] at ex3; omega⟩, fun k k0 k1 => by omega⟩ (by omega))
    · refine z_iconst (M := M_X6_onlyKeeper) 16 dX6_onlyKeeper_16 ?_
      exact z_retI (M := M_X6_onlyKeeper) 17 dX6_onlyKeeper_17 rfl ⟨G1, R1, by omega, by omega, ⟨x1, fx1, Or.inl ⟨Or.inr (by rw [frE S1] at ex3; omega), rfl⟩⟩⟩
abbrev P_J7_fill_104x (h0 : m_H) (a1 : Int) : m_H → Prop := fun h' => GI h' ∧ FR [104] [] h0 h' ∧ (∀ j : Nat, (j : Int) < 12 → h' 104 j = a1)
def q_J7_fill_104x (h0 : m_H) (a1 : Int) (n : Nat) : Prop := (∀ (l2 : Int) (h : m_H), GI h → FR [104] [] h0 h → 0 ≤ l2 → l2 ≤ 12 → (-2147483648) ≤ a1 → a1 ≤ 2147483647 → (∀ j : Nat, (j : Int) < l2 → h 104 j = a1) → 2 * (12 - l2) + (1) ≤ (n : Int) → m_Z oF M_J7_fill_53178 5 [some (mR 104), some (mI a1), some (mI l2), some (mI ((12 : Nat) : Int))] [] h (m_QV (P_J7_fill_104x h0 a1)))
set_option maxHeartbeats 4000000 in
set_option maxRecDepth 100000 in
theorem s_J7_fill_104x_5 (h0 : m_H) (a1 : Int) (G0 : GI h0) (n : Nat) (ih : q_J7_fill_104x h0 a1 n) : ∀ (l2 : Int) (h : m_H), GI h → FR [104] [] h0 h → 0 ≤ l2 → l2 ≤ 12 → (-2147483648) ≤ a1 → a1 ≤ 2147483647 → (∀ j : Nat, (j : Int) < l2 → h 104 j = a1) → 2 * (12 - l2) + (1) ≤ ((n + 1 : Nat) : Int) → m_Z oF M_J7_fill_53178 5 [some (mR 104), some (mI a1), some (mI l2), some (mI ((12 : Nat) : Int))] [] h (m_QV (P_J7_fill_104x h0 a1)) := by
  intro l2 h G R v0 v1 v2 v3 i1 hr
  refine z_iload_n (M := M_J7_fill_53178) 5 dJ7_fill_53178_5 rfl ?_
  refine z_iload_n (M := M_J7_fill_53178) 6 dJ7_fill_53178_6 rfl ?_
  refine z_icmp_ge (M := M_J7_fill_53178) 7 dJ7_fill_53178_7 20 rfl (fun c1 => ?_) (fun c1 => ?_)
  · exact z_retV (M := M_J7_fill_53178) 20 dJ7_fill_53178_20 rfl ⟨G, R, fun j hj => i1 j (by omega)⟩
  · refine z_aload_n (M := M_J7_fill_53178) 10 dJ7_fill_53178_10 rfl ?_
    refine z_iload_n (M := M_J7_fill_53178) 11 dJ7_fill_53178_11 rfl ?_
    refine z_iload_n (M := M_J7_fill_53178) 12 dJ7_fill_53178_12 rfl ?_
    refine z_iastH (M := M_J7_fill_53178) 13 dJ7_fill_53178_13 o_104 (by omega) (by omega) (u_104 G) (R.up rfl) (fun h1 E1 G1 R1 => ?_)
    refine z_iincN (M := M_J7_fill_53178) 14 dJ7_fill_53178_14 (ls' := [some (mR 104), some (mI a1), some (mI (l2 + 1)), some (mI ((12 : Nat) : Int))]) (by decide) rfl (by (unfold m_32; decide)) (by omega) (by omega) rfl ?_
    refine z_goto (M := M_J7_fill_53178) 17 dJ7_fill_53178_17 5 rfl ?_
    exact z_mask [true, true, true, true] rfl (ih (l2 + 1) h1 G1 R1 (by omega) (by omega) (by omega) (by omega) (fun j hj => by by_cases g : j = l2.toNat; subst g; exact upE E1; rw [upN E1 (fun z => g z.2)]; exact i1 j (by omega)) (by omega))
theorem a_J7_fill_104x (h0 : m_H) (a1 : Int) (G0 : GI h0) : ∀ n, q_J7_fill_104x h0 a1 n := by
  intro n
  induction n with
  | zero => unfold q_J7_fill_104x; intros; omega
  | succ n ih => exact s_J7_fill_104x_5 h0 a1 G0 n ih
set_option maxHeartbeats 4000000 in
set_option maxRecDepth 100000 in
theorem c_J7_fill_104x (h0 : m_H) (a1 : Int) (G0 : GI h0) : m_CV M_J7_fill_53178 [mR 104, mI a1] h0 (P_J7_fill_104x h0 a1) := by
  refine m_CV_of ⟨by decide, rfl, by simp [m_arg, m_isL, M_J7_fill_53178], ⟨rfl, rfl⟩, rfl, rfl⟩ (ls := [some (mR 104), some (mI a1), none, none]) rfl ?_
  have ih := a_J7_fill_104x h0 a1 G0 32
  refine z_ok (fun _ _ ok => ?_)
  have oa1 : m_32 a1 := ok 1 _ rfl
  unfold m_32 at oa1
  refine z_iconst (M := M_J7_fill_53178) 0 dJ7_fill_53178_0 ?_
  refine z_istore_n (M := M_J7_fill_53178) 1 dJ7_fill_53178_1 (ls' := [some (mR 104), some (mI a1), some (mI 0), none]) (by decide) rfl ?_
  refine z_aload_n (M := M_J7_fill_53178) 2 dJ7_fill_53178_2 rfl ?_
  refine z_alen (M := M_J7_fill_53178) 3 dJ7_fill_53178_3 o_104 (by decide) (by decide) ?_
  refine z_istore_n (M := M_J7_fill_53178) 4 dJ7_fill_53178_4 (ls' := [some (mR 104), some (mI a1), some (mI 0), some (mI ((12 : Nat) : Int))]) (by decide) rfl ?_
  exact z_mask [true, true, true, true] rfl (ih 0 h0 G0 (FR.rf (cs := [104]) (ss := []) (h := h0)) (by omega) (by omega) (by omega) (by omega) (fun j hj => by omega) (by omega))
/-! all ways tried -/
def skS (r : Nat → Int) (h : m_H) : Prop := skI (askP r) (h 103) 32 (h 102 3) ∧ h 102 4 = vwN (skQ r) (skM4 r) ∧ ∀ i k : Nat, (i : Int) < skN r → k < 4 → h 104 (4 * i + k) = skW r i k (skM4 r)
def skJ (L : Nat) (r : Nat → Int) (h : m_H) (l : Int) : Prop := skL L h r ∧ skI (askP r) (h 103) 32 (h 102 3) ∧ h 102 4 = vwN (skQ r) l.toNat ∧ ∀ i k : Nat, i < 3 → k < 4 → h 104 (4 * i + k) = if (i : Int) < skN r then skW r i k l.toNat else 0
theorem skJ_N {L : Nat} {r : Nat → Int} {h : m_H} {l : Int} (J : skJ L r h l) : h 102 3 = skN r ∧ skN r ≤ 3 := by
  have a : h 102 3 = skN r := J.2.1.1
  have b := J.2.1.2.1
  exact ⟨a, by omega⟩
theorem skJ_to {L : Nat} {r : Nat → Int} {h h' : m_H} {l : Int} (J : skJ L r h l) (e : ∀ i, i < 8 → i ≠ 1 → h' (L + i) = h (L + i)) (e2 : h' 102 3 = h 102 3) (e3 : h' 103 = h 103) (e4 : h' 104 = h 104) (e5 : h' 102 4 = h 102 4) : skJ L r h' l := by
  obtain ⟨a, b, c, d⟩ := J
  exact ⟨skL_to a e, by rw [e2, e3]; exact b, e5.trans c, fun i k hi hk => by rw [e4]; exact d i k hi hk⟩
theorem skJ_n {L : Nat} {r : Nat → Int} {h : m_H} {l : Int} (J : skJ L r h l) (h0 : 0 ≤ l) (n : ¬ skQ r l.toNat) : skJ L r h (l + 1) := by
  obtain ⟨a, b, c, d⟩ := J
  have e : (l + 1).toNat = l.toNat + 1 := by omega
  refine ⟨a, b, by rw [e, vwN_n n]; exact c, fun i k hi hk => ?_⟩
  rw [e, d i k hi hk]
  unfold skW
  rw [vwN_n (fun z => n z.1)]
theorem skJ_y {L : Nat} {r : Nat → Int} {h h' : m_H} {l : Int} (J : skJ L r h l) (h0 : 0 ≤ l) (y : skQ r l.toNat) (e : ∀ i, i < 8 → i ≠ 1 → h' (L + i) = h (L + i)) (e2 : h' 102 3 = h 102 3) (e3 : h' 103 = h 103) (e5 : h' 102 4 = h 102 4 + 1) (I : ntI h h' l (h 102 3)) : skJ L r h' (l + 1) := by
  have nn := skJ_N J
  obtain ⟨a, b, c, d⟩ := J
  have t : (l + 1).toNat = l.toNat + 1 := by omega
  refine ⟨skL_to a e, by rw [e2, e3]; exact b, by rw [t, vwN_y y, e5, c], fun i k hi hk => ?_⟩
  rw [I i k hi hk, d i k hi hk, nn.1, t]
  by_cases g : (i : Int) < skN r
  · rw [if_pos g, if_pos g]
    by_cases w : kb l i = (k : Int)
    · rw [if_pos ⟨g, w⟩]
      exact (vwN_y (P := fun c => skQ r c ∧ kb (c : Int) i = (k : Int)) ⟨y, by rw [show ((l.toNat : Nat) : Int) = l by omega]; exact w⟩).symm
    · rw [if_neg (fun z => w z.2), Int.add_zero]
      exact (vwN_n (P := fun c => skQ r c ∧ kb (c : Int) i = (k : Int)) (fun z => w (by have z2 := z.2; rw [show ((l.toNat : Nat) : Int) = l by omega] at z2; exact z2))).symm
  · rw [if_neg g, if_neg g, if_neg (fun z => g z.1)]; rfl
theorem skJ_b {L : Nat} {r : Nat → Int} {h : m_H} {l : Int} (J : skJ L r h l) (h0 : 0 ≤ l) (h1 : l ≤ 64) : (0 ≤ h 102 4 ∧ h 102 4 ≤ 1000) ∧ ∀ j, j < 12 → 0 ≤ h 104 j ∧ h 104 j ≤ 1000 := by
  obtain ⟨a, b, c, d⟩ := J
  have u := vwN_b (P := skQ r) l.toNat
  refine ⟨by omega, fun j hj => ?_⟩
  have z := d (j / 4) (j % 4) (by omega) (by omega)
  rw [show 4 * (j / 4) + j % 4 = j by omega] at z
  have v := vwN_b (P := fun c => skQ r c ∧ kb (c : Int) (j / 4) = ((j % 4 : Nat) : Int)) l.toNat
  unfold skW at z
  rw [z]
  split <;> omega
theorem skJ_e {L : Nat} {r : Nat → Int} {h : m_H} {l : Int} (J : skJ L r h l) (e : l = (skM4 r : Int)) : skS r h := by
  have nn := skJ_N J
  obtain ⟨a, b, c, d⟩ := J
  have t : l.toNat = skM4 r := by omega
  rw [t] at c d
  exact ⟨b, c, fun i k hi hk => by rw [d i k (by omega) hk, if_pos hi]⟩
theorem sk_all {r : Nat → Int} {n x : Int} (e : n = skN r) (n0 : 0 ≤ n) (n3 : n ≤ 3) (ex : m_shl 1 (2 * n) = x) : x = (skM4 r : Int) := by
  rw [← ex]
  unfold skM4
  rw [← e]
  have k : n = 0 ∨ n = 1 ∨ n = 2 ∨ n = 3 := by omega
  rcases k with rfl | rfl | rfl | rfl <;> decide
theorem skM_b {r : Nat → Int} (h : skN r ≤ 3) : skM4 r ≤ 64 := by
  unfold skM4
  have k : (skN r).toNat = 0 ∨ (skN r).toNat = 1 ∨ (skN r).toNat = 2 ∨ (skN r).toNat = 3 := by omega
  rcases k with e | e | e | e <;> rw [e] <;> decide
theorem skQ_iff {r : Nat → Int} {l i x x3 : Int} (h0 : 0 ≤ l) (e : i = skN r) (e3 : x3 = cF r) (f : x = 1 ↔ ¬ gain (bL r (kS r (skAr r) l i.toNat) (fun j => r (42 + j)) x3)) : x = 1 ↔ skQ r l.toNat := by
  subst e3
  rw [f, e]
  unfold skQ gnP
  rw [show ((l.toNat : Nat) : Int) = l by omega]
theorem skLK {L : Nat} {r : Nat → Int} {h : m_H} {l i : Int} (X : skL L h r) (k : skK r (h (L + 1)) l i) (hi : skN r ≤ i) : LK L h r (kS r (skAr r) l i.toNat) (fun j => r (42 + j)) := ⟨X.1, skK_e k hi, X.2.1, X.2.2.1, X.2.2.2.1, X.2.2.2.2.1⟩
theorem sk_in {L : Nat} {r : Nat → Int} {h : m_H} {x2 n x : Int} (_ : x2 ≠ 0) (I : skI (askP r) (h 103) 32 (h 102 3)) (en : h 102 3 = n) (ex : m_shl 1 (2 * n) = x) (X : skL L h r) (e4 : h 102 4 = 0) (z : ∀ j, j < 12 → h 104 j = 0) (k : ∀ j, j < 32 → h (L + 1) j = r (10 + j)) : (x = (skM4 r : Int) ∧ 0 ≤ x) ∧ skJ L r h 0 ∧ skK r (h (L + 1)) 0 0 := by
  have a : h 102 3 = skN r := I.1
  have b := I.2.1
  have n0 : 0 ≤ skN r := (vwN_b (P := askP r) 32).1
  have e := sk_all (r := r) (n := n) (by omega) (by omega) (by omega) ex
  refine ⟨⟨e, by omega⟩, ⟨X, I, e4, fun i j hi hj => ?_⟩, fun j hj _ => k j hj⟩
  rw [z _ (by omega)]
  split <;> rfl
abbrev P_X6_seek3 (h0 : m_H) (L : Nat) (r : Nat → Int) : Int → m_H → Prop := fun x h' => GI h' ∧ FR (csB ++ [39, 40, 41, 103, 104, (L + 1)]) [(102, 3), (102, 4)] h0 h' ∧ 0 ≤ x ∧ x ≤ 1 ∧ (x = 1 ↔ skN r ≤ 3) ∧ (x = 1 → skS r h')
def q_X6_seek3 (h0 : m_H) (L : Nat) (r : Nat → Int) (n : Nat) : Prop := (∀ (l2 l3 : Int) (h : m_H), GI h → FR (csB ++ [39, 40, 41, 103, 104, (L + 1)]) [(102, 3), (102, 4)] h0 h → 0 ≤ l3 → l3 ≤ 2147483647 → ((l2 = (skM4 r : Int) ∧ l3 ≤ l2) ∧ skJ L r h l3 ∧ skK r (h (L + 1)) 0 0) → 11 * (2147483647 - l3) + (10) ≤ (n : Int) → m_Z oF M_X6_seek 34 [some (mR 102), some (mR L), some (mI l2), some (mI l3), none] [] h (m_QI (P_X6_seek3 h0 L r))) ∧ (∀ (l2 l3 l4 : Int) (h : m_H), GI h → FR (csB ++ [39, 40, 41, 103, 104, (L + 1)]) [(102, 3), (102, 4)] h0 h → 1 ≤ l2 → l2 ≤ 2147483647 → 0 ≤ l3 → l3 ≤ 2147483646 → 0 ≤ l4 → l4 ≤ 3 → ((l2 = (skM4 r : Int) ∧ l3 ≤ l2) ∧ skJ L r h l3 ∧ l3 < l2 ∧ l4 ≤ skN r ∧ skK r (h (L + 1)) l3 l4) → 11 * (2147483647 - l3) + 2 * (3 - l4) + (1) ≤ (n : Int) → m_Z oF M_X6_seek 42 [some (mR 102), some (mR L), some (mI l2), some (mI l3), some (mI l4)] [] h (m_QI (P_X6_seek3 h0 L r)))
set_option maxHeartbeats 4000000 in
set_option maxRecDepth 100000 in
theorem s_X6_seek3_34 (h0 : m_H) (L : Nat) (r : Nat → Int) (hL : isL L) (G0 : GI h0) (hX : skL L h0 r) (hK : ∀ j, j < 32 → h0 (L + 1) j = r (10 + j)) (hG : skG r) (n : Nat) (ih : q_X6_seek3 h0 L r n) : ∀ (l2 l3 : Int) (h : m_H), GI h → FR (csB ++ [39, 40, 41, 103, 104, (L + 1)]) [(102, 3), (102, 4)] h0 h → 0 ≤ l3 → l3 ≤ 2147483647 → ((l2 = (skM4 r : Int) ∧ l3 ≤ l2) ∧ skJ L r h l3 ∧ skK r (h (L + 1)) 0 0) → 11 * (2147483647 - l3) + (10) ≤ ((n + 1 : Nat) : Int) → m_Z oF M_X6_seek 34 [some (mR 102), some (mR L), some (mI l2), some (mI l3), none] [] h (m_QI (P_X6_seek3 h0 L r)) := by
  intro l2 l3 h G R v0 v1 i1 hr
  refine z_ok (fun ostk _ olocs => ?_)
  have ol2 : m_32 l2 := olocs 2 _ rfl
  unfold m_32 at ol2
  refine z_iload_n (M := M_X6_seek) 34 dX6_seek_34 rfl ?_
  refine z_iload_n (M := M_X6_seek) 35 dX6_seek_35 rfl ?_
  refine z_icmp_ge (M := M_X6_seek) 36 dX6_seek_36 101 rfl (fun c1 => ?_) (fun c1 => ?_)
  · refine z_iconst (M := M_X6_seek) 101 dX6_seek_101 ?_
    exact z_retZ (M := M_X6_seek) 102 dX6_seek_102 rfl (by omega) ⟨G, R, by omega, by omega, ⟨fun _ => (skJ_N i1.2.1).2, fun _ => rfl⟩, fun _ => skJ_e i1.2.1 (by omega)⟩
  · refine z_iconst (M := M_X6_seek) 39 dX6_seek_39 ?_
    refine z_istore (M := M_X6_seek) 40 dX6_seek_40 (ls' := [some (mR 102), some (mR L), some (mI l2), some (mI l3), some (mI 0)]) (by decide) rfl ?_
    exact z_mask [true, true, true, true, true] rfl (ih.2 l2 l3 0 h G R (by omega) (by omega) (by omega) (by omega) (by omega) (by omega) ⟨i1.1, i1.2.1, by omega, by have z := vwN_b (P := askP r) 32; exact z.1, skK_0 i1.2.2⟩ (by omega))
set_option maxHeartbeats 4000000 in
set_option maxRecDepth 100000 in
theorem s_X6_seek3_42 (h0 : m_H) (L : Nat) (r : Nat → Int) (hL : isL L) (G0 : GI h0) (hX : skL L h0 r) (hK : ∀ j, j < 32 → h0 (L + 1) j = r (10 + j)) (hG : skG r) (n : Nat) (ih : q_X6_seek3 h0 L r n) : ∀ (l2 l3 l4 : Int) (h : m_H), GI h → FR (csB ++ [39, 40, 41, 103, 104, (L + 1)]) [(102, 3), (102, 4)] h0 h → 1 ≤ l2 → l2 ≤ 2147483647 → 0 ≤ l3 → l3 ≤ 2147483646 → 0 ≤ l4 → l4 ≤ 3 → ((l2 = (skM4 r : Int) ∧ l3 ≤ l2) ∧ skJ L r h l3 ∧ l3 < l2 ∧ l4 ≤ skN r ∧ skK r (h (L + 1)) l3 l4) → 11 * (2147483647 - l3) + 2 * (3 - l4) + (1) ≤ ((n + 1 : Nat) : Int) → m_Z oF M_X6_seek 42 [some (mR 102), some (mR L), some (mI l2), some (mI l3), some (mI l4)] [] h (m_QI (P_X6_seek3 h0 L r)) := by
  intro l2 l3 l4 h G R v0 v1 v2 v3 v4 v5 i1 hr
  have nn_ := skJ_N i1.2.1
  have m_ := skM_b nn_.2
  refine z_iload (M := M_X6_seek) 42 dX6_seek_42 rfl ?_
  refine z_aload_n (M := M_X6_seek) 44 dX6_seek_44 rfl ?_
  refine z_getIG (M := M_X6_seek) 45 dX6_seek_45 f_X6_36 o_102 (by decide) (g_102_3 G) (fun x1 ex1 ax1 bx1 => ?_)
  refine z_icmp_ge (M := M_X6_seek) 48 dX6_seek_48 75 rfl (fun c2 => ?_) (fun c2 => ?_)
  · refine z_aload_n (M := M_X6_seek) 75 dX6_seek_75 rfl ?_
    refine z_getR (M := M_X6_seek) 76 dX6_seek_76 f_X6_18 o_102 rfl (g_102_0 G) ?_
    refine z_aload_n (M := M_X6_seek) 79 dX6_seek_79 rfl ?_
    refine z_aload_n (M := M_X6_seek) 80 dX6_seek_80 rfl ?_
    refine z_getIV (M := M_X6_seek) 81 dX6_seek_81 f_X6_48 (oL hL) (by decide) (fun x3 ex3 => ?_)
    refine z_ok (fun ox3 _ _ => ?_)
    have ox3 := ox3.1; unfold m_ok m_32 at ox3
    refine z_vI (M := M_X6_seek) 84 dX6_seek_84 t_X9_canBe l_X6_51 (m_rr_of rfl) (rest := []) (c_X9_canBe2 h L x3 r (kS r (skAr r) l3 l4.toNat) (fun j => r (42 + j)) hL G (skLK i1.2.1.1 i1.2.2.2.2 (by omega)) (hG.2.2 _ (fun j => r (42 + j)) (kS_b hG.1 _)).1 hG.2.1 ((hG.2.2 _ _ (kS_b hG.1 _)).2 x3)) o_38 rfl rfl rfl (Nat.le_of_ble_eq_true rfl) ⟨rfl, rfl⟩ (fun x4 h1 qx4 => ?_)
    obtain ⟨G1, S1, ax4, bx4, fx4⟩ := qx4
    have c3_ := cF_eq (L := L) i1.2.1.1.1 i1.2.1.1.2.2.2.2.2 ex3 ox3
    have p_ := skQ_iff (by omega) (show l4 = skN r by omega) c3_ fx4.1
    have j1 : skJ L r h1 l3 := skJ_to i1.2.1 (fun i hi _ => led_same hL S1 i hi) (S1 102 3 rfl) (FR.row S1 (fun _ => rfl)) (FR.row S1 (fun _ => rfl)) (S1 102 4 rfl)
    have k1 : skK r (h1 (L + 1)) 0 0 := by rw [led_same hL S1 1 (by decide)]; exact skK_z (by omega) i1.2.2.2.2 (by omega)
    have R1 := R.call S1 (by simp [fsub, fr, csB])
    refine z_if_eq (M := M_X6_seek) 87 dX6_seek_87 95 rfl (fun c5 => ?_) (fun c5 => ?_)
    · refine z_iincN (M := M_X6_seek) 95 dX6_seek_95 (ls' := [some (mR 102), some (mR L), some (mI l2), some (mI (l3 + 1)), some (mI l4)]) (by decide) rfl (by (unfold m_32; decide)) (by omega) (by omega) rfl ?_
      refine z_goto (M := M_X6_seek) 98 dX6_seek_98 34 rfl ?_
      exact z_mask [true, true, true, true, false] rfl (ih.1 l2 (l3 + 1) h1 G1 R1 (by omega) (by omega) ⟨⟨i1.1.1, by omega⟩, skJ_n j1 (by omega) (fun z => absurd (p_.mpr z) (by omega)), k1⟩ (by omega))
    · refine z_aload_n (M := M_X6_seek) 90 dX6_seek_90 rfl ?_
      refine z_iload_n (M := M_X6_seek) 91 dX6_seek_91 rfl ?_
      refine z_vV (M := M_X6_seek) 92 dX6_seek_92 t_X6_note l_X6_57 (m_rr_of rfl) (rest := []) (c_X6_note3 h1 l3 G1 (skJ_b j1 (by omega) (by omega))) o_102 rfl rfl rfl (Nat.le_of_ble_eq_true rfl) ⟨rfl, rfl⟩ (fun h2 qx6 => ?_)
      obtain ⟨G2, S2, n1_, n2_⟩ := qx6
      have l2_ := skled hL S2 (by decide)
      have R2 := R1.call S2 (by simp [fsub, fr, csB])
      refine z_iincN (M := M_X6_seek) 95 dX6_seek_95 (ls' := [some (mR 102), some (mR L), some (mI l2), some (mI (l3 + 1)), some (mI l4)]) (by decide) rfl (by (unfold m_32; decide)) (by omega) (by omega) rfl ?_
      refine z_goto (M := M_X6_seek) 98 dX6_seek_98 34 rfl ?_
      exact z_mask [true, true, true, true, false] rfl (ih.1 l2 (l3 + 1) h2 G2 R2 (by omega) (by omega) ⟨⟨i1.1.1, by omega⟩, skJ_y j1 (by omega) (p_.mp (by omega)) (fun i hi _ => l2_ i hi) (S2 102 3 rfl) (FR.row S2 (fun _ => rfl)) n1_ n2_, by rw [l2_ 1 (by decide)]; exact k1⟩ (by omega))
  · refine z_aload_n (M := M_X6_seek) 51 dX6_seek_51 rfl ?_
    refine z_getR (M := M_X6_seek) 52 dX6_seek_52 f_X6_39 (oL hL) rfl (rL_0 hL G) ?_
    refine z_aload_n (M := M_X6_seek) 55 dX6_seek_55 rfl ?_
    refine z_getR (M := M_X6_seek) 56 dX6_seek_56 f_X6_9 o_102 rfl (g_102_1 G) ?_
    refine z_iload (M := M_X6_seek) 59 dX6_seek_59 rfl ?_
    refine z_ialdG (M := M_X6_seek) 61 dX6_seek_61 o_103 (by omega) (by omega) (g_103 G (by omega)) (fun x7 ex7 ax7 bx7 => ?_)
    refine z_iload_n (M := M_X6_seek) 62 dX6_seek_62 rfl ?_
    refine z_iload (M := M_X6_seek) 63 dX6_seek_63 rfl ?_
    refine z_sI (M := M_X6_seek) 65 dX6_seek_65 t_X6_keeperBy l_X6_44 (m_rr_of rfl) (rest := [mI x7, mR (L + 1)]) (c_X6_keeperBy3 h l3 l4 G ⟨by omega, by omega⟩) rfl rfl (Nat.le_of_ble_eq_true rfl) ⟨rfl, rfl⟩ (fun x8 h3 qx8 => ?_)
    obtain ⟨G3, S3, ax8, bx8, fx8⟩ := qx8
    have e3_ := frE S3
    have a7_ : skAr r l4.toNat = x7 := (i1.2.1.2.1.2.2 l4.toNat (by omega)).symm.trans ex7
    have R3 := R.call S3 (by simp [fsub, fr, csB])
    refine z_iastH (M := M_X6_seek) 68 dX6_seek_68 (oL_1 hL) (by omega) (by omega) (uL_1 hL G3 (by omega) (by omega)) (R3.up (by simp [fr])) (fun h4 E4 G4 R4 => ?_)
    refine z_iincN (M := M_X6_seek) 69 dX6_seek_69 (ls' := [some (mR 102), some (mR L), some (mI l2), some (mI l3), some (mI (l4 + 1))]) (by decide) rfl (by (unfold m_32; decide)) (by omega) (by omega) rfl ?_
    refine z_goto (M := M_X6_seek) 72 dX6_seek_72 42 rfl ?_
    exact z_mask [true, true, true, true, true] rfl (ih.2 l2 l3 (l4 + 1) h4 G4 R4 (by omega) (by omega) (by omega) (by omega) (by omega) (by omega) ⟨i1.1, skJ_to i1.2.1 (fun i hi hn => (upo E4 (by omega)).trans (by rw [e3_])) (by rw [upo E4 (show (102 : Nat) ≠ L + 1 by unfold isL at hL; omega), e3_]) (by rw [upo E4 (show (103 : Nat) ≠ L + 1 by unfold isL at hL; omega), e3_]) (by rw [upo E4 (show (104 : Nat) ≠ L + 1 by unfold isL at hL; omega), e3_]) (by rw [upo E4 (show (102 : Nat) ≠ L + 1 by unfold isL at hL; omega), e3_]), i1.2.2.1, by omega, skK_s (by omega) i1.2.2.2.2 a7_ (by omega) (fun j => by by_cases g : j = x7.toNat; rw [if_pos g, g, upE E4, fx8]; rw [if_neg g, upN E4 (fun z => g z.2), e3_])⟩ (by omega))
theorem a_X6_seek3 (h0 : m_H) (L : Nat) (r : Nat → Int) (hL : isL L) (G0 : GI h0) (hX : skL L h0 r) (hK : ∀ j, j < 32 → h0 (L + 1) j = r (10 + j)) (hG : skG r) : ∀ n, q_X6_seek3 h0 L r n := by
  intro n
  induction n with
  | zero => unfold q_X6_seek3; refine ⟨?_, ?_⟩ <;> (intros; omega)
  | succ n ih => exact ⟨s_X6_seek3_34 h0 L r hL G0 hX hK hG n ih, s_X6_seek3_42 h0 L r hL G0 hX hK hG n ih⟩
set_option maxHeartbeats 4000000 in
set_option maxRecDepth 100000 in
theorem c_X6_seek3 (h0 : m_H) (L : Nat) (r : Nat → Int) (hL : isL L) (G0 : GI h0) (hX : skL L h0 r) (hK : ∀ j, j < 32 → h0 (L + 1) j = r (10 + j)) (hG : skG r) : m_CI M_X6_seek [mR 102, mR L] h0 (P_X6_seek3 h0 L r) := by
  refine m_CI_of ⟨by decide, rfl, by simp [m_arg, m_isL, M_X6_seek], ⟨rfl, rfl⟩, rfl, rfl⟩ (ls := [some (mR 102), some (mR L), none, none, none]) rfl ?_
  have ih := a_X6_seek3 h0 L r hL G0 hX hK hG 23622320134
  refine z_aload_n (M := M_X6_seek) 0 dX6_seek_0 rfl ?_
  refine z_iconst (M := M_X6_seek) 1 dX6_seek_1 ?_
  refine z_putIH (M := M_X6_seek) 2 dX6_seek_2 p_X6_22 o_102 rfl (u_102_4 G0) ((FR.rf (cs := (csB ++ [39, 40, 41, 103, 104, (L + 1)])) (ss := [(102, 3), (102, 4)]) (h := h0)).up (by simp [fr, csB])) (fun h1 E1 G1 R1 => ?_)
  refine z_aload_n (M := M_X6_seek) 5 dX6_seek_5 rfl ?_
  refine z_getR (M := M_X6_seek) 6 dX6_seek_6 f_X6_15 o_102 rfl (g_102_2 G1) ?_
  refine z_iconst (M := M_X6_seek) 9 dX6_seek_9 ?_
  refine z_sV (M := M_X6_seek) 10 dX6_seek_10 t_J7_fill_53178 l_X6_26 (m_rr_of rfl) (rest := []) (c_J7_fill_104x h1 0 G1) rfl rfl (Nat.le_of_ble_eq_true rfl) ⟨rfl, rfl⟩ (fun h2 qx1 => ?_)
  obtain ⟨G2, S2, z2_⟩ := qx1
  have l1_ : ∀ i, i < 8 → h1 (L + i) = h0 (L + i) := fun i hi => upo E1 (by unfold isL at hL; omega)
  have l2_ := skled hL S2 (by decide)
  have x2_ : skL L h2 r := skL_to hX (fun i hi _ => (l2_ i hi).trans (l1_ i hi))
  have k2_ : ∀ j, j < 32 → h2 (L + 1) j = r (10 + j) := fun j hj => by rw [l2_ 1 (by decide), l1_ 1 (by decide)]; exact hK j hj
  have R2 := R1.call S2 (by simp [fsub, fr, csB])
  refine z_aload_n (M := M_X6_seek) 13 dX6_seek_13 rfl ?_
  refine z_aload_n (M := M_X6_seek) 14 dX6_seek_14 rfl ?_
  refine z_vI (M := M_X6_seek) 15 dX6_seek_15 t_X6_gather l_X6_32 (m_rr_of rfl) (rest := []) (c_X6_gather3 h2 L r hL G2 x2_ k2_) o_102 rfl rfl rfl (Nat.le_of_ble_eq_true rfl) ⟨rfl, rfl⟩ (fun x2 h3 qx2 => ?_)
  obtain ⟨G3, S3, ax2, bx2, fx2, gx2⟩ := qx2
  have l3_ := skled hL S3 (by decide)
  have R3 := R2.call S3 (by simp [fsub, fr, csB])
  refine z_if_ne (M := M_X6_seek) 18 dX6_seek_18 23 rfl (fun c3 => ?_) (fun c3 => ?_)
  · refine z_iconst (M := M_X6_seek) 23 dX6_seek_23 ?_
    refine z_iconst (M := M_X6_seek) 24 dX6_seek_24 ?_
    refine z_aload_n (M := M_X6_seek) 25 dX6_seek_25 rfl ?_
    refine z_getIG (M := M_X6_seek) 26 dX6_seek_26 f_X6_36 o_102 (by decide) (g_102_3 G3) (fun x4 ex4 ax4 bx4 => ?_)
    refine z_imulN (M := M_X6_seek) 29 dX6_seek_29 (by omega) (by omega) ?_
    refine z_ishl (M := M_X6_seek) 30 dX6_seek_30 ?_
    refine z_topm (fun x5 ex5 ox5 => ?_)
    unfold m_32 at ox5
    refine z_istore_n (M := M_X6_seek) 31 dX6_seek_31 (ls' := [some (mR 102), some (mR L), some (mI x5), none, none]) (by decide) rfl ?_
    refine z_iconst (M := M_X6_seek) 32 dX6_seek_32 ?_
    refine z_istore_n (M := M_X6_seek) 33 dX6_seek_33 (ls' := [some (mR 102), some (mR L), some (mI x5), some (mI 0), none]) (by decide) rfl ?_
    exact z_mask [true, true, true, true, false] rfl (ih.1 x5 0 h3 G3 R3 (by omega) (by omega) (sk_in (by omega) (gx2 (by omega)) ex4 ex5 (skL_to x2_ (fun i hi _ => l3_ i hi)) ((S3 102 4 rfl).trans ((S2 102 4 rfl).trans (upE E1))) (fun j hj => (congrFun (FR.row S3 (fun _ => rfl) : h3 104 = h2 104) j).trans (z2_ j (by omega))) (fun j hj => (congrFun (l3_ 1 (by decide)) j).trans (k2_ j hj))) (by omega))
  · refine z_iconst (M := M_X6_seek) 21 dX6_seek_21 ?_
    exact z_retZ (M := M_X6_seek) 22 dX6_seek_22 rfl (by omega) ⟨G3, R3, by omega, by omega, ⟨fun z => absurd z (by decide), fun z => absurd (fx2.mpr z) (by omega)⟩, fun z => absurd z (by decide)⟩
/-! who kept the gate, the reference's side -/
def skR (r : Nat → Int) (h : m_H) : Prop := h 110 = r ∧ skK r (h 122) 0 0 ∧ (∀ j, j < 6 → h 123 j = r (42 + j)) ∧ skI (askP r) (h 146) 32 (h 108 58)
theorem fa_at {h h0 : m_H} {l x : Int} {k : Nat} (r_ : h 110 = h0 110) (hl : 0 ≤ l) (e : h 110 (80 + 5 * l + (k : Int)).toNat = x) : h0 110 (5 * l.toNat + (80 + k)) = x := by
  rw [← r_, ← e, show (80 + 5 * l + (k : Int)).toNat = 5 * l.toNat + (80 + k) by omega]
theorem skR_of {r : Nat → Int} {h : m_H} (X : RX r (fun j => r (10 + j)) (fun j => r (42 + j)) h) (I : skI (askP r) (h 146) 32 (h 108 58)) : skR r h := ⟨X.1, fun j hj _ => X.2.1 j hj, X.2.2, I⟩
theorem skI_32 {P : Nat → Prop} {g : Nat → Int} {l s : Int} (I : skI P g l s) (h : l = 32) : skI P g 32 s := by
  subst h; exact I
theorem skI_3 {P : Nat → Prop} {g : Nat → Int} {l s : Int} (I : skI P g l s) (h : l = 32) : vwN P 32 ≤ 3 := by
  subst h
  have a := I.1
  have b := I.2.1
  have a' : s = vwN P 32 := a
  omega
abbrev P_X12_findAsked3 (h0 : m_H) : Int → m_H → Prop := fun x h' => GI h' ∧ FR [122, 123, 146] [(108, 58)] h0 h' ∧ 0 ≤ x ∧ x ≤ 1 ∧ (x = 1 ↔ skN (h0 110) ≤ 3) ∧ (x = 1 → skR (h0 110) h')
def q_X12_findAsked3 (h0 : m_H) (n : Nat) : Prop := (∀ (l1 : Int) (h : m_H), GI h → FR [122, 123, 146] [(108, 58)] h0 h → 0 ≤ l1 → l1 ≤ 32 → (RX (h0 110) (fun j => h0 110 (10 + j)) (fun j => h0 110 (42 + j)) h ∧ skI (askP (h0 110)) (h 146) l1 (h 108 58)) → 53 * (32 - l1) + (52) ≤ (n : Int) → m_Z oF M_X12_findAsked 11 [some (mR 108), some (mI l1), none, none] [] h (m_QI (P_X12_findAsked3 h0))) ∧ (∀ (l1 l2 l3 : Int) (h : m_H), GI h → FR [122, 123, 146] [(108, 58)] h0 h → 0 ≤ l1 → l1 ≤ 31 → 0 ≤ l2 → l2 ≤ 1 → 0 ≤ l3 → l3 ≤ 24 → (RX (h0 110) (fun j => h0 110 (10 + j)) (fun j => h0 110 (42 + j)) h ∧ skI (askP (h0 110)) (h 146) l1 (h 108 58) ∧ (l2 = 1 ↔ skE (h0 110) l1 l3) ∧ l3 ≤ h0 110 0) → 53 * (32 - l1) + 2 * (24 - l3) + (1) ≤ (n : Int) → m_Z oF M_X12_findAsked 21 [some (mR 108), some (mI l1), some (mI l2), some (mI l3)] [] h (m_QI (P_X12_findAsked3 h0)))
set_option maxHeartbeats 4000000 in
set_option maxRecDepth 100000 in
theorem s_X12_findAsked3_11 (h0 : m_H) (G0 : GI h0) (n : Nat) (ih : q_X12_findAsked3 h0 n) : ∀ (l1 : Int) (h : m_H), GI h → FR [122, 123, 146] [(108, 58)] h0 h → 0 ≤ l1 → l1 ≤ 32 → (RX (h0 110) (fun j => h0 110 (10 + j)) (fun j => h0 110 (42 + j)) h ∧ skI (askP (h0 110)) (h 146) l1 (h 108 58)) → 53 * (32 - l1) + (52) ≤ ((n + 1 : Nat) : Int) → m_Z oF M_X12_findAsked 11 [some (mR 108), some (mI l1), none, none] [] h (m_QI (P_X12_findAsked3 h0)) := by
  intro l1 h G R v0 v1 i1 hr
  refine z_iload_n (M := M_X12_findAsked) 11 dX12_findAsked_11 rfl ?_
  refine z_bipush (M := M_X12_findAsked) 12 dX12_findAsked_12 ?_
  refine z_icmp_ge (M := M_X12_findAsked) 14 dX12_findAsked_14 120 rfl (fun c1 => ?_) (fun c1 => ?_)
  · refine z_iconst (M := M_X12_findAsked) 120 dX12_findAsked_120 ?_
    exact z_retZ (M := M_X12_findAsked) 121 dX12_findAsked_121 rfl (by omega) ⟨G, R, by omega, by omega, ⟨fun _ => skI_3 i1.2 (by omega), fun _ => rfl⟩, fun _ => skR_of i1.1 (skI_32 i1.2 (by omega))⟩
  · refine z_iconst (M := M_X12_findAsked) 17 dX12_findAsked_17 ?_
    refine z_istore_n (M := M_X12_findAsked) 18 dX12_findAsked_18 (ls' := [some (mR 108), some (mI l1), some (mI 0), none]) (by decide) rfl ?_
    refine z_iconst (M := M_X12_findAsked) 19 dX12_findAsked_19 ?_
    refine z_istore_n (M := M_X12_findAsked) 20 dX12_findAsked_20 (ls' := [some (mR 108), some (mI l1), some (mI 0), some (mI 0)]) (by decide) rfl ?_
    exact z_mask [true, true, true, true] rfl (ih.2 l1 0 0 h G R (by omega) (by omega) (by omega) (by omega) (by omega) (by omega) ⟨i1.1, i1.2, ⟨fun z => absurd z (by decide), fun z => absurd z skE_0⟩, (gw_0 G0).1⟩ (by omega))
set_option maxHeartbeats 4000000 in
set_option maxRecDepth 100000 in
theorem s_X12_findAsked3_21 (h0 : m_H) (G0 : GI h0) (n : Nat) (ih : q_X12_findAsked3 h0 n) : ∀ (l1 l2 l3 : Int) (h : m_H), GI h → FR [122, 123, 146] [(108, 58)] h0 h → 0 ≤ l1 → l1 ≤ 31 → 0 ≤ l2 → l2 ≤ 1 → 0 ≤ l3 → l3 ≤ 24 → (RX (h0 110) (fun j => h0 110 (10 + j)) (fun j => h0 110 (42 + j)) h ∧ skI (askP (h0 110)) (h 146) l1 (h 108 58) ∧ (l2 = 1 ↔ skE (h0 110) l1 l3) ∧ l3 ≤ h0 110 0) → 53 * (32 - l1) + 2 * (24 - l3) + (1) ≤ ((n + 1 : Nat) : Int) → m_Z oF M_X12_findAsked 21 [some (mR 108), some (mI l1), some (mI l2), some (mI l3)] [] h (m_QI (P_X12_findAsked3 h0)) := by
  intro l1 l2 l3 h G R v0 v1 v2 v3 v4 v5 i1 hr
  have r_ : h 110 = h0 110 := i1.1.1
  have r0_ : h 110 (0 : Int).toNat = h0 110 0 := congrFun i1.1.1 0
  refine z_iload_n (M := M_X12_findAsked) 21 dX12_findAsked_21 rfl ?_
  refine z_aload_n (M := M_X12_findAsked) 22 dX12_findAsked_22 rfl ?_
  refine z_getR (M := M_X12_findAsked) 23 dX12_findAsked_23 f_X12_13 o_108 rfl (g_108_3 G) ?_
  refine z_iconst (M := M_X12_findAsked) 26 dX12_findAsked_26 ?_
  refine z_ialdG (M := M_X12_findAsked) 27 dX12_findAsked_27 o_110 (by omega) (by omega) (gw_0 G) (fun x1 ex1 ax1 bx1 => ?_)
  refine z_icmp_ge (M := M_X12_findAsked) 28 dX12_findAsked_28 67 rfl (fun c2 => ?_) (fun c2 => ?_)
  · have q_ : l2 = 1 ↔ skE (h0 110) l1 (h0 110 0) := (by have e_ : h0 110 0 = l3 := (by omega); rw [e_]; exact i1.2.2.1)
    refine z_iload_n (M := M_X12_findAsked) 67 dX12_findAsked_67 rfl ?_
    refine z_if_eq (M := M_X12_findAsked) 68 dX12_findAsked_68 114 rfl (fun c3 => ?_) (fun c3 => ?_)
    · refine z_iincN (M := M_X12_findAsked) 114 dX12_findAsked_114 (ls' := [some (mR 108), some (mI (l1 + 1)), some (mI l2), some (mI l3)]) (by decide) rfl (by (unfold m_32; decide)) (by omega) (by omega) rfl ?_
      refine z_goto (M := M_X12_findAsked) 117 dX12_findAsked_117 11 rfl ?_
      exact z_mask [true, true, false, false] rfl (ih.1 (l1 + 1) h G R (by omega) (by omega) ⟨i1.1, skI_n i1.2.1 (by omega) (fun z => absurd (q_.mpr (by have y := z.2; rw [show ((l1.toNat : Nat) : Int) = l1 by omega] at y; exact y)) (by omega))⟩ (by omega))
    · refine z_aload_n (M := M_X12_findAsked) 71 dX12_findAsked_71 rfl ?_
      refine z_getR (M := M_X12_findAsked) 72 dX12_findAsked_72 f_X12_13 o_108 rfl (g_108_3 G) ?_
      refine z_bipush (M := M_X12_findAsked) 75 dX12_findAsked_75 ?_
      refine z_iload_n (M := M_X12_findAsked) 77 dX12_findAsked_77 rfl ?_
      refine z_iaddN (M := M_X12_findAsked) 78 dX12_findAsked_78 (by omega) (by omega) ?_
      refine z_ialdG (M := M_X12_findAsked) 79 dX12_findAsked_79 o_110 (by omega) (by omega) (gw_w G (by omega) (by omega)) (fun x4 ex4 ax4 bx4 => ?_)
      refine z_iconst (M := M_X12_findAsked) 80 dX12_findAsked_80 ?_
      refine z_icmp_ne (M := M_X12_findAsked) 81 dX12_findAsked_81 114 rfl (fun c5 => ?_) (fun c5 => ?_)
      · refine z_iincN (M := M_X12_findAsked) 114 dX12_findAsked_114 (ls' := [some (mR 108), some (mI (l1 + 1)), some (mI l2), some (mI l3)]) (by decide) rfl (by (unfold m_32; decide)) (by omega) (by omega) rfl ?_
        refine z_goto (M := M_X12_findAsked) 117 dX12_findAsked_117 11 rfl ?_
        exact z_mask [true, true, false, false] rfl (ih.1 (l1 + 1) h G R (by omega) (by omega) ⟨i1.1, skI_n i1.2.1 (by omega) (fun z => c5 ((dt_at r_ (by omega) ex4).symm.trans z.1))⟩ (by omega))
      · refine z_aload_n (M := M_X12_findAsked) 84 dX12_findAsked_84 rfl ?_
        refine z_getIG (M := M_X12_findAsked) 85 dX12_findAsked_85 f_X12_487 o_108 (by decide) (g_108_58 G) (fun x6 ex6 ax6 bx6 => ?_)
        refine z_iconst (M := M_X12_findAsked) 88 dX12_findAsked_88 ?_
        refine z_icmp_ne (M := M_X12_findAsked) 89 dX12_findAsked_89 94 rfl (fun c7 => ?_) (fun c7 => ?_)
        · refine z_aload_n (M := M_X12_findAsked) 94 dX12_findAsked_94 rfl ?_
          refine z_getR (M := M_X12_findAsked) 95 dX12_findAsked_95 f_X12_127 o_108 rfl (g_108_57 G) ?_
          refine z_aload_n (M := M_X12_findAsked) 98 dX12_findAsked_98 rfl ?_
          refine z_getIE (M := M_X12_findAsked) 99 dX12_findAsked_99 f_X12_487 o_108 (by decide) ex6 ?_
          refine z_iload_n (M := M_X12_findAsked) 102 dX12_findAsked_102 rfl ?_
          refine z_iastH (M := M_X12_findAsked) 103 dX12_findAsked_103 o_146 (by omega) (by omega) (u_146 G (by omega) (by omega)) (R.up rfl) (fun h1 E1 G1 R1 => ?_)
          refine z_aload_n (M := M_X12_findAsked) 104 dX12_findAsked_104 rfl ?_
          refine z_dup (M := M_X12_findAsked) 105 dX12_findAsked_105 rfl ?_
          refine z_getIE (M := M_X12_findAsked) 106 dX12_findAsked_106 f_X12_487 o_108 (by decide) ((upN E1 (fun q => absurd q.1 (by decide))).trans ex6) ?_
          refine z_iconst (M := M_X12_findAsked) 109 dX12_findAsked_109 ?_
          refine z_iaddN (M := M_X12_findAsked) 110 dX12_findAsked_110 (by omega) (by omega) ?_
          refine z_putIH (M := M_X12_findAsked) 111 dX12_findAsked_111 p_X12_487 o_108 rfl (u_108_58 G1 (by omega) (by omega)) (R1.up rfl) (fun h2 E2 G2 R2 => ?_)
          refine z_iincN (M := M_X12_findAsked) 114 dX12_findAsked_114 (ls' := [some (mR 108), some (mI (l1 + 1)), some (mI l2), some (mI l3)]) (by decide) rfl (by (unfold m_32; decide)) (by omega) (by omega) rfl ?_
          refine z_goto (M := M_X12_findAsked) 117 dX12_findAsked_117 11 rfl ?_
          exact z_mask [true, true, false, false] rfl (ih.1 (l1 + 1) h2 G2 R2 (by omega) (by omega) ⟨i1.1.to ((upo E2 (by decide)).trans (upo E1 (by decide))) ((upo E2 (by decide)).trans (upo E1 (by decide))) ((upo E2 (by decide)).trans (upo E1 (by decide))), skI_y i1.2.1 (by decide) ex6 (by omega) ((ask_iff (by omega) (dt_at r_ (by omega) ex4) (by omega) q_).mp (by omega)) (by omega) (by omega) E1 E2⟩ (by omega))
        · refine z_iconst (M := M_X12_findAsked) 92 dX12_findAsked_92 ?_
          exact z_retZ (M := M_X12_findAsked) 93 dX12_findAsked_93 rfl (by omega) ⟨G, R, by omega, by omega, ⟨fun z => absurd z (by decide), fun z => absurd z (skI_4 i1.2.1 (by omega) (by omega) ((ask_iff (by omega) (dt_at r_ (by omega) ex4) (by omega) q_).mp (by omega)) (by omega))⟩, fun z => absurd z (by decide)⟩
  · refine z_iload_n (M := M_X12_findAsked) 31 dX12_findAsked_31 rfl ?_
    refine z_if_ne (M := M_X12_findAsked) 32 dX12_findAsked_32 55 rfl (fun c8 => ?_) (fun c8 => ?_)
    · refine z_iconst (M := M_X12_findAsked) 55 dX12_findAsked_55 ?_
      refine z_goto (M := M_X12_findAsked) 56 dX12_findAsked_56 60 rfl ?_
      refine z_istore_n (M := M_X12_findAsked) 60 dX12_findAsked_60 (ls' := [some (mR 108), some (mI l1), some (mI 1), some (mI l3)]) (by decide) rfl ?_
      refine z_iincN (M := M_X12_findAsked) 61 dX12_findAsked_61 (ls' := [some (mR 108), some (mI l1), some (mI 1), some (mI (l3 + 1))]) (by decide) rfl (by (unfold m_32; decide)) (by omega) (by omega) rfl ?_
      refine z_goto (M := M_X12_findAsked) 64 dX12_findAsked_64 21 rfl ?_
      exact z_mask [true, true, true, true] rfl (ih.2 l1 1 (l3 + 1) h G R (by omega) (by omega) (by omega) (by omega) (by omega) (by omega) ⟨i1.1, i1.2.1, ⟨fun _ => skE_le (by omega) (i1.2.2.1.mp (by omega)), fun _ => rfl⟩, by omega⟩ (by omega))
    · refine z_aload_n (M := M_X12_findAsked) 35 dX12_findAsked_35 rfl ?_
      refine z_iload_n (M := M_X12_findAsked) 36 dX12_findAsked_36 rfl ?_
      refine z_iconst (M := M_X12_findAsked) 37 dX12_findAsked_37 ?_
      refine z_vI (M := M_X12_findAsked) 38 dX12_findAsked_38 t_X12_ofEntry l_X12_195 (m_rr_of rfl) (rest := []) (c_X12_ofEntry h l3 4 G ⟨by omega, by omega⟩ ⟨by omega, by omega⟩) o_108 rfl rfl rfl (Nat.le_of_ble_eq_true rfl) ⟨rfl, rfl⟩ (fun x9 h3 qx9 => ?_)
      obtain ⟨rfl, fx9⟩ := qx9
      have gx9 := gw_e4 G (i := (80 + 5 * l3 + 4)) (e := l3) (by omega) (by omega) (by omega)
      rw [fx9] at gx9
      refine z_iconst (M := M_X12_findAsked) 41 dX12_findAsked_41 ?_
      refine z_icmp_ne (M := M_X12_findAsked) 42 dX12_findAsked_42 59 rfl (fun c10 => ?_) (fun c10 => ?_)
      · refine z_iconst (M := M_X12_findAsked) 59 dX12_findAsked_59 ?_
        refine z_istore_n (M := M_X12_findAsked) 60 dX12_findAsked_60 (ls' := [some (mR 108), some (mI l1), some (mI 0), some (mI l3)]) (by decide) rfl ?_
        refine z_iincN (M := M_X12_findAsked) 61 dX12_findAsked_61 (ls' := [some (mR 108), some (mI l1), some (mI 0), some (mI (l3 + 1))]) (by decide) rfl (by (unfold m_32; decide)) (by omega) (by omega) rfl ?_
        refine z_goto (M := M_X12_findAsked) 64 dX12_findAsked_64 21 rfl ?_
        exact z_mask [true, true, true, true] rfl (ih.2 l1 0 (l3 + 1) h G R (by omega) (by omega) (by omega) (by omega) (by omega) (by omega) ⟨i1.1, i1.2.1, ⟨fun z => absurd z (by decide), fun z => absurd z (skE_s (by omega) (fun y => absurd (i1.2.2.1.mpr y) (by omega)) (fun y => c10 ((fa_at (k := 4) r_ (by omega) fx9).symm.trans y.1)))⟩, by omega⟩ (by omega))
      · refine z_aload_n (M := M_X12_findAsked) 45 dX12_findAsked_45 rfl ?_
        refine z_iload_n (M := M_X12_findAsked) 46 dX12_findAsked_46 rfl ?_
        refine z_iconst (M := M_X12_findAsked) 47 dX12_findAsked_47 ?_
        refine z_vI (M := M_X12_findAsked) 48 dX12_findAsked_48 t_X12_ofEntry l_X12_195 (m_rr_of rfl) (rest := []) (c_X12_ofEntry h l3 1 G ⟨by omega, by omega⟩ ⟨by omega, by omega⟩) o_108 rfl rfl rfl (Nat.le_of_ble_eq_true rfl) ⟨rfl, rfl⟩ (fun x11 h4 qx11 => ?_)
        obtain ⟨rfl, fx11⟩ := qx11
        have gx11 := gw_e1 G (i := (80 + 5 * l3 + 1)) (e := l3) (by omega) (by omega) (by omega)
        rw [fx11] at gx11
        refine z_iload_n (M := M_X12_findAsked) 51 dX12_findAsked_51 rfl ?_
        refine z_icmp_ne (M := M_X12_findAsked) 52 dX12_findAsked_52 59 rfl (fun c12 => ?_) (fun c12 => ?_)
        · refine z_iconst (M := M_X12_findAsked) 59 dX12_findAsked_59 ?_
          refine z_istore_n (M := M_X12_findAsked) 60 dX12_findAsked_60 (ls' := [some (mR 108), some (mI l1), some (mI 0), some (mI l3)]) (by decide) rfl ?_
          refine z_iincN (M := M_X12_findAsked) 61 dX12_findAsked_61 (ls' := [some (mR 108), some (mI l1), some (mI 0), some (mI (l3 + 1))]) (by decide) rfl (by (unfold m_32; decide)) (by omega) (by omega) rfl ?_
          refine z_goto (M := M_X12_findAsked) 64 dX12_findAsked_64 21 rfl ?_
          exact z_mask [true, true, true, true] rfl (ih.2 l1 0 (l3 + 1) h G R (by omega) (by omega) (by omega) (by omega) (by omega) (by omega) ⟨i1.1, i1.2.1, ⟨fun z => absurd z (by decide), fun z => absurd z (skE_s (by omega) (fun y => absurd (i1.2.2.1.mpr y) (by omega)) (fun y => c12 ((fa_at (k := 1) r_ (by omega) fx11).symm.trans y.2)))⟩, by omega⟩ (by omega))
        · refine z_iconst (M := M_X12_findAsked) 55 dX12_findAsked_55 ?_
          refine z_goto (M := M_X12_findAsked) 56 dX12_findAsked_56 60 rfl ?_
          refine z_istore_n (M := M_X12_findAsked) 60 dX12_findAsked_60 (ls' := [some (mR 108), some (mI l1), some (mI 1), some (mI l3)]) (by decide) rfl ?_
          refine z_iincN (M := M_X12_findAsked) 61 dX12_findAsked_61 (ls' := [some (mR 108), some (mI l1), some (mI 1), some (mI (l3 + 1))]) (by decide) rfl (by (unfold m_32; decide)) (by omega) (by omega) rfl ?_
          refine z_goto (M := M_X12_findAsked) 64 dX12_findAsked_64 21 rfl ?_
          exact z_mask [true, true, true, true] rfl (ih.2 l1 1 (l3 + 1) h G R (by omega) (by omega) (by omega) (by omega) (by omega) (by omega) ⟨i1.1, i1.2.1, ⟨fun _ => ⟨l3.toNat, by omega, (fa_at (k := 4) r_ (by omega) fx9).trans (by omega), (fa_at (k := 1) r_ (by omega) fx11).trans (by omega)⟩, fun _ => rfl⟩, by omega⟩ (by omega))
theorem a_X12_findAsked3 (h0 : m_H) (G0 : GI h0) : ∀ n, q_X12_findAsked3 h0 n := by
  intro n
  induction n with
  | zero => unfold q_X12_findAsked3; refine ⟨?_, ?_⟩ <;> (intros; omega)
  | succ n ih => exact ⟨s_X12_findAsked3_11 h0 G0 n ih, s_X12_findAsked3_21 h0 G0 n ih⟩
set_option maxHeartbeats 4000000 in
set_option maxRecDepth 100000 in
theorem c_X12_findAsked3 (h0 : m_H) (G0 : GI h0) : m_CI M_X12_findAsked [mR 108] h0 (P_X12_findAsked3 h0) := by
  refine m_CI_of ⟨by decide, rfl, by simp [m_arg, m_isL, M_X12_findAsked], ⟨rfl, rfl⟩, rfl, rfl⟩ (ls := [some (mR 108), none, none, none]) rfl ?_
  have ih := a_X12_findAsked3 h0 G0 1755
  refine z_aload_n (M := M_X12_findAsked) 0 dX12_findAsked_0 rfl ?_
  refine z_vV (M := M_X12_findAsked) 1 dX12_findAsked_1 t_X12_asIs l_X12_367 (m_rr_of rfl) (rest := []) (c_X12_asIsX h0 G0) o_108 rfl rfl rfl (Nat.le_of_ble_eq_true rfl) ⟨rfl, rfl⟩ (fun h1 qx1 => ?_)
  obtain ⟨G1, S1, as_⟩ := qx1
  have X1_ := RX_0 (h0 := h0) (h := h1) (FR.row S1 (fun _ => rfl)) as_
  have R1 := (FR.rf (cs := [122, 123, 146]) (ss := [(108, 58)]) (h := h0)).call S1 (by decide +kernel)
  refine z_aload_n (M := M_X12_findAsked) 4 dX12_findAsked_4 rfl ?_
  refine z_iconst (M := M_X12_findAsked) 5 dX12_findAsked_5 ?_
  refine z_putIH (M := M_X12_findAsked) 6 dX12_findAsked_6 p_X12_487 o_108 rfl (u_108_58 G1 (by omega) (by omega)) (R1.up rfl) (fun h2 E2 G2 R2 => ?_)
  refine z_iconst (M := M_X12_findAsked) 9 dX12_findAsked_9 ?_
  refine z_istore_n (M := M_X12_findAsked) 10 dX12_findAsked_10 (ls' := [some (mR 108), some (mI 0), none, none]) (by decide) rfl ?_
  exact z_mask [true, true, false, false] rfl (ih.1 0 h2 G2 R2 (by omega) (by omega) ⟨X1_.to (upo E2 (by decide)) (upo E2 (by decide)) (upo E2 (by decide)), skI_0 (upE E2)⟩ (by omega))
def plL (g : Nat → Int) (n a x : Int) : Prop := (x = -1 ∧ ∀ i : Nat, (i : Int) < n → g i ≠ a) ∨ ((0 ≤ x ∧ x < n) ∧ g x.toNat = a)
theorem plL_n {g : Nat → Int} {l a x y : Int} (I : plL g l a x) (h0 : 0 ≤ l) (e : g l.toNat = y) (c : y ≠ a) : plL g (l + 1) a x := by
  rcases I with ⟨h1, h2⟩ | ⟨h1, h2⟩
  · refine Or.inl ⟨h1, fun i hi => ?_⟩
    by_cases q : i = l.toNat
    · subst q; rw [e]; exact c
    · exact h2 i (by omega)
  · exact Or.inr ⟨by omega, h2⟩
def psQ (r : Nat → Int) (a x : Int) : Prop := (x = -1 ∧ ∀ i : Nat, (i : Int) < skN r → skAr r i ≠ a) ∨ ((0 ≤ x ∧ x < skN r) ∧ skAr r x.toNat = a)
theorem psQ_eq {r : Nat → Int} {a x y : Int} (h : psQ r a x) (k : psQ r a y) : x = y := by
  rcases h with ⟨h1, h2⟩ | ⟨h1, h2⟩ <;> rcases k with ⟨k1, k2⟩ | ⟨k1, k2⟩
  · omega
  · exact absurd k2 (h2 _ (by omega))
  · exact absurd h2 (k2 _ (by omega))
  · have z := skA_inj (P := askP r) (n := 32) (i := x.toNat) (k := y.toNat) (show ((x.toNat : Nat) : Int) < skN r by omega) (show ((y.toNat : Nat) : Int) < skN r by omega) (h2.trans k2.symm)
    omega
theorem psQ_L {r g : Nat → Int} {s a x : Int} (I : skI (askP r) g 32 s) (h : plL g s a x) : psQ r a x := by
  have e : s = skN r := I.1
  subst e
  rcases h with ⟨h1, h2⟩ | ⟨h1, h2⟩
  · exact Or.inl ⟨h1, fun i hi => by have z := I.2.2 i hi; exact fun y => h2 i hi (z.trans y)⟩
  · exact Or.inr ⟨h1, (I.2.2 x.toNat (by omega)).symm.trans h2⟩
theorem psQ_P {r g : Nat → Int} {s a x : Int} (I : skI (askP r) g 32 s) (h : plQ g s a x) : psQ r a x := psQ_L I (h.elim Or.inl (fun z => Or.inr ⟨z.1, z.2.1⟩))
theorem psQ_n {r : Nat → Int} {a : Int} (h : ¬ (0 ≤ a ∧ a ≤ 31)) : psQ r a (-1) := Or.inl ⟨rfl, fun i hi z => by
  obtain ⟨w, hw, _, e, _⟩ := skA_is (P := askP r) 32 i hi
  have e' : skAr r i = (w : Int) := e
  omega⟩
abbrev P_X12_whichOf3 (h0 : m_H) (a1 : Int) : Int → m_H → Prop := fun x h' => GI h' ∧ FR [] [] h0 h' ∧ (-1) ≤ x ∧ x ≤ 2 ∧ plL (h0 146) (h0 108 58) a1 x
def q_X12_whichOf3 (h0 : m_H) (a1 : Int) (n : Nat) : Prop := (∀ (l2 l3 : Int) (h : m_H), GI h → FR [] [] h0 h → (-1) ≤ l2 → l2 ≤ 2 → 0 ≤ l3 → l3 ≤ 3 → (-2147483648) ≤ a1 → a1 ≤ 2147483647 → (plL (h0 146) l3 a1 l2 ∧ l3 ≤ h0 108 58) → 2 * (3 - l3) + (1) ≤ (n : Int) → m_Z oF M_X12_whichOf 4 [some (mR 108), some (mI a1), some (mI l2), some (mI l3)] [] h (m_QI (P_X12_whichOf3 h0 a1)))
set_option maxHeartbeats 4000000 in
set_option maxRecDepth 100000 in
theorem s_X12_whichOf3_4 (h0 : m_H) (a1 : Int) (G0 : GI h0) (n : Nat) (ih : q_X12_whichOf3 h0 a1 n) : ∀ (l2 l3 : Int) (h : m_H), GI h → FR [] [] h0 h → (-1) ≤ l2 → l2 ≤ 2 → 0 ≤ l3 → l3 ≤ 3 → (-2147483648) ≤ a1 → a1 ≤ 2147483647 → (plL (h0 146) l3 a1 l2 ∧ l3 ≤ h0 108 58) → 2 * (3 - l3) + (1) ≤ ((n + 1 : Nat) : Int) → m_Z oF M_X12_whichOf 4 [some (mR 108), some (mI a1), some (mI l2), some (mI l3)] [] h (m_QI (P_X12_whichOf3 h0 a1)) := by
  intro l2 l3 h G R v0 v1 v2 v3 v4 v5 i1 hr
  have e_ := frE R
  have s_ : h 108 58 = h0 108 58 := by rw [e_]
  have t_ : h 146 l3.toNat = h0 146 l3.toNat := by rw [e_]
  refine z_iload_n (M := M_X12_whichOf) 4 dX12_whichOf_4 rfl ?_
  refine z_aload_n (M := M_X12_whichOf) 5 dX12_whichOf_5 rfl ?_
  refine z_getIG (M := M_X12_whichOf) 6 dX12_whichOf_6 f_X12_487 o_108 (by decide) (g_108_58 G) (fun x1 ex1 ax1 bx1 => ?_)
  refine z_icmp_ge (M := M_X12_whichOf) 9 dX12_whichOf_9 34 rfl (fun c2 => ?_) (fun c2 => ?_)
  · refine z_iload_n (M := M_X12_whichOf) 34 dX12_whichOf_34 rfl ?_
    exact z_retI (M := M_X12_whichOf) 35 dX12_whichOf_35 rfl ⟨G, R, by omega, by omega, by have z := i1.1; rw [show l3 = h0 108 58 by omega] at z; exact z⟩
  · refine z_aload_n (M := M_X12_whichOf) 12 dX12_whichOf_12 rfl ?_
    refine z_getR (M := M_X12_whichOf) 13 dX12_whichOf_13 f_X12_127 o_108 rfl (g_108_57 G) ?_
    refine z_iload_n (M := M_X12_whichOf) 16 dX12_whichOf_16 rfl ?_
    refine z_ialdG (M := M_X12_whichOf) 17 dX12_whichOf_17 o_146 (by omega) (by omega) (g_146 G (by omega)) (fun x3 ex3 ax3 bx3 => ?_)
    refine z_iload_n (M := M_X12_whichOf) 18 dX12_whichOf_18 rfl ?_
    refine z_icmp_ne (M := M_X12_whichOf) 19 dX12_whichOf_19 26 rfl (fun c4 => ?_) (fun c4 => ?_)
    · refine z_iload_n (M := M_X12_whichOf) 26 dX12_whichOf_26 rfl ?_
      refine z_istore_n (M := M_X12_whichOf) 27 dX12_whichOf_27 (ls' := [some (mR 108), some (mI a1), some (mI l2), some (mI l3)]) (by decide) rfl ?_
      refine z_iincN (M := M_X12_whichOf) 28 dX12_whichOf_28 (ls' := [some (mR 108), some (mI a1), some (mI l2), some (mI (l3 + 1))]) (by decide) rfl (by (unfold m_32; decide)) (by omega) (by omega) rfl ?_
      refine z_goto (M := M_X12_whichOf) 31 dX12_whichOf_31 4 rfl ?_
      exact z_mask [true, true, true, true] rfl (ih l2 (l3 + 1) h G R (by omega) (by omega) (by omega) (by omega) (by omega) (by omega) ⟨plL_n i1.1 (by omega) (t_.symm.trans ex3) c4, by omega⟩ (by omega))
    · refine z_iload_n (M := M_X12_whichOf) 22 dX12_whichOf_22 rfl ?_
      refine z_goto (M := M_X12_whichOf) 23 dX12_whichOf_23 27 rfl ?_
      refine z_istore_n (M := M_X12_whichOf) 27 dX12_whichOf_27 (ls' := [some (mR 108), some (mI a1), some (mI l3), some (mI l3)]) (by decide) rfl ?_
      refine z_iincN (M := M_X12_whichOf) 28 dX12_whichOf_28 (ls' := [some (mR 108), some (mI a1), some (mI l3), some (mI (l3 + 1))]) (by decide) rfl (by (unfold m_32; decide)) (by omega) (by omega) rfl ?_
      refine z_goto (M := M_X12_whichOf) 31 dX12_whichOf_31 4 rfl ?_
      exact z_mask [true, true, true, true] rfl (ih l3 (l3 + 1) h G R (by omega) (by omega) (by omega) (by omega) (by omega) (by omega) ⟨Or.inr ⟨by omega, t_.symm.trans (ex3.trans (by omega))⟩, by omega⟩ (by omega))
theorem a_X12_whichOf3 (h0 : m_H) (a1 : Int) (G0 : GI h0) : ∀ n, q_X12_whichOf3 h0 a1 n := by
  intro n
  induction n with
  | zero => unfold q_X12_whichOf3; intros; omega
  | succ n ih => exact s_X12_whichOf3_4 h0 a1 G0 n ih
set_option maxHeartbeats 4000000 in
set_option maxRecDepth 100000 in
theorem c_X12_whichOf3 (h0 : m_H) (a1 : Int) (G0 : GI h0) : m_CI M_X12_whichOf [mR 108, mI a1] h0 (P_X12_whichOf3 h0 a1) := by
  refine m_CI_of ⟨by decide, rfl, by simp [m_arg, m_isL, M_X12_whichOf], ⟨rfl, rfl⟩, rfl, rfl⟩ (ls := [some (mR 108), some (mI a1), none, none]) rfl ?_
  have ih := a_X12_whichOf3 h0 a1 G0 14
  refine z_ok (fun _ _ ok => ?_)
  have oa1 : m_32 a1 := ok 1 _ rfl
  unfold m_32 at oa1
  refine z_iconst (M := M_X12_whichOf) 0 dX12_whichOf_0 ?_
  refine z_istore_n (M := M_X12_whichOf) 1 dX12_whichOf_1 (ls' := [some (mR 108), some (mI a1), some (mI (-1)), none]) (by decide) rfl ?_
  refine z_iconst (M := M_X12_whichOf) 2 dX12_whichOf_2 ?_
  refine z_istore_n (M := M_X12_whichOf) 3 dX12_whichOf_3 (ls' := [some (mR 108), some (mI a1), some (mI (-1)), some (mI 0)]) (by decide) rfl ?_
  exact z_mask [true, true, true, true] rfl (ih (-1) 0 h0 G0 (FR.rf (cs := []) (ss := []) (h := h0)) (by omega) (by omega) (by omega) (by omega) (by omega) (by omega) ⟨Or.inl ⟨rfl, fun i hi => by omega⟩, (g_108_58 G0).1⟩ (by omega))
def wwP (r : Nat → Int) (a k : Int) (c : Nat) : Prop := (k = -1 ∨ kb (c : Int) a.toNat = k) ∧ skQ r c
def wwS (r : Nat → Int) (a k l3 l4 : Int) : Prop := l4 ≤ (skM4 r : Int) ∧ l3 = vwN (wwP r a k) l4.toNat
theorem ww_n {r : Nat → Int} {a k l3 l4 : Int} (I : wwS r a k l3 l4) (h0 : 0 ≤ l4) (h : l4 < (skM4 r : Int)) (n : ¬ wwP r a k l4.toNat) : wwS r a k l3 (l4 + 1) := by
  obtain ⟨i1, i2⟩ := I
  exact ⟨by omega, by rw [show (l4 + 1).toNat = l4.toNat + 1 by omega, vwN_n n]; exact i2⟩
theorem ww_y {r : Nat → Int} {a k l3 l4 : Int} (I : wwS r a k l3 l4) (h0 : 0 ≤ l4) (h : l4 < (skM4 r : Int)) (n : wwP r a k l4.toNat) : wwS r a k (l3 + 1) (l4 + 1) := by
  obtain ⟨i1, i2⟩ := I
  exact ⟨by omega, by rw [show (l4 + 1).toNat = l4.toNat + 1 by omega, vwN_y n, i2]⟩
theorem ww_b {r : Nat → Int} {a k l3 l4 : Int} (I : wwS r a k l3 l4) (h0 : 0 ≤ l4) : 0 ≤ l3 ∧ l3 ≤ l4 := by
  have z := vwN_b (P := wwP r a k) l4.toNat
  rw [← I.2] at z
  omega
theorem ww_e {r : Nat → Int} {a k l3 l4 : Int} (I : wwS r a k l3 l4) (h : l4 = (skM4 r : Int)) : l3 = vwN (wwP r a k) (skM4 r) := by
  rw [I.2, show l4.toNat = skM4 r by omega]
theorem skR_to {r : Nat → Int} {h h' : m_H} (X : skR r h) (e0 : h' 110 = h 110) (e1 : skK r (h' 122) 0 0) (e2 : h' 123 = h 123) (e3 : h' 146 = h 146) (e4 : h' 108 58 = h 108 58) : skR r h' := ⟨e0.trans X.1, e1, fun j hj => by rw [e2]; exact X.2.2.1 j hj, by rw [e3, e4]; exact X.2.2.2⟩
theorem skR_c {r : Nat → Int} {h h' : m_H} (X : skR r h) (e0 : h' 110 = h 110) (e1 : h' 122 = h 122) (e2 : h' 123 = h 123) (e3 : h' 146 = h 146) (e4 : h' 108 58 = h 108 58) : skR r h' := skR_to X e0 (by rw [e1]; exact X.2.1) e2 e3 e4
theorem skR_N {r : Nat → Int} {h : m_H} (X : skR r h) : h 108 58 = skN r ∧ skN r ≤ 3 := by
  have a : h 108 58 = skN r := X.2.2.2.1
  have b := X.2.2.2.2.1
  exact ⟨a, by omega⟩
theorem skRX {r : Nat → Int} {h0 h : m_H} {c i : Int} (X : skR r h0) (e0 : h 110 = h0 110) (e2 : h 123 = h0 123) (k : skK r (h 122) c i) (hi : skN r ≤ i) : RX r (kS r (skAr r) c i.toNat) (fun j => r (42 + j)) h := ⟨e0.trans X.1, skK_e k hi, fun j hj => by rw [e2]; exact X.2.2.1 j hj⟩
abbrev P_X12_waysWith3 (h0 : m_H) (a1 a2 : Int) : Int → m_H → Prop := fun x h' => GI h' ∧ FR [115, 116, 117, 118, 119, 120, 121, 122, 124, 125, 126, 127, 128, 129, 130, 131, 132, 133, 134] [(108, 21)] h0 h' ∧ x = vwN (wwP (h0 110) a1 a2) (skM4 (h0 110)) ∧ skR (h0 110) h'
def q_X12_waysWith3 (h0 : m_H) (a1 a2 : Int) (n : Nat) : Prop := (∀ (l3 l4 : Int) (h : m_H), GI h → FR [115, 116, 117, 118, 119, 120, 121, 122, 124, 125, 126, 127, 128, 129, 130, 131, 132, 133, 134] [(108, 21)] h0 h → 0 ≤ l4 → l4 ≤ 81 → (wwS (h0 110) a1 a2 l3 l4 ∧ skK (h0 110) (h 122) 0 0) → 11 * (81 - l4) + (10) ≤ (n : Int) → m_Z oF M_X12_waysWith 5 [some (mR 108), some (mI a1), some (mI a2), some (mI l3), some (mI l4), none] [] h (m_QI (P_X12_waysWith3 h0 a1 a2))) ∧ (∀ (l3 l4 l5 : Int) (h : m_H), GI h → FR [115, 116, 117, 118, 119, 120, 121, 122, 124, 125, 126, 127, 128, 129, 130, 131, 132, 133, 134] [(108, 21)] h0 h → 0 ≤ l4 → l4 ≤ 80 → 0 ≤ l5 → l5 ≤ 3 → ((wwS (h0 110) a1 a2 l3 l4 ∧ l4 < (skM4 (h0 110) : Int) ∧ (a2 = -1 ∨ kb l4 a1.toNat = a2)) ∧ l5 ≤ skN (h0 110) ∧ skK (h0 110) (h 122) l4 l5) → 11 * (81 - l4) + 2 * (3 - l5) + (1) ≤ (n : Int) → m_Z oF M_X12_waysWith 38 [some (mR 108), some (mI a1), some (mI a2), some (mI l3), some (mI l4), some (mI l5)] [] h (m_QI (P_X12_waysWith3 h0 a1 a2)))
set_option maxHeartbeats 4000000 in
set_option maxRecDepth 100000 in
theorem s_X12_waysWith3_5 (h0 : m_H) (a1 a2 : Int) (G0 : GI h0) (pa1 : 0 ≤ a1 ∧ a1 ≤ 2) (pa2 : (-1) ≤ a2 ∧ a2 ≤ 3) (hN : NP h0) (hM : skR (h0 110) h0) (hG : skG (h0 110)) (n : Nat) (ih : q_X12_waysWith3 h0 a1 a2 n) : ∀ (l3 l4 : Int) (h : m_H), GI h → FR [115, 116, 117, 118, 119, 120, 121, 122, 124, 125, 126, 127, 128, 129, 130, 131, 132, 133, 134] [(108, 21)] h0 h → 0 ≤ l4 → l4 ≤ 81 → (wwS (h0 110) a1 a2 l3 l4 ∧ skK (h0 110) (h 122) 0 0) → 11 * (81 - l4) + (10) ≤ ((n + 1 : Nat) : Int) → m_Z oF M_X12_waysWith 5 [some (mR 108), some (mI a1), some (mI a2), some (mI l3), some (mI l4), none] [] h (m_QI (P_X12_waysWith3 h0 a1 a2)) := by
  intro l3 l4 h G R v0 v1 i1 hr
  have nn_ := skR_N hM
  have s_ : h 108 58 = h0 108 58 := R 108 58 rfl
  refine z_ok (fun ostk _ olocs => ?_)
  have ol3 : m_32 l3 := olocs 3 _ rfl
  unfold m_32 at ol3
  refine z_iload (M := M_X12_waysWith) 5 dX12_waysWith_5 rfl ?_
  refine z_iconst (M := M_X12_waysWith) 7 dX12_waysWith_7 ?_
  refine z_iconst (M := M_X12_waysWith) 8 dX12_waysWith_8 ?_
  refine z_aload_n (M := M_X12_waysWith) 9 dX12_waysWith_9 rfl ?_
  refine z_getIG (M := M_X12_waysWith) 10 dX12_waysWith_10 f_X12_487 o_108 (by decide) (g_108_58 G) (fun x1 ex1 ax1 bx1 => ?_)
  refine z_imulN (M := M_X12_waysWith) 13 dX12_waysWith_13 (by omega) (by omega) ?_
  refine z_ishl (M := M_X12_waysWith) 14 dX12_waysWith_14 ?_
  refine z_topBI (lo := 1) (hi := 64) (shl_b (by omega) (by omega)) (fun x2 ex2 ax2 bx2 => ?_)
  have m_ := sk_all (r := h0 110) (n := x1) (by omega) (by omega) (by omega) ex2
  refine z_icmp_ge (M := M_X12_waysWith) 15 dX12_waysWith_15 99 rfl (fun c3 => ?_) (fun c3 => ?_)
  · refine z_iload_n (M := M_X12_waysWith) 99 dX12_waysWith_99 rfl ?_
    exact z_retI (M := M_X12_waysWith) 100 dX12_waysWith_100 rfl ⟨G, R, ww_e i1.1 (by have := i1.1.1; omega), skR_to hM (FR.row R (fun _ => rfl)) i1.2 (FR.row R (fun _ => rfl)) (FR.row R (fun _ => rfl)) (R 108 58 rfl)⟩
  · refine z_iload_n (M := M_X12_waysWith) 18 dX12_waysWith_18 rfl ?_
    refine z_iconst (M := M_X12_waysWith) 19 dX12_waysWith_19 ?_
    refine z_icmp_eq (M := M_X12_waysWith) 20 dX12_waysWith_20 35 rfl (fun c4 => ?_) (fun c4 => ?_)
    · refine z_iconst (M := M_X12_waysWith) 35 dX12_waysWith_35 ?_
      refine z_istore (M := M_X12_waysWith) 36 dX12_waysWith_36 (ls' := [some (mR 108), some (mI a1), some (mI a2), some (mI l3), some (mI l4), some (mI 0)]) (by decide) rfl ?_
      exact z_mask [true, true, true, true, true, true] rfl (ih.2 l3 l4 0 h G R (by omega) (by omega) (by omega) (by omega) ⟨⟨i1.1, by omega, Or.inl c4⟩, (by have z := vwN_b (P := askP (h0 110)) 32; exact z.1), skK_0 i1.2⟩ (by omega))
    · refine z_iload (M := M_X12_waysWith) 23 dX12_waysWith_23 rfl ?_
      refine z_iconst (M := M_X12_waysWith) 25 dX12_waysWith_25 ?_
      refine z_iload_n (M := M_X12_waysWith) 26 dX12_waysWith_26 rfl ?_
      refine z_imulN (M := M_X12_waysWith) 27 dX12_waysWith_27 (by omega) (by omega) ?_
      refine z_ishr (M := M_X12_waysWith) 28 dX12_waysWith_28 ?_
      refine z_topm (fun x5 ex5 ox5 => ?_)
      unfold m_32 at ox5
      refine z_iconst (M := M_X12_waysWith) 29 dX12_waysWith_29 ?_
      refine z_iand (M := M_X12_waysWith) 30 dX12_waysWith_30 ?_
      refine z_topBI (m_and_3 _) (fun x6 ex6 ax6 bx6 => ?_)
      refine z_iload_n (M := M_X12_waysWith) 31 dX12_waysWith_31 rfl ?_
      refine z_icmp_ne (M := M_X12_waysWith) 32 dX12_waysWith_32 93 rfl (fun c7 => ?_) (fun c7 => ?_)
      · refine z_iincN (M := M_X12_waysWith) 93 dX12_waysWith_93 (ls' := [some (mR 108), some (mI a1), some (mI a2), some (mI l3), some (mI (l4 + 1)), none]) (by decide) rfl (by (unfold m_32; decide)) (by omega) (by omega) rfl ?_
        refine z_goto (M := M_X12_waysWith) 96 dX12_waysWith_96 5 rfl ?_
        exact z_mask [true, true, true, true, true, false] rfl (ih.1 l3 (l4 + 1) h G R (by omega) (by omega) ⟨ww_n i1.1 (by omega) (by omega) (fun z => z.1.elim c4 (fun y => c7 (by rw [← y, show ((l4.toNat : Nat) : Int) = l4 by omega]; unfold kb; rw [show ((a1.toNat : Nat) : Int) = a1 by omega, ex5, ex6]))), i1.2⟩ (by omega))
      · refine z_iconst (M := M_X12_waysWith) 35 dX12_waysWith_35 ?_
        refine z_istore (M := M_X12_waysWith) 36 dX12_waysWith_36 (ls' := [some (mR 108), some (mI a1), some (mI a2), some (mI l3), some (mI l4), some (mI 0)]) (by decide) rfl ?_
        exact z_mask [true, true, true, true, true, true] rfl (ih.2 l3 l4 0 h G R (by omega) (by omega) (by omega) (by omega) ⟨⟨i1.1, by omega, Or.inr (by unfold kb; rw [show ((a1.toNat : Nat) : Int) = a1 by omega, ex5, ex6]; omega)⟩, (by have z := vwN_b (P := askP (h0 110)) 32; exact z.1), skK_0 i1.2⟩ (by omega))
set_option maxHeartbeats 4000000 in
set_option maxRecDepth 100000 in
theorem s_X12_waysWith3_38 (h0 : m_H) (a1 a2 : Int) (G0 : GI h0) (pa1 : 0 ≤ a1 ∧ a1 ≤ 2) (pa2 : (-1) ≤ a2 ∧ a2 ≤ 3) (hN : NP h0) (hM : skR (h0 110) h0) (hG : skG (h0 110)) (n : Nat) (ih : q_X12_waysWith3 h0 a1 a2 n) : ∀ (l3 l4 l5 : Int) (h : m_H), GI h → FR [115, 116, 117, 118, 119, 120, 121, 122, 124, 125, 126, 127, 128, 129, 130, 131, 132, 133, 134] [(108, 21)] h0 h → 0 ≤ l4 → l4 ≤ 80 → 0 ≤ l5 → l5 ≤ 3 → ((wwS (h0 110) a1 a2 l3 l4 ∧ l4 < (skM4 (h0 110) : Int) ∧ (a2 = -1 ∨ kb l4 a1.toNat = a2)) ∧ l5 ≤ skN (h0 110) ∧ skK (h0 110) (h 122) l4 l5) → 11 * (81 - l4) + 2 * (3 - l5) + (1) ≤ ((n + 1 : Nat) : Int) → m_Z oF M_X12_waysWith 38 [some (mR 108), some (mI a1), some (mI a2), some (mI l3), some (mI l4), some (mI l5)] [] h (m_QI (P_X12_waysWith3 h0 a1 a2)) := by
  intro l3 l4 l5 h G R v0 v1 v2 v3 i1 hr
  have nn_ := skR_N hM
  have s_ : h 108 58 = h0 108 58 := R 108 58 rfl
  have lb_ := ww_b i1.1.1 (by omega)
  have r_ : h 110 = h0 110 := FR.row R (fun _ => rfl)
  refine z_ok (fun ostk _ olocs => ?_)
  have ol3 : m_32 l3 := olocs 3 _ rfl
  unfold m_32 at ol3
  refine z_iload (M := M_X12_waysWith) 38 dX12_waysWith_38 rfl ?_
  refine z_aload_n (M := M_X12_waysWith) 40 dX12_waysWith_40 rfl ?_
  refine z_getIG (M := M_X12_waysWith) 41 dX12_waysWith_41 f_X12_487 o_108 (by decide) (g_108_58 G) (fun x1 ex1 ax1 bx1 => ?_)
  refine z_icmp_ge (M := M_X12_waysWith) 44 dX12_waysWith_44 74 rfl (fun c2 => ?_) (fun c2 => ?_)
  · refine z_iload_n (M := M_X12_waysWith) 74 dX12_waysWith_74 rfl ?_
    refine z_aload_n (M := M_X12_waysWith) 75 dX12_waysWith_75 rfl ?_
    refine z_aload_n (M := M_X12_waysWith) 76 dX12_waysWith_76 rfl ?_
    refine z_vI (M := M_X12_waysWith) 77 dX12_waysWith_77 t_X12_counting l_X12_370 (m_rr_of rfl) (rest := [mR 108, mI l3]) (c_X12_countingX h G) o_108 rfl rfl rfl (Nat.le_of_ble_eq_true rfl) ⟨rfl, rfl⟩ (fun x3 h1 qx3 => ?_)
    obtain ⟨G1, S1, fx3_0⟩ := qx3
    have R1 := R.call S1 (by decide +kernel)
    refine z_ok (fun ox3 _ _ => ?_)
    have ox3 := ox3.1; unfold m_ok m_32 at ox3
    refine z_vI (M := M_X12_waysWith) 80 dX12_waysWith_80 t_X12_canBe l_X12_374 (m_rr_of rfl) (rest := [mI l3]) (c_X12_canBe2 h1 x3 G1 (NP.call hN R1 (fun _ => rfl) (fun _ => rfl) (fun _ => rfl))) o_108 rfl rfl rfl (Nat.le_of_ble_eq_true rfl) ⟨rfl, rfl⟩ (fun x4 h2 qx4 => ?_)
    obtain ⟨G2, S2, ax4, bx4, fx4_0, fx4_1⟩ := qx4
    have X1_ := skRX hM (FR.row R1 (fun _ => rfl)) (FR.row R1 (fun _ => rfl)) (by rw [FR.row (c := 122) S1 (fun _ => rfl)]; exact i1.2.2) (by omega)
    have g_ := gn_iff X1_ G1 (NP.call hN R1 (fun _ => rfl) (fun _ => rfl) (fun _ => rfl)) ax4 bx4 fx4_0 fx4_1
    have p_ := skQ_iff (by omega) (show l5 = skN (h0 110) by omega) (fx3_0.trans (congrArg cF r_)) g_
    have k2_ : skK (h0 110) (h2 122) 0 0 := by rw [FR.row (c := 122) S2 (fun _ => rfl), FR.row (c := 122) S1 (fun _ => rfl)]; exact skK_z (by omega) i1.2.2 (by omega)
    have w_ : wwP (h0 110) a1 a2 l4.toNat ↔ x4 = 1 := by rw [p_]; unfold wwP; rw [show ((l4.toNat : Nat) : Int) = l4 by omega]; exact ⟨fun z => z.2, fun z => ⟨i1.1.2.2, z⟩⟩
    have R2 := R1.call S2 (by decide +kernel)
    refine z_if_eq (M := M_X12_waysWith) 83 dX12_waysWith_83 90 rfl (fun c5 => ?_) (fun c5 => ?_)
    · refine z_iconst (M := M_X12_waysWith) 90 dX12_waysWith_90 ?_
      refine z_iaddN (M := M_X12_waysWith) 91 dX12_waysWith_91 (by omega) (by omega) ?_
      refine z_istore_n (M := M_X12_waysWith) 92 dX12_waysWith_92 (ls' := [some (mR 108), some (mI a1), some (mI a2), some (mI (l3 + 0)), some (mI l4), some (mI l5)]) (by decide) rfl ?_
      refine z_iincN (M := M_X12_waysWith) 93 dX12_waysWith_93 (ls' := [some (mR 108), some (mI a1), some (mI a2), some (mI (l3 + 0)), some (mI (l4 + 1)), some (mI l5)]) (by decide) rfl (by (unfold m_32; decide)) (by omega) (by omega) rfl ?_
      refine z_goto (M := M_X12_waysWith) 96 dX12_waysWith_96 5 rfl ?_
      exact z_mask [true, true, true, true, true, false] rfl (ih.1 (l3 + 0) (l4 + 1) h2 G2 R2 (by omega) (by omega) ⟨by rw [Int.add_zero]; exact ww_n i1.1.1 (by omega) (by omega) (fun z => absurd (w_.mp z) (by omega)), k2_⟩ (by omega))
    · refine z_iconst (M := M_X12_waysWith) 86 dX12_waysWith_86 ?_
      refine z_goto (M := M_X12_waysWith) 87 dX12_waysWith_87 91 rfl ?_
      refine z_iaddN (M := M_X12_waysWith) 91 dX12_waysWith_91 (by omega) (by omega) ?_
      refine z_istore_n (M := M_X12_waysWith) 92 dX12_waysWith_92 (ls' := [some (mR 108), some (mI a1), some (mI a2), some (mI (l3 + 1)), some (mI l4), some (mI l5)]) (by decide) rfl ?_
      refine z_iincN (M := M_X12_waysWith) 93 dX12_waysWith_93 (ls' := [some (mR 108), some (mI a1), some (mI a2), some (mI (l3 + 1)), some (mI (l4 + 1)), some (mI l5)]) (by decide) rfl (by (unfold m_32; decide)) (by omega) (by omega) rfl ?_
      refine z_goto (M := M_X12_waysWith) 96 dX12_waysWith_96 5 rfl ?_
      exact z_mask [true, true, true, true, true, false] rfl (ih.1 (l3 + 1) (l4 + 1) h2 G2 R2 (by omega) (by omega) ⟨ww_y i1.1.1 (by omega) (by omega) (w_.mpr (by omega)), k2_⟩ (by omega))
  · refine z_aload_n (M := M_X12_waysWith) 47 dX12_waysWith_47 rfl ?_
    refine z_getR (M := M_X12_waysWith) 48 dX12_waysWith_48 f_X12_55 o_108 rfl (g_108_27 G) ?_
    refine z_aload_n (M := M_X12_waysWith) 51 dX12_waysWith_51 rfl ?_
    refine z_getR (M := M_X12_waysWith) 52 dX12_waysWith_52 f_X12_127 o_108 rfl (g_108_57 G) ?_
    refine z_iload (M := M_X12_waysWith) 55 dX12_waysWith_55 rfl ?_
    refine z_ialdG (M := M_X12_waysWith) 57 dX12_waysWith_57 o_146 (by omega) (by omega) (g_146 G (by omega)) (fun x7 ex7 ax7 bx7 => ?_)
    refine z_iload (M := M_X12_waysWith) 58 dX12_waysWith_58 rfl ?_
    refine z_iconst (M := M_X12_waysWith) 60 dX12_waysWith_60 ?_
    refine z_iload (M := M_X12_waysWith) 61 dX12_waysWith_61 rfl ?_
    refine z_imulN (M := M_X12_waysWith) 63 dX12_waysWith_63 (by omega) (by omega) ?_
    refine z_ishr (M := M_X12_waysWith) 64 dX12_waysWith_64 ?_
    refine z_topm (fun x8 ex8 ox8 => ?_)
    unfold m_32 at ox8
    refine z_iconst (M := M_X12_waysWith) 65 dX12_waysWith_65 ?_
    refine z_iand (M := M_X12_waysWith) 66 dX12_waysWith_66 ?_
    refine z_topBI (m_and_3 _) (fun x9 ex9 ax9 bx9 => ?_)
    refine z_iastH (M := M_X12_waysWith) 67 dX12_waysWith_67 o_122 (by omega) (by omega) (u_122 G (by omega) (by omega)) (R.up rfl) (fun h3 E3 G3 R3 => ?_)
    refine z_iincN (M := M_X12_waysWith) 68 dX12_waysWith_68 (ls' := [some (mR 108), some (mI a1), some (mI a2), some (mI l3), some (mI l4), some (mI (l5 + 1))]) (by decide) rfl (by (unfold m_32; decide)) (by omega) (by omega) rfl ?_
    refine z_goto (M := M_X12_waysWith) 71 dX12_waysWith_71 38 rfl ?_
    exact z_mask [true, true, true, true, true, true] rfl (ih.2 l3 l4 (l5 + 1) h3 G3 R3 (by omega) (by omega) (by omega) (by omega) ⟨i1.1, by omega, skK_s (by omega) i1.2.2 ((hM.2.2.2.2.2 l5.toNat (by omega)).symm.trans ((congrFun (FR.row R (fun _ => rfl) : h 146 = h0 146) l5.toNat).symm.trans ex7)) (by omega) (fun j => by by_cases g : j = x7.toNat; rw [if_pos g, g, upE E3, ← ex9, ← ex8]; unfold kb; rw [show ((l5.toNat : Nat) : Int) = l5 by omega]; rw [if_neg g, upN E3 (fun z => g z.2)])⟩ (by omega))
theorem a_X12_waysWith3 (h0 : m_H) (a1 a2 : Int) (G0 : GI h0) (pa1 : 0 ≤ a1 ∧ a1 ≤ 2) (pa2 : (-1) ≤ a2 ∧ a2 ≤ 3) (hN : NP h0) (hM : skR (h0 110) h0) (hG : skG (h0 110)) : ∀ n, q_X12_waysWith3 h0 a1 a2 n := by
  intro n
  induction n with
  | zero => unfold q_X12_waysWith3; refine ⟨?_, ?_⟩ <;> (intros; omega)
  | succ n ih => exact ⟨s_X12_waysWith3_5 h0 a1 a2 G0 pa1 pa2 hN hM hG n ih, s_X12_waysWith3_38 h0 a1 a2 G0 pa1 pa2 hN hM hG n ih⟩
set_option maxHeartbeats 4000000 in
set_option maxRecDepth 100000 in
theorem c_X12_waysWith3 (h0 : m_H) (a1 a2 : Int) (G0 : GI h0) (pa1 : 0 ≤ a1 ∧ a1 ≤ 2) (pa2 : (-1) ≤ a2 ∧ a2 ≤ 3) (hN : NP h0) (hM : skR (h0 110) h0) (hG : skG (h0 110)) : m_CI M_X12_waysWith [mR 108, mI a1, mI a2] h0 (P_X12_waysWith3 h0 a1 a2) := by
  refine m_CI_of ⟨by decide, rfl, by simp [m_arg, m_isL, M_X12_waysWith], ⟨rfl, rfl⟩, rfl, rfl⟩ (ls := [some (mR 108), some (mI a1), some (mI a2), none, none, none]) rfl ?_
  have ih := a_X12_waysWith3 h0 a1 a2 G0 pa1 pa2 hN hM hG 908
  refine z_iconst (M := M_X12_waysWith) 0 dX12_waysWith_0 ?_
  refine z_istore_n (M := M_X12_waysWith) 1 dX12_waysWith_1 (ls' := [some (mR 108), some (mI a1), some (mI a2), some (mI 0), none, none]) (by decide) rfl ?_
  refine z_iconst (M := M_X12_waysWith) 2 dX12_waysWith_2 ?_
  refine z_istore (M := M_X12_waysWith) 3 dX12_waysWith_3 (ls' := [some (mR 108), some (mI a1), some (mI a2), some (mI 0), some (mI 0), none]) (by decide) rfl ?_
  exact z_mask [true, true, true, true, true, false] rfl (ih.1 0 0 h0 G0 (FR.rf (cs := [115, 116, 117, 118, 119, 120, 121, 122, 124, 125, 126, 127, 128, 129, 130, 131, 132, 133, 134]) (ss := [(108, 21)]) (h := h0)) (by omega) (by omega) ⟨⟨by omega, rfl⟩, hM.2.1⟩ (by omega))
/-! both -/
noncomputable def skF (r : Nat → Int) (i : Nat) (k : Int) : Int := vwN (fun c => skQ r c ∧ kb (c : Int) i = k) (skM4 r)
theorem skF_0 {r : Nat → Int} {i : Nat} {k : Int} : 0 ≤ skF r i k := (vwN_b _).1
theorem skF_w {r : Nat → Int} {a k : Int} (hk : k ≠ -1) : vwN (wwP r a k) (skM4 r) = skF r a.toNat k := (vw_cg _ (fun n _ => ⟨fun z => ⟨z.2, z.1.elim (fun y => absurd y hk) id⟩, fun z => ⟨Or.inr z.2, z.1⟩⟩)).1
theorem skF_a {r : Nat → Int} {a : Int} : vwN (wwP r a (-1)) (skM4 r) = vwN (skQ r) (skM4 r) := (vw_cg _ (fun n _ => ⟨fun z => z.2, fun z => ⟨Or.inl rfl, z⟩⟩)).1
theorem skF_n {r : Nat → Int} {i : Nat} : ∀ n : Nat, vwN (skQ r) n = vwN (fun c => skQ r c ∧ kb (c : Int) i = 0) n + vwN (fun c => skQ r c ∧ kb (c : Int) i = 1) n + vwN (fun c => skQ r c ∧ kb (c : Int) i = 2) n + vwN (fun c => skQ r c ∧ kb (c : Int) i = 3) n
  | 0 => rfl
  | n + 1 => by
    have ih := skF_n (r := r) (i := i) n
    by_cases q : skQ r n
    · rw [vwN_y q]
      have b := kb_b (n : Int) i
      have hb : kb (n : Int) i = 0 ∨ kb (n : Int) i = 1 ∨ kb (n : Int) i = 2 ∨ kb (n : Int) i = 3 := by omega
      rcases hb with e | e | e | e
      · rw [vwN_y (P := fun c => skQ r c ∧ kb (c : Int) i = 0) ⟨q, e⟩, vwN_n (P := fun c => skQ r c ∧ kb (c : Int) i = 1) (fun z => by have := z.2; omega), vwN_n (P := fun c => skQ r c ∧ kb (c : Int) i = 2) (fun z => by have := z.2; omega), vwN_n (P := fun c => skQ r c ∧ kb (c : Int) i = 3) (fun z => by have := z.2; omega)]
        omega
      · rw [vwN_n (P := fun c => skQ r c ∧ kb (c : Int) i = 0) (fun z => by have := z.2; omega), vwN_y (P := fun c => skQ r c ∧ kb (c : Int) i = 1) ⟨q, e⟩, vwN_n (P := fun c => skQ r c ∧ kb (c : Int) i = 2) (fun z => by have := z.2; omega), vwN_n (P := fun c => skQ r c ∧ kb (c : Int) i = 3) (fun z => by have := z.2; omega)]
        omega
      · rw [vwN_n (P := fun c => skQ r c ∧ kb (c : Int) i = 0) (fun z => by have := z.2; omega), vwN_n (P := fun c => skQ r c ∧ kb (c : Int) i = 1) (fun z => by have := z.2; omega), vwN_y (P := fun c => skQ r c ∧ kb (c : Int) i = 2) ⟨q, e⟩, vwN_n (P := fun c => skQ r c ∧ kb (c : Int) i = 3) (fun z => by have := z.2; omega)]
        omega
      · rw [vwN_n (P := fun c => skQ r c ∧ kb (c : Int) i = 0) (fun z => by have := z.2; omega), vwN_n (P := fun c => skQ r c ∧ kb (c : Int) i = 1) (fun z => by have := z.2; omega), vwN_n (P := fun c => skQ r c ∧ kb (c : Int) i = 2) (fun z => by have := z.2; omega), vwN_y (P := fun c => skQ r c ∧ kb (c : Int) i = 3) ⟨q, e⟩]
        omega
    · rw [vwN_n q, vwN_n (P := fun c => skQ r c ∧ kb (c : Int) i = 0) (fun z => q z.1), vwN_n (P := fun c => skQ r c ∧ kb (c : Int) i = 1) (fun z => q z.1), vwN_n (P := fun c => skQ r c ∧ kb (c : Int) i = 2) (fun z => q z.1), vwN_n (P := fun c => skQ r c ∧ kb (c : Int) i = 3) (fun z => q z.1)]
      exact ih
def hoJ (f : Int → Int) (l x : Int) : Prop := (x = -1 ∧ ∀ k, 0 ≤ k → k < l → f k ≤ 0) ∨ ((0 ≤ x ∧ x < l) ∧ 0 < f x ∧ ∀ k, 0 ≤ k → k < l → k ≠ x → f k ≤ 0) ∨ (x = 5 ∧ ∃ j k, 0 ≤ j ∧ j < k ∧ k < l ∧ 0 < f j ∧ 0 < f k)
theorem hoJ_0 {f : Int → Int} : hoJ f 0 (-1) := Or.inl ⟨rfl, fun k a b => by omega⟩
theorem hoJ_n {f : Int → Int} {l x v : Int} (J : hoJ f l x) (e : f l = v) (c : v ≤ 0) : hoJ f (l + 1) x := by
  rcases J with ⟨a, b⟩ | ⟨a, b, d⟩ | ⟨a, j, k, b1, b2, b3, b4, b5⟩
  · refine Or.inl ⟨a, fun k k0 k1 => ?_⟩
    by_cases g : k = l
    · subst g; omega
    · exact b k k0 (by omega)
  · refine Or.inr (Or.inl ⟨by omega, b, fun k k0 k1 n => ?_⟩)
    by_cases g : k = l
    · subst g; omega
    · exact d k k0 (by omega) n
  · exact Or.inr (Or.inr ⟨a, j, k, b1, b2, by omega, b4, b5⟩)
theorem hoJ_a {f : Int → Int} {l x v : Int} (J : hoJ f l x) (e : f l = v) (c : 0 < v) (h : x = -1) (h0 : 0 ≤ l) : hoJ f (l + 1) l := by
  rcases J with ⟨a, b⟩ | ⟨a, b, d⟩ | ⟨a, j, k, b1, b2, b3, b4, b5⟩
  · refine Or.inr (Or.inl ⟨by omega, by omega, fun k k0 k1 n => b k k0 (by omega)⟩)
  · omega
  · omega
theorem hoJ_b {f : Int → Int} {l x v : Int} (J : hoJ f l x) (e : f l = v) (c : 0 < v) (h : x ≠ -1) : hoJ f (l + 1) 5 := by
  rcases J with ⟨a, b⟩ | ⟨a, b, d⟩ | ⟨a, j, k, b1, b2, b3, b4, b5⟩
  · exact absurd a h
  · exact Or.inr (Or.inr ⟨rfl, x, l, by omega, by omega, by omega, b, by omega⟩)
  · exact Or.inr (Or.inr ⟨rfl, j, k, b1, b2, by omega, b4, b5⟩)
theorem hoJ_eq {f : Int → Int} {x y : Int} (h : hoJ f 4 x) (k : hoJ f 4 y) : x = y := by
  rcases h with ⟨a, b⟩ | ⟨a, b, d⟩ | ⟨a, i, j, b1, b2, b3, b4, b5⟩ <;> rcases k with ⟨a', b'⟩ | ⟨a', b', d'⟩ | ⟨a', i', j', b1', b2', b3', b4', b5'⟩
  · omega
  · have := b y a'.1 a'.2; omega
  · have := b i' b1' (by omega); omega
  · have := b' x a.1 a.2; omega
  · by_cases g : x = y
    · exact g
    · have := d' x a.1 a.2 g; omega
  · by_cases g : i' = x
    · have := d j' (by omega) b3' (by omega); omega
    · have := d i' b1' (by omega) g; omega
  · have := b' i b1 (by omega); omega
  · by_cases g : i = y
    · have := d' j (by omega) b3 (by omega); omega
    · have := d' i b1 (by omega) g; omega
  · omega
/-- the class's way to say who is sure -/
theorem okK_J {r : Nat → Int} {i : Nat} {f : Int → Int} {W x : Int} (hf : ∀ k, 0 ≤ k → k < 4 → f k = skF r i k) (hW : W = vwN (skQ r) (skM4 r)) (c : (W = 0 ∧ x = -1) ∨ (W ≠ 0 ∧ okK f W x)) : hoJ (fun k => skF r i k) 4 x := by
  have s := skF_n (r := r) (i := i) (skM4 r)
  rw [← hW] at s
  have s' : W = skF r i 0 + skF r i 1 + skF r i 2 + skF r i 3 := s
  have p0 := skF_0 (r := r) (i := i) (k := 0)
  have p1 := skF_0 (r := r) (i := i) (k := 1)
  have p2 := skF_0 (r := r) (i := i) (k := 2)
  have p3 := skF_0 (r := r) (i := i) (k := 3)
  have all : ∀ k : Int, 0 ≤ k → k < 4 → k = 0 ∨ k = 1 ∨ k = 2 ∨ k = 3 := fun k a b => by omega
  rcases c with ⟨c1, c2⟩ | ⟨c1, ⟨c2, c3⟩ | ⟨c2, c3, c4⟩⟩
  · refine Or.inl ⟨c2, fun k k0 k1 => ?_⟩
    show skF r i k ≤ 0
    rcases all k k0 k1 with e | e | e | e <;> subst e <;> omega
  · have n0 := c3 0 (by decide) (by decide)
    have n1 := c3 1 (by decide) (by decide)
    have n2 := c3 2 (by decide) (by decide)
    have n3 := c3 3 (by decide) (by decide)
    rw [hf _ (by decide) (by decide)] at n0 n1 n2 n3
    refine Or.inr (Or.inr ⟨c2, ?_⟩)
    show ∃ j k, 0 ≤ j ∧ j < k ∧ k < 4 ∧ 0 < skF r i j ∧ 0 < skF r i k
    by_cases z0 : 0 < skF r i 0
    · by_cases z1 : 0 < skF r i 1
      · exact ⟨0, 1, by decide, by decide, by decide, z0, z1⟩
      · by_cases z2 : 0 < skF r i 2
        · exact ⟨0, 2, by decide, by decide, by decide, z0, z2⟩
        · exact ⟨0, 3, by decide, by decide, by decide, z0, by omega⟩
    · by_cases z1 : 0 < skF r i 1
      · by_cases z2 : 0 < skF r i 2
        · exact ⟨1, 2, by decide, by decide, by decide, z1, z2⟩
        · exact ⟨1, 3, by decide, by decide, by decide, z1, by omega⟩
      · exact ⟨2, 3, by decide, by decide, by decide, by omega, by omega⟩
  · rw [hf x c2.1 (by omega)] at c3
    refine Or.inr (Or.inl ⟨by omega, by show 0 < skF r i x; rcases all x c2.1 (by omega) with e | e | e | e <;> subst e <;> omega, fun k k0 k1 n => ?_⟩)
    show skF r i k ≤ 0
    rcases all k k0 k1 with e | e | e | e <;> subst e <;> rcases all x c2.1 (by omega) with e | e | e | e <;> subst e <;> omega
def hoQ (r : Nat → Int) (a x : Int) : Prop := (¬ skN r ≤ 3 ∧ x = -1) ∨ (skN r ≤ 3 ∧ ((a = -1 ∧ x = vwN (skQ r) (skM4 r)) ∨ (a ≠ -1 ∧ ∃ p, psQ r a p ∧ ((p = -1 ∧ x = -1) ∨ (p ≠ -1 ∧ hoJ (fun k => skF r p.toNat k) 4 x)))))
theorem ho_eq {r : Nat → Int} {a x y : Int} (h : hoQ r a x) (k : hoQ r a y) : x = y := by
  rcases h with ⟨n, e⟩ | ⟨n, ⟨a1, e⟩ | ⟨a1, p, ps, e⟩⟩ <;> rcases k with ⟨n', e'⟩ | ⟨n', ⟨a1', e'⟩ | ⟨a1', p', ps', e'⟩⟩
  · omega
  · exact absurd n' n
  · exact absurd n' n
  · exact absurd n n'
  · omega
  · exact absurd a1 a1'
  · exact absurd n n'
  · exact absurd a1' a1
  · have q := psQ_eq ps ps'
    subst q
    rcases e with ⟨e1, e2⟩ | ⟨e1, e2⟩ <;> rcases e' with ⟨f1, f2⟩ | ⟨f1, f2⟩
    · omega
    · exact absurd e1 f1
    · exact absurd f1 e1
    · exact hoJ_eq e2 f2
def kcQ (r : Nat → Int) (a k x : Int) : Prop := (¬ ((0 ≤ k ∧ k ≤ 3) ∧ skN r ≤ 3) ∧ x = -1) ∨ (((0 ≤ k ∧ k ≤ 3) ∧ skN r ≤ 3) ∧ ∃ p, psQ r a p ∧ ((p = -1 ∧ x = -1) ∨ (p ≠ -1 ∧ x = skF r p.toNat k)))
theorem kc_eq {r : Nat → Int} {a k x y : Int} (h : kcQ r a k x) (g : kcQ r a k y) : x = y := by
  rcases h with ⟨n, e⟩ | ⟨n, p, ps, e⟩ <;> rcases g with ⟨n', e'⟩ | ⟨n', p', ps', e'⟩
  · omega
  · exact absurd n' n
  · exact absurd n n'
  · have q := psQ_eq ps ps'
    subst q
    omega
theorem LX.whose {h h1 : m_H} {a x y : Int} {cs : List Nat} {ss : List (Nat × Nat)} (G : GI h) (N : NP h) (S1 : FR cs ss h h1) (A : hoQ (h 110) a x) (B : hoQ (h1 110) a y) (o : out 110 110 cs ss = true) : x = y := by
  rw [rowz S1 (fr_out o (by decide) (by decide))] at B
  exact ho_eq A B
theorem LX.could {h h1 : m_H} {a k x y : Int} {cs : List Nat} {ss : List (Nat × Nat)} (G : GI h) (N : NP h) (S1 : FR cs ss h h1) (A : kcQ (h 110) a k x) (B : kcQ (h1 110) a k y) (o : out 110 110 cs ss = true) : x = y := by
  rw [rowz S1 (fr_out o (by decide) (by decide))] at B
  exact kc_eq A B
theorem skS_F {r : Nat → Int} {h : m_H} {p k : Int} (S : skS r h) (h0 : 0 ≤ p) (h1 : p < skN r) (k0 : 0 ≤ k) (k3 : k < 4) : h 104 (p * 4 + k).toNat = skF r p.toNat k := by
  have z := S.2.2 p.toNat k.toNat (by omega) (by omega)
  rw [show 4 * p.toNat + k.toNat = (p * 4 + k).toNat by omega] at z
  rw [z]
  unfold skW skF
  rw [show ((k.toNat : Nat) : Int) = k by omega]
theorem skS_p {r : Nat → Int} {h : m_H} {a p : Int} (S : skS r h) (P : plQ (h 103) (h 102 3) a p) : psQ r a p ∧ (p ≠ -1 → 0 ≤ p ∧ p < skN r) := by
  have e : h 102 3 = skN r := S.1.1
  refine ⟨psQ_P S.1 P, fun n => ?_⟩
  rcases P with ⟨z, _⟩ | ⟨z, _⟩
  · exact absurd z n
  · omega
theorem skS_o {r : Nat → Int} {h : m_H} {a x : Int} (S : skS r h) (o : okO h a x) : ∃ p, psQ r a p ∧ ((p = -1 ∧ x = -1) ∨ (p ≠ -1 ∧ hoJ (fun k => skF r p.toNat k) 4 x)) := by
  obtain ⟨p, P, c⟩ := o
  obtain ⟨ps, pb⟩ := skS_p S P
  refine ⟨p, ps, ?_⟩
  by_cases g : p = -1
  · rcases c with ⟨_, c2⟩ | ⟨c1, _⟩
    · exact Or.inl ⟨g, c2⟩
    · exact absurd g c1.1
  · obtain ⟨p0, p1⟩ := pb g
    refine Or.inr ⟨g, okK_J (f := fun k => h 104 (p * 4 + k).toNat) (W := h 102 4) (fun k k0 k1 => skS_F S p0 p1 k0 k1) S.2.1 ?_⟩
    rcases c with ⟨c1, c2⟩ | ⟨c1, c2⟩
    · exact Or.inl ⟨c1.elim (fun z => absurd z g) id, c2⟩
    · exact Or.inr ⟨c1.2, c2⟩
theorem skS_w {r : Nat → Int} {h : m_H} {a k x p : Int} (S : skS r h) (k0 : 0 ≤ k) (k3 : k ≤ 3) (P : plQ (h 103) (h 102 3) a p) (c : (p = -1 ∧ x = -1) ∨ (p ≠ -1 ∧ h 104 (p * 4 + k).toNat = x)) : ∃ p, psQ r a p ∧ ((p = -1 ∧ x = -1) ∨ (p ≠ -1 ∧ x = skF r p.toNat k)) := by
  obtain ⟨ps, pb⟩ := skS_p S P
  refine ⟨p, ps, c.elim Or.inl (fun z => Or.inr ⟨z.1, ?_⟩)⟩
  obtain ⟨p0, p1⟩ := pb z.1
  rw [← z.2]
  exact skS_F S p0 p1 k0 (by omega)
abbrev P_X11_whose3 (h0 : m_H) (a1 : Int) : Int → m_H → Prop := fun x h' => GI h' ∧ FR (csB ++ [10, 11, 12, 13, 14, 15, 16, 39, 40, 41, 103, 104]) [(9, 7), (9, 8), (9, 9), (102, 3), (102, 4)] h0 h' ∧ hoQ (h0 110) a1 x
set_option maxHeartbeats 4000000 in
set_option maxRecDepth 100000 in
theorem c_X11_whose3 (h0 : m_H) (a1 : Int) (G0 : GI h0) (hR : LR 1 h0 (h0 110)) (hN : NP h0) : m_CI M_X11_whose [mR 0, mI a1] h0 (P_X11_whose3 h0 a1) := by
  refine m_CI_of ⟨by decide, rfl, by simp [m_arg, m_isL, M_X11_whose], ⟨rfl, rfl⟩, rfl, rfl⟩ (ls := [some (mR 0), some (mI a1)]) rfl ?_
  refine z_ok (fun _ _ ok => ?_)
  have oa1 : m_32 a1 := ok 1 _ rfl
  unfold m_32 at oa1
  refine z_iload_n (M := M_X11_whose) 0 dX11_whose_0 rfl ?_
  refine z_iconst (M := M_X11_whose) 1 dX11_whose_1 ?_
  refine z_icmp_eq (M := M_X11_whose) 2 dX11_whose_2 14 rfl (fun c1 => ?_) (fun c1 => ?_)
  · refine z_aload_n (M := M_X11_whose) 14 dX11_whose_14 rfl ?_
    refine z_getR (M := M_X11_whose) 15 dX11_whose_15 f_X11_16 o_0 rfl (g_0_1 G0) ?_
    refine z_aload_n (M := M_X11_whose) 18 dX11_whose_18 rfl ?_
    refine z_getR (M := M_X11_whose) 19 dX11_whose_19 f_X11_12 o_0 rfl (g_0_0 G0) ?_
    refine z_vV (M := M_X11_whose) 22 dX11_whose_22 t_X4_copyFrom l_X11_197 (m_rr_of rfl) (rest := []) (c_X4_copyFrom2 h0 9 1 (Or.inr (Or.inl rfl)) (Or.inl rfl) G0) o_9 rfl rfl rfl (Nat.le_of_ble_eq_true rfl) ⟨rfl, rfl⟩ (fun h1 qx2 => ?_)
    obtain ⟨G1, S1, lc1⟩ := qx2
    have R1 := (FR.rf (cs := (csB ++ [10, 11, 12, 13, 14, 15, 16, 39, 40, 41, 103, 104])) (ss := [(9, 7), (9, 8), (9, 9), (102, 3), (102, 4)]) (h := h0)).call S1 (by decide +kernel)
    refine z_aload_n (M := M_X11_whose) 25 dX11_whose_25 rfl ?_
    refine z_getR (M := M_X11_whose) 26 dX11_whose_26 f_X11_83 o_0 rfl (g_0_11 G1) ?_
    refine z_aload_n (M := M_X11_whose) 29 dX11_whose_29 rfl ?_
    refine z_getR (M := M_X11_whose) 30 dX11_whose_30 f_X11_16 o_0 rfl (g_0_1 G1) ?_
    refine z_vI (M := M_X11_whose) 33 dX11_whose_33 t_X6_seek l_X11_366 (m_rr_of rfl) (rest := []) (c_X6_seek3 h1 9 (h0 110) (Or.inr (Or.inl rfl)) G1 (skL_of (hR.copy lc1)) (fun j hj => (hR.copy lc1).2.1 j hj) (skG_of G0 hN)) o_102 rfl rfl rfl (Nat.le_of_ble_eq_true rfl) ⟨rfl, rfl⟩ (fun x3 h2 qx3 => ?_)
    obtain ⟨G2, S2, ax3, bx3, fx3, gx3⟩ := qx3
    have R2 := R1.call S2 (by decide +kernel)
    refine z_if_ne (M := M_X11_whose) 36 dX11_whose_36 41 rfl (fun c4 => ?_) (fun c4 => ?_)
    · refine z_iload_n (M := M_X11_whose) 41 dX11_whose_41 rfl ?_
      refine z_iconst (M := M_X11_whose) 42 dX11_whose_42 ?_
      refine z_icmp_ne_F (M := M_X11_whose) 43 dX11_whose_43 56 rfl (by omega) ?_
      refine z_aload_n (M := M_X11_whose) 46 dX11_whose_46 rfl ?_
      refine z_getR (M := M_X11_whose) 47 dX11_whose_47 f_X11_83 o_0 rfl (g_0_11 G2) ?_
      refine z_getIV (M := M_X11_whose) 50 dX11_whose_50 f_X11_369 o_102 (by decide) (fun x5 ex5 => ?_)
      refine z_ok (fun ox5 _ _ => ?_)
      have ox5 := ox5.1; unfold m_ok m_32 at ox5
      refine z_goto (M := M_X11_whose) 53 dX11_whose_53 64 rfl ?_
      exact z_retI (M := M_X11_whose) 64 dX11_whose_64 rfl ⟨G2, R2, Or.inr ⟨fx3.mp (by omega), Or.inl ⟨c1, ex5.symm.trans (gx3 (by omega)).2.1⟩⟩⟩
    · refine z_iconst (M := M_X11_whose) 39 dX11_whose_39 ?_
      exact z_retI (M := M_X11_whose) 40 dX11_whose_40 rfl ⟨G2, R2, Or.inl ⟨fun z => absurd (fx3.mpr z) (by omega), rfl⟩⟩
  · refine z_iload_n (M := M_X11_whose) 5 dX11_whose_5 rfl ?_
    refine z_sI (M := M_X11_whose) 6 dX11_whose_6 t_X11_isWeek l_X11_108 (m_rr_of rfl) (rest := []) (c_X11_isWeek h0 a1 G0) rfl rfl (Nat.le_of_ble_eq_true rfl) ⟨rfl, rfl⟩ (fun x6 h3 qx6 => ?_)
    obtain ⟨rfl, ⟨rfl, cx6⟩ | ⟨rfl, cx6⟩⟩ := qx6
    · refine z_if_ne_T (M := M_X11_whose) 9 dX11_whose_9 14 rfl (by omega) ?_
      refine z_aload_n (M := M_X11_whose) 14 dX11_whose_14 rfl ?_
      refine z_getR (M := M_X11_whose) 15 dX11_whose_15 f_X11_16 o_0 rfl (g_0_1 G0) ?_
      refine z_aload_n (M := M_X11_whose) 18 dX11_whose_18 rfl ?_
      refine z_getR (M := M_X11_whose) 19 dX11_whose_19 f_X11_12 o_0 rfl (g_0_0 G0) ?_
      refine z_vV (M := M_X11_whose) 22 dX11_whose_22 t_X4_copyFrom l_X11_197 (m_rr_of rfl) (rest := []) (c_X4_copyFrom2 h0 9 1 (Or.inr (Or.inl rfl)) (Or.inl rfl) G0) o_9 rfl rfl rfl (Nat.le_of_ble_eq_true rfl) ⟨rfl, rfl⟩ (fun h4 qx7 => ?_)
      obtain ⟨G4, S4, lc4⟩ := qx7
      have R4 := (FR.rf (cs := (csB ++ [10, 11, 12, 13, 14, 15, 16, 39, 40, 41, 103, 104])) (ss := [(9, 7), (9, 8), (9, 9), (102, 3), (102, 4)]) (h := h0)).call S4 (by decide +kernel)
      refine z_aload_n (M := M_X11_whose) 25 dX11_whose_25 rfl ?_
      refine z_getR (M := M_X11_whose) 26 dX11_whose_26 f_X11_83 o_0 rfl (g_0_11 G4) ?_
      refine z_aload_n (M := M_X11_whose) 29 dX11_whose_29 rfl ?_
      refine z_getR (M := M_X11_whose) 30 dX11_whose_30 f_X11_16 o_0 rfl (g_0_1 G4) ?_
      refine z_vI (M := M_X11_whose) 33 dX11_whose_33 t_X6_seek l_X11_366 (m_rr_of rfl) (rest := []) (c_X6_seek3 h4 9 (h0 110) (Or.inr (Or.inl rfl)) G4 (skL_of (hR.copy lc4)) (fun j hj => (hR.copy lc4).2.1 j hj) (skG_of G0 hN)) o_102 rfl rfl rfl (Nat.le_of_ble_eq_true rfl) ⟨rfl, rfl⟩ (fun x8 h5 qx8 => ?_)
      obtain ⟨G5, S5, ax8, bx8, fx8, gx8⟩ := qx8
      have R5 := R4.call S5 (by decide +kernel)
      refine z_if_ne (M := M_X11_whose) 36 dX11_whose_36 41 rfl (fun c9 => ?_) (fun c9 => ?_)
      · refine z_iload_n (M := M_X11_whose) 41 dX11_whose_41 rfl ?_
        refine z_iconst (M := M_X11_whose) 42 dX11_whose_42 ?_
        refine z_icmp_ne_T (M := M_X11_whose) 43 dX11_whose_43 56 rfl (by omega) ?_
        refine z_aload_n (M := M_X11_whose) 56 dX11_whose_56 rfl ?_
        refine z_getR (M := M_X11_whose) 57 dX11_whose_57 f_X11_83 o_0 rfl (g_0_11 G5) ?_
        refine z_iload_n (M := M_X11_whose) 60 dX11_whose_60 rfl ?_
        refine z_vI (M := M_X11_whose) 61 dX11_whose_61 t_X6_onlyKeeper l_X11_370 (m_rr_of rfl) (rest := []) (c_X6_onlyKeeper3 h5 a1 G5) o_102 rfl rfl rfl (Nat.le_of_ble_eq_true rfl) ⟨rfl, rfl⟩ (fun x10 h6 qx10 => ?_)
        obtain ⟨G6, S6, ax10, bx10, fx10⟩ := qx10
        have R6 := R5.call S6 (by decide +kernel)
        exact z_retI (M := M_X11_whose) 64 dX11_whose_64 rfl ⟨G6, R6, Or.inr ⟨fx8.mp (by omega), Or.inr ⟨c1, skS_o (gx8 (by omega)) fx10⟩⟩⟩
      · refine z_iconst (M := M_X11_whose) 39 dX11_whose_39 ?_
        exact z_retI (M := M_X11_whose) 40 dX11_whose_40 rfl ⟨G5, R5, Or.inl ⟨fun z => absurd (fx8.mpr z) (by omega), rfl⟩⟩
    · refine z_if_ne_F (M := M_X11_whose) 9 dX11_whose_9 14 rfl (by omega) ?_
      refine z_iconst (M := M_X11_whose) 12 dX11_whose_12 ?_
      exact z_retI (M := M_X11_whose) 13 dX11_whose_13 rfl ⟨G0, (FR.rf (cs := (csB ++ [10, 11, 12, 13, 14, 15, 16, 39, 40, 41, 103, 104])) (ss := [(9, 7), (9, 8), (9, 9), (102, 3), (102, 4)]) (h := h0)), (by by_cases g : skN (h0 110) ≤ 3; exact Or.inr ⟨g, Or.inr ⟨c1, -1, psQ_n cx6, Or.inl ⟨rfl, rfl⟩⟩⟩; exact Or.inl ⟨g, rfl⟩)⟩
abbrev P_X11_could3 (h0 : m_H) (a1 a2 : Int) : Int → m_H → Prop := fun x h' => GI h' ∧ FR (csB ++ [10, 11, 12, 13, 14, 15, 16, 39, 40, 41, 103, 104]) [(9, 7), (9, 8), (9, 9), (102, 3), (102, 4)] h0 h' ∧ kcQ (h0 110) a1 a2 x
set_option maxHeartbeats 4000000 in
set_option maxRecDepth 100000 in
theorem c_X11_could3 (h0 : m_H) (a1 a2 : Int) (G0 : GI h0) (hR : LR 1 h0 (h0 110)) (hN : NP h0) : m_CI M_X11_could [mR 0, mI a1, mI a2] h0 (P_X11_could3 h0 a1 a2) := by
  refine m_CI_of ⟨by decide, rfl, by simp [m_arg, m_isL, M_X11_could], ⟨rfl, rfl⟩, rfl, rfl⟩ (ls := [some (mR 0), some (mI a1), some (mI a2)]) rfl ?_
  refine z_ok (fun _ _ ok => ?_)
  have oa1 : m_32 a1 := ok 1 _ rfl
  unfold m_32 at oa1
  have oa2 : m_32 a2 := ok 2 _ rfl
  unfold m_32 at oa2
  refine z_iload_n (M := M_X11_could) 0 dX11_could_0 rfl ?_
  refine z_sI (M := M_X11_could) 1 dX11_could_1 t_X11_isWeek l_X11_108 (m_rr_of rfl) (rest := []) (c_X11_isWeek h0 a1 G0) rfl rfl (Nat.le_of_ble_eq_true rfl) ⟨rfl, rfl⟩ (fun x1 h1 qx1 => ?_)
  obtain ⟨rfl, ⟨rfl, cx1⟩ | ⟨rfl, cx1⟩⟩ := qx1
  · refine z_if_eq_F (M := M_X11_could) 4 dX11_could_4 14 rfl (by omega) ?_
    refine z_iload_n (M := M_X11_could) 7 dX11_could_7 rfl ?_
    refine z_sI (M := M_X11_could) 8 dX11_could_8 t_X11_isKeeper l_X11_132 (m_rr_of rfl) (rest := []) (c_X11_isKeeper h0 a2 G0) rfl rfl (Nat.le_of_ble_eq_true rfl) ⟨rfl, rfl⟩ (fun x2 h2 qx2 => ?_)
    obtain ⟨rfl, ⟨rfl, cx2⟩ | ⟨rfl, cx2⟩⟩ := qx2
    · refine z_if_ne_T (M := M_X11_could) 11 dX11_could_11 16 rfl (by omega) ?_
      refine z_aload_n (M := M_X11_could) 16 dX11_could_16 rfl ?_
      refine z_getR (M := M_X11_could) 17 dX11_could_17 f_X11_16 o_0 rfl (g_0_1 G0) ?_
      refine z_aload_n (M := M_X11_could) 20 dX11_could_20 rfl ?_
      refine z_getR (M := M_X11_could) 21 dX11_could_21 f_X11_12 o_0 rfl (g_0_0 G0) ?_
      refine z_vV (M := M_X11_could) 24 dX11_could_24 t_X4_copyFrom l_X11_197 (m_rr_of rfl) (rest := []) (c_X4_copyFrom2 h0 9 1 (Or.inr (Or.inl rfl)) (Or.inl rfl) G0) o_9 rfl rfl rfl (Nat.le_of_ble_eq_true rfl) ⟨rfl, rfl⟩ (fun h3 qx3 => ?_)
      obtain ⟨G3, S3, lc3⟩ := qx3
      have R3 := (FR.rf (cs := (csB ++ [10, 11, 12, 13, 14, 15, 16, 39, 40, 41, 103, 104])) (ss := [(9, 7), (9, 8), (9, 9), (102, 3), (102, 4)]) (h := h0)).call S3 (by decide +kernel)
      refine z_aload_n (M := M_X11_could) 27 dX11_could_27 rfl ?_
      refine z_getR (M := M_X11_could) 28 dX11_could_28 f_X11_83 o_0 rfl (g_0_11 G3) ?_
      refine z_aload_n (M := M_X11_could) 31 dX11_could_31 rfl ?_
      refine z_getR (M := M_X11_could) 32 dX11_could_32 f_X11_16 o_0 rfl (g_0_1 G3) ?_
      refine z_vI (M := M_X11_could) 35 dX11_could_35 t_X6_seek l_X11_366 (m_rr_of rfl) (rest := []) (c_X6_seek3 h3 9 (h0 110) (Or.inr (Or.inl rfl)) G3 (skL_of (hR.copy lc3)) (fun j hj => (hR.copy lc3).2.1 j hj) (skG_of G0 hN)) o_102 rfl rfl rfl (Nat.le_of_ble_eq_true rfl) ⟨rfl, rfl⟩ (fun x4 h4 qx4 => ?_)
      obtain ⟨G4, S4, ax4, bx4, fx4, gx4⟩ := qx4
      have R4 := R3.call S4 (by decide +kernel)
      refine z_if_ne (M := M_X11_could) 38 dX11_could_38 43 rfl (fun c5 => ?_) (fun c5 => ?_)
      · refine z_aload_n (M := M_X11_could) 43 dX11_could_43 rfl ?_
        refine z_getR (M := M_X11_could) 44 dX11_could_44 f_X11_83 o_0 rfl (g_0_11 G4) ?_
        refine z_iload_n (M := M_X11_could) 47 dX11_could_47 rfl ?_
        refine z_iload_n (M := M_X11_could) 48 dX11_could_48 rfl ?_
        refine z_vI (M := M_X11_could) 49 dX11_could_49 t_X6_waysWith l_X11_373 (m_rr_of rfl) (rest := []) (c_X6_waysWith3 h4 a1 a2 G4 ⟨by omega, by omega⟩) o_102 rfl rfl rfl (Nat.le_of_ble_eq_true rfl) ⟨rfl, rfl⟩ (fun x6 h5 qx6 => ?_)
        obtain ⟨G5, S5, p, p1_, p2_⟩ := qx6
        have R5 := R4.call S5 (by decide +kernel)
        refine z_ok (fun ox6 _ _ => ?_)
        have ox6 := ox6.1; unfold m_ok m_32 at ox6
        exact z_retI (M := M_X11_could) 52 dX11_could_52 rfl ⟨G5, R5, Or.inr ⟨⟨cx2, fx4.mp (by omega)⟩, skS_w (gx4 (by omega)) cx2.1 cx2.2 p1_ p2_⟩⟩
      · refine z_iconst (M := M_X11_could) 41 dX11_could_41 ?_
        exact z_retI (M := M_X11_could) 42 dX11_could_42 rfl ⟨G4, R4, Or.inl ⟨fun z => absurd (fx4.mpr z.2) (by omega), rfl⟩⟩
    · refine z_if_ne_F (M := M_X11_could) 11 dX11_could_11 16 rfl (by omega) ?_
      refine z_iconst (M := M_X11_could) 14 dX11_could_14 ?_
      exact z_retI (M := M_X11_could) 15 dX11_could_15 rfl ⟨G0, (FR.rf (cs := (csB ++ [10, 11, 12, 13, 14, 15, 16, 39, 40, 41, 103, 104])) (ss := [(9, 7), (9, 8), (9, 9), (102, 3), (102, 4)]) (h := h0)), Or.inl ⟨fun z => cx2 z.1, rfl⟩⟩
  · refine z_if_eq_T (M := M_X11_could) 4 dX11_could_4 14 rfl (by omega) ?_
    refine z_iconst (M := M_X11_could) 14 dX11_could_14 ?_
    exact z_retI (M := M_X11_could) 15 dX11_could_15 rfl ⟨G0, (FR.rf (cs := (csB ++ [10, 11, 12, 13, 14, 15, 16, 39, 40, 41, 103, 104])) (ss := [(9, 7), (9, 8), (9, 9), (102, 3), (102, 4)]) (h := h0)), (by by_cases g : (0 ≤ a2 ∧ a2 ≤ 3) ∧ skN (h0 110) ≤ 3; exact Or.inr ⟨g, -1, psQ_n cx1, Or.inl ⟨rfl, rfl⟩⟩; exact Or.inl ⟨g, rfl⟩)⟩
abbrev P_X12_whose3 (h0 : m_H) (a1 : Int) : Int → m_H → Prop := fun x h' => GI h' ∧ FR [115, 116, 117, 118, 119, 120, 121, 122, 123, 124, 125, 126, 127, 128, 129, 130, 131, 132, 133, 134, 146] [(108, 0), (108, 21), (108, 58)] h0 h' ∧ hoQ (h0 110) a1 x
def q_X12_whose3 (h0 : m_H) (a1 : Int) (n : Nat) : Prop := (∀ (l2 l3 l4 : Int) (h : m_H), GI h → FR [115, 116, 117, 118, 119, 120, 121, 122, 123, 124, 125, 126, 127, 128, 129, 130, 131, 132, 133, 134, 146] [(108, 0), (108, 21), (108, 58)] h0 h → 0 ≤ l2 → l2 ≤ 2 → (-1) ≤ l3 → l3 ≤ 5 → 0 ≤ l4 → l4 ≤ 4 → (-2147483648) ≤ a1 → a1 ≤ 2147483647 → ((skR (h0 110) h ∧ a1 ≠ -1 ∧ psQ (h0 110) a1 l2) ∧ hoJ (fun k => skF (h0 110) l2.toNat k) l4 l3) → 2 * (4 - l4) + (1) ≤ (n : Int) → m_Z oF M_X12_whose 44 [some (mR 108), none, some (mI l2), some (mI l3), some (mI l4)] [] h (m_QI (P_X12_whose3 h0 a1)))
set_option maxHeartbeats 4000000 in
set_option maxRecDepth 100000 in
theorem s_X12_whose3_44 (h0 : m_H) (a1 : Int) (G0 : GI h0) (hN : NP h0) (n : Nat) (ih : q_X12_whose3 h0 a1 n) : ∀ (l2 l3 l4 : Int) (h : m_H), GI h → FR [115, 116, 117, 118, 119, 120, 121, 122, 123, 124, 125, 126, 127, 128, 129, 130, 131, 132, 133, 134, 146] [(108, 0), (108, 21), (108, 58)] h0 h → 0 ≤ l2 → l2 ≤ 2 → (-1) ≤ l3 → l3 ≤ 5 → 0 ≤ l4 → l4 ≤ 4 → (-2147483648) ≤ a1 → a1 ≤ 2147483647 → ((skR (h0 110) h ∧ a1 ≠ -1 ∧ psQ (h0 110) a1 l2) ∧ hoJ (fun k => skF (h0 110) l2.toNat k) l4 l3) → 2 * (4 - l4) + (1) ≤ ((n + 1 : Nat) : Int) → m_Z oF M_X12_whose 44 [some (mR 108), none, some (mI l2), some (mI l3), some (mI l4)] [] h (m_QI (P_X12_whose3 h0 a1)) := by
  intro l2 l3 l4 h G R v0 v1 v2 v3 v4 v5 v6 v7 i1 hr
  have r_ : h 110 = h0 110 := i1.1.1.1
  have M_ : skR (h 110) h := by rw [r_]; exact i1.1.1
  have g_ : skG (h 110) := by rw [r_]; exact skG_of G0 hN
  refine z_iload (M := M_X12_whose) 44 dX12_whose_44 rfl ?_
  refine z_iconst (M := M_X12_whose) 46 dX12_whose_46 ?_
  refine z_icmp_ge (M := M_X12_whose) 47 dX12_whose_47 78 rfl (fun c1 => ?_) (fun c1 => ?_)
  · refine z_iload_n (M := M_X12_whose) 78 dX12_whose_78 rfl ?_
    exact z_retI (M := M_X12_whose) 79 dX12_whose_79 rfl ⟨G, R, Or.inr ⟨(skR_N i1.1.1).2, Or.inr ⟨i1.1.2.1, l2, i1.1.2.2, Or.inr ⟨by omega, by have z := i1.2; rw [show l4 = 4 by omega] at z; exact z⟩⟩⟩⟩
  · refine z_aload_n (M := M_X12_whose) 50 dX12_whose_50 rfl ?_
    refine z_iload_n (M := M_X12_whose) 51 dX12_whose_51 rfl ?_
    refine z_iload (M := M_X12_whose) 52 dX12_whose_52 rfl ?_
    refine z_vI (M := M_X12_whose) 54 dX12_whose_54 t_X12_waysWith l_X12_493 (m_rr_of rfl) (rest := []) (c_X12_waysWith3 h l2 l4 G ⟨by omega, by omega⟩ ⟨by omega, by omega⟩ (NP.call hN R (fun _ => rfl) (fun _ => rfl) (fun _ => rfl)) M_ g_) o_108 rfl rfl rfl (Nat.le_of_ble_eq_true rfl) ⟨rfl, rfl⟩ (fun x2 h1 qx2 => ?_)
    obtain ⟨G1, S1, fx2, m1_⟩ := qx2
    rw [r_] at fx2 m1_
    have v_ : skF (h0 110) l2.toNat l4 = x2 := by rw [fx2, skF_w (by omega)]
    have R1 := R.call S1 (by decide +kernel)
    refine z_ok (fun ox2 _ _ => ?_)
    have ox2 := ox2.1; unfold m_ok m_32 at ox2
    refine z_if_le (M := M_X12_whose) 57 dX12_whose_57 72 rfl (fun c3 => ?_) (fun c3 => ?_)
    · refine z_iincN (M := M_X12_whose) 72 dX12_whose_72 (ls' := [some (mR 108), none, some (mI l2), some (mI l3), some (mI (l4 + 1))]) (by decide) rfl (by (unfold m_32; decide)) (by omega) (by omega) rfl ?_
      refine z_goto (M := M_X12_whose) 75 dX12_whose_75 44 rfl ?_
      exact z_mask [true, false, true, true, true] rfl (ih l2 l3 (l4 + 1) h1 G1 R1 (by omega) (by omega) (by omega) (by omega) (by omega) (by omega) (by omega) (by omega) ⟨⟨m1_, i1.1.2⟩, hoJ_n i1.2 v_ c3⟩ (by omega))
    · refine z_iload_n (M := M_X12_whose) 60 dX12_whose_60 rfl ?_
      refine z_iconst (M := M_X12_whose) 61 dX12_whose_61 ?_
      refine z_icmp_ne (M := M_X12_whose) 62 dX12_whose_62 70 rfl (fun c4 => ?_) (fun c4 => ?_)
      · refine z_iconst (M := M_X12_whose) 70 dX12_whose_70 ?_
        refine z_istore_n (M := M_X12_whose) 71 dX12_whose_71 (ls' := [some (mR 108), none, some (mI l2), some (mI 5), some (mI l4)]) (by decide) rfl ?_
        refine z_iincN (M := M_X12_whose) 72 dX12_whose_72 (ls' := [some (mR 108), none, some (mI l2), some (mI 5), some (mI (l4 + 1))]) (by decide) rfl (by (unfold m_32; decide)) (by omega) (by omega) rfl ?_
        refine z_goto (M := M_X12_whose) 75 dX12_whose_75 44 rfl ?_
        exact z_mask [true, false, true, true, true] rfl (ih l2 5 (l4 + 1) h1 G1 R1 (by omega) (by omega) (by omega) (by omega) (by omega) (by omega) (by omega) (by omega) ⟨⟨m1_, i1.1.2⟩, hoJ_b i1.2 v_ (by omega) c4⟩ (by omega))
      · refine z_iload (M := M_X12_whose) 65 dX12_whose_65 rfl ?_
        refine z_goto (M := M_X12_whose) 67 dX12_whose_67 71 rfl ?_
        refine z_istore_n (M := M_X12_whose) 71 dX12_whose_71 (ls' := [some (mR 108), none, some (mI l2), some (mI l4), some (mI l4)]) (by decide) rfl ?_
        refine z_iincN (M := M_X12_whose) 72 dX12_whose_72 (ls' := [some (mR 108), none, some (mI l2), some (mI l4), some (mI (l4 + 1))]) (by decide) rfl (by (unfold m_32; decide)) (by omega) (by omega) rfl ?_
        refine z_goto (M := M_X12_whose) 75 dX12_whose_75 44 rfl ?_
        exact z_mask [true, false, true, true, true] rfl (ih l2 l4 (l4 + 1) h1 G1 R1 (by omega) (by omega) (by omega) (by omega) (by omega) (by omega) (by omega) (by omega) ⟨⟨m1_, i1.1.2⟩, hoJ_a i1.2 v_ (by omega) (by omega) (by omega)⟩ (by omega))
theorem a_X12_whose3 (h0 : m_H) (a1 : Int) (G0 : GI h0) (hN : NP h0) : ∀ n, q_X12_whose3 h0 a1 n := by
  intro n
  induction n with
  | zero => unfold q_X12_whose3; intros; omega
  | succ n ih => exact s_X12_whose3_44 h0 a1 G0 hN n ih
set_option maxHeartbeats 4000000 in
set_option maxRecDepth 100000 in
theorem c_X12_whose3 (h0 : m_H) (a1 : Int) (G0 : GI h0) (hN : NP h0) : m_CI M_X12_whose [mR 108, mI a1] h0 (P_X12_whose3 h0 a1) := by
  refine m_CI_of ⟨by decide, rfl, by simp [m_arg, m_isL, M_X12_whose], ⟨rfl, rfl⟩, rfl, rfl⟩ (ls := [some (mR 108), some (mI a1), none, none, none]) rfl ?_
  have ih := a_X12_whose3 h0 a1 G0 hN 16
  refine z_ok (fun _ _ ok => ?_)
  have oa1 : m_32 a1 := ok 1 _ rfl
  unfold m_32 at oa1
  refine z_aload_n (M := M_X12_whose) 0 dX12_whose_0 rfl ?_
  refine z_iconst (M := M_X12_whose) 1 dX12_whose_1 ?_
  refine z_putIH (M := M_X12_whose) 2 dX12_whose_2 p_X12_133 o_108 rfl (u_108_0 G0) ((FR.rf (cs := [115, 116, 117, 118, 119, 120, 121, 122, 123, 124, 125, 126, 127, 128, 129, 130, 131, 132, 133, 134, 146]) (ss := [(108, 0), (108, 21), (108, 58)]) (h := h0)).up rfl) (fun h1 E1 G1 R1 => ?_)
  refine z_aload_n (M := M_X12_whose) 5 dX12_whose_5 rfl ?_
  refine z_vI (M := M_X12_whose) 6 dX12_whose_6 t_X12_findAsked l_X12_490 (m_rr_of rfl) (rest := []) (c_X12_findAsked3 h1 G1) o_108 rfl rfl rfl (Nat.le_of_ble_eq_true rfl) ⟨rfl, rfl⟩ (fun x1 h2 qx1 => ?_)
  obtain ⟨G2, S2, ax1, bx1, fx1, gx1⟩ := qx1
  have r1_ : h1 110 = h0 110 := FR.row R1 (fun _ => rfl)
  rw [r1_] at fx1 gx1
  have R2 := R1.call S2 (by decide +kernel)
  refine z_if_ne (M := M_X12_whose) 9 dX12_whose_9 14 rfl (fun c2 => ?_) (fun c2 => ?_)
  · refine z_iload_n (M := M_X12_whose) 14 dX12_whose_14 rfl ?_
    refine z_iconst (M := M_X12_whose) 15 dX12_whose_15 ?_
    refine z_icmp_ne (M := M_X12_whose) 16 dX12_whose_16 26 rfl (fun c3 => ?_) (fun c3 => ?_)
    · refine z_aload_n (M := M_X12_whose) 26 dX12_whose_26 rfl ?_
      refine z_iload_n (M := M_X12_whose) 27 dX12_whose_27 rfl ?_
      refine z_vI (M := M_X12_whose) 28 dX12_whose_28 t_X12_whichOf l_X12_496 (m_rr_of rfl) (rest := []) (c_X12_whichOf3 h2 a1 G2) o_108 rfl rfl rfl (Nat.le_of_ble_eq_true rfl) ⟨rfl, rfl⟩ (fun x4 h3 qx4 => ?_)
      obtain ⟨G3, S3, ax4, bx4, fx4⟩ := qx4
      have M2_ := gx1 (by omega)
      have M3_ : skR (h0 110) h3 := by rw [frE S3]; exact M2_
      have ps_ := psQ_L M2_.2.2.2 fx4
      have R3 := R2.call S3 (by decide +kernel)
      refine z_istore_n (M := M_X12_whose) 31 dX12_whose_31 (ls' := [some (mR 108), some (mI a1), some (mI x4), none, none]) (by decide) rfl ?_
      refine z_iload_n (M := M_X12_whose) 32 dX12_whose_32 rfl ?_
      refine z_iconst (M := M_X12_whose) 33 dX12_whose_33 ?_
      refine z_icmp_ne (M := M_X12_whose) 34 dX12_whose_34 39 rfl (fun c5 => ?_) (fun c5 => ?_)
      · refine z_iconst (M := M_X12_whose) 39 dX12_whose_39 ?_
        refine z_istore_n (M := M_X12_whose) 40 dX12_whose_40 (ls' := [some (mR 108), some (mI a1), some (mI x4), some (mI (-1)), none]) (by decide) rfl ?_
        refine z_iconst (M := M_X12_whose) 41 dX12_whose_41 ?_
        refine z_istore (M := M_X12_whose) 42 dX12_whose_42 (ls' := [some (mR 108), some (mI a1), some (mI x4), some (mI (-1)), some (mI 0)]) (by decide) rfl ?_
        exact z_mask [true, false, true, true, true] rfl (ih x4 (-1) 0 h3 G3 R3 (by omega) (by omega) (by omega) (by omega) (by omega) (by omega) (by omega) (by omega) ⟨⟨M3_, c3, ps_⟩, hoJ_0⟩ (by omega))
      · refine z_iconst (M := M_X12_whose) 37 dX12_whose_37 ?_
        exact z_retI (M := M_X12_whose) 38 dX12_whose_38 rfl ⟨G3, R3, Or.inr ⟨(skR_N M2_).2, Or.inr ⟨c3, x4, ps_, Or.inl ⟨by omega, rfl⟩⟩⟩⟩
    · refine z_aload_n (M := M_X12_whose) 19 dX12_whose_19 rfl ?_
      refine z_iconst (M := M_X12_whose) 20 dX12_whose_20 ?_
      refine z_iconst (M := M_X12_whose) 21 dX12_whose_21 ?_
      refine z_vI (M := M_X12_whose) 22 dX12_whose_22 t_X12_waysWith l_X12_493 (m_rr_of rfl) (rest := []) (c_X12_waysWith3 h2 0 (-1) G2 ⟨by omega, by omega⟩ ⟨by omega, by omega⟩ (NP.call hN R2 (fun _ => rfl) (fun _ => rfl) (fun _ => rfl)) (by have M2_ := gx1 (by omega); rw [M2_.1]; exact M2_) (by have M2_ := gx1 (by omega); rw [M2_.1]; exact skG_of G0 hN)) o_108 rfl rfl rfl (Nat.le_of_ble_eq_true rfl) ⟨rfl, rfl⟩ (fun x6 h4 qx6 => ?_)
      obtain ⟨G4, S4, fx6, _⟩ := qx6
      rw [(gx1 (by omega)).1] at fx6
      have R4 := R2.call S4 (by decide +kernel)
      refine z_ok (fun ox6 _ _ => ?_)
      have ox6 := ox6.1; unfold m_ok m_32 at ox6
      exact z_retI (M := M_X12_whose) 25 dX12_whose_25 rfl ⟨G4, R4, Or.inr ⟨fx1.mp (by omega), Or.inl ⟨by omega, by rw [fx6, skF_a]⟩⟩⟩
  · refine z_iconst (M := M_X12_whose) 12 dX12_whose_12 ?_
    exact z_retI (M := M_X12_whose) 13 dX12_whose_13 rfl ⟨G2, R2, Or.inl ⟨fun z => absurd (fx1.mpr z) (by omega), rfl⟩⟩
abbrev P_X12_could3 (h0 : m_H) (a1 a2 : Int) : Int → m_H → Prop := fun x h' => GI h' ∧ FR [115, 116, 117, 118, 119, 120, 121, 122, 123, 124, 125, 126, 127, 128, 129, 130, 131, 132, 133, 134, 146] [(108, 0), (108, 21), (108, 58)] h0 h' ∧ kcQ (h0 110) a1 a2 x
set_option maxHeartbeats 4000000 in
set_option maxRecDepth 100000 in
theorem c_X12_could3 (h0 : m_H) (a1 a2 : Int) (G0 : GI h0) (hN : NP h0) : m_CI M_X12_could [mR 108, mI a1, mI a2] h0 (P_X12_could3 h0 a1 a2) := by
  refine m_CI_of ⟨by decide, rfl, by simp [m_arg, m_isL, M_X12_could], ⟨rfl, rfl⟩, rfl, rfl⟩ (ls := [some (mR 108), some (mI a1), some (mI a2), none]) rfl ?_
  refine z_ok (fun _ _ ok => ?_)
  have oa1 : m_32 a1 := ok 1 _ rfl
  unfold m_32 at oa1
  have oa2 : m_32 a2 := ok 2 _ rfl
  unfold m_32 at oa2
  refine z_aload_n (M := M_X12_could) 0 dX12_could_0 rfl ?_
  refine z_iconst (M := M_X12_could) 1 dX12_could_1 ?_
  refine z_putIH (M := M_X12_could) 2 dX12_could_2 p_X12_133 o_108 rfl (u_108_0 G0) ((FR.rf (cs := [115, 116, 117, 118, 119, 120, 121, 122, 123, 124, 125, 126, 127, 128, 129, 130, 131, 132, 133, 134, 146]) (ss := [(108, 0), (108, 21), (108, 58)]) (h := h0)).up rfl) (fun h1 E1 G1 R1 => ?_)
  refine z_iload_n (M := M_X12_could) 5 dX12_could_5 rfl ?_
  refine z_sI (M := M_X12_could) 6 dX12_could_6 t_X12_isKeeper l_X12_169 (m_rr_of rfl) (rest := []) (c_X12_isKeeper h1 a2 G1) rfl rfl (Nat.le_of_ble_eq_true rfl) ⟨rfl, rfl⟩ (fun x1 h2 qx1 => ?_)
  obtain ⟨rfl, ⟨rfl, cx1⟩ | ⟨rfl, cx1⟩⟩ := qx1
  · refine z_if_eq_F (M := M_X12_could) 9 dX12_could_9 19 rfl (by omega) ?_
    refine z_aload_n (M := M_X12_could) 12 dX12_could_12 rfl ?_
    refine z_vI (M := M_X12_could) 13 dX12_could_13 t_X12_findAsked l_X12_490 (m_rr_of rfl) (rest := []) (c_X12_findAsked3 h1 G1) o_108 rfl rfl rfl (Nat.le_of_ble_eq_true rfl) ⟨rfl, rfl⟩ (fun x2 h3 qx2 => ?_)
    obtain ⟨G3, S3, ax2, bx2, fx2, gx2⟩ := qx2
    have r1_ : h1 110 = h0 110 := FR.row R1 (fun _ => rfl)
    rw [r1_] at fx2 gx2
    have R3 := R1.call S3 (by decide +kernel)
    refine z_if_ne (M := M_X12_could) 16 dX12_could_16 21 rfl (fun c3 => ?_) (fun c3 => ?_)
    · refine z_aload_n (M := M_X12_could) 21 dX12_could_21 rfl ?_
      refine z_iload_n (M := M_X12_could) 22 dX12_could_22 rfl ?_
      refine z_vI (M := M_X12_could) 23 dX12_could_23 t_X12_whichOf l_X12_496 (m_rr_of rfl) (rest := []) (c_X12_whichOf3 h3 a1 G3) o_108 rfl rfl rfl (Nat.le_of_ble_eq_true rfl) ⟨rfl, rfl⟩ (fun x4 h4 qx4 => ?_)
      obtain ⟨G4, S4, ax4, bx4, fx4⟩ := qx4
      have M3_ := gx2 (by omega)
      have M4_ : skR (h0 110) h4 := by rw [frE S4]; exact M3_
      have ps_ := psQ_L M3_.2.2.2 fx4
      have R4 := R3.call S4 (by decide +kernel)
      refine z_istore_n (M := M_X12_could) 26 dX12_could_26 (ls' := [some (mR 108), some (mI a1), some (mI a2), some (mI x4)]) (by decide) rfl ?_
      refine z_iload_n (M := M_X12_could) 27 dX12_could_27 rfl ?_
      refine z_iconst (M := M_X12_could) 28 dX12_could_28 ?_
      refine z_icmp_ne (M := M_X12_could) 29 dX12_could_29 36 rfl (fun c5 => ?_) (fun c5 => ?_)
      · refine z_aload_n (M := M_X12_could) 36 dX12_could_36 rfl ?_
        refine z_iload_n (M := M_X12_could) 37 dX12_could_37 rfl ?_
        refine z_iload_n (M := M_X12_could) 38 dX12_could_38 rfl ?_
        refine z_vI (M := M_X12_could) 39 dX12_could_39 t_X12_waysWith l_X12_493 (m_rr_of rfl) (rest := []) (c_X12_waysWith3 h4 x4 a2 G4 ⟨by omega, by omega⟩ ⟨by omega, by omega⟩ (NP.call hN R4 (fun _ => rfl) (fun _ => rfl) (fun _ => rfl)) (by rw [M4_.1]; exact M4_) (by rw [M4_.1]; exact skG_of G0 hN)) o_108 rfl rfl rfl (Nat.le_of_ble_eq_true rfl) ⟨rfl, rfl⟩ (fun x6 h5 qx6 => ?_)
        obtain ⟨G5, S5, fx6, _⟩ := qx6
        rw [M4_.1] at fx6
        have R5 := R4.call S5 (by decide +kernel)
        refine z_ok (fun ox6 _ _ => ?_)
        have ox6 := ox6.1; unfold m_ok m_32 at ox6
        exact z_retI (M := M_X12_could) 42 dX12_could_42 rfl ⟨G5, R5, Or.inr ⟨⟨cx1, (skR_N M3_).2⟩, x4, ps_, Or.inr ⟨c5, by rw [fx6, skF_w (by omega)]⟩⟩⟩
      · refine z_iconst (M := M_X12_could) 32 dX12_could_32 ?_
        refine z_goto (M := M_X12_could) 33 dX12_could_33 42 rfl ?_
        exact z_retI (M := M_X12_could) 42 dX12_could_42 rfl ⟨G4, R4, Or.inr ⟨⟨cx1, (skR_N M3_).2⟩, x4, ps_, Or.inl ⟨by omega, rfl⟩⟩⟩
    · refine z_iconst (M := M_X12_could) 19 dX12_could_19 ?_
      exact z_retI (M := M_X12_could) 20 dX12_could_20 rfl ⟨G3, R3, Or.inl ⟨fun z => absurd (fx2.mpr z.2) (by omega), rfl⟩⟩
  · refine z_if_eq_T (M := M_X12_could) 9 dX12_could_9 19 rfl (by omega) ?_
    refine z_iconst (M := M_X12_could) 19 dX12_could_19 ?_
    exact z_retI (M := M_X12_could) 20 dX12_could_20 rfl ⟨G1, R1, Or.inl ⟨fun z => cx1 z.1, rfl⟩⟩
