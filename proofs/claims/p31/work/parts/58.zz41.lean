/-! ask -/
def TM (r : Nat → Int) (h : m_H) : Prop := ∃ g s, TY r s g ∧ ∀ c, c ≠ 94 → c ≠ 95 → h c = g c
theorem TM.step {r : Nat → Int} {h h' : m_H} (T : TM r h) (e : ∀ c, c ≠ 94 → c ≠ 95 → h' c = h c) : TM r h' := by
  obtain ⟨g, s, Y, E⟩ := T
  exact ⟨g, s, Y, fun c c1 c2 => (e c c1 c2).trans (E c c1 c2)⟩
theorem lm_same {h g : m_H} (E : ∀ c, c ≠ 94 → c ≠ 95 → h c = g c) (a b : Int) : ∀ n, n ≤ 16 → lmN h a b n = lmN g a b n
  | 0, _ => rfl
  | n + 1, hn => by
    have i := lm_same E a b n (by omega)
    show lmS h a b (n : Int) (lmN h a b n) = lmS g a b (n : Int) (lmN g a b n)
    rw [i]
    unfold lmS cnd hiV loV
    rw [E 39 (by decide) (by decide), E 40 (by decide) (by decide), E 41 (by decide) (by decide), E (77 + (n : Int).toNat) (by omega) (by omega)]
theorem TM.H {r : Nat → Int} {h : m_H} (T : TM r h) : bkH h := by
  obtain ⟨g, s, ⟨D, _, X⟩, E⟩ := T
  have b := X.1.1
  unfold bkH at b ⊢
  rw [E 39 (by decide) (by decide), E 41 (by decide) (by decide)]; exact b
theorem TM.R {r : Nat → Int} {h : m_H} (T : TM r h) : bkR h := by
  obtain ⟨g, s, ⟨D, _, X⟩, E⟩ := T
  have b := bkR_X X
  intro p hp
  have q := b p hp
  unfold bd at q ⊢
  rw [E (77 + p) (by omega) (by omega)]; exact q
theorem TM.cp {h : m_H} {a b : Int} {B : Int × Int × Int} (G : GI h) (N : NP h) (T : TM (h 110) h) (ng : ¬ gain (bR (h 110))) (ta : thr (h 110) a) (tb : thr (h 110) b) (e : B = if a = b then (1, 1, 0) else lmN h a b 16) (o : B.2.2 = 0 ∨ B.2.2 = 1) : cpB (h 110) a b B := by
  obtain ⟨g, s, Y, E⟩ := T
  exact cp_of G N Y ng ta tb (by rw [e, lm_same E a b 16 (Nat.le_refl _)]) o
def mwQ (r : Nat → Int) (a f y : Int) : Prop := (¬ thr r a ∧ y = -1) ∨ (thr r a ∧ ∃ B C fo la, nmE r a f 1 B C fo la ∧ nmN fo la = y)
theorem mw_eq {r : Nat → Int} (hE : ∀ e ∈ bR r, gEo e) {a f x y : Int} (h : mwQ r a f x) (h' : mwQ r a f y) : x = y := by
  rcases h with ⟨n, e⟩ | ⟨t, B, C, fo, la, i, v⟩
  · rcases h' with ⟨_, e'⟩ | ⟨t', _⟩
    · omega
    · exact absurd t' n
  · rcases h' with ⟨n', _⟩ | ⟨_, B', C', fo', la', i', v'⟩
    · exact absurd t n'
    · obtain ⟨e1, e2⟩ := nmE_eq hE i i'
      have f1 := i.2.2.1
      subst e1
      rw [← v, ← v']
      rcases e2 with z | z
      · rw [z]
      · unfold nmN; rw [if_neg (by omega), if_neg (by omega)]
def akV (r : Nat → Int) (i y : Int) : Prop := mwQ r (i / 4) (i % 4) y
def akB (r : Nat → Int) (m p v : Int) : Prop := (m = 0 ∧ v = -1) ∨ ((0 < m ∧ 0 ≤ p ∧ p < m ∧ 0 ≤ v) ∧ akV r p v ∧ (∀ i y, 0 ≤ i → i < m → akV r i y → y ≤ v) ∧ ∀ i y, 0 ≤ i → i < p → akV r i y → y < v)
theorem mwz_0 {r : Nat → Int} {f y : Int} (h : mwQ r 0 f y) : 0 ≤ y := by
  rcases h with ⟨n, _⟩ | ⟨_, B, C, fo, la, i, v⟩
  · exact absurd ⟨by decide, by decide, Or.inl (by decide)⟩ n
  · rw [← v]; unfold nmN; split <;> omega
theorem akB_y {r : Nat → Int} (hE : ∀ e ∈ bR r, gEo e) {m p v y : Int} (hm : 0 ≤ m) (I : akB r m p v) (V : akV r m y) (c : v < y) : akB r (m + 1) m y := by
  have one : ∀ i z, 0 ≤ i → i < m → akV r i z → z < y := fun i z i0 i1 q => by
    rcases I with ⟨e, _⟩ | ⟨_, _, a, _⟩
    · omega
    · have := a i z i0 i1 q; omega
  have y0 : 0 ≤ y := by
    rcases I with ⟨e, _⟩ | ⟨⟨_, _, _, z⟩, _⟩
    · subst e; exact mwz_0 V
    · omega
  refine Or.inr ⟨⟨by omega, hm, by omega, y0⟩, V, fun i z i0 i1 q => ?_, one⟩
  by_cases g : i = m
  · subst g; have := mw_eq hE q V; omega
  · have := one i z i0 (by omega) q; omega
theorem akB_n {r : Nat → Int} (hE : ∀ e ∈ bR r, gEo e) {m p v y : Int} (hm : 0 ≤ m) (I : akB r m p v) (V : akV r m y) (c : y ≤ v) : akB r (m + 1) p v := by
  rcases I with ⟨e, e2⟩ | ⟨⟨a1, a2, a3, a4⟩, b, d, f⟩
  · subst e
    have := mwz_0 V
    omega
  · refine Or.inr ⟨⟨by omega, a2, by omega, a4⟩, b, fun i z i0 i1 q => ?_, f⟩
    by_cases g : i = m
    · subst g; have := mw_eq hE q V; omega
    · exact d i z i0 (by omega) q
theorem akB_p {r : Nat → Int} {m p v : Int} (I : akB r m p v) (hm : 0 < m) : 0 ≤ p ∧ p < m := by
  rcases I with ⟨e, _⟩ | ⟨⟨_, a, b, _⟩, _⟩
  · omega
  · exact ⟨a, b⟩
theorem akB_eq {r : Nat → Int} (hE : ∀ e ∈ bR r, gEo e) {m p v p' v' : Int} (hm : 0 < m) (I : akB r m p v) (J : akB r m p' v') : p = p' ∧ v = v' := by
  rcases I with ⟨e, _⟩ | ⟨⟨_, a2, a3, _⟩, b, d, f⟩
  · omega
  · rcases J with ⟨e, _⟩ | ⟨⟨_, a2', a3', _⟩, b', d', f'⟩
    · omega
    · have x1 := d p' v' a2' a3' b'
      have x2 := d' p v a2 a3 b
      refine ⟨?_, by omega⟩
      rcases Int.lt_trichotomy p p' with z | z | z
      · have := f' p v a2 z b; omega
      · exact z
      · have := f p' v' a2' z b'; omega
/-- a length that isn't there -/
theorem akB_k {r : Nat → Int} (hE : ∀ e ∈ bR r, gEo e) {l j p v : Int} (hl : 0 ≤ l) (n : ¬ thr r l) (h0 : 0 ≤ j) (h4 : j ≤ 4) (hv : -1 ≤ v) (I : akB r (4 * l + j) p v) : akB r (4 * (l + 1)) p v := by
  have st : ∀ i, 0 ≤ i → i ≤ 3 → akB r (4 * l + i) p v → akB r (4 * l + (i + 1)) p v := fun i i0 i3 q => by
    have V : akV r (4 * l + i) (-1) := Or.inl ⟨by rw [show (4 * l + i) / 4 = l by omega]; exact n, rfl⟩
    have z := akB_n hE (by omega) q V hv
    rw [show 4 * l + i + 1 = 4 * l + (i + 1) by omega] at z
    exact z
  have k : ∀ t : Nat, ∀ i : Int, 0 ≤ i → i + (t : Int) = 4 → akB r (4 * l + i) p v → akB r (4 * (l + 1)) p v := by
    intro t
    induction t with
    | zero => intro i _ e q; rw [show i = 4 by omega] at q; rw [show 4 * (l + 1) = 4 * l + 4 by omega]; exact q
    | succ t ih => intro i i0 e q; exact ih (i + 1) (by omega) (by omega) (st i i0 (by omega) q)
  exact k (4 - j).toNat j h0 (by omega) I
def aqQ (r : Nat → Int) (w x : Int) : Prop := (¬ ((0 ≤ w ∧ w ≤ 2) ∧ ¬ gain (bR r)) ∧ x = -1) ∨ (((0 ≤ w ∧ w ≤ 2) ∧ ¬ gain (bR r)) ∧ ∃ p v, akB r 48 p v ∧ ((w = 0 ∧ x = p / 4) ∨ (w = 1 ∧ x = p % 4) ∨ (w = 2 ∧ x = v)))
theorem as_eq {r : Nat → Int} (hE : ∀ e ∈ bR r, gEo e) {w x y : Int} (h : aqQ r w x) (h' : aqQ r w y) : x = y := by
  rcases h with ⟨n, e⟩ | ⟨K, p, v, i, a⟩
  · rcases h' with ⟨_, e'⟩ | ⟨K', _⟩
    · omega
    · exact absurd K' n
  · rcases h' with ⟨n', _⟩ | ⟨_, p', v', i', a'⟩
    · exact absurd K n'
    · obtain ⟨e1, e2⟩ := akB_eq hE (by decide) i i'
      subst e1
      subst e2
      omega
theorem LX.ask {h h1 : m_H} {w x y : Int} {cs : List Nat} {ss : List (Nat × Nat)} (G : GI h) (N : NP h) (S1 : FR cs ss h h1) (A : aqQ (h 110) w x) (B : aqQ (h1 110) w y) (o : out 110 110 cs ss = true) : x = y := by
  rw [rowz S1 (fr_out o (by decide) (by decide))] at B
  exact as_eq (bR_ok G N) A B
abbrev P_X11_manyWholes3 (h0 : m_H) (a1 a2 : Int) : Int → m_H → Prop := fun x h' => GI h' ∧ FR (csB ++ []) [] h0 h' ∧ (-1) ≤ x ∧ x ≤ 2147483647 ∧ (∀ c, c ≠ 94 → c ≠ 95 → h' c = h0 c) ∧ mwQ (h0 110) a1 a2 x
set_option maxHeartbeats 4000000 in
set_option maxRecDepth 100000 in
theorem c_X11_manyWholes3 (h0 : m_H) (a1 a2 : Int) (G0 : GI h0) (pa1 : 0 ≤ a1 ∧ a1 ≤ 11) (pa2 : 0 ≤ a2 ∧ a2 ≤ 3) (hR : LR 1 h0 (h0 110)) (hN : NP h0) (hT : TM (h0 110) h0) (ng : ¬ gain (bR (h0 110))) : m_CI M_X11_manyWholes [mR 0, mI a1, mI a2] h0 (P_X11_manyWholes3 h0 a1 a2) := by
  refine m_CI_of ⟨by decide, rfl, by simp [m_arg, m_isL, M_X11_manyWholes], ⟨rfl, rfl⟩, rfl, rfl⟩ (ls := [some (mR 0), some (mI a1), some (mI a2)]) rfl ?_
  refine z_aload_n (M := M_X11_manyWholes) 0 dX11_manyWholes_0 rfl ?_
  refine z_getR (M := M_X11_manyWholes) 1 dX11_manyWholes_1 f_X11_12 o_0 rfl (g_0_0 G0) ?_
  refine z_iload_n (M := M_X11_manyWholes) 4 dX11_manyWholes_4 rfl ?_
  refine z_vI (M := M_X11_manyWholes) 5 dX11_manyWholes_5 t_X4_isThere l_X11_329 (m_rr_of rfl) (rest := []) (c_X4_isThere h0 1 a1 (Or.inl rfl) G0) o_1 rfl rfl rfl (Nat.le_of_ble_eq_true rfl) ⟨rfl, rfl⟩ (fun x1 h1 qx1 => ?_)
  obtain ⟨rfl, ⟨rfl, cx1⟩ | ⟨rfl, cx1⟩⟩ := qx1
  · refine z_if_ne_T (M := M_X11_manyWholes) 8 dX11_manyWholes_8 13 rfl (by omega) ?_
    refine z_aload_n (M := M_X11_manyWholes) 13 dX11_manyWholes_13 rfl ?_
    refine z_getR (M := M_X11_manyWholes) 14 dX11_manyWholes_14 f_X11_53 o_0 rfl (g_0_7 G0) ?_
    refine z_aload_n (M := M_X11_manyWholes) 17 dX11_manyWholes_17 rfl ?_
    refine z_getR (M := M_X11_manyWholes) 18 dX11_manyWholes_18 f_X11_46 o_0 rfl (g_0_6 G0) ?_
    refine z_iload_n (M := M_X11_manyWholes) 21 dX11_manyWholes_21 rfl ?_
    refine z_bipush (M := M_X11_manyWholes) 22 dX11_manyWholes_22 ?_
    refine z_iload_n (M := M_X11_manyWholes) 24 dX11_manyWholes_24 rfl ?_
    refine z_iaddN (M := M_X11_manyWholes) 25 dX11_manyWholes_25 (by omega) (by omega) ?_
    refine z_vV (M := M_X11_manyWholes) 26 dX11_manyWholes_26 t_X7_measure l_X11_427 (m_rr_of rfl) (rest := []) (c_X7_measure2 h0 a1 (12 + a2) G0 ⟨by omega, by omega⟩ ⟨by omega, by omega⟩ hT.H hT.R) o_93 rfl rfl rfl (Nat.le_of_ble_eq_true rfl) ⟨rfl, rfl⟩ (fun h2 qx2 => ?_)
    obtain ⟨G2, S2, M1, M2, M3⟩ := qx2
    have t1_ : thr (h0 110) a1 := (thr_c hR).mp cx1
    have t2_ : thr (h0 110) (12 + a2) := ⟨by omega, by omega, Or.inr (Or.inl (by omega))⟩
    have c1_ := hT.cp G0 hN ng t1_ t2_ M2 (by have z := g_95_2 G2; show h2 95 2 = 0 ∨ h2 95 2 = 1; omega)
    have c2_ := hT.cp G0 hN ng t2_ t1_ M3 (by have z := g_94_2 G2; show h2 94 2 = 0 ∨ h2 94 2 = 1; omega)
    have pb1_ : (1 ≤ h2 95 0 ∧ h2 95 0 ≤ 1600000000) ∧ (0 ≤ h2 95 1 ∧ h2 95 1 ≤ 1600000000) := by have z := c1_.2.1; unfold pBb bd at z; simp only at z; omega
    have pb2_ : (1 ≤ h2 94 0 ∧ h2 94 0 ≤ 1600000000) ∧ (0 ≤ h2 94 1 ∧ h2 94 1 ≤ 1600000000) := by have z := c2_.2.1; unfold pBb bd at z; simp only at z; omega
    have R2 := (FR.rf (cs := (csB ++ [])) (ss := []) (h := h0)).call S2 (by decide +kernel)
    refine z_aload_n (M := M_X11_manyWholes) 29 dX11_manyWholes_29 rfl ?_
    refine z_getR (M := M_X11_manyWholes) 30 dX11_manyWholes_30 f_X11_53 o_0 rfl (g_0_7 G2) ?_
    refine z_iconst (M := M_X11_manyWholes) 33 dX11_manyWholes_33 ?_
    refine z_vI (M := M_X11_manyWholes) 34 dX11_manyWholes_34 t_X7_manyNumbers l_X11_310 (m_rr_of rfl) (rest := []) (c_X7_manyNumbers4 h2 1 G2 ⟨by omega, by omega⟩ pb2_ pb1_) o_93 rfl rfl rfl (Nat.le_of_ble_eq_true rfl) ⟨rfl, rfl⟩ (fun x3 h3 qx3 => ?_)
    obtain ⟨G3, S3, ax3, bx3, fo, la, nm_, nx_⟩ := qx3
    have R3 := R2.call S3 (by decide +kernel)
    exact z_retI (M := M_X11_manyWholes) 37 dX11_manyWholes_37 rfl ⟨G3, R3, by omega, by omega, fun c d1 d2 => (by rw [frE S3]; exact M1 c d1 d2), Or.inr ⟨t1_, _, _, fo, la, ⟨⟨c2_.1, c2_.2.2.1⟩, ⟨c1_.1, c1_.2.2.1⟩, nm_⟩, nx_⟩⟩
  · refine z_if_ne_F (M := M_X11_manyWholes) 8 dX11_manyWholes_8 13 rfl (by omega) ?_
    refine z_iconst (M := M_X11_manyWholes) 11 dX11_manyWholes_11 ?_
    exact z_retI (M := M_X11_manyWholes) 12 dX11_manyWholes_12 rfl ⟨G0, (FR.rf (cs := (csB ++ [])) (ss := []) (h := h0)), by omega, by omega, fun _ _ _ => rfl, Or.inl ⟨fun z => cx1 ((thr_c hR).mpr z), rfl⟩⟩
abbrev P_X11_ask3 (h0 : m_H) (a1 : Int) : Int → m_H → Prop := fun x h' => GI h' ∧ FR (csB ++ [39, 40, 41]) [] h0 h' ∧ (-1) ≤ x ∧ x ≤ 2147483647 ∧ aqQ (h0 110) a1 x
def q_X11_ask3 (h0 : m_H) (a1 : Int) (n : Nat) : Prop := (∀ (l2 l3 l4 : Int) (h : m_H), GI h → FR (csB ++ [39, 40, 41]) [] h0 h → (-1) ≤ l2 → l2 ≤ 2147483647 → 0 ≤ l3 → l3 ≤ 47 → 0 ≤ l4 → l4 ≤ 48 → 0 ≤ a1 → a1 ≤ 2 → (TM (h0 110) h ∧ ¬ gain (bR (h0 110)) ∧ akB (h0 110) l4 l3 l2) → 2 * (48 - l4) + (1) ≤ (n : Int) → m_Z oF M_X11_ask 25 [some (mR 0), some (mI a1), some (mI l2), some (mI l3), some (mI l4), none] [] h (m_QI (P_X11_ask3 h0 a1)))
set_option maxHeartbeats 4000000 in
set_option maxRecDepth 100000 in
theorem s_X11_ask3_25 (h0 : m_H) (a1 : Int) (G0 : GI h0) (hR : LR 1 h0 (h0 110)) (hN : NP h0) (n : Nat) (ih : q_X11_ask3 h0 a1 n) : ∀ (l2 l3 l4 : Int) (h : m_H), GI h → FR (csB ++ [39, 40, 41]) [] h0 h → (-1) ≤ l2 → l2 ≤ 2147483647 → 0 ≤ l3 → l3 ≤ 47 → 0 ≤ l4 → l4 ≤ 48 → 0 ≤ a1 → a1 ≤ 2 → (TM (h0 110) h ∧ ¬ gain (bR (h0 110)) ∧ akB (h0 110) l4 l3 l2) → 2 * (48 - l4) + (1) ≤ ((n + 1 : Nat) : Int) → m_Z oF M_X11_ask 25 [some (mR 0), some (mI a1), some (mI l2), some (mI l3), some (mI l4), none] [] h (m_QI (P_X11_ask3 h0 a1)) := by
  intro l2 l3 l4 h G R v0 v1 v2 v3 v4 v5 v6 v7 i1 hr
  have r_ : h 110 = h0 110 := FR.row R (fun _ => rfl)
  have R_ : LR 1 h (h 110) := by rw [r_]; exact LR.S hR R (by decide)
  have N_ : NP h := NP.call hN R (fun _ => rfl) (fun _ => rfl) (fun _ => rfl)
  have T_ : TM (h 110) h := by rw [r_]; exact i1.1
  have g_ : ¬ gain (bR (h 110)) := by rw [r_]; exact i1.2.1
  have E_ := bR_ok G0 hN
  refine z_iload (M := M_X11_ask) 25 dX11_ask_25 rfl ?_
  refine z_bipush (M := M_X11_ask) 27 dX11_ask_27 ?_
  refine z_icmp_ge (M := M_X11_ask) 29 dX11_ask_29 64 rfl (fun c1 => ?_) (fun c1 => ?_)
  · refine z_iload_n (M := M_X11_ask) 64 dX11_ask_64 rfl ?_
    refine z_iconst (M := M_X11_ask) 65 dX11_ask_65 ?_
    refine z_icmp_ne (M := M_X11_ask) 66 dX11_ask_66 71 rfl (fun c2 => ?_) (fun c2 => ?_)
    · refine z_iload_n (M := M_X11_ask) 71 dX11_ask_71 rfl ?_
      refine z_if_ne (M := M_X11_ask) 72 dX11_ask_72 81 rfl (fun c3 => ?_) (fun c3 => ?_)
      · refine z_iload_n (M := M_X11_ask) 81 dX11_ask_81 rfl ?_
        refine z_iconst (M := M_X11_ask) 82 dX11_ask_82 ?_
        refine z_iremN (M := M_X11_ask) 83 dX11_ask_83 (by omega) (by omega) ?_
        refine z_topBI (lo := 0) (hi := 3) ⟨by omega, by omega⟩ (fun x4 ex4 ax4 bx4 => ?_)
        exact z_retI (M := M_X11_ask) 84 dX11_ask_84 rfl ⟨G, R, by omega, by omega, Or.inr ⟨⟨⟨by omega, by omega⟩, i1.2.1⟩, l3, l2, by have z := i1.2.2; rw [show l4 = 48 by omega] at z; exact z, Or.inr (Or.inl ⟨by omega, ex4.symm⟩)⟩⟩
      · refine z_iload_n (M := M_X11_ask) 75 dX11_ask_75 rfl ?_
        refine z_iconst (M := M_X11_ask) 76 dX11_ask_76 ?_
        refine z_idivN (M := M_X11_ask) 77 dX11_ask_77 (by omega) (by omega) ?_
        refine z_topBI (lo := 0) (hi := 11) ⟨by omega, by omega⟩ (fun x5 ex5 ax5 bx5 => ?_)
        refine z_goto (M := M_X11_ask) 78 dX11_ask_78 84 rfl ?_
        exact z_retI (M := M_X11_ask) 84 dX11_ask_84 rfl ⟨G, R, by omega, by omega, Or.inr ⟨⟨⟨by omega, by omega⟩, i1.2.1⟩, l3, l2, by have z := i1.2.2; rw [show l4 = 48 by omega] at z; exact z, Or.inl ⟨by omega, ex5.symm⟩⟩⟩
    · refine z_iload_n (M := M_X11_ask) 69 dX11_ask_69 rfl ?_
      exact z_retI (M := M_X11_ask) 70 dX11_ask_70 rfl ⟨G, R, by omega, by omega, Or.inr ⟨⟨⟨by omega, by omega⟩, i1.2.1⟩, l3, l2, by have z := i1.2.2; rw [show l4 = 48 by omega] at z; exact z, Or.inr (Or.inr ⟨by omega, rfl⟩)⟩⟩
  · refine z_aload_n (M := M_X11_ask) 32 dX11_ask_32 rfl ?_
    refine z_iload (M := M_X11_ask) 33 dX11_ask_33 rfl ?_
    refine z_iconst (M := M_X11_ask) 35 dX11_ask_35 ?_
    refine z_idivN (M := M_X11_ask) 36 dX11_ask_36 (by omega) (by omega) ?_
    refine z_topBI (lo := 0) (hi := 11) ⟨by omega, by omega⟩ (fun x6 ex6 ax6 bx6 => ?_)
    refine z_iload (M := M_X11_ask) 37 dX11_ask_37 rfl ?_
    refine z_iconst (M := M_X11_ask) 39 dX11_ask_39 ?_
    refine z_iremN (M := M_X11_ask) 40 dX11_ask_40 (by omega) (by omega) ?_
    refine z_topBI (lo := 0) (hi := 3) ⟨by omega, by omega⟩ (fun x7 ex7 ax7 bx7 => ?_)
    refine z_vI (M := M_X11_ask) 41 dX11_ask_41 t_X11_manyWholes l_X11_319 (m_rr_of rfl) (rest := []) (c_X11_manyWholes3 h x6 x7 G ⟨by omega, by omega⟩ ⟨by omega, by omega⟩ R_ N_ T_ g_) o_0 rfl rfl rfl (Nat.le_of_ble_eq_true rfl) ⟨rfl, rfl⟩ (fun x8 h1 qx8 => ?_)
    obtain ⟨G1, S1, ax8, bx8, e_, m_⟩ := qx8
    rw [r_] at m_
    have v_ : akV (h0 110) l4 x8 := by unfold akV; rw [ex6, ex7]; exact m_
    have R1 := R.call S1 (by decide +kernel)
    refine z_istore (M := M_X11_ask) 44 dX11_ask_44 (ls' := [some (mR 0), some (mI a1), some (mI l2), some (mI l3), some (mI l4), some (mI x8)]) (by decide) rfl ?_
    refine z_iload (M := M_X11_ask) 46 dX11_ask_46 rfl ?_
    refine z_iload_n (M := M_X11_ask) 48 dX11_ask_48 rfl ?_
    refine z_icmp_le (M := M_X11_ask) 49 dX11_ask_49 58 rfl (fun c9 => ?_) (fun c9 => ?_)
    · refine z_iincN (M := M_X11_ask) 58 dX11_ask_58 (ls' := [some (mR 0), some (mI a1), some (mI l2), some (mI l3), some (mI (l4 + 1)), some (mI x8)]) (by decide) rfl (by (unfold m_32; decide)) (by omega) (by omega) rfl ?_
      refine z_goto (M := M_X11_ask) 61 dX11_ask_61 25 rfl ?_
      exact z_mask [true, true, true, true, true, false] rfl (ih l2 l3 (l4 + 1) h1 G1 R1 (by omega) (by omega) (by omega) (by omega) (by omega) (by omega) (by omega) (by omega) ⟨i1.1.step e_, i1.2.1, akB_n E_ (by omega) i1.2.2 v_ (by omega)⟩ (by omega))
    · refine z_iload (M := M_X11_ask) 52 dX11_ask_52 rfl ?_
      refine z_istore_n (M := M_X11_ask) 54 dX11_ask_54 (ls' := [some (mR 0), some (mI a1), some (mI x8), some (mI l3), some (mI l4), some (mI x8)]) (by decide) rfl ?_
      refine z_iload (M := M_X11_ask) 55 dX11_ask_55 rfl ?_
      refine z_istore_n (M := M_X11_ask) 57 dX11_ask_57 (ls' := [some (mR 0), some (mI a1), some (mI x8), some (mI l4), some (mI l4), some (mI x8)]) (by decide) rfl ?_
      refine z_iincN (M := M_X11_ask) 58 dX11_ask_58 (ls' := [some (mR 0), some (mI a1), some (mI x8), some (mI l4), some (mI (l4 + 1)), some (mI x8)]) (by decide) rfl (by (unfold m_32; decide)) (by omega) (by omega) rfl ?_
      refine z_goto (M := M_X11_ask) 61 dX11_ask_61 25 rfl ?_
      exact z_mask [true, true, true, true, true, false] rfl (ih x8 l4 (l4 + 1) h1 G1 R1 (by omega) (by omega) (by omega) (by omega) (by omega) (by omega) (by omega) (by omega) ⟨i1.1.step e_, i1.2.1, akB_y E_ (by omega) i1.2.2 v_ (by omega)⟩ (by omega))
theorem a_X11_ask3 (h0 : m_H) (a1 : Int) (G0 : GI h0) (hR : LR 1 h0 (h0 110)) (hN : NP h0) : ∀ n, q_X11_ask3 h0 a1 n := by
  intro n
  induction n with
  | zero => unfold q_X11_ask3; intros; omega
  | succ n ih => exact s_X11_ask3_25 h0 a1 G0 hR hN n ih
set_option maxHeartbeats 4000000 in
set_option maxRecDepth 100000 in
theorem c_X11_ask3 (h0 : m_H) (a1 : Int) (G0 : GI h0) (hR : LR 1 h0 (h0 110)) (hN : NP h0) : m_CI M_X11_ask [mR 0, mI a1] h0 (P_X11_ask3 h0 a1) := by
  refine m_CI_of ⟨by decide, rfl, by simp [m_arg, m_isL, M_X11_ask], ⟨rfl, rfl⟩, rfl, rfl⟩ (ls := [some (mR 0), some (mI a1), none, none, none, none]) rfl ?_
  have ih := a_X11_ask3 h0 a1 G0 hR hN 104
  refine z_ok (fun _ _ ok => ?_)
  have oa1 : m_32 a1 := ok 1 _ rfl
  unfold m_32 at oa1
  refine z_iload_n (M := M_X11_ask) 0 dX11_ask_0 rfl ?_
  refine z_iconst (M := M_X11_ask) 1 dX11_ask_1 ?_
  refine z_iconst (M := M_X11_ask) 2 dX11_ask_2 ?_
  refine z_sI (M := M_X11_ask) 3 dX11_ask_3 t_X11_within l_X11_112 (m_rr_of rfl) (rest := []) (c_X11_within h0 a1 0 2 G0) rfl rfl (Nat.le_of_ble_eq_true rfl) ⟨rfl, rfl⟩ (fun x1 h1 qx1 => ?_)
  obtain ⟨rfl, ⟨rfl, cx1⟩ | ⟨rfl, cx1⟩⟩ := qx1
  · refine z_if_eq_F (M := M_X11_ask) 6 dX11_ask_6 16 rfl (by omega) ?_
    refine z_aload_n (M := M_X11_ask) 9 dX11_ask_9 rfl ?_
    refine z_vI (M := M_X11_ask) 10 dX11_ask_10 t_X11_canBe l_X11_208 (m_rr_of rfl) (rest := []) (c_X11_canBe2 h0 G0 hR hN) o_0 rfl rfl rfl (Nat.le_of_ble_eq_true rfl) ⟨rfl, rfl⟩ (fun x2 h2 qx2 => ?_)
    obtain ⟨G2, S2, ax2, bx2, fx2⟩ := qx2
    have R2 := (FR.rf (cs := (csB ++ [39, 40, 41])) (ss := []) (h := h0)).call S2 (by decide +kernel)
    refine z_if_ne (M := M_X11_ask) 13 dX11_ask_13 18 rfl (fun c3 => ?_) (fun c3 => ?_)
    · refine z_iconst (M := M_X11_ask) 18 dX11_ask_18 ?_
      refine z_istore_n (M := M_X11_ask) 19 dX11_ask_19 (ls' := [some (mR 0), some (mI a1), some (mI (-1)), none, none, none]) (by decide) rfl ?_
      refine z_iconst (M := M_X11_ask) 20 dX11_ask_20 ?_
      refine z_istore_n (M := M_X11_ask) 21 dX11_ask_21 (ls' := [some (mR 0), some (mI a1), some (mI (-1)), some (mI 0), none, none]) (by decide) rfl ?_
      refine z_iconst (M := M_X11_ask) 22 dX11_ask_22 ?_
      refine z_istore (M := M_X11_ask) 23 dX11_ask_23 (ls' := [some (mR 0), some (mI a1), some (mI (-1)), some (mI 0), some (mI 0), none]) (by decide) rfl ?_
      exact z_mask [true, true, true, true, true, false] rfl (ih (-1) 0 0 h2 G2 R2 (by omega) (by omega) (by omega) (by omega) (by omega) (by omega) (by omega) (by omega) ⟨⟨h2, _, fx2.2 (by omega), fun _ _ _ => rfl⟩, fx2.1.mp (by omega), Or.inl ⟨rfl, rfl⟩⟩ (by omega))
    · refine z_iconst (M := M_X11_ask) 16 dX11_ask_16 ?_
      exact z_retI (M := M_X11_ask) 17 dX11_ask_17 rfl ⟨G2, R2, by omega, by omega, Or.inl ⟨fun z => absurd (fx2.1.mpr z.2) (by omega), rfl⟩⟩
  · refine z_if_eq_T (M := M_X11_ask) 6 dX11_ask_6 16 rfl (by omega) ?_
    refine z_iconst (M := M_X11_ask) 16 dX11_ask_16 ?_
    exact z_retI (M := M_X11_ask) 17 dX11_ask_17 rfl ⟨G0, (FR.rf (cs := (csB ++ [39, 40, 41])) (ss := []) (h := h0)), by omega, by omega, Or.inl ⟨fun z => cx1 z.1, rfl⟩⟩
abbrev P_X12_ask3 (h0 : m_H) (a1 : Int) : Int → m_H → Prop := fun x h' => GI h' ∧ FR [115, 116, 117, 118, 119, 120, 121, 122, 123, 124, 125, 126, 127, 128, 129, 130, 131, 132, 133, 134, 135, 136, 138] [(108, 0), (108, 21), (108, 44), (108, 45), (108, 46), (108, 47)] h0 h' ∧ aqQ (h0 110) a1 x
def q_X12_ask3 (h0 : m_H) (a1 : Int) (n : Nat) : Prop := (∀ (l2 l3 l4 : Int) (h : m_H), GI h → FR [115, 116, 117, 118, 119, 120, 121, 122, 123, 124, 125, 126, 127, 128, 129, 130, 131, 132, 133, 134, 135, 136, 138] [(108, 0), (108, 21), (108, 44), (108, 45), (108, 46), (108, 47)] h0 h → (-1) ≤ l2 → l2 ≤ 47 → (-1) ≤ l3 → l3 ≤ 2147483647 → 0 ≤ l4 → l4 ≤ 12 → 0 ≤ a1 → a1 ≤ 2 → (gG (bR (h0 110))) → (akB (h0 110) (4 * l4) l2 l3) → 13 * (12 - l4) + (12) ≤ (n : Int) → m_Z oF M_X12_ask 33 [some (mR 108), some (mI a1), some (mI l2), some (mI l3), some (mI l4), none, none] [] h (m_QI (P_X12_ask3 h0 a1))) ∧ (∀ (l2 l3 l4 l5 : Int) (h : m_H), GI h → FR [115, 116, 117, 118, 119, 120, 121, 122, 123, 124, 125, 126, 127, 128, 129, 130, 131, 132, 133, 134, 135, 136, 138] [(108, 0), (108, 21), (108, 44), (108, 45), (108, 46), (108, 47)] h0 h → (-1) ≤ l2 → l2 ≤ 47 → (-1) ≤ l3 → l3 ≤ 2147483647 → 0 ≤ l4 → l4 ≤ 11 → 0 ≤ l5 → l5 ≤ 4 → 0 ≤ a1 → a1 ≤ 2 → (gG (bR (h0 110))) → (akB (h0 110) (4 * l4 + l5) l2 l3) → 13 * (12 - l4) + 2 * (4 - l5) + (1) ≤ (n : Int) → m_Z oF M_X12_ask 43 [some (mR 108), some (mI a1), some (mI l2), some (mI l3), some (mI l4), some (mI l5), none] [] h (m_QI (P_X12_ask3 h0 a1)))
set_option maxHeartbeats 4000000 in
set_option maxRecDepth 100000 in
theorem s_X12_ask3_33 (h0 : m_H) (a1 : Int) (G0 : GI h0) (hN : NP h0) (n : Nat) (ih : q_X12_ask3 h0 a1 n) : ∀ (l2 l3 l4 : Int) (h : m_H), GI h → FR [115, 116, 117, 118, 119, 120, 121, 122, 123, 124, 125, 126, 127, 128, 129, 130, 131, 132, 133, 134, 135, 136, 138] [(108, 0), (108, 21), (108, 44), (108, 45), (108, 46), (108, 47)] h0 h → (-1) ≤ l2 → l2 ≤ 47 → (-1) ≤ l3 → l3 ≤ 2147483647 → 0 ≤ l4 → l4 ≤ 12 → 0 ≤ a1 → a1 ≤ 2 → (gG (bR (h0 110))) → (akB (h0 110) (4 * l4) l2 l3) → 13 * (12 - l4) + (12) ≤ ((n + 1 : Nat) : Int) → m_Z oF M_X12_ask 33 [some (mR 108), some (mI a1), some (mI l2), some (mI l3), some (mI l4), none, none] [] h (m_QI (P_X12_ask3 h0 a1)) := by
  intro l2 l3 l4 h G R v0 v1 v2 v3 v4 v5 v6 v7 i0 i1 hr
  have ng_ := gG_no (bR_ok G0 hN) i0
  refine z_iload (M := M_X12_ask) 33 dX12_ask_33 rfl ?_
  refine z_bipush (M := M_X12_ask) 35 dX12_ask_35 ?_
  refine z_icmp_ge (M := M_X12_ask) 37 dX12_ask_37 116 rfl (fun c1 => ?_) (fun c1 => ?_)
  · have p_ := akB_p i1 (by omega)
    refine z_iload_n (M := M_X12_ask) 116 dX12_ask_116 rfl ?_
    refine z_if_ne (M := M_X12_ask) 117 dX12_ask_117 126 rfl (fun c2 => ?_) (fun c2 => ?_)
    · refine z_iload_n (M := M_X12_ask) 126 dX12_ask_126 rfl ?_
      refine z_iconst (M := M_X12_ask) 127 dX12_ask_127 ?_
      refine z_icmp_ne (M := M_X12_ask) 128 dX12_ask_128 137 rfl (fun c3 => ?_) (fun c3 => ?_)
      · refine z_iload_n (M := M_X12_ask) 137 dX12_ask_137 rfl ?_
        exact z_retI (M := M_X12_ask) 138 dX12_ask_138 rfl ⟨G, R, Or.inr ⟨⟨⟨by omega, by omega⟩, ng_⟩, l2, l3, by have z := i1; rw [show 4 * l4 = 48 by omega] at z; exact z, Or.inr (Or.inr ⟨by omega, rfl⟩)⟩⟩
      · refine z_iload_n (M := M_X12_ask) 131 dX12_ask_131 rfl ?_
        refine z_iconst (M := M_X12_ask) 132 dX12_ask_132 ?_
        refine z_iremN (M := M_X12_ask) 133 dX12_ask_133 (by omega) (by omega) ?_
        refine z_goto (M := M_X12_ask) 134 dX12_ask_134 138 rfl ?_
        exact z_retI (M := M_X12_ask) 138 dX12_ask_138 rfl ⟨G, R, Or.inr ⟨⟨⟨by omega, by omega⟩, ng_⟩, l2, l3, by have z := i1; rw [show 4 * l4 = 48 by omega] at z; exact z, Or.inr (Or.inl ⟨by omega, rfl⟩)⟩⟩
    · refine z_iload_n (M := M_X12_ask) 120 dX12_ask_120 rfl ?_
      refine z_iconst (M := M_X12_ask) 121 dX12_ask_121 ?_
      refine z_idivN (M := M_X12_ask) 122 dX12_ask_122 (by omega) (by omega) ?_
      refine z_goto (M := M_X12_ask) 123 dX12_ask_123 138 rfl ?_
      exact z_retI (M := M_X12_ask) 138 dX12_ask_138 rfl ⟨G, R, Or.inr ⟨⟨⟨by omega, by omega⟩, ng_⟩, l2, l3, by have z := i1; rw [show 4 * l4 = 48 by omega] at z; exact z, Or.inl ⟨by omega, rfl⟩⟩⟩
  · refine z_iconst (M := M_X12_ask) 40 dX12_ask_40 ?_
    refine z_istore (M := M_X12_ask) 41 dX12_ask_41 (ls' := [some (mR 108), some (mI a1), some (mI l2), some (mI l3), some (mI l4), some (mI 0), none]) (by decide) rfl ?_
    exact z_mask [true, true, true, true, true, true, false] rfl (ih.2 l2 l3 l4 0 h G R (by omega) (by omega) (by omega) (by omega) (by omega) (by omega) (by omega) (by omega) (by omega) (by omega) i0 (by rw [show 4 * l4 + 0 = 4 * l4 by omega]; exact i1) (by omega))
set_option maxHeartbeats 4000000 in
set_option maxRecDepth 100000 in
theorem s_X12_ask3_43 (h0 : m_H) (a1 : Int) (G0 : GI h0) (hN : NP h0) (n : Nat) (ih : q_X12_ask3 h0 a1 n) : ∀ (l2 l3 l4 l5 : Int) (h : m_H), GI h → FR [115, 116, 117, 118, 119, 120, 121, 122, 123, 124, 125, 126, 127, 128, 129, 130, 131, 132, 133, 134, 135, 136, 138] [(108, 0), (108, 21), (108, 44), (108, 45), (108, 46), (108, 47)] h0 h → (-1) ≤ l2 → l2 ≤ 47 → (-1) ≤ l3 → l3 ≤ 2147483647 → 0 ≤ l4 → l4 ≤ 11 → 0 ≤ l5 → l5 ≤ 4 → 0 ≤ a1 → a1 ≤ 2 → (gG (bR (h0 110))) → (akB (h0 110) (4 * l4 + l5) l2 l3) → 13 * (12 - l4) + 2 * (4 - l5) + (1) ≤ ((n + 1 : Nat) : Int) → m_Z oF M_X12_ask 43 [some (mR 108), some (mI a1), some (mI l2), some (mI l3), some (mI l4), some (mI l5), none] [] h (m_QI (P_X12_ask3 h0 a1)) := by
  intro l2 l3 l4 l5 h G R v0 v1 v2 v3 v4 v5 v6 v7 v8 v9 i0 i1 hr
  have r_ : h 110 = h0 110 := FR.row R (fun _ => rfl)
  have E_ := bR_ok G0 hN
  refine z_iload (M := M_X12_ask) 43 dX12_ask_43 rfl ?_
  refine z_iconst (M := M_X12_ask) 45 dX12_ask_45 ?_
  refine z_icmp_ge (M := M_X12_ask) 46 dX12_ask_46 110 rfl (fun c1 => ?_) (fun c1 => ?_)
  · refine z_iincN (M := M_X12_ask) 110 dX12_ask_110 (ls' := [some (mR 108), some (mI a1), some (mI l2), some (mI l3), some (mI (l4 + 1)), some (mI l5), none]) (by decide) rfl (by (unfold m_32; decide)) (by omega) (by omega) rfl ?_
    refine z_goto (M := M_X12_ask) 113 dX12_ask_113 33 rfl ?_
    exact z_mask [true, true, true, true, true, false, false] rfl (ih.1 l2 l3 (l4 + 1) h G R (by omega) (by omega) (by omega) (by omega) (by omega) (by omega) (by omega) (by omega) i0 (by rw [show 4 * (l4 + 1) = 4 * l4 + l5 by omega]; exact i1) (by omega))
  · refine z_aload_n (M := M_X12_ask) 49 dX12_ask_49 rfl ?_
    refine z_iload (M := M_X12_ask) 50 dX12_ask_50 rfl ?_
    refine z_vI (M := M_X12_ask) 52 dX12_ask_52 t_X12_isLength l_X12_391 (m_rr_of rfl) (rest := []) (c_X12_isLength2 h l4 G) o_108 rfl rfl rfl (Nat.le_of_ble_eq_true rfl) ⟨rfl, rfl⟩ (fun x2 h1 qx2 => ?_)
    obtain ⟨G1, S1, ax2, bx2, fx2_0, fx2_1⟩ := qx2
    rw [r_] at fx2_1
    have R1 := R.call S1 (by decide +kernel)
    refine z_if_eq (M := M_X12_ask) 55 dX12_ask_55 110 rfl (fun c3 => ?_) (fun c3 => ?_)
    · refine z_iincN (M := M_X12_ask) 110 dX12_ask_110 (ls' := [some (mR 108), some (mI a1), some (mI l2), some (mI l3), some (mI (l4 + 1)), some (mI l5), none]) (by decide) rfl (by (unfold m_32; decide)) (by omega) (by omega) rfl ?_
      refine z_goto (M := M_X12_ask) 113 dX12_ask_113 33 rfl ?_
      exact z_mask [true, true, true, true, true, false, false] rfl (ih.1 l2 l3 (l4 + 1) h1 G1 R1 (by omega) (by omega) (by omega) (by omega) (by omega) (by omega) (by omega) (by omega) i0 (akB_k E_ (by omega) (fun z => absurd (fx2_1.mpr z) (by omega)) (by omega) (by omega) (by omega) i1) (by omega))
    · refine z_aload_n (M := M_X12_ask) 58 dX12_ask_58 rfl ?_
      refine z_iload (M := M_X12_ask) 59 dX12_ask_59 rfl ?_
      refine z_iload (M := M_X12_ask) 61 dX12_ask_61 rfl ?_
      refine z_vV (M := M_X12_ask) 63 dX12_ask_63 t_X12_findEnds l_X12_428 (m_rr_of rfl) (rest := []) (c_X12_findEnds4 h1 l4 l5 G1 ⟨by omega, by omega⟩ ⟨by omega, by omega⟩ (NP.call hN R1 (fun _ => rfl) (fun _ => rfl) (fun _ => rfl)) (gG_f i0 R1 (fun _ => rfl))) o_108 rfl rfl rfl (Nat.le_of_ble_eq_true rfl) ⟨rfl, rfl⟩ (fun h2 qx4 => ?_)
      obtain ⟨G2, S2, fx4_0, fx4_1, fx4_2⟩ := qx4
      unfold lP at fx4_1
      unfold hP at fx4_2
      rw [(FR.row R1 (fun _ => rfl) : h1 110 = h0 110)] at fx4_1 fx4_2
      obtain ⟨fo, la, nm_⟩ := nmI_ex (k := 1) fx4_1.1.1.1.1 fx4_2.1.1.1.1 fx4_2.1.1.1.2 ⟨by omega, by omega⟩
      have R2 := R1.call S2 (by decide +kernel)
      refine z_aload_n (M := M_X12_ask) 66 dX12_ask_66 rfl ?_
      refine z_iconst (M := M_X12_ask) 67 dX12_ask_67 ?_
      refine z_vI (M := M_X12_ask) 68 dX12_ask_68 t_X12_numbersOf l_X12_434 (m_rr_of rfl) (rest := []) (c_X12_numbersOf4 h2 1 fo la G2 ⟨by omega, by omega⟩ ⟨fx4_1.2, fx4_2.2⟩ nm_) o_108 rfl rfl rfl (Nat.le_of_ble_eq_true rfl) ⟨rfl, rfl⟩ (fun x5 h3 qx5 => ?_)
      obtain ⟨G3, S3, bx5, fx5⟩ := qx5
      have v_ : akV (h0 110) (4 * l4 + l5) x5 := by
        unfold akV
        rw [show (4 * l4 + l5) / 4 = l4 by omega, show (4 * l4 + l5) % 4 = l5 by omega]
        exact Or.inr ⟨fx2_1.mp (by omega), _, _, fo, la, ⟨fx4_1.1, fx4_2.1, nm_⟩, fx5⟩
      have R3 := R2.call S3 (by decide +kernel)
      refine z_ok (fun ox5 _ _ => ?_)
      have ox5 := ox5.1; unfold m_ok m_32 at ox5
      refine z_istore (M := M_X12_ask) 71 dX12_ask_71 (ls' := [some (mR 108), some (mI a1), some (mI l2), some (mI l3), some (mI l4), some (mI l5), some (mI x5)]) (by decide) rfl ?_
      refine z_iload (M := M_X12_ask) 73 dX12_ask_73 rfl ?_
      refine z_iload_n (M := M_X12_ask) 75 dX12_ask_75 rfl ?_
      refine z_icmp_le (M := M_X12_ask) 76 dX12_ask_76 89 rfl (fun c6 => ?_) (fun c6 => ?_)
      · refine z_iload_n (M := M_X12_ask) 89 dX12_ask_89 rfl ?_
        refine z_istore_n (M := M_X12_ask) 90 dX12_ask_90 (ls' := [some (mR 108), some (mI a1), some (mI l2), some (mI l3), some (mI l4), some (mI l5), some (mI x5)]) (by decide) rfl ?_
        refine z_iload (M := M_X12_ask) 91 dX12_ask_91 rfl ?_
        refine z_iload_n (M := M_X12_ask) 93 dX12_ask_93 rfl ?_
        refine z_icmp_le (M := M_X12_ask) 94 dX12_ask_94 102 rfl (fun c7 => ?_) (fun c7 => ?_)
        · refine z_iload_n (M := M_X12_ask) 102 dX12_ask_102 rfl ?_
          refine z_istore_n (M := M_X12_ask) 103 dX12_ask_103 (ls' := [some (mR 108), some (mI a1), some (mI l2), some (mI l3), some (mI l4), some (mI l5), some (mI x5)]) (by decide) rfl ?_
          refine z_iincN (M := M_X12_ask) 104 dX12_ask_104 (ls' := [some (mR 108), some (mI a1), some (mI l2), some (mI l3), some (mI l4), some (mI (l5 + 1)), some (mI x5)]) (by decide) rfl (by (unfold m_32; decide)) (by omega) (by omega) rfl ?_
          refine z_goto (M := M_X12_ask) 107 dX12_ask_107 43 rfl ?_
          exact z_mask [true, true, true, true, true, true, false] rfl (ih.2 l2 l3 l4 (l5 + 1) h3 G3 R3 (by omega) (by omega) (by omega) (by omega) (by omega) (by omega) (by omega) (by omega) (by omega) (by omega) i0 (by rw [show 4 * l4 + (l5 + 1) = 4 * l4 + l5 + 1 by omega]; exact akB_n E_ (by omega) i1 v_ (by omega)) (by omega))
        · refine z_iload (M := M_X12_ask) 97 dX12_ask_97 rfl ?_
          refine z_goto (M := M_X12_ask) 99 dX12_ask_99 103 rfl ?_
          refine z_istore_n (M := M_X12_ask) 103 dX12_ask_103 (ls' := [some (mR 108), some (mI a1), some (mI l2), some (mI x5), some (mI l4), some (mI l5), some (mI x5)]) (by decide) rfl ?_
          refine z_iincN (M := M_X12_ask) 104 dX12_ask_104 (ls' := [some (mR 108), some (mI a1), some (mI l2), some (mI x5), some (mI l4), some (mI (l5 + 1)), some (mI x5)]) (by decide) rfl (by (unfold m_32; decide)) (by omega) (by omega) rfl ?_
          refine z_goto (M := M_X12_ask) 107 dX12_ask_107 43 rfl ?_
          exact z_mask [true, true, true, true, true, true, false] rfl (ih.2 l2 x5 l4 (l5 + 1) h3 G3 R3 (by omega) (by omega) (by omega) (by omega) (by omega) (by omega) (by omega) (by omega) (by omega) (by omega) i0 (False.elim (by omega)) (by omega))
      · refine z_iconst (M := M_X12_ask) 79 dX12_ask_79 ?_
        refine z_iload (M := M_X12_ask) 80 dX12_ask_80 rfl ?_
        refine z_imulN (M := M_X12_ask) 82 dX12_ask_82 (by omega) (by omega) ?_
        refine z_iload (M := M_X12_ask) 83 dX12_ask_83 rfl ?_
        refine z_iaddN (M := M_X12_ask) 85 dX12_ask_85 (by omega) (by omega) ?_
        refine z_goto (M := M_X12_ask) 86 dX12_ask_86 90 rfl ?_
        refine z_istore_n (M := M_X12_ask) 90 dX12_ask_90 (ls' := [some (mR 108), some (mI a1), some (mI ((4 * l4) + l5)), some (mI l3), some (mI l4), some (mI l5), some (mI x5)]) (by decide) rfl ?_
        refine z_iload (M := M_X12_ask) 91 dX12_ask_91 rfl ?_
        refine z_iload_n (M := M_X12_ask) 93 dX12_ask_93 rfl ?_
        refine z_icmp_le (M := M_X12_ask) 94 dX12_ask_94 102 rfl (fun c8 => ?_) (fun c8 => ?_)
        · refine z_iload_n (M := M_X12_ask) 102 dX12_ask_102 rfl ?_
          refine z_istore_n (M := M_X12_ask) 103 dX12_ask_103 (ls' := [some (mR 108), some (mI a1), some (mI ((4 * l4) + l5)), some (mI l3), some (mI l4), some (mI l5), some (mI x5)]) (by decide) rfl ?_
          refine z_iincN (M := M_X12_ask) 104 dX12_ask_104 (ls' := [some (mR 108), some (mI a1), some (mI ((4 * l4) + l5)), some (mI l3), some (mI l4), some (mI (l5 + 1)), some (mI x5)]) (by decide) rfl (by (unfold m_32; decide)) (by omega) (by omega) rfl ?_
          refine z_goto (M := M_X12_ask) 107 dX12_ask_107 43 rfl ?_
          exact z_mask [true, true, true, true, true, true, false] rfl (ih.2 ((4 * l4) + l5) l3 l4 (l5 + 1) h3 G3 R3 (by omega) (by omega) (by omega) (by omega) (by omega) (by omega) (by omega) (by omega) (by omega) (by omega) i0 (False.elim (by omega)) (by omega))
        · refine z_iload (M := M_X12_ask) 97 dX12_ask_97 rfl ?_
          refine z_goto (M := M_X12_ask) 99 dX12_ask_99 103 rfl ?_
          refine z_istore_n (M := M_X12_ask) 103 dX12_ask_103 (ls' := [some (mR 108), some (mI a1), some (mI ((4 * l4) + l5)), some (mI x5), some (mI l4), some (mI l5), some (mI x5)]) (by decide) rfl ?_
          refine z_iincN (M := M_X12_ask) 104 dX12_ask_104 (ls' := [some (mR 108), some (mI a1), some (mI ((4 * l4) + l5)), some (mI x5), some (mI l4), some (mI (l5 + 1)), some (mI x5)]) (by decide) rfl (by (unfold m_32; decide)) (by omega) (by omega) rfl ?_
          refine z_goto (M := M_X12_ask) 107 dX12_ask_107 43 rfl ?_
          exact z_mask [true, true, true, true, true, true, false] rfl (ih.2 ((4 * l4) + l5) x5 l4 (l5 + 1) h3 G3 R3 (by omega) (by omega) (by omega) (by omega) (by omega) (by omega) (by omega) (by omega) (by omega) (by omega) i0 (by rw [show 4 * l4 + (l5 + 1) = 4 * l4 + l5 + 1 by omega]; exact akB_y E_ (by omega) i1 v_ (by omega)) (by omega))
theorem a_X12_ask3 (h0 : m_H) (a1 : Int) (G0 : GI h0) (hN : NP h0) : ∀ n, q_X12_ask3 h0 a1 n := by
  intro n
  induction n with
  | zero => unfold q_X12_ask3; refine ⟨?_, ?_⟩ <;> (intros; omega)
  | succ n ih => exact ⟨s_X12_ask3_33 h0 a1 G0 hN n ih, s_X12_ask3_43 h0 a1 G0 hN n ih⟩
set_option maxHeartbeats 4000000 in
set_option maxRecDepth 100000 in
theorem c_X12_ask3 (h0 : m_H) (a1 : Int) (G0 : GI h0) (hN : NP h0) : m_CI M_X12_ask [mR 108, mI a1] h0 (P_X12_ask3 h0 a1) := by
  refine m_CI_of ⟨by decide, rfl, by simp [m_arg, m_isL, M_X12_ask], ⟨rfl, rfl⟩, rfl, rfl⟩ (ls := [some (mR 108), some (mI a1), none, none, none, none, none]) rfl ?_
  have ih := a_X12_ask3 h0 a1 G0 hN 175
  refine z_ok (fun _ _ ok => ?_)
  have oa1 : m_32 a1 := ok 1 _ rfl
  unfold m_32 at oa1
  refine z_aload_n (M := M_X12_ask) 0 dX12_ask_0 rfl ?_
  refine z_iconst (M := M_X12_ask) 1 dX12_ask_1 ?_
  refine z_putIH (M := M_X12_ask) 2 dX12_ask_2 p_X12_133 o_108 rfl (u_108_0 G0) ((FR.rf (cs := [115, 116, 117, 118, 119, 120, 121, 122, 123, 124, 125, 126, 127, 128, 129, 130, 131, 132, 133, 134, 135, 136, 138]) (ss := [(108, 0), (108, 21), (108, 44), (108, 45), (108, 46), (108, 47)]) (h := h0)).up rfl) (fun h1 E1 G1 R1 => ?_)
  refine z_iload_n (M := M_X12_ask) 5 dX12_ask_5 rfl ?_
  refine z_i2l (M := M_X12_ask) 6 dX12_ask_6 ?_
  refine z_lconst (M := M_X12_ask) 7 dX12_ask_7 (v := 0) ?_
  refine z_ldc2 (M := M_X12_ask) 8 dX12_ask_8 k_X12_182 ?_
  refine z_sI (M := M_X12_ask) 11 dX12_ask_11 t_X12_in l_X12_143 (m_rr_of rfl) (rest := []) (c_X12_in h1 a1 0 2 G1) rfl rfl (Nat.le_of_ble_eq_true rfl) ⟨rfl, rfl⟩ (fun x1 h2 qx1 => ?_)
  obtain ⟨rfl, ⟨rfl, cx1⟩ | ⟨rfl, cx1⟩⟩ := qx1
  · refine z_if_eq_F (M := M_X12_ask) 14 dX12_ask_14 24 rfl (by omega) ?_
    refine z_aload_n (M := M_X12_ask) 17 dX12_ask_17 rfl ?_
    refine z_vI (M := M_X12_ask) 18 dX12_ask_18 t_X12_canBeNow l_X12_377 (m_rr_of rfl) (rest := []) (c_X12_canBeNow2 h1 G1 (NP.call hN R1 (fun _ => rfl) (fun _ => rfl) (fun _ => rfl))) o_108 rfl rfl rfl (Nat.le_of_ble_eq_true rfl) ⟨rfl, rfl⟩ (fun x2 h3 qx2 => ?_)
    obtain ⟨G3, S3, ax2, bx2, fx2_0, fx2_1⟩ := qx2
    rw [(FR.row R1 (fun _ => rfl) : h1 110 = h0 110)] at fx2_1
    have R3 := R1.call S3 (by decide +kernel)
    refine z_if_ne (M := M_X12_ask) 21 dX12_ask_21 26 rfl (fun c3 => ?_) (fun c3 => ?_)
    · have an := fx2_0 (by omega)
      refine z_iconst (M := M_X12_ask) 26 dX12_ask_26 ?_
      refine z_istore_n (M := M_X12_ask) 27 dX12_ask_27 (ls' := [some (mR 108), some (mI a1), some (mI (-1)), none, none, none, none]) (by decide) rfl ?_
      refine z_iconst (M := M_X12_ask) 28 dX12_ask_28 ?_
      refine z_istore_n (M := M_X12_ask) 29 dX12_ask_29 (ls' := [some (mR 108), some (mI a1), some (mI (-1)), some (mI (-1)), none, none, none]) (by decide) rfl ?_
      refine z_iconst (M := M_X12_ask) 30 dX12_ask_30 ?_
      refine z_istore (M := M_X12_ask) 31 dX12_ask_31 (ls' := [some (mR 108), some (mI a1), some (mI (-1)), some (mI (-1)), some (mI 0), none, none]) (by decide) rfl ?_
      exact z_mask [true, true, true, true, true, false, false] rfl (ih.1 (-1) (-1) 0 h3 G3 R3 (by omega) (by omega) (by omega) (by omega) (by omega) (by omega) (by omega) (by omega) (gG_b an R1 (fun _ => rfl)) (Or.inl ⟨rfl, rfl⟩) (by omega))
    · refine z_iconst (M := M_X12_ask) 24 dX12_ask_24 ?_
      exact z_retI (M := M_X12_ask) 25 dX12_ask_25 rfl ⟨G3, R3, Or.inl ⟨fun z => absurd (fx2_1 (by omega)) z.2, rfl⟩⟩
  · refine z_if_eq_T (M := M_X12_ask) 14 dX12_ask_14 24 rfl (by omega) ?_
    refine z_iconst (M := M_X12_ask) 24 dX12_ask_24 ?_
    exact z_retI (M := M_X12_ask) 25 dX12_ask_25 rfl ⟨G1, R1, Or.inl ⟨fun z => cx1 z.1, rfl⟩⟩
/-! Integer.bitCount of 32 bits -/
theorem land_split {i a b c d : Nat} (hb : b < 2 ^ i) (hd : d < 2 ^ i) : (2 ^ i * a + b) &&& (2 ^ i * c + d) = 2 ^ i * (a &&& c) + (b &&& d) := by
  apply Nat.eq_of_testBit_eq
  intro j
  have hbd : b &&& d < 2 ^ i := Nat.lt_of_le_of_lt Nat.and_le_left hb
  rw [Nat.testBit_and, Nat.testBit_two_pow_mul_add a hb j, Nat.testBit_two_pow_mul_add c hd j, Nat.testBit_two_pow_mul_add (a &&& c) hbd j]
  by_cases g : j < i
  · rw [if_pos g, if_pos g, if_pos g, Nat.testBit_and]
  · rw [if_neg g, if_neg g, if_neg g, Nat.testBit_and]
def A16 (x : Nat) : Nat := x - ((x >>> 1) &&& 21845)
def B16 (a : Nat) : Nat := (a &&& 13107) + ((a >>> 2) &&& 13107)
def C16 (b : Nat) : Nat := (b + (b >>> 4)) &&& 3855
def ck16 (h l : Nat) : Bool :=
  let x := 256 * h + l
  let a := A16 x
  let b := B16 a
  Nat.ble ((x >>> 1) &&& 21845) x && (Nat.ble a 65535 && (Nat.ble b 17476 && (Nat.ble (b % 16) 4 && Nat.beq (C16 b) (256 * T8 h + T8 l))))
theorem ck_all : bAll 256 (fun h => bAll 256 (fun l => ck16 h l)) = true := by decide +kernel
theorem ck_of {x : Nat} (hx : x < 65536) : (x >>> 1) &&& 21845 ≤ x ∧ A16 x ≤ 65535 ∧ B16 (A16 x) ≤ 17476 ∧ B16 (A16 x) % 16 ≤ 4 ∧ C16 (B16 (A16 x)) = 256 * T8 (x / 256) + T8 (x % 256) := by
  have z := bAll_s (bAll_s ck_all (x / 256) (by omega)) (x % 256) (by omega)
  unfold ck16 at z
  simp only [show 256 * (x / 256) + x % 256 = x by omega, Bool.and_eq_true] at z
  exact ⟨Nat.le_of_ble_eq_true z.1, Nat.le_of_ble_eq_true z.2.1, Nat.le_of_ble_eq_true z.2.2.1, Nat.le_of_ble_eq_true z.2.2.2.1, Nat.eq_of_beq_eq_true z.2.2.2.2⟩
theorem T8_le {l : Nat} : T8 l ≤ 8 := by unfold T8; omega
theorem swA {H L : Nat} (hL : L < 65536) : ((65536 * H + L) >>> 1) &&& 1431655765 = 65536 * ((H >>> 1) &&& 21845) + ((L >>> 1) &&& 21845) := by
  simp only [Nat.shiftRight_eq_div_pow]
  have e1 : (65536 * H + L) / 2 ^ 1 = 2 ^ 16 * (H / 2 ^ 1) + (2 ^ 15 * (H % 2) + L / 2 ^ 1) := by omega
  have e2 : (1431655765 : Nat) = 2 ^ 16 * 21845 + 21845 := by decide
  rw [e1, e2, land_split (by omega) (by decide)]
  have e3 : (21845 : Nat) = 2 ^ 15 * 0 + 21845 := by decide
  have k : (2 ^ 15 * (H % 2) + L / 2 ^ 1) &&& 21845 = (L / 2 ^ 1) &&& 21845 := by
    conv => lhs; rw [e3]
    rw [land_split (by omega) (by decide), Nat.and_zero]; omega
  rw [k]
theorem sB {a b : Nat} (hb : b < 65536) : (65536 * a + b) &&& 858993459 = 65536 * (a &&& 13107) + (b &&& 13107) := by
  have e2 : (858993459 : Nat) = 2 ^ 16 * 13107 + 13107 := by decide
  rw [e2]
  exact land_split (i := 16) hb (by decide)
theorem sB2 {a b : Nat} (hb : b < 65536) : ((65536 * a + b) >>> 2) &&& 858993459 = 65536 * ((a >>> 2) &&& 13107) + ((b >>> 2) &&& 13107) := by
  simp only [Nat.shiftRight_eq_div_pow]
  have e1 : (65536 * a + b) / 2 ^ 2 = 65536 * (a / 2 ^ 2) + (2 ^ 14 * (a % 4) + b / 2 ^ 2) := by omega
  rw [e1, sB (by omega)]
  have e3 : (13107 : Nat) = 2 ^ 14 * 0 + 13107 := by decide
  have k : (2 ^ 14 * (a % 4) + b / 2 ^ 2) &&& 13107 = (b / 2 ^ 2) &&& 13107 := by
    conv => lhs; rw [e3]
    rw [land_split (by omega) (by decide), Nat.and_zero]; omega
  rw [k]
theorem sC {p q : Nat} (hp : p % 16 ≤ 4) (hq : q ≤ 17476) : ((65536 * p + q) + ((65536 * p + q) >>> 4)) &&& 252645135 = 65536 * C16 p + C16 q := by
  unfold C16
  simp only [Nat.shiftRight_eq_div_pow]
  have e1 : (65536 * p + q) + (65536 * p + q) / 2 ^ 4 = 2 ^ 16 * (p + p / 2 ^ 4) + (2 ^ 12 * (p % 16) + (q + q / 2 ^ 4)) := by omega
  have e2 : (252645135 : Nat) = 2 ^ 16 * 3855 + 3855 := by decide
  rw [e1, e2, land_split (by omega) (by decide)]
  have e3 : (3855 : Nat) = 2 ^ 12 * 0 + 3855 := by decide
  have e4 : 2 ^ 12 * (p % 16) + (q + q / 2 ^ 4) = 2 ^ 12 * (p % 16 + (q + q / 2 ^ 4) / 2 ^ 12) + (q + q / 2 ^ 4) % 2 ^ 12 := by omega
  have e5 : q + q / 2 ^ 4 = 2 ^ 12 * ((q + q / 2 ^ 4) / 2 ^ 12) + (q + q / 2 ^ 4) % 2 ^ 12 := by omega
  have m : (q + q / 2 ^ 4) % 2 ^ 12 < 2 ^ 12 := Nat.mod_lt _ (by decide)
  have k : (2 ^ 12 * (p % 16) + (q + q / 2 ^ 4)) &&& 3855 = (q + q / 2 ^ 4) &&& 3855 := by
    rw [e4]
    conv => rhs; rw [e5]
    generalize (q + q / 2 ^ 4) % 2 ^ 12 = v at m
    generalize (q + q / 2 ^ 4) / 2 ^ 12 = u
    conv => lhs; rw [e3]
    conv => rhs; rw [e3]
    rw [land_split m (by decide), land_split m (by decide), Nat.and_zero, Nat.and_zero]
  rw [k]
theorem bc32 {n : Nat} (hn : n < 4294967296) : bcN n = T8 (n / 16777216) + T8 (n / 65536 % 256) + T8 (n / 256 % 256) + T8 (n % 256) := by
  have e : n = 65536 * (n / 65536) + n % 65536 := by omega
  obtain ⟨h1, h2, h3, h4, h5⟩ := ck_of (x := n / 65536) (by omega)
  obtain ⟨l1, l2, l3, l4, l5⟩ := ck_of (x := n % 65536) (by omega)
  have a1 : n - ((n >>> 1) &&& 1431655765) = 65536 * A16 (n / 65536) + A16 (n % 65536) := by
    have s := swA (H := n / 65536) (L := n % 65536) (by omega)
    rw [← e] at s
    rw [s]
    unfold A16
    omega
  have b1 : ((n - ((n >>> 1) &&& 1431655765)) &&& 858993459) + (((n - ((n >>> 1) &&& 1431655765)) >>> 2) &&& 858993459) = 65536 * B16 (A16 (n / 65536)) + B16 (A16 (n % 65536)) := by
    rw [a1, sB (by omega), sB2 (by omega)]
    unfold B16
    omega
  have c1 := sC h4 l3
  rw [← b1] at c1
  unfold bcN
  simp only [c1, h5, l5]
  rw [show n / 65536 / 256 = n / 16777216 by omega, show n % 65536 / 256 = n / 256 % 256 by omega, show n % 65536 % 256 = n % 256 by omega]
  clear c1 b1 a1 h1 h2 h3 h4 h5 l1 l2 l3 l4 l5
  have t3 := T8_le (l := n / 16777216)
  have t2 := T8_le (l := n / 65536 % 256)
  have t1 := T8_le (l := n / 256 % 256)
  have t0 := T8_le (l := n % 256)
  generalize T8 (n / 16777216) = u3 at t3 ⊢
  generalize T8 (n / 65536 % 256) = u2 at t2 ⊢
  generalize T8 (n / 256 % 256) = u1 at t1 ⊢
  generalize T8 (n % 256) = u0 at t0 ⊢
  rw [show (63 : Nat) = 2 ^ 6 - 1 by decide, Nat.and_two_pow_sub_one_eq_mod]
  simp only [Nat.shiftRight_eq_div_pow]
  have d1 : (65536 * (256 * u3 + u2) + (256 * u1 + u0)) / 2 ^ 8 = 65536 * u3 + 256 * u2 + u1 := by omega
  rw [d1]
  have d2 : (65536 * (256 * u3 + u2) + (256 * u1 + u0) + (65536 * u3 + 256 * u2 + u1)) / 2 ^ 16 = 256 * u3 + u2 + u3 := by omega
  rw [d2]
  omega
/-- the bits as a number from nought -/
def bU (c : Int) : Nat := (Int32.ofInt c).toBitVec.toNat
theorem bU_lt (c : Int) : bU c < 4294967296 := (Int32.ofInt c).toBitVec.isLt
theorem bU_e (c : Int) : ((bU c : Nat) : Int) = c % 4294967296 := by
  unfold bU
  show (((BitVec.ofInt 32 c).toNat : Nat) : Int) = _
  rw [BitVec.toNat_ofInt]
  have := Int.emod_nonneg c (show (4294967296 : Int) ≠ 0 by decide)
  omega
theorem bt_U {c : Int} {p : Nat} : bt c p = decide (bU c / 2 ^ p % 2 = 1) := by
  unfold bt bU
  show (Int32.ofInt c).toBitVec.toNat.testBit p = _
  rw [Nat.testBit_eq_decide_div_mod_eq]
theorem m_and_u {c : Int} {b : Nat} (hb : b < 2147483648) : m_and c (b : Int) = ((bU c &&& b : Nat) : Int) := by
  unfold m_and bU
  show ((Int32.ofInt c &&& Int32.ofInt (b : Int)).toBitVec).toInt = _
  rw [Int32.toBitVec_and, nb]
  refine nbi ?_ (Nat.lt_of_le_of_lt Nat.and_le_right hb)
  rw [BitVec.toNat_and, BitVec.toNat_ofNat, Nat.mod_eq_of_lt (show b < 2 ^ 32 by omega)]
theorem m_ushr_u {c : Int} {k : Nat} (hk : k < 32) (h1 : 1 ≤ k) : m_ushr c (k : Int) = ((bU c >>> k : Nat) : Int) := by
  unfold m_ushr
  show (((Int32.ofInt c).toUInt32 >>> ((Int32.ofInt (k : Int)).toUInt32 &&& Int32.toUInt32 31)).toBitVec).toInt = _
  have hs : bU c >>> k < 2147483648 := by
    rw [Nat.shiftRight_eq_div_pow]
    have u := bU_lt c
    have p : 2 ^ 1 ≤ 2 ^ k := Nat.pow_le_pow_right (by decide) h1
    exact Nat.lt_of_le_of_lt (Nat.div_le_div_left p (by decide)) (by omega)
  refine nbi ?_ hs
  rw [UInt32.toBitVec_shiftRight, us_am ⟨k, hk⟩]
  show ((Int32.ofInt c).toBitVec >>> (BitVec.ofNat 32 k % 32#32)).toNat = _
  rw [us_mod ⟨k, hk⟩, BitVec.ushiftRight_eq', BitVec.toNat_ushiftRight, BitVec.toNat_ofNat, Nat.mod_eq_of_lt (show k < 2 ^ 32 by omega)]
  rfl
theorem bc_run32 {c : Int} {x1 x2 x3 x4 x5 x6 x7 x8 x9 x10 x11 x12 x13 x14 x15 : Int} (e1 : m_ushr c 1 = x1) (e2 : m_and x1 1431655765 = x2) (e3 : m_w (c - x2) = x3) (e4 : m_and x3 858993459 = x4) (e5 : m_ushr x3 2 = x5) (e6 : m_and x5 858993459 = x6) (e7 : m_w (x4 + x6) = x7) (e8 : m_ushr x7 4 = x8) (e9 : m_w (x7 + x8) = x9) (e10 : m_and x9 252645135 = x10) (e11 : m_ushr x10 8 = x11) (e12 : m_w (x10 + x11) = x12) (e13 : m_ushr x12 16 = x13) (e14 : m_w (x12 + x13) = x14) (e15 : m_and x14 63 = x15) : x15 = (bcN (bU c) : Int) := by
  have hn := bU_lt c
  have he := bU_e c
  generalize hN : bU c = n at hn he
  have f1 : x1 = ((n >>> 1 : Nat) : Int) := by rw [← e1, ← hN]; exact m_ushr_u (k := 1) (by decide) (by decide)
  have b1 : n >>> 1 < 2147483648 := by rw [Nat.shiftRight_eq_div_pow]; omega
  have f2 : x2 = (((n >>> 1) &&& 1431655765 : Nat) : Int) := by rw [← e2, f1]; exact m_and_n (b := 1431655765) b1 (by decide)
  have b2 : (n >>> 1) &&& 1431655765 ≤ n >>> 1 := Nat.and_le_left
  have b3 : n >>> 1 ≤ n := by rw [Nat.shiftRight_eq_div_pow]; exact Nat.div_le_self _ _
  generalize hA : n - ((n >>> 1) &&& 1431655765) = A
  have f3 : bU x3 = A := by
    have z := bU_e x3
    have w : x3 % 4294967296 = (c - x2) % 4294967296 := by rw [← e3]; exact Int.bmod_emod
    rw [w, f2] at z
    omega
  have f4 : x4 = ((A &&& 858993459 : Nat) : Int) := by rw [← e4, ← f3]; exact m_and_u (b := 858993459) (by decide)
  have f5 : x5 = ((A >>> 2 : Nat) : Int) := by rw [← e5, ← f3]; exact m_ushr_u (k := 2) (by decide) (by decide)
  have b5 : A >>> 2 < 2147483648 := by rw [Nat.shiftRight_eq_div_pow]; omega
  have f6 : x6 = (((A >>> 2) &&& 858993459 : Nat) : Int) := by rw [← e6, f5]; exact m_and_n (b := 858993459) b5 (by decide)
  have b4 : A &&& 858993459 ≤ 858993459 := Nat.and_le_right
  have b6 : (A >>> 2) &&& 858993459 ≤ 858993459 := Nat.and_le_right
  generalize hB : (A &&& 858993459) + ((A >>> 2) &&& 858993459) = B
  have f7 : x7 = (B : Int) := by rw [← e7, m_w_id (by omega) (by omega)]; omega
  have f8 : x8 = ((B >>> 4 : Nat) : Int) := by rw [← e8, f7]; exact m_ushr_n (k := 4) (by omega) (by decide)
  have b8 : B >>> 4 ≤ 107374182 := by rw [Nat.shiftRight_eq_div_pow]; omega
  have f9 : x9 = ((B + (B >>> 4) : Nat) : Int) := by rw [← e9, m_w_id (by omega) (by omega)]; omega
  have b10 : (B + (B >>> 4)) &&& 252645135 ≤ 252645135 := Nat.and_le_right
  generalize hC : (B + (B >>> 4)) &&& 252645135 = C at b10
  have f10 : x10 = (C : Int) := by rw [← e10, f9, ← hC]; exact m_and_n (b := 252645135) (by omega) (by decide)
  have f11 : x11 = ((C >>> 8 : Nat) : Int) := by rw [← e11, f10]; exact m_ushr_n (k := 8) (by omega) (by decide)
  have b11 : C >>> 8 ≤ C := by rw [Nat.shiftRight_eq_div_pow]; exact Nat.div_le_self _ _
  generalize hD : C + (C >>> 8) = D
  have f12 : x12 = (D : Int) := by rw [← e12, m_w_id (by omega) (by omega)]; omega
  have f13 : x13 = ((D >>> 16 : Nat) : Int) := by rw [← e13, f12]; exact m_ushr_n (k := 16) (by omega) (by decide)
  have b13 : D >>> 16 ≤ D := by rw [Nat.shiftRight_eq_div_pow]; exact Nat.div_le_self _ _
  have f14 : x14 = ((D + (D >>> 16) : Nat) : Int) := by rw [← e14, m_w_id (by omega) (by omega)]; omega
  have f15 : x15 = (((D + (D >>> 16)) &&& 63 : Nat) : Int) := by rw [← e15, f14]; exact m_and_n (b := 63) (by omega) (by decide)
  rw [f15]
  unfold bcN
  simp only [hA, hB, hC, hD]
/-- how many of the first bits are set -/
def nB (c : Int) : Nat → Nat
  | 0 => 0
  | k + 1 => nB c k + (if bt c k = true then 1 else 0)
theorem nB_s {c : Int} {k : Nat} : nB c (k + 1) = nB c k + bU c / 2 ^ k % 2 := by
  show nB c k + (if bt c k = true then 1 else 0) = _
  rw [bt_U]
  have m := Nat.mod_two_eq_zero_or_one (bU c / 2 ^ k)
  rcases m with z | z
  · rw [z]; rfl
  · rw [z]; rfl
theorem nB_32 (c : Int) : nB c 32 = bcN (bU c) := by
  have u := bU_lt c
  rw [bc32 u]
  have e0 : nB c 8 = T8 (bU c % 256) := by
    simp only [nB_s]
    show 0 + _ + _ + _ + _ + _ + _ + _ + _ = _
    unfold T8
    omega
  have e1 : nB c 16 = nB c 8 + T8 (bU c / 256 % 256) := by
    rw [nB_s, nB_s, nB_s, nB_s, nB_s, nB_s, nB_s, nB_s]
    unfold T8
    omega
  have e2 : nB c 24 = nB c 16 + T8 (bU c / 65536 % 256) := by
    rw [nB_s, nB_s, nB_s, nB_s, nB_s, nB_s, nB_s, nB_s]
    unfold T8
    omega
  have e3 : nB c 32 = nB c 24 + T8 (bU c / 16777216) := by
    rw [nB_s, nB_s, nB_s, nB_s, nB_s, nB_s, nB_s, nB_s]
    unfold T8
    omega
  omega
/-! weeks (or ways) that are so: how many, the first, the last -/
noncomputable def vwN (P : Nat → Prop) : Nat → Int
  | 0 => 0
  | n + 1 => vwN P n + cif (P n) 1 0
noncomputable def vwL (P : Nat → Prop) : Nat → Int
  | 0 => -1
  | n + 1 => cif (vwL P n = -1 ∧ P n) (n : Int) (vwL P n)
noncomputable def vwH (P : Nat → Prop) : Nat → Int
  | 0 => -1
  | n + 1 => cif (P n) (n : Int) (vwH P n)
noncomputable def vwF (P : Nat → Prop) (w : Int) : Int := if w = 0 then vwN P 32 else if w = 1 then vwL P 32 else vwH P 32
theorem vwN_y {P : Nat → Prop} {n : Nat} (c : P n) : vwN P (n + 1) = vwN P n + 1 := by
  show vwN P n + cif (P n) 1 0 = _
  rw [cif_pos c]
theorem vwN_n {P : Nat → Prop} {n : Nat} (c : ¬ P n) : vwN P (n + 1) = vwN P n := by
  show vwN P n + cif (P n) 1 0 = _
  rw [cif_neg c, Int.add_zero]
theorem vwL_y {P : Nat → Prop} {n : Nat} (c : P n) (e : vwL P n = -1) : vwL P (n + 1) = (n : Int) := cif_pos ⟨e, c⟩
theorem vwL_k {P : Nat → Prop} {n : Nat} (e : vwL P n ≠ -1) : vwL P (n + 1) = vwL P n := cif_neg (fun z => e z.1)
theorem vwL_n {P : Nat → Prop} {n : Nat} (c : ¬ P n) : vwL P (n + 1) = vwL P n := cif_neg (fun z => c z.2)
theorem vwH_y {P : Nat → Prop} {n : Nat} (c : P n) : vwH P (n + 1) = (n : Int) := cif_pos c
theorem vwH_n {P : Nat → Prop} {n : Nat} (c : ¬ P n) : vwH P (n + 1) = vwH P n := cif_neg c
theorem vwN_b {P : Nat → Prop} : ∀ n : Nat, 0 ≤ vwN P n ∧ vwN P n ≤ (n : Int)
  | 0 => ⟨Int.le_refl _, Int.le_refl _⟩
  | n + 1 => by
    have i := vwN_b (P := P) n
    by_cases c : P n
    · rw [vwN_y c]; omega
    · rw [vwN_n c]; omega
theorem vw_cg {P Q : Nat → Prop} : ∀ m : Nat, (∀ n, n < m → (P n ↔ Q n)) → vwN P m = vwN Q m ∧ vwL P m = vwL Q m ∧ vwH P m = vwH Q m
  | 0, _ => ⟨rfl, rfl, rfl⟩
  | m + 1, h => by
    obtain ⟨i1, i2, i3⟩ := vw_cg m (fun n hn => h n (by omega))
    have e := h m (by omega)
    by_cases c : P m
    · have c' := e.mp c
      refine ⟨by rw [vwN_y c, vwN_y c', i1], ?_, by rw [vwH_y c, vwH_y c']⟩
      by_cases z : vwL P m = -1
      · rw [vwL_y c z, vwL_y c' (i2.symm.trans z)]
      · rw [vwL_k z, vwL_k (fun y => z (i2.trans y)), i2]
    · have c' : ¬ Q m := fun z => c (e.mpr z)
      exact ⟨by rw [vwN_n c, vwN_n c', i1], by rw [vwL_n c, vwL_n c', i2], by rw [vwH_n c, vwH_n c', i3]⟩
theorem vwL_f {P : Nat → Prop} {n : Nat} (c : P n) (e : vwL P n = -1) : ∀ m : Nat, vwL P (n + 1 + m) = (n : Int)
  | 0 => vwL_y c e
  | m + 1 => by
    have i := vwL_f c e m
    have k : vwL P (n + 1 + m + 1) = vwL P (n + 1 + m) := vwL_k (by rw [i]; omega)
    exact k.trans i
theorem vwLH {P : Nat → Prop} : ∀ n : Nat, vwL P n = -1 ↔ vwH P n = -1
  | 0 => Iff.rfl
  | n + 1 => by
    have i := vwLH (P := P) n
    by_cases c : P n
    · rw [vwH_y c]
      by_cases z : vwL P n = -1
      · rw [vwL_y c z]
      · rw [vwL_k z]; exact ⟨fun y => absurd y z, fun y => by omega⟩
    · rw [vwL_n c, vwH_n c]; exact i
/-- the three together -/
def vw3 (P : Nat → Prop) (l a b c : Int) : Prop := a = vwN P l.toNat ∧ b = vwL P l.toNat ∧ c = vwH P l.toNat
theorem vw3_n {P : Nat → Prop} {l a b c : Int} (h0 : 0 ≤ l) (I : vw3 P l a b c) (n : ¬ P l.toNat) : vw3 P (l + 1) a b c := by
  obtain ⟨i1, i2, i3⟩ := I
  unfold vw3
  rw [show (l + 1).toNat = l.toNat + 1 by omega, vwN_n n, vwL_n n, vwH_n n]
  exact ⟨i1, i2, i3⟩
theorem vw3_l {P : Nat → Prop} {l a b c : Int} (h0 : 0 ≤ l) (I : vw3 P l a b c) (y : P l.toNat) (e : b = -1) : vw3 P (l + 1) (a + 1) l l := by
  obtain ⟨i1, i2, i3⟩ := I
  unfold vw3
  rw [show (l + 1).toNat = l.toNat + 1 by omega, vwN_y y, vwL_y y (i2.symm.trans e), vwH_y y]
  exact ⟨by omega, by omega, by omega⟩
theorem vw3_k {P : Nat → Prop} {l a b c : Int} (h0 : 0 ≤ l) (I : vw3 P l a b c) (y : P l.toNat) (e : b ≠ -1) : vw3 P (l + 1) (a + 1) b l := by
  obtain ⟨i1, i2, i3⟩ := I
  unfold vw3
  rw [show (l + 1).toNat = l.toNat + 1 by omega, vwN_y y, vwL_k (fun z => e (i2.trans z)), vwH_y y]
  exact ⟨by omega, i2, by omega⟩
theorem vw3_b {P : Nat → Prop} {l a b c : Int} (h0 : 0 ≤ l) (I : vw3 P l a b c) : 0 ≤ a ∧ a ≤ l := by
  have z := vwN_b (P := P) l.toNat
  rw [← I.1] at z
  omega
theorem vw3_0 {P : Nat → Prop} : vw3 P 0 0 (-1) (-1) := ⟨rfl, rfl, rfl⟩
theorem vw3_e {P : Nat → Prop} {l a b c w x : Int} (I : vw3 P l a b c) (hl : l = 32) (h : (w = 0 ∧ x = a) ∨ (w = 1 ∧ x = b) ∨ (w ≠ 0 ∧ w ≠ 1 ∧ x = c)) : x = vwF P w := by
  subst hl
  obtain ⟨i1, i2, i3⟩ := I
  have i1' : a = vwN P 32 := i1
  have i2' : b = vwL P 32 := i2
  have i3' : c = vwH P 32 := i3
  unfold vwF
  rcases h with ⟨h1, h2⟩ | ⟨h1, h2⟩ | ⟨h1, h2, h3⟩
  · rw [if_pos h1, h2, i1']
  · rw [if_neg (by omega), if_pos h1, h2, i2']
  · rw [if_neg h1, if_neg h2, h3, i3']
/-! as bits -/
def vBt (c : Int) (k : Nat) : Prop := bt c k = true
theorem vwN_nB (c : Int) : ∀ n : Nat, vwN (vBt c) n = ((nB c n : Nat) : Int)
  | 0 => rfl
  | n + 1 => by
    have i := vwN_nB c n
    show _ = ((nB c n + (if bt c n = true then 1 else 0) : Nat) : Int)
    by_cases z : bt c n = true
    · rw [vwN_y (show vBt c n from z), i, if_pos z]; omega
    · rw [vwN_n (show ¬ vBt c n from z), i, if_neg z]; omega
def bsI (P : Nat → Prop) (c l : Int) : Prop := ∀ j : Nat, j < 32 → (bt c j = true ↔ ((j : Int) < l ∧ P j))
theorem bsI_0 {P : Nat → Prop} {l : Int} (h : ∀ j : Nat, (j : Int) < l → ¬ P j) : bsI P 0 l := fun j hj => ⟨fun z => absurd ((bt_00 ⟨j, hj⟩).symm.trans z) (by decide), fun z => absurd z.2 (h j z.1)⟩
theorem bsI_n {P : Nat → Prop} {c l : Int} (I : bsI P c l) (h0 : 0 ≤ l) (n : ¬ P l.toNat) : bsI P c (l + 1) := fun j hj => (I j hj).trans ⟨fun z => ⟨by omega, z.2⟩, fun z => ⟨by
    by_cases g : j = l.toNat
    · exact absurd (g ▸ z.2) n
    · have := z.1; omega, z.2⟩⟩
theorem bsI_y {P : Nat → Prop} {c l x x' : Int} (I : bsI P c l) (h0 : 0 ≤ l) (h1 : l ≤ 31) (y : P l.toNat) (e1 : m_shl 1 l = x) (e2 : m_or c x = x') : bsI P x' (l + 1) := fun j hj => by
  have b := bt_or (c := c) (e := l.toNat) (j := j) (by omega) hj
  rw [show ((l.toNat : Nat) : Int) = l by omega, e1, e2] at b
  rw [b, Bool.or_eq_true, I j hj, decide_eq_true_iff]
  constructor
  · rintro (⟨z1, z2⟩ | z)
    · exact ⟨by omega, z2⟩
    · subst z; exact ⟨by omega, y⟩
  · rintro ⟨z1, z2⟩
    by_cases g : j = l.toNat
    · exact Or.inr g
    · exact Or.inl ⟨by omega, z2⟩
theorem bsI_F {P : Nat → Prop} {c l : Int} (I : bsI P c l) (hl : l = 32) (w : Int) : vwF (vBt c) w = vwF P w := by
  obtain ⟨e1, e2, e3⟩ := vw_cg (P := vBt c) (Q := P) 32 (fun n hn => (I n hn).trans ⟨fun z => z.2, fun z => ⟨by omega, z⟩⟩)
  unfold vwF
  rw [e1, e2, e3]
theorem ofw_b {c l : Int} (h0 : 0 ≤ l) (h1 : l ≤ 31) : m_and (m_shr c l) 1 = 1 ↔ vBt c l.toNat := by
  have z := hasBit_iff (c := c) (e := l.toNat) (by omega)
  rw [show ((l.toNat : Nat) : Int) = l by omega] at z
  exact z
theorem ofw_y {c l : Int} (h0 : 0 ≤ l) (h1 : l ≤ 31) (cx : m_and (m_shr c l) 1 = 1) : l = vwH (vBt c) (l + 1).toNat := by
  rw [show (l + 1).toNat = l.toNat + 1 by omega, vwH_y ((ofw_b h0 h1).mp cx)]; omega
theorem ofw_n {c l y : Int} (h0 : 0 ≤ l) (h1 : l ≤ 31) (cx : ¬ m_and (m_shr c l) 1 = 1) (e : y = vwH (vBt c) l.toNat) : y = vwH (vBt c) (l + 1).toNat := by
  rw [show (l + 1).toNat = l.toNat + 1 by omega, vwH_n (fun z => cx ((ofw_b h0 h1).mpr z))]; exact e
theorem ofw_e {c a l y : Int} (hl : l = 32) (a0 : a ≠ 0) (e : y = vwH (vBt c) l.toNat) (q : a = 1 → y = -1) : y = vwF (vBt c) a := by
  subst hl
  have e' : y = vwH (vBt c) 32 := e
  unfold vwF
  rw [if_neg a0]
  by_cases z : a = 1
  · rw [if_pos z, q z]
    exact ((vwLH (P := vBt c) 32).mpr (e'.symm.trans (q z))).symm
  · rw [if_neg z]; exact e'
theorem ofw_f {c a l y : Int} (h0 : 0 ≤ l) (h1 : l ≤ 31) (a1 : a = 1) (cx : m_and (m_shr c l) 1 = 1) (e : y = vwH (vBt c) l.toNat) (q : y = -1) : l = vwF (vBt c) a := by
  subst a1
  unfold vwF
  rw [if_neg (by decide), if_pos rfl]
  have z := vwL_f ((ofw_b h0 h1).mp cx) ((vwLH _).mpr (e.symm.trans q)) (31 - l.toNat)
  rw [show l.toNat + 1 + (31 - l.toNat) = 32 by omega] at z
  rw [z]; omega
theorem ofw_0 {c a x : Int} (c1 : a = 0) (f : ((bcN (bU c) : Nat) : Int) = x) : x = vwF (vBt c) a := by
  unfold vwF
  rw [if_pos (by omega), vwN_nB, nB_32, f]
abbrev P_J6_bitCount_0f7a44 (h0 : m_H) (a0 : Int) : Int → m_H → Prop := fun x h' => GI h' ∧ FR [] [] h0 h' ∧ 0 ≤ x ∧ x ≤ 63 ∧ ((bcN (bU a0) : Nat) : Int) = x
set_option maxHeartbeats 4000000 in
set_option maxRecDepth 100000 in
theorem c_J6_bitCount_0f7a44 (h0 : m_H) (a0 : Int) (G0 : GI h0) : m_CI M_J6_bitCount_0f7a4 [mI a0] h0 (P_J6_bitCount_0f7a44 h0 a0) := by
  refine m_CI_of ⟨by decide, rfl, by simp [m_arg, m_isL, M_J6_bitCount_0f7a4], ⟨rfl, rfl⟩, rfl, rfl⟩ (ls := [some (mI a0)]) rfl ?_
  refine z_ok (fun _ _ ok => ?_)
  have oa0 : m_32 a0 := ok 0 _ rfl
  unfold m_32 at oa0
  refine z_iload_n (M := M_J6_bitCount_0f7a4) 0 dJ6_bitCount_0f7a4_0 rfl ?_
  refine z_iload_n (M := M_J6_bitCount_0f7a4) 1 dJ6_bitCount_0f7a4_1 rfl ?_
  refine z_iconst (M := M_J6_bitCount_0f7a4) 2 dJ6_bitCount_0f7a4_2 ?_
  refine z_iushr (M := M_J6_bitCount_0f7a4) 3 dJ6_bitCount_0f7a4_3 ?_
  refine z_topm (fun x1 ex1 ox1 => ?_)
  unfold m_32 at ox1
  refine z_ldcw (M := M_J6_bitCount_0f7a4) 4 dJ6_bitCount_0f7a4_4 k_J6_265 ?_
  refine z_iand (M := M_J6_bitCount_0f7a4) 7 dJ6_bitCount_0f7a4_7 ?_
  refine z_topm (fun x2 ex2 ox2 => ?_)
  unfold m_32 at ox2
  refine z_isub (M := M_J6_bitCount_0f7a4) 8 dJ6_bitCount_0f7a4_8 ?_
  refine z_topm (fun x3 ex3 ox3 => ?_)
  unfold m_32 at ox3
  refine z_istore_n (M := M_J6_bitCount_0f7a4) 9 dJ6_bitCount_0f7a4_9 (ls' := [some (mI x3)]) (by decide) rfl ?_
  refine z_iload_n (M := M_J6_bitCount_0f7a4) 10 dJ6_bitCount_0f7a4_10 rfl ?_
  refine z_ldcw (M := M_J6_bitCount_0f7a4) 11 dJ6_bitCount_0f7a4_11 k_J6_266 ?_
  refine z_iand (M := M_J6_bitCount_0f7a4) 14 dJ6_bitCount_0f7a4_14 ?_
  refine z_topm (fun x4 ex4 ox4 => ?_)
  unfold m_32 at ox4
  refine z_iload_n (M := M_J6_bitCount_0f7a4) 15 dJ6_bitCount_0f7a4_15 rfl ?_
  refine z_iconst (M := M_J6_bitCount_0f7a4) 16 dJ6_bitCount_0f7a4_16 ?_
  refine z_iushr (M := M_J6_bitCount_0f7a4) 17 dJ6_bitCount_0f7a4_17 ?_
  refine z_topm (fun x5 ex5 ox5 => ?_)
  unfold m_32 at ox5
  refine z_ldcw (M := M_J6_bitCount_0f7a4) 18 dJ6_bitCount_0f7a4_18 k_J6_266 ?_
  refine z_iand (M := M_J6_bitCount_0f7a4) 21 dJ6_bitCount_0f7a4_21 ?_
  refine z_topm (fun x6 ex6 ox6 => ?_)
  unfold m_32 at ox6
  refine z_iadd (M := M_J6_bitCount_0f7a4) 22 dJ6_bitCount_0f7a4_22 ?_
  refine z_topm (fun x7 ex7 ox7 => ?_)
  unfold m_32 at ox7
  refine z_istore_n (M := M_J6_bitCount_0f7a4) 23 dJ6_bitCount_0f7a4_23 (ls' := [some (mI x7)]) (by decide) rfl ?_
  refine z_iload_n (M := M_J6_bitCount_0f7a4) 24 dJ6_bitCount_0f7a4_24 rfl ?_
  refine z_iload_n (M := M_J6_bitCount_0f7a4) 25 dJ6_bitCount_0f7a4_25 rfl ?_
  refine z_iconst (M := M_J6_bitCount_0f7a4) 26 dJ6_bitCount_0f7a4_26 ?_
  refine z_iushr (M := M_J6_bitCount_0f7a4) 27 dJ6_bitCount_0f7a4_27 ?_
  refine z_topm (fun x8 ex8 ox8 => ?_)
  unfold m_32 at ox8
  refine z_iadd (M := M_J6_bitCount_0f7a4) 28 dJ6_bitCount_0f7a4_28 ?_
  refine z_topm (fun x9 ex9 ox9 => ?_)
  unfold m_32 at ox9
  refine z_ldcw (M := M_J6_bitCount_0f7a4) 29 dJ6_bitCount_0f7a4_29 k_J6_267 ?_
  refine z_iand (M := M_J6_bitCount_0f7a4) 32 dJ6_bitCount_0f7a4_32 ?_
  refine z_topm (fun x10 ex10 ox10 => ?_)
  unfold m_32 at ox10
  refine z_istore_n (M := M_J6_bitCount_0f7a4) 33 dJ6_bitCount_0f7a4_33 (ls' := [some (mI x10)]) (by decide) rfl ?_
  refine z_iload_n (M := M_J6_bitCount_0f7a4) 34 dJ6_bitCount_0f7a4_34 rfl ?_
  refine z_iload_n (M := M_J6_bitCount_0f7a4) 35 dJ6_bitCount_0f7a4_35 rfl ?_
  refine z_bipush (M := M_J6_bitCount_0f7a4) 36 dJ6_bitCount_0f7a4_36 ?_
  refine z_iushr (M := M_J6_bitCount_0f7a4) 38 dJ6_bitCount_0f7a4_38 ?_
  refine z_topm (fun x11 ex11 ox11 => ?_)
  unfold m_32 at ox11
  refine z_iadd (M := M_J6_bitCount_0f7a4) 39 dJ6_bitCount_0f7a4_39 ?_
  refine z_topm (fun x12 ex12 ox12 => ?_)
  unfold m_32 at ox12
  refine z_istore_n (M := M_J6_bitCount_0f7a4) 40 dJ6_bitCount_0f7a4_40 (ls' := [some (mI x12)]) (by decide) rfl ?_
  refine z_iload_n (M := M_J6_bitCount_0f7a4) 41 dJ6_bitCount_0f7a4_41 rfl ?_
  refine z_iload_n (M := M_J6_bitCount_0f7a4) 42 dJ6_bitCount_0f7a4_42 rfl ?_
  refine z_bipush (M := M_J6_bitCount_0f7a4) 43 dJ6_bitCount_0f7a4_43 ?_
  refine z_iushr (M := M_J6_bitCount_0f7a4) 45 dJ6_bitCount_0f7a4_45 ?_
  refine z_topm (fun x13 ex13 ox13 => ?_)
  unfold m_32 at ox13
  refine z_iadd (M := M_J6_bitCount_0f7a4) 46 dJ6_bitCount_0f7a4_46 ?_
  refine z_topm (fun x14 ex14 ox14 => ?_)
  unfold m_32 at ox14
  refine z_istore_n (M := M_J6_bitCount_0f7a4) 47 dJ6_bitCount_0f7a4_47 (ls' := [some (mI x14)]) (by decide) rfl ?_
  refine z_iload_n (M := M_J6_bitCount_0f7a4) 48 dJ6_bitCount_0f7a4_48 rfl ?_
  refine z_bipush (M := M_J6_bitCount_0f7a4) 49 dJ6_bitCount_0f7a4_49 ?_
  refine z_iand (M := M_J6_bitCount_0f7a4) 51 dJ6_bitCount_0f7a4_51 ?_
  refine z_topBI (m_and_63 _) (fun x15 ex15 ax15 bx15 => ?_)
  exact z_retI (M := M_J6_bitCount_0f7a4) 52 dJ6_bitCount_0f7a4_52 rfl ⟨G0, (FR.rf (cs := []) (ss := []) (h := h0)), by omega, by omega, (bc_run32 ex1 ex2 ex3 ex4 ex5 ex6 ex7 ex8 ex9 ex10 ex11 ex12 ex13 ex14 ex15).symm⟩
abbrev P_X11_ofWeeks3 (h0 : m_H) (a0 a1 : Int) : Int → m_H → Prop := fun x h' => GI h' ∧ FR [] [] h0 h' ∧ (-1) ≤ x ∧ x ≤ 63 ∧ x = vwF (vBt a0) a1
def q_X11_ofWeeks3 (h0 : m_H) (a0 a1 : Int) (n : Nat) : Prop := (∀ (l2 l3 : Int) (h : m_H), GI h → FR [] [] h0 h → (-1) ≤ l2 → l2 ≤ 31 → 0 ≤ l3 → l3 ≤ 32 → (-2147483648) ≤ a0 → a0 ≤ 2147483647 → (-2147483648) ≤ a1 → a1 ≤ 2147483647 → (a1 ≠ 0 ∧ l2 = vwH (vBt a0) l3.toNat ∧ (a1 = 1 → l2 = -1)) → 2 * (32 - l3) + (1) ≤ (n : Int) → m_Z oF M_X11_ofWeeks 13 [some (mI a0), some (mI a1), some (mI l2), some (mI l3)] [] h (m_QI (P_X11_ofWeeks3 h0 a0 a1)))
set_option maxHeartbeats 4000000 in
set_option maxRecDepth 100000 in
theorem s_X11_ofWeeks3_13 (h0 : m_H) (a0 a1 : Int) (G0 : GI h0) (n : Nat) (ih : q_X11_ofWeeks3 h0 a0 a1 n) : ∀ (l2 l3 : Int) (h : m_H), GI h → FR [] [] h0 h → (-1) ≤ l2 → l2 ≤ 31 → 0 ≤ l3 → l3 ≤ 32 → (-2147483648) ≤ a0 → a0 ≤ 2147483647 → (-2147483648) ≤ a1 → a1 ≤ 2147483647 → (a1 ≠ 0 ∧ l2 = vwH (vBt a0) l3.toNat ∧ (a1 = 1 → l2 = -1)) → 2 * (32 - l3) + (1) ≤ ((n + 1 : Nat) : Int) → m_Z oF M_X11_ofWeeks 13 [some (mI a0), some (mI a1), some (mI l2), some (mI l3)] [] h (m_QI (P_X11_ofWeeks3 h0 a0 a1)) := by
  intro l2 l3 h G R v0 v1 v2 v3 v4 v5 v6 v7 i1 hr
  refine z_iload_n (M := M_X11_ofWeeks) 13 dX11_ofWeeks_13 rfl ?_
  refine z_bipush (M := M_X11_ofWeeks) 14 dX11_ofWeeks_14 ?_
  refine z_icmp_ge (M := M_X11_ofWeeks) 16 dX11_ofWeeks_16 43 rfl (fun c1 => ?_) (fun c1 => ?_)
  · refine z_iload_n (M := M_X11_ofWeeks) 43 dX11_ofWeeks_43 rfl ?_
    exact z_retI (M := M_X11_ofWeeks) 44 dX11_ofWeeks_44 rfl ⟨G, R, by omega, by omega, ofw_e (by omega) i1.1 i1.2.1 i1.2.2⟩
  · refine z_iload_n (M := M_X11_ofWeeks) 19 dX11_ofWeeks_19 rfl ?_
    refine z_iload_n (M := M_X11_ofWeeks) 20 dX11_ofWeeks_20 rfl ?_
    refine z_sI (M := M_X11_ofWeeks) 21 dX11_ofWeeks_21 t_X11_hasBit l_X11_435 (m_rr_of rfl) (rest := []) (c_X11_hasBit h a0 l3 G) rfl rfl (Nat.le_of_ble_eq_true rfl) ⟨rfl, rfl⟩ (fun x2 h1 qx2 => ?_)
    obtain ⟨rfl, ⟨rfl, cx2⟩ | ⟨rfl, cx2⟩⟩ := qx2
    · refine z_if_eq_F (M := M_X11_ofWeeks) 24 dX11_ofWeeks_24 37 rfl (by omega) ?_
      refine z_iload_n (M := M_X11_ofWeeks) 27 dX11_ofWeeks_27 rfl ?_
      refine z_istore_n (M := M_X11_ofWeeks) 28 dX11_ofWeeks_28 (ls' := [some (mI a0), some (mI a1), some (mI l3), some (mI l3)]) (by decide) rfl ?_
      refine z_iload_n (M := M_X11_ofWeeks) 29 dX11_ofWeeks_29 rfl ?_
      refine z_iconst (M := M_X11_ofWeeks) 30 dX11_ofWeeks_30 ?_
      refine z_icmp_ne (M := M_X11_ofWeeks) 31 dX11_ofWeeks_31 37 rfl (fun c3 => ?_) (fun c3 => ?_)
      · refine z_iincN (M := M_X11_ofWeeks) 37 dX11_ofWeeks_37 (ls' := [some (mI a0), some (mI a1), some (mI l3), some (mI (l3 + 1))]) (by decide) rfl (by (unfold m_32; decide)) (by omega) (by omega) rfl ?_
        refine z_goto (M := M_X11_ofWeeks) 40 dX11_ofWeeks_40 13 rfl ?_
        exact z_mask [true, true, true, true] rfl (ih l3 (l3 + 1) h G R (by omega) (by omega) (by omega) (by omega) (by omega) (by omega) (by omega) (by omega) ⟨i1.1, ofw_y (by omega) (by omega) cx2, fun z => absurd z c3⟩ (by omega))
      · refine z_goto (M := M_X11_ofWeeks) 34 dX11_ofWeeks_34 43 rfl ?_
        refine z_iload_n (M := M_X11_ofWeeks) 43 dX11_ofWeeks_43 rfl ?_
        exact z_retI (M := M_X11_ofWeeks) 44 dX11_ofWeeks_44 rfl ⟨G, R, by omega, by omega, ofw_f (by omega) (by omega) (by omega) cx2 i1.2.1 (i1.2.2 (by omega))⟩
    · refine z_if_eq_T (M := M_X11_ofWeeks) 24 dX11_ofWeeks_24 37 rfl (by omega) ?_
      refine z_iincN (M := M_X11_ofWeeks) 37 dX11_ofWeeks_37 (ls' := [some (mI a0), some (mI a1), some (mI l2), some (mI (l3 + 1))]) (by decide) rfl (by (unfold m_32; decide)) (by omega) (by omega) rfl ?_
      refine z_goto (M := M_X11_ofWeeks) 40 dX11_ofWeeks_40 13 rfl ?_
      exact z_mask [true, true, true, true] rfl (ih l2 (l3 + 1) h G R (by omega) (by omega) (by omega) (by omega) (by omega) (by omega) (by omega) (by omega) ⟨i1.1, ofw_n (by omega) (by omega) cx2 i1.2.1, i1.2.2⟩ (by omega))
theorem a_X11_ofWeeks3 (h0 : m_H) (a0 a1 : Int) (G0 : GI h0) : ∀ n, q_X11_ofWeeks3 h0 a0 a1 n := by
  intro n
  induction n with
  | zero => unfold q_X11_ofWeeks3; intros; omega
  | succ n ih => exact s_X11_ofWeeks3_13 h0 a0 a1 G0 n ih
set_option maxHeartbeats 4000000 in
set_option maxRecDepth 100000 in
theorem c_X11_ofWeeks3 (h0 : m_H) (a0 a1 : Int) (G0 : GI h0) : m_CI M_X11_ofWeeks [mI a0, mI a1] h0 (P_X11_ofWeeks3 h0 a0 a1) := by
  refine m_CI_of ⟨by decide, rfl, by simp [m_arg, m_isL, M_X11_ofWeeks], ⟨rfl, rfl⟩, rfl, rfl⟩ (ls := [some (mI a0), some (mI a1), none, none]) rfl ?_
  have ih := a_X11_ofWeeks3 h0 a0 a1 G0 72
  refine z_ok (fun _ _ ok => ?_)
  have oa0 : m_32 a0 := ok 0 _ rfl
  unfold m_32 at oa0
  have oa1 : m_32 a1 := ok 1 _ rfl
  unfold m_32 at oa1
  refine z_iload_n (M := M_X11_ofWeeks) 0 dX11_ofWeeks_0 rfl ?_
  refine z_if_ne (M := M_X11_ofWeeks) 1 dX11_ofWeeks_1 9 rfl (fun c1 => ?_) (fun c1 => ?_)
  · refine z_iconst (M := M_X11_ofWeeks) 9 dX11_ofWeeks_9 ?_
    refine z_istore_n (M := M_X11_ofWeeks) 10 dX11_ofWeeks_10 (ls' := [some (mI a0), some (mI a1), some (mI (-1)), none]) (by decide) rfl ?_
    refine z_iconst (M := M_X11_ofWeeks) 11 dX11_ofWeeks_11 ?_
    refine z_istore_n (M := M_X11_ofWeeks) 12 dX11_ofWeeks_12 (ls' := [some (mI a0), some (mI a1), some (mI (-1)), some (mI 0)]) (by decide) rfl ?_
    exact z_mask [true, true, true, true] rfl (ih (-1) 0 h0 G0 (FR.rf (cs := []) (ss := []) (h := h0)) (by omega) (by omega) (by omega) (by omega) (by omega) (by omega) (by omega) (by omega) ⟨c1, rfl, fun _ => rfl⟩ (by omega))
  · refine z_iload_n (M := M_X11_ofWeeks) 4 dX11_ofWeeks_4 rfl ?_
    refine z_sI (M := M_X11_ofWeeks) 5 dX11_ofWeeks_5 t_J6_bitCount_0f7a4 l_X11_415 (m_rr_of rfl) (rest := []) (c_J6_bitCount_0f7a44 h0 a0 G0) rfl rfl (Nat.le_of_ble_eq_true rfl) ⟨rfl, rfl⟩ (fun x2 h1 qx2 => ?_)
    obtain ⟨G1, S1, ax2, bx2, fx2⟩ := qx2
    have R1 := (FR.rf (cs := []) (ss := []) (h := h0)).call S1 (by decide +kernel)
    exact z_retI (M := M_X11_ofWeeks) 8 dX11_ofWeeks_8 rfl ⟨G1, R1, by omega, by omega, ofw_0 c1 fx2⟩
/-! dates -/
def dtP (r : Nat → Int) (t n k : Int) (w : Nat) : Prop := r (10 + w) ≠ -1 ∧ ∃ B C, BX (bR r) (12 + r (10 + w)).toNat (lnV (r (42 + t.toNat)) t (w : Int)).toNat B ∧ BX (bR r) (lnV (r (42 + t.toNat)) t (w : Int)).toNat (12 + r (10 + w)).toNat C ∧ tlU B n k ∧ tlO C n k
def dtK (r : Nat → Int) (t n k w : Int) : Prop := (0 ≤ t ∧ t ≤ 5) ∧ (1 ≤ n ∧ n ≤ 99) ∧ (0 ≤ k ∧ k ≤ 2) ∧ (0 ≤ w ∧ w ≤ 2) ∧ ¬ gain (bR r)
def dtQ (r : Nat → Int) (t n k w x : Int) : Prop := (¬ dtK r t n k w ∧ x = -2) ∨ (dtK r t n k w ∧ x = vwF (dtP r t n k) w)
theorem dt_iff {r : Nat → Int} (hE : ∀ e ∈ bR r, gEo e) {t n k x1 x3 : Int} {w : Nat} {B C : Int × Int × Int} {p : Prop} (e1 : r (10 + w) = x1) (c : x1 ≠ -1) (e3 : lnV (r (42 + t.toNat)) t (w : Int) = x3) (b : BX (bR r) (12 + x1).toNat x3.toNat B) (g : BX (bR r) x3.toNat (12 + x1).toNat C) (f : p ↔ (tlU B n k ∧ tlO C n k)) : p ↔ dtP r t n k w := by
  rw [f]
  constructor
  · rintro ⟨u, o⟩
    refine ⟨by rw [e1]; exact c, B, C, ?_, ?_, u, o⟩
    · rw [e1, e3]; exact b
    · rw [e1, e3]; exact g
  · rintro ⟨_, B', C', b', g', u, o⟩
    rw [e1, e3] at b' g'
    exact ⟨(U_eq hE b b' n k).mpr u, (O_eq hE g g' n k).mpr o⟩
theorem tlF_p {B C : Int × Int × Int} {n k x : Int} (t : tlF B C n k x) : 0 < x ↔ (tlU B n k ∧ tlO C n k) := by
  rcases t with ⟨p, q⟩ | ⟨p, ⟨_, q⟩ | ⟨_, q⟩⟩
  · exact ⟨fun z => by omega, fun z => absurd z p⟩
  · exact ⟨fun _ => p, fun _ => by omega⟩
  · exact ⟨fun _ => p, fun _ => by omega⟩
theorem thr_ln {h : m_H} {t w x : Int} (R : LR 1 h (h 110)) (ht : 0 ≤ t ∧ t ≤ 5) (e : lnV (h (1 + 2) t.toNat) t w = x) : thr (h 110) x := by
  refine (thr_c R).mp ?_
  unfold lnV at e
  by_cases g : h (1 + 2) t.toNat = -1 ∨ w < h (1 + 2) t.toNat
  · rw [if_pos g] at e
    exact ⟨by omega, by omega, Or.inl (by omega)⟩
  · rw [if_neg g] at e
    refine ⟨by omega, by omega, Or.inr (Or.inr ?_)⟩
    rw [show (x - 6).toNat = t.toNat by omega]
    exact fun z => g (Or.inl z)
theorem lr_k {L : Nat} {h : m_H} {r : Nat → Int} (R : LR L h r) {j : Nat} (hj : j < 32) : r (10 + j) = h (L + 1) j := (R.2.1 j hj).symm
theorem lr_c {L : Nat} {h : m_H} {r : Nat → Int} (R : LR L h r) {j : Nat} (hj : j < 6) : r (42 + j) = h (L + 2) j := (R.2.2.1 j hj).symm
theorem dt_at {h0 h : m_H} {l x : Int} (r_ : h 110 = h0 110) (hl : 0 ≤ l) (e : h 110 (10 + l).toNat = x) : h0 110 (10 + l.toNat) = x := by
  rw [← r_, ← e, show (10 + l).toNat = 10 + l.toNat by omega]
theorem dt_ct {h0 h : m_H} {t x : Int} (r_ : h 110 = h0 110) (hl : 0 ≤ t) (e : h 110 (42 + t).toNat = x) : h0 110 (42 + t.toNat) = x := by
  rw [← r_, ← e, show (42 + t).toNat = 42 + t.toNat by omega]
theorem dt_ln {r : Nat → Int} {t w x6 y : Int} (hw : 0 ≤ w) (e : r (42 + t.toNat) = x6) (c : ((x6 = -1 ∨ w < x6) ∧ y = t) ∨ (¬ (x6 = -1 ∨ w < x6) ∧ y = 6 + t)) : lnV (r (42 + t.toNat)) t ((w.toNat : Nat) : Int) = y := by
  rw [e, show ((w.toNat : Nat) : Int) = w by omega]
  unfold lnV
  rcases c with ⟨c1, c2⟩ | ⟨c1, c2⟩
  · rw [if_pos c1, c2]
  · rw [if_neg c1, c2]; omega
theorem LX.dates {h h1 : m_H} {t n k w x y : Int} {cs : List Nat} {ss : List (Nat × Nat)} (G : GI h) (N : NP h) (S1 : FR cs ss h h1) (A : dtQ (h 110) t n k w x) (B : dtQ (h1 110) t n k w y) (o : out 110 110 cs ss = true) : x = y := by
  rw [rowz S1 (fr_out o (by decide) (by decide))] at B
  rcases A with ⟨a1, a2⟩ | ⟨a1, a2⟩ <;> rcases B with ⟨b1, b2⟩ | ⟨b1, b2⟩
  · omega
  · exact absurd b1 a1
  · exact absurd a1 b1
  · rw [a2, b2]
abbrev P_X11_couldBeTold3 (h0 : m_H) (a1 a2 a3 a4 : Int) : Int → m_H → Prop := fun x h' => GI h' ∧ FR (csB ++ []) [] h0 h' ∧ 0 ≤ x ∧ x ≤ 1 ∧ (∀ c, c ≠ 94 → c ≠ 95 → h' c = h0 c) ∧ (x = 1 ↔ dtP (h0 110) a1 a3 a4 a2.toNat)
set_option maxHeartbeats 4000000 in
set_option maxRecDepth 100000 in
theorem c_X11_couldBeTold3 (h0 : m_H) (a1 a2 a3 a4 : Int) (G0 : GI h0) (pa1 : 0 ≤ a1 ∧ a1 ≤ 5) (pa2 : 0 ≤ a2 ∧ a2 ≤ 31) (hR : LR 1 h0 (h0 110)) (hN : NP h0) (hT : TM (h0 110) h0) (ng : ¬ gain (bR (h0 110))) (pn : 1 ≤ a3 ∧ a3 ≤ 99) (pk : 0 ≤ a4 ∧ a4 ≤ 2) : m_CI M_X11_couldBeTold [mR 0, mI a1, mI a2, mI a3, mI a4] h0 (P_X11_couldBeTold3 h0 a1 a2 a3 a4) := by
  refine m_CI_of ⟨by decide, rfl, by simp [m_arg, m_isL, M_X11_couldBeTold], ⟨rfl, rfl⟩, rfl, rfl⟩ (ls := [some (mR 0), some (mI a1), some (mI a2), some (mI a3), some (mI a4), none]) rfl ?_
  refine z_ok (fun _ _ ok => ?_)
  have oa3 : m_32 a3 := ok 3 _ rfl
  unfold m_32 at oa3
  have oa4 : m_32 a4 := ok 4 _ rfl
  unfold m_32 at oa4
  refine z_aload_n (M := M_X11_couldBeTold) 0 dX11_couldBeTold_0 rfl ?_
  refine z_getR (M := M_X11_couldBeTold) 1 dX11_couldBeTold_1 f_X11_12 o_0 rfl (g_0_0 G0) ?_
  refine z_getR (M := M_X11_couldBeTold) 4 dX11_couldBeTold_4 f_X11_120 o_1 rfl (g_1_0 G0) ?_
  refine z_iload_n (M := M_X11_couldBeTold) 7 dX11_couldBeTold_7 rfl ?_
  refine z_ialdG (M := M_X11_couldBeTold) 8 dX11_couldBeTold_8 o_2 (by omega) (by omega) (g_2 G0 (by omega)) (fun x1 ex1 ax1 bx1 => ?_)
  refine z_istore (M := M_X11_couldBeTold) 9 dX11_couldBeTold_9 (ls' := [some (mR 0), some (mI a1), some (mI a2), some (mI a3), some (mI a4), some (mI x1)]) (by decide) rfl ?_
  refine z_iload (M := M_X11_couldBeTold) 11 dX11_couldBeTold_11 rfl ?_
  refine z_iconst (M := M_X11_couldBeTold) 13 dX11_couldBeTold_13 ?_
  refine z_icmp_ne (M := M_X11_couldBeTold) 14 dX11_couldBeTold_14 19 rfl (fun c2 => ?_) (fun c2 => ?_)
  · refine z_aload_n (M := M_X11_couldBeTold) 19 dX11_couldBeTold_19 rfl ?_
    refine z_getR (M := M_X11_couldBeTold) 20 dX11_couldBeTold_20 f_X11_53 o_0 rfl (g_0_7 G0) ?_
    refine z_aload_n (M := M_X11_couldBeTold) 23 dX11_couldBeTold_23 rfl ?_
    refine z_getR (M := M_X11_couldBeTold) 24 dX11_couldBeTold_24 f_X11_46 o_0 rfl (g_0_6 G0) ?_
    refine z_aload_n (M := M_X11_couldBeTold) 27 dX11_couldBeTold_27 rfl ?_
    refine z_getR (M := M_X11_couldBeTold) 28 dX11_couldBeTold_28 f_X11_12 o_0 rfl (g_0_0 G0) ?_
    refine z_iload_n (M := M_X11_couldBeTold) 31 dX11_couldBeTold_31 rfl ?_
    refine z_iload_n (M := M_X11_couldBeTold) 32 dX11_couldBeTold_32 rfl ?_
    refine z_vI (M := M_X11_couldBeTold) 33 dX11_couldBeTold_33 t_X4_lengthIn l_X11_409 (m_rr_of rfl) (rest := [mR 38, mR 93]) (c_X4_lengthIn2 h0 1 a1 a2 (Or.inl rfl) G0 ⟨by omega, by omega⟩) o_1 rfl rfl rfl (Nat.le_of_ble_eq_true rfl) ⟨rfl, rfl⟩ (fun x3 h1 qx3 => ?_)
    obtain ⟨G1, S1, ax3, bx3, fx3⟩ := qx3
    have k1_ : h0 110 (10 + a2.toNat) = x1 := (lr_k hR (by omega)).trans ex1
    have k3_ : lnV (h0 110 (42 + a1.toNat)) a1 ((a2.toNat : Nat) : Int) = x3 := by rw [show ((a2.toNat : Nat) : Int) = a2 by omega, lr_c hR (show a1.toNat < 6 by omega)]; exact fx3
    have R1 := (FR.rf (cs := (csB ++ [])) (ss := []) (h := h0)).call S1 (by decide +kernel)
    refine z_bipush (M := M_X11_couldBeTold) 36 dX11_couldBeTold_36 ?_
    refine z_iload (M := M_X11_couldBeTold) 38 dX11_couldBeTold_38 rfl ?_
    refine z_iaddN (M := M_X11_couldBeTold) 40 dX11_couldBeTold_40 (by omega) (by omega) ?_
    refine z_vV (M := M_X11_couldBeTold) 41 dX11_couldBeTold_41 t_X7_measure l_X11_427 (m_rr_of rfl) (rest := []) (c_X7_measure2 h1 x3 (12 + x1) G1 ⟨by omega, by omega⟩ ⟨by omega, by omega⟩ (by rw [frE S1]; exact hT.H) (by rw [frE S1]; exact hT.R)) o_93 rfl rfl rfl (Nat.le_of_ble_eq_true rfl) ⟨rfl, rfl⟩ (fun h2 qx4 => ?_)
    obtain ⟨G2, S2, M1, M2, M3⟩ := qx4
    rw [frE S1] at M1 M2 M3
    have t1_ : thr (h0 110) x3 := thr_ln hR pa1 fx3
    have t2_ : thr (h0 110) (12 + x1) := ⟨by omega, by omega, Or.inr (Or.inl (by omega))⟩
    have c1_ := hT.cp G0 hN ng t1_ t2_ M2 (by have z := g_95_2 G2; show h2 95 2 = 0 ∨ h2 95 2 = 1; omega)
    have c2_ := hT.cp G0 hN ng t2_ t1_ M3 (by have z := g_94_2 G2; show h2 94 2 = 0 ∨ h2 94 2 = 1; omega)
    have pb1_ : (1 ≤ h2 95 0 ∧ h2 95 0 ≤ 1600000000) ∧ (0 ≤ h2 95 1 ∧ h2 95 1 ≤ 1600000000) := by have z := c1_.2.1; unfold pBb bd at z; simp only at z; omega
    have pb2_ : (1 ≤ h2 94 0 ∧ h2 94 0 ≤ 1600000000) ∧ (0 ≤ h2 94 1 ∧ h2 94 1 ≤ 1600000000) := by have z := c2_.2.1; unfold pBb bd at z; simp only at z; omega
    have R2 := R1.call S2 (by decide +kernel)
    refine z_aload_n (M := M_X11_couldBeTold) 44 dX11_couldBeTold_44 rfl ?_
    refine z_getR (M := M_X11_couldBeTold) 45 dX11_couldBeTold_45 f_X11_53 o_0 rfl (g_0_7 G2) ?_
    refine z_iload_n (M := M_X11_couldBeTold) 48 dX11_couldBeTold_48 rfl ?_
    refine z_iload (M := M_X11_couldBeTold) 49 dX11_couldBeTold_49 rfl ?_
    refine z_vI (M := M_X11_couldBeTold) 51 dX11_couldBeTold_51 t_X7_allows l_X11_304 (m_rr_of rfl) (rest := []) (c_X7_allows4 h2 a3 a4 G2 pn pk pb2_ pb1_) o_93 rfl rfl rfl (Nat.le_of_ble_eq_true rfl) ⟨rfl, rfl⟩ (fun x5 h3 qx5 => ?_)
    obtain ⟨G3, S3, ax5, bx5, fx5⟩ := qx5
    have R3 := R2.call S3 (by decide +kernel)
    exact z_retZ (M := M_X11_couldBeTold) 54 dX11_couldBeTold_54 rfl (by omega) ⟨G3, R3, by omega, by omega, fun c d1 d2 => (by rw [frE S3]; exact M1 c d1 d2), dt_iff (bR_ok G0 hN) k1_ c2 k3_ ⟨c2_.1, c2_.2.2.1⟩ ⟨c1_.1, c1_.2.2.1⟩ fx5⟩
  · refine z_iconst (M := M_X11_couldBeTold) 17 dX11_couldBeTold_17 ?_
    exact z_retZ (M := M_X11_couldBeTold) 18 dX11_couldBeTold_18 rfl (by omega) ⟨G0, (FR.rf (cs := (csB ++ [])) (ss := []) (h := h0)), by omega, by omega, fun _ _ _ => rfl, ⟨fun z => absurd z (by decide), fun z => absurd ((lr_k hR (show a2.toNat < 32 by omega)).trans (ex1.trans (by omega))) z.1⟩⟩
abbrev P_X11_dates3 (h0 : m_H) (a1 a2 a3 a4 : Int) : Int → m_H → Prop := fun x h' => GI h' ∧ FR (csB ++ [39, 40, 41]) [] h0 h' ∧ (-2) ≤ x ∧ x ≤ 63 ∧ dtQ (h0 110) a1 a2 a3 a4 x
def q_X11_dates3 (h0 : m_H) (a1 a2 a3 a4 : Int) (n : Nat) : Prop := (∀ (l6 l7 : Int) (h : m_H), GI h → FR (csB ++ [39, 40, 41]) [] h0 h → 0 ≤ l7 → l7 ≤ 32 → 0 ≤ a1 → a1 ≤ 5 → 1 ≤ a2 → a2 ≤ 99 → 0 ≤ a3 → a3 ≤ 2 → 0 ≤ a4 → a4 ≤ 2 → (TM (h0 110) h ∧ ¬ gain (bR (h0 110)) ∧ bsI (dtP (h0 110) a1 a2 a3) l6 l7) → 2 * (32 - l7) + (1) ≤ (n : Int) → m_Z oF M_X11_dates 59 [some (mR 0), some (mI a1), some (mI a2), some (mI a3), some (mI a4), none, some (mI l6), some (mI l7)] [] h (m_QI (P_X11_dates3 h0 a1 a2 a3 a4)))
set_option maxHeartbeats 4000000 in
set_option maxRecDepth 100000 in
theorem s_X11_dates3_59 (h0 : m_H) (a1 a2 a3 a4 : Int) (G0 : GI h0) (hR : LR 1 h0 (h0 110)) (hN : NP h0) (n : Nat) (ih : q_X11_dates3 h0 a1 a2 a3 a4 n) : ∀ (l6 l7 : Int) (h : m_H), GI h → FR (csB ++ [39, 40, 41]) [] h0 h → 0 ≤ l7 → l7 ≤ 32 → 0 ≤ a1 → a1 ≤ 5 → 1 ≤ a2 → a2 ≤ 99 → 0 ≤ a3 → a3 ≤ 2 → 0 ≤ a4 → a4 ≤ 2 → (TM (h0 110) h ∧ ¬ gain (bR (h0 110)) ∧ bsI (dtP (h0 110) a1 a2 a3) l6 l7) → 2 * (32 - l7) + (1) ≤ ((n + 1 : Nat) : Int) → m_Z oF M_X11_dates 59 [some (mR 0), some (mI a1), some (mI a2), some (mI a3), some (mI a4), none, some (mI l6), some (mI l7)] [] h (m_QI (P_X11_dates3 h0 a1 a2 a3 a4)) := by
  intro l6 l7 h G R v0 v1 v2 v3 v4 v5 v6 v7 v8 v9 i1 hr
  have r_ : h 110 = h0 110 := FR.row R (fun _ => rfl)
  have R_ : LR 1 h (h 110) := by rw [r_]; exact LR.S hR R (by decide)
  have N_ : NP h := NP.call hN R (fun _ => rfl) (fun _ => rfl) (fun _ => rfl)
  have T_ : TM (h 110) h := by rw [r_]; exact i1.1
  have g_ : ¬ gain (bR (h 110)) := by rw [r_]; exact i1.2.1
  refine z_ok (fun ostk _ olocs => ?_)
  have ol6 : m_32 l6 := olocs 6 _ rfl
  unfold m_32 at ol6
  refine z_iload (M := M_X11_dates) 59 dX11_dates_59 rfl ?_
  refine z_bipush (M := M_X11_dates) 61 dX11_dates_61 ?_
  refine z_icmp_ge (M := M_X11_dates) 63 dX11_dates_63 93 rfl (fun c1 => ?_) (fun c1 => ?_)
  · refine z_iload (M := M_X11_dates) 93 dX11_dates_93 rfl ?_
    refine z_iload (M := M_X11_dates) 95 dX11_dates_95 rfl ?_
    refine z_sI (M := M_X11_dates) 97 dX11_dates_97 t_X11_ofWeeks l_X11_326 (m_rr_of rfl) (rest := []) (c_X11_ofWeeks3 h l6 a4 G) rfl rfl (Nat.le_of_ble_eq_true rfl) ⟨rfl, rfl⟩ (fun x2 h1 qx2 => ?_)
    obtain ⟨G1, S1, ax2, bx2, fx2⟩ := qx2
    have R1 := R.call S1 (by decide +kernel)
    exact z_retI (M := M_X11_dates) 100 dX11_dates_100 rfl ⟨G1, R1, by omega, by omega, Or.inr ⟨⟨⟨by omega, by omega⟩, ⟨by omega, by omega⟩, ⟨by omega, by omega⟩, ⟨by omega, by omega⟩, i1.2.1⟩, fx2.trans (bsI_F i1.2.2 (by omega) a4)⟩⟩
  · refine z_aload_n (M := M_X11_dates) 66 dX11_dates_66 rfl ?_
    refine z_iload_n (M := M_X11_dates) 67 dX11_dates_67 rfl ?_
    refine z_iload (M := M_X11_dates) 68 dX11_dates_68 rfl ?_
    refine z_iload_n (M := M_X11_dates) 70 dX11_dates_70 rfl ?_
    refine z_iload_n (M := M_X11_dates) 71 dX11_dates_71 rfl ?_
    refine z_vI (M := M_X11_dates) 72 dX11_dates_72 t_X11_couldBeTold l_X11_323 (m_rr_of rfl) (rest := []) (c_X11_couldBeTold3 h a1 l7 a2 a3 G ⟨by omega, by omega⟩ ⟨by omega, by omega⟩ R_ N_ T_ g_ ⟨by omega, by omega⟩ ⟨by omega, by omega⟩) o_0 rfl rfl rfl (Nat.le_of_ble_eq_true rfl) ⟨rfl, rfl⟩ (fun x3 h2 qx3 => ?_)
    obtain ⟨G2, S2, ax3, bx3, e_, m_⟩ := qx3
    rw [r_] at m_
    have R2 := R.call S2 (by decide +kernel)
    refine z_if_eq (M := M_X11_dates) 75 dX11_dates_75 87 rfl (fun c4 => ?_) (fun c4 => ?_)
    · refine z_iincN (M := M_X11_dates) 87 dX11_dates_87 (ls' := [some (mR 0), some (mI a1), some (mI a2), some (mI a3), some (mI a4), none, some (mI l6), some (mI (l7 + 1))]) (by decide) rfl (by (unfold m_32; decide)) (by omega) (by omega) rfl ?_
      refine z_goto (M := M_X11_dates) 90 dX11_dates_90 59 rfl ?_
      exact z_mask [true, true, true, true, true, false, true, true] rfl (ih l6 (l7 + 1) h2 G2 R2 (by omega) (by omega) (by omega) (by omega) (by omega) (by omega) (by omega) (by omega) (by omega) (by omega) ⟨i1.1.step e_, i1.2.1, bsI_n i1.2.2 (by omega) (fun z => absurd (m_.mpr z) (by omega))⟩ (by omega))
    · refine z_iload (M := M_X11_dates) 78 dX11_dates_78 rfl ?_
      refine z_iconst (M := M_X11_dates) 80 dX11_dates_80 ?_
      refine z_iload (M := M_X11_dates) 81 dX11_dates_81 rfl ?_
      refine z_ishl (M := M_X11_dates) 83 dX11_dates_83 ?_
      refine z_topm (fun x5 ex5 ox5 => ?_)
      unfold m_32 at ox5
      refine z_ior (M := M_X11_dates) 84 dX11_dates_84 ?_
      refine z_topm (fun x6 ex6 ox6 => ?_)
      unfold m_32 at ox6
      refine z_istore (M := M_X11_dates) 85 dX11_dates_85 (ls' := [some (mR 0), some (mI a1), some (mI a2), some (mI a3), some (mI a4), none, some (mI x6), some (mI l7)]) (by decide) rfl ?_
      refine z_iincN (M := M_X11_dates) 87 dX11_dates_87 (ls' := [some (mR 0), some (mI a1), some (mI a2), some (mI a3), some (mI a4), none, some (mI x6), some (mI (l7 + 1))]) (by decide) rfl (by (unfold m_32; decide)) (by omega) (by omega) rfl ?_
      refine z_goto (M := M_X11_dates) 90 dX11_dates_90 59 rfl ?_
      exact z_mask [true, true, true, true, true, false, true, true] rfl (ih x6 (l7 + 1) h2 G2 R2 (by omega) (by omega) (by omega) (by omega) (by omega) (by omega) (by omega) (by omega) (by omega) (by omega) ⟨i1.1.step e_, i1.2.1, bsI_y i1.2.2 (by omega) (by omega) (m_.mp (by omega)) ex5 ex6⟩ (by omega))
theorem a_X11_dates3 (h0 : m_H) (a1 a2 a3 a4 : Int) (G0 : GI h0) (hR : LR 1 h0 (h0 110)) (hN : NP h0) : ∀ n, q_X11_dates3 h0 a1 a2 a3 a4 n := by
  intro n
  induction n with
  | zero => unfold q_X11_dates3; intros; omega
  | succ n ih => exact s_X11_dates3_59 h0 a1 a2 a3 a4 G0 hR hN n ih
set_option maxHeartbeats 4000000 in
set_option maxRecDepth 100000 in
theorem c_X11_dates3 (h0 : m_H) (a1 a2 a3 a4 : Int) (G0 : GI h0) (hR : LR 1 h0 (h0 110)) (hN : NP h0) : m_CI M_X11_dates [mR 0, mI a1, mI a2, mI a3, mI a4] h0 (P_X11_dates3 h0 a1 a2 a3 a4) := by
  refine m_CI_of ⟨by decide, rfl, by simp [m_arg, m_isL, M_X11_dates], ⟨rfl, rfl⟩, rfl, rfl⟩ (ls := [some (mR 0), some (mI a1), some (mI a2), some (mI a3), some (mI a4), none, none, none]) rfl ?_
  have ih := a_X11_dates3 h0 a1 a2 a3 a4 G0 hR hN 72
  refine z_ok (fun _ _ ok => ?_)
  have oa1 : m_32 a1 := ok 1 _ rfl
  unfold m_32 at oa1
  have oa2 : m_32 a2 := ok 2 _ rfl
  unfold m_32 at oa2
  have oa3 : m_32 a3 := ok 3 _ rfl
  unfold m_32 at oa3
  have oa4 : m_32 a4 := ok 4 _ rfl
  unfold m_32 at oa4
  refine z_iload_n (M := M_X11_dates) 0 dX11_dates_0 rfl ?_
  refine z_sI (M := M_X11_dates) 1 dX11_dates_1 t_X11_isThing l_X11_126 (m_rr_of rfl) (rest := []) (c_X11_isThing h0 a1 G0) rfl rfl (Nat.le_of_ble_eq_true rfl) ⟨rfl, rfl⟩ (fun x1 h1 qx1 => ?_)
  obtain ⟨rfl, ⟨rfl, cx1⟩ | ⟨rfl, cx1⟩⟩ := qx1
  · refine z_if_eq_F (M := M_X11_dates) 4 dX11_dates_4 35 rfl (by omega) ?_
    refine z_iload_n (M := M_X11_dates) 7 dX11_dates_7 rfl ?_
    refine z_sI (M := M_X11_dates) 8 dX11_dates_8 t_X11_isNumber l_X11_298 (m_rr_of rfl) (rest := []) (c_X11_isNumber h0 a2 G0) rfl rfl (Nat.le_of_ble_eq_true rfl) ⟨rfl, rfl⟩ (fun x2 h2 qx2 => ?_)
    obtain ⟨rfl, ⟨rfl, cx2⟩ | ⟨rfl, cx2⟩⟩ := qx2
    · refine z_if_eq_F (M := M_X11_dates) 11 dX11_dates_11 35 rfl (by omega) ?_
      refine z_iload_n (M := M_X11_dates) 14 dX11_dates_14 rfl ?_
      refine z_sI (M := M_X11_dates) 15 dX11_dates_15 t_X11_isKind l_X11_301 (m_rr_of rfl) (rest := []) (c_X11_isKind h0 a3 G0) rfl rfl (Nat.le_of_ble_eq_true rfl) ⟨rfl, rfl⟩ (fun x3 h3 qx3 => ?_)
      obtain ⟨rfl, ⟨rfl, cx3⟩ | ⟨rfl, cx3⟩⟩ := qx3
      · refine z_if_eq_F (M := M_X11_dates) 18 dX11_dates_18 35 rfl (by omega) ?_
        refine z_iload (M := M_X11_dates) 21 dX11_dates_21 rfl ?_
        refine z_iconst (M := M_X11_dates) 23 dX11_dates_23 ?_
        refine z_iconst (M := M_X11_dates) 24 dX11_dates_24 ?_
        refine z_sI (M := M_X11_dates) 25 dX11_dates_25 t_X11_within l_X11_112 (m_rr_of rfl) (rest := []) (c_X11_within h0 a4 0 2 G0) rfl rfl (Nat.le_of_ble_eq_true rfl) ⟨rfl, rfl⟩ (fun x4 h4 qx4 => ?_)
        obtain ⟨rfl, ⟨rfl, cx4⟩ | ⟨rfl, cx4⟩⟩ := qx4
        · refine z_if_eq_F (M := M_X11_dates) 28 dX11_dates_28 35 rfl (by omega) ?_
          refine z_iconst (M := M_X11_dates) 31 dX11_dates_31 ?_
          refine z_goto (M := M_X11_dates) 32 dX11_dates_32 36 rfl ?_
          refine z_istore (M := M_X11_dates) 36 dX11_dates_36 (ls' := [some (mR 0), some (mI a1), some (mI a2), some (mI a3), some (mI a4), some (mI 1), none, none]) (by decide) rfl ?_
          refine z_iload (M := M_X11_dates) 38 dX11_dates_38 rfl ?_
          refine z_if_eq_F (M := M_X11_dates) 40 dX11_dates_40 50 rfl (by omega) ?_
          refine z_aload_n (M := M_X11_dates) 43 dX11_dates_43 rfl ?_
          refine z_vI (M := M_X11_dates) 44 dX11_dates_44 t_X11_canBe l_X11_208 (m_rr_of rfl) (rest := []) (c_X11_canBe2 h0 G0 hR hN) o_0 rfl rfl rfl (Nat.le_of_ble_eq_true rfl) ⟨rfl, rfl⟩ (fun x5 h5 qx5 => ?_)
          obtain ⟨G5, S5, ax5, bx5, fx5⟩ := qx5
          have R5 := (FR.rf (cs := (csB ++ [39, 40, 41])) (ss := []) (h := h0)).call S5 (by decide +kernel)
          refine z_if_ne (M := M_X11_dates) 47 dX11_dates_47 53 rfl (fun c6 => ?_) (fun c6 => ?_)
          · refine z_iconst (M := M_X11_dates) 53 dX11_dates_53 ?_
            refine z_istore (M := M_X11_dates) 54 dX11_dates_54 (ls' := [some (mR 0), some (mI a1), some (mI a2), some (mI a3), some (mI a4), some (mI 1), some (mI 0), none]) (by decide) rfl ?_
            refine z_iconst (M := M_X11_dates) 56 dX11_dates_56 ?_
            refine z_istore (M := M_X11_dates) 57 dX11_dates_57 (ls' := [some (mR 0), some (mI a1), some (mI a2), some (mI a3), some (mI a4), some (mI 1), some (mI 0), some (mI 0)]) (by decide) rfl ?_
            exact z_mask [true, true, true, true, true, false, true, true] rfl (ih 0 0 h5 G5 R5 (by omega) (by omega) (by omega) (by omega) (by omega) (by omega) (by omega) (by omega) (by omega) (by omega) ⟨⟨h5, _, fx5.2 (by omega), fun _ _ _ => rfl⟩, fx5.1.mp (by omega), bsI_0 (fun j hj => absurd hj (by omega))⟩ (by omega))
          · refine z_bipush (M := M_X11_dates) 50 dX11_dates_50 ?_
            exact z_retI (M := M_X11_dates) 52 dX11_dates_52 rfl ⟨G5, R5, by omega, by omega, Or.inl ⟨fun z => absurd (fx5.1.mpr z.2.2.2.2) (by omega), rfl⟩⟩
        · refine z_if_eq_T (M := M_X11_dates) 28 dX11_dates_28 35 rfl (by omega) ?_
          refine z_iconst (M := M_X11_dates) 35 dX11_dates_35 ?_
          refine z_istore (M := M_X11_dates) 36 dX11_dates_36 (ls' := [some (mR 0), some (mI a1), some (mI a2), some (mI a3), some (mI a4), some (mI 0), none, none]) (by decide) rfl ?_
          refine z_iload (M := M_X11_dates) 38 dX11_dates_38 rfl ?_
          refine z_if_eq_T (M := M_X11_dates) 40 dX11_dates_40 50 rfl (by omega) ?_
          refine z_bipush (M := M_X11_dates) 50 dX11_dates_50 ?_
          exact z_retI (M := M_X11_dates) 52 dX11_dates_52 rfl ⟨G0, (FR.rf (cs := (csB ++ [39, 40, 41])) (ss := []) (h := h0)), by omega, by omega, Or.inl ⟨fun z => cx4 z.2.2.2.1, rfl⟩⟩
      · refine z_if_eq_T (M := M_X11_dates) 18 dX11_dates_18 35 rfl (by omega) ?_
        refine z_iconst (M := M_X11_dates) 35 dX11_dates_35 ?_
        refine z_istore (M := M_X11_dates) 36 dX11_dates_36 (ls' := [some (mR 0), some (mI a1), some (mI a2), some (mI a3), some (mI a4), some (mI 0), none, none]) (by decide) rfl ?_
        refine z_iload (M := M_X11_dates) 38 dX11_dates_38 rfl ?_
        refine z_if_eq_T (M := M_X11_dates) 40 dX11_dates_40 50 rfl (by omega) ?_
        refine z_bipush (M := M_X11_dates) 50 dX11_dates_50 ?_
        exact z_retI (M := M_X11_dates) 52 dX11_dates_52 rfl ⟨G0, (FR.rf (cs := (csB ++ [39, 40, 41])) (ss := []) (h := h0)), by omega, by omega, Or.inl ⟨fun z => cx3 z.2.2.1, rfl⟩⟩
    · refine z_if_eq_T (M := M_X11_dates) 11 dX11_dates_11 35 rfl (by omega) ?_
      refine z_iconst (M := M_X11_dates) 35 dX11_dates_35 ?_
      refine z_istore (M := M_X11_dates) 36 dX11_dates_36 (ls' := [some (mR 0), some (mI a1), some (mI a2), some (mI a3), some (mI a4), some (mI 0), none, none]) (by decide) rfl ?_
      refine z_iload (M := M_X11_dates) 38 dX11_dates_38 rfl ?_
      refine z_if_eq_T (M := M_X11_dates) 40 dX11_dates_40 50 rfl (by omega) ?_
      refine z_bipush (M := M_X11_dates) 50 dX11_dates_50 ?_
      exact z_retI (M := M_X11_dates) 52 dX11_dates_52 rfl ⟨G0, (FR.rf (cs := (csB ++ [39, 40, 41])) (ss := []) (h := h0)), by omega, by omega, Or.inl ⟨fun z => cx2 z.2.1, rfl⟩⟩
  · refine z_if_eq_T (M := M_X11_dates) 4 dX11_dates_4 35 rfl (by omega) ?_
    refine z_iconst (M := M_X11_dates) 35 dX11_dates_35 ?_
    refine z_istore (M := M_X11_dates) 36 dX11_dates_36 (ls' := [some (mR 0), some (mI a1), some (mI a2), some (mI a3), some (mI a4), some (mI 0), none, none]) (by decide) rfl ?_
    refine z_iload (M := M_X11_dates) 38 dX11_dates_38 rfl ?_
    refine z_if_eq_T (M := M_X11_dates) 40 dX11_dates_40 50 rfl (by omega) ?_
    refine z_bipush (M := M_X11_dates) 50 dX11_dates_50 ?_
    exact z_retI (M := M_X11_dates) 52 dX11_dates_52 rfl ⟨G0, (FR.rf (cs := (csB ++ [39, 40, 41])) (ss := []) (h := h0)), by omega, by omega, Or.inl ⟨fun z => cx1 z.1, rfl⟩⟩
abbrev P_X12_dates3 (h0 : m_H) (a1 a2 a3 a4 : Int) : Int → m_H → Prop := fun x h' => GI h' ∧ FR [115, 116, 117, 118, 119, 120, 121, 122, 123, 124, 125, 126, 127, 128, 129, 130, 131, 132, 133, 134, 135, 136, 138] [(108, 0), (108, 21), (108, 44), (108, 45), (108, 46), (108, 47)] h0 h' ∧ dtQ (h0 110) a1 a2 a3 a4 x
def q_X12_dates3 (h0 : m_H) (a1 a2 a3 a4 : Int) (n : Nat) : Prop := (∀ (l5 l6 l7 l8 : Int) (h : m_H), GI h → FR [115, 116, 117, 118, 119, 120, 121, 122, 123, 124, 125, 126, 127, 128, 129, 130, 131, 132, 133, 134, 135, 136, 138] [(108, 0), (108, 21), (108, 44), (108, 45), (108, 46), (108, 47)] h0 h → (-1) ≤ l6 → l6 ≤ 31 → (-1) ≤ l7 → l7 ≤ 31 → 0 ≤ l8 → l8 ≤ 32 → 0 ≤ a1 → a1 ≤ 5 → 1 ≤ a2 → a2 ≤ 99 → 0 ≤ a3 → a3 ≤ 2 → 0 ≤ a4 → a4 ≤ 2 → (gG (bR (h0 110))) → (vw3 (dtP (h0 110) a1 a2 a3) l8 l5 l6 l7) → 2 * (32 - l8) + (1) ≤ (n : Int) → m_Z oF M_X12_dates 71 [some (mR 108), some (mI a1), some (mI a2), some (mI a3), some (mI a4), some (mI l5), some (mI l6), some (mI l7), some (mI l8), none] [] h (m_QI (P_X12_dates3 h0 a1 a2 a3 a4)))
set_option maxHeartbeats 4000000 in
set_option maxRecDepth 100000 in
theorem s_X12_dates3_71 (h0 : m_H) (a1 a2 a3 a4 : Int) (G0 : GI h0) (hN : NP h0) (n : Nat) (ih : q_X12_dates3 h0 a1 a2 a3 a4 n) : ∀ (l5 l6 l7 l8 : Int) (h : m_H), GI h → FR [115, 116, 117, 118, 119, 120, 121, 122, 123, 124, 125, 126, 127, 128, 129, 130, 131, 132, 133, 134, 135, 136, 138] [(108, 0), (108, 21), (108, 44), (108, 45), (108, 46), (108, 47)] h0 h → (-1) ≤ l6 → l6 ≤ 31 → (-1) ≤ l7 → l7 ≤ 31 → 0 ≤ l8 → l8 ≤ 32 → 0 ≤ a1 → a1 ≤ 5 → 1 ≤ a2 → a2 ≤ 99 → 0 ≤ a3 → a3 ≤ 2 → 0 ≤ a4 → a4 ≤ 2 → (gG (bR (h0 110))) → (vw3 (dtP (h0 110) a1 a2 a3) l8 l5 l6 l7) → 2 * (32 - l8) + (1) ≤ ((n + 1 : Nat) : Int) → m_Z oF M_X12_dates 71 [some (mR 108), some (mI a1), some (mI a2), some (mI a3), some (mI a4), some (mI l5), some (mI l6), some (mI l7), some (mI l8), none] [] h (m_QI (P_X12_dates3 h0 a1 a2 a3 a4)) := by
  intro l5 l6 l7 l8 h G R v0 v1 v2 v3 v4 v5 v6 v7 v8 v9 v10 v11 v12 v13 i0 i1 hr
  have r_ : h 110 = h0 110 := FR.row R (fun _ => rfl)
  have E_ := bR_ok G0 hN
  have ng_ := gG_no E_ i0
  have lb_ := vw3_b v4 i1
  refine z_ok (fun ostk _ olocs => ?_)
  have ol5 : m_32 l5 := olocs 5 _ rfl
  unfold m_32 at ol5
  refine z_iload (M := M_X12_dates) 71 dX12_dates_71 rfl ?_
  refine z_bipush (M := M_X12_dates) 73 dX12_dates_73 ?_
  refine z_icmp_ge (M := M_X12_dates) 75 dX12_dates_75 182 rfl (fun c1 => ?_) (fun c1 => ?_)
  · refine z_iload (M := M_X12_dates) 182 dX12_dates_182 rfl ?_
    refine z_if_ne (M := M_X12_dates) 184 dX12_dates_184 192 rfl (fun c2 => ?_) (fun c2 => ?_)
    · refine z_iload (M := M_X12_dates) 192 dX12_dates_192 rfl ?_
      refine z_iconst (M := M_X12_dates) 194 dX12_dates_194 ?_
      refine z_icmp_ne (M := M_X12_dates) 195 dX12_dates_195 203 rfl (fun c3 => ?_) (fun c3 => ?_)
      · refine z_iload (M := M_X12_dates) 203 dX12_dates_203 rfl ?_
        exact z_retI (M := M_X12_dates) 205 dX12_dates_205 rfl ⟨G, R, Or.inr ⟨⟨⟨by omega, by omega⟩, ⟨by omega, by omega⟩, ⟨by omega, by omega⟩, ⟨by omega, by omega⟩, ng_⟩, vw3_e i1 (by omega) (Or.inr (Or.inr ⟨by omega, by omega, rfl⟩))⟩⟩
      · refine z_iload (M := M_X12_dates) 198 dX12_dates_198 rfl ?_
        refine z_goto (M := M_X12_dates) 200 dX12_dates_200 205 rfl ?_
        exact z_retI (M := M_X12_dates) 205 dX12_dates_205 rfl ⟨G, R, Or.inr ⟨⟨⟨by omega, by omega⟩, ⟨by omega, by omega⟩, ⟨by omega, by omega⟩, ⟨by omega, by omega⟩, ng_⟩, vw3_e i1 (by omega) (Or.inr (Or.inl ⟨by omega, rfl⟩))⟩⟩
    · refine z_iload (M := M_X12_dates) 187 dX12_dates_187 rfl ?_
      refine z_goto (M := M_X12_dates) 189 dX12_dates_189 205 rfl ?_
      exact z_retI (M := M_X12_dates) 205 dX12_dates_205 rfl ⟨G, R, Or.inr ⟨⟨⟨by omega, by omega⟩, ⟨by omega, by omega⟩, ⟨by omega, by omega⟩, ⟨by omega, by omega⟩, ng_⟩, vw3_e i1 (by omega) (Or.inl ⟨by omega, rfl⟩)⟩⟩
  · refine z_aload_n (M := M_X12_dates) 78 dX12_dates_78 rfl ?_
    refine z_getR (M := M_X12_dates) 79 dX12_dates_79 f_X12_13 o_108 rfl (g_108_3 G) ?_
    refine z_bipush (M := M_X12_dates) 82 dX12_dates_82 ?_
    refine z_iload (M := M_X12_dates) 84 dX12_dates_84 rfl ?_
    refine z_iaddN (M := M_X12_dates) 86 dX12_dates_86 (by omega) (by omega) ?_
    refine z_ialdG (M := M_X12_dates) 87 dX12_dates_87 o_110 (by omega) (by omega) (gw_w G (by omega) (by omega)) (fun x4 ex4 ax4 bx4 => ?_)
    refine z_iconst (M := M_X12_dates) 88 dX12_dates_88 ?_
    refine z_icmp_eq (M := M_X12_dates) 89 dX12_dates_89 176 rfl (fun c5 => ?_) (fun c5 => ?_)
    · refine z_iincN (M := M_X12_dates) 176 dX12_dates_176 (ls' := [some (mR 108), some (mI a1), some (mI a2), some (mI a3), some (mI a4), some (mI l5), some (mI l6), some (mI l7), some (mI (l8 + 1)), none]) (by decide) rfl (by (unfold m_32; decide)) (by omega) (by omega) rfl ?_
      refine z_goto (M := M_X12_dates) 179 dX12_dates_179 71 rfl ?_
      exact z_mask [true, true, true, true, true, true, true, true, true, false] rfl (ih l5 l6 l7 (l8 + 1) h G R (by omega) (by omega) (by omega) (by omega) (by omega) (by omega) (by omega) (by omega) (by omega) (by omega) (by omega) (by omega) (by omega) (by omega) i0 (vw3_n (by omega) i1 (fun z => z.1 ((dt_at r_ (by omega) ex4).trans c5))) (by omega))
    · refine z_aload_n (M := M_X12_dates) 92 dX12_dates_92 rfl ?_
      refine z_getR (M := M_X12_dates) 93 dX12_dates_93 f_X12_13 o_108 rfl (g_108_3 G) ?_
      refine z_bipush (M := M_X12_dates) 96 dX12_dates_96 ?_
      refine z_iload_n (M := M_X12_dates) 98 dX12_dates_98 rfl ?_
      refine z_iaddN (M := M_X12_dates) 99 dX12_dates_99 (by omega) (by omega) ?_
      refine z_ialdG (M := M_X12_dates) 100 dX12_dates_100 o_110 (by omega) (by omega) (gw_c G (by omega) (by omega)) (fun x6 ex6 ax6 bx6 => ?_)
      refine z_iconst (M := M_X12_dates) 101 dX12_dates_101 ?_
      refine z_icmp_eq (M := M_X12_dates) 102 dX12_dates_102 126 rfl (fun c7 => ?_) (fun c7 => ?_)
      · refine z_iload_n (M := M_X12_dates) 126 dX12_dates_126 rfl ?_
        refine z_istore (M := M_X12_dates) 127 dX12_dates_127 (ls' := [some (mR 108), some (mI a1), some (mI a2), some (mI a3), some (mI a4), some (mI l5), some (mI l6), some (mI l7), some (mI l8), some (mI a1)]) (by decide) rfl ?_
        refine z_aload_n (M := M_X12_dates) 129 dX12_dates_129 rfl ?_
        refine z_iload (M := M_X12_dates) 130 dX12_dates_130 rfl ?_
        refine z_aload_n (M := M_X12_dates) 132 dX12_dates_132 rfl ?_
        refine z_getR (M := M_X12_dates) 133 dX12_dates_133 f_X12_13 o_108 rfl (g_108_3 G) ?_
        refine z_bipush (M := M_X12_dates) 136 dX12_dates_136 ?_
        refine z_iload (M := M_X12_dates) 138 dX12_dates_138 rfl ?_
        refine z_iaddN (M := M_X12_dates) 140 dX12_dates_140 (by omega) (by omega) ?_
        refine z_ialdE (M := M_X12_dates) 141 dX12_dates_141 o_110 (by omega) (by omega) ex4 ?_
        refine z_vV (M := M_X12_dates) 142 dX12_dates_142 t_X12_findEnds l_X12_428 (m_rr_of rfl) (rest := []) (c_X12_findEnds4 h a1 x4 G ⟨by omega, by omega⟩ ⟨by omega, by omega⟩ (NP.call hN R (fun _ => rfl) (fun _ => rfl) (fun _ => rfl)) (gG_f i0 R (fun _ => rfl))) o_108 rfl rfl rfl (Nat.le_of_ble_eq_true rfl) ⟨rfl, rfl⟩ (fun h1 qx8 => ?_)
        obtain ⟨G1, S1, fx8_0, fx8_1, fx8_2⟩ := qx8
        have R1 := R.call S1 (by decide +kernel)
        refine z_aload_n (M := M_X12_dates) 145 dX12_dates_145 rfl ?_
        refine z_iload_n (M := M_X12_dates) 146 dX12_dates_146 rfl ?_
        refine z_iload_n (M := M_X12_dates) 147 dX12_dates_147 rfl ?_
        refine z_vI (M := M_X12_dates) 148 dX12_dates_148 t_X12_tells l_X12_431 (m_rr_of rfl) (rest := []) (c_X12_tells4 h1 a2 a3 G1 ⟨by omega, by omega⟩ ⟨by omega, by omega⟩ ⟨fx8_1.2, fx8_2.2⟩) o_108 rfl rfl rfl (Nat.le_of_ble_eq_true rfl) ⟨rfl, rfl⟩ (fun x9 h2 qx9 => ?_)
        obtain ⟨G2, S2, ax9, bx9, fx9⟩ := qx9
        unfold lP at fx8_1
        unfold hP at fx8_2
        rw [r_] at fx8_1 fx8_2
        have p_ : 0 < x9 ↔ dtP (h0 110) a1 a2 a3 l8.toNat := dt_iff E_ (dt_at r_ (by omega) ex4) c5 (dt_ln (by omega) (dt_ct r_ (by omega) ex6) (Or.inl ⟨Or.inl c7, rfl⟩)) fx8_1.1 fx8_2.1 (tlF_p fx9)
        have R2 := R1.call S2 (by decide +kernel)
        refine z_if_le (M := M_X12_dates) 151 dX12_dates_151 176 rfl (fun c10 => ?_) (fun c10 => ?_)
        · refine z_iincN (M := M_X12_dates) 176 dX12_dates_176 (ls' := [some (mR 108), some (mI a1), some (mI a2), some (mI a3), some (mI a4), some (mI l5), some (mI l6), some (mI l7), some (mI (l8 + 1)), some (mI a1)]) (by decide) rfl (by (unfold m_32; decide)) (by omega) (by omega) rfl ?_
          refine z_goto (M := M_X12_dates) 179 dX12_dates_179 71 rfl ?_
          exact z_mask [true, true, true, true, true, true, true, true, true, false] rfl (ih l5 l6 l7 (l8 + 1) h2 G2 R2 (by omega) (by omega) (by omega) (by omega) (by omega) (by omega) (by omega) (by omega) (by omega) (by omega) (by omega) (by omega) (by omega) (by omega) i0 (vw3_n (by omega) i1 (fun z => absurd (p_.mpr z) (by omega))) (by omega))
        · refine z_iincN (M := M_X12_dates) 154 dX12_dates_154 (ls' := [some (mR 108), some (mI a1), some (mI a2), some (mI a3), some (mI a4), some (mI (l5 + 1)), some (mI l6), some (mI l7), some (mI l8), some (mI a1)]) (by decide) rfl (by (unfold m_32; decide)) (by omega) (by omega) rfl ?_
          refine z_iload (M := M_X12_dates) 157 dX12_dates_157 rfl ?_
          refine z_iconst (M := M_X12_dates) 159 dX12_dates_159 ?_
          refine z_icmp_ne (M := M_X12_dates) 160 dX12_dates_160 168 rfl (fun c12 => ?_) (fun c12 => ?_)
          · refine z_iload (M := M_X12_dates) 168 dX12_dates_168 rfl ?_
            refine z_istore (M := M_X12_dates) 170 dX12_dates_170 (ls' := [some (mR 108), some (mI a1), some (mI a2), some (mI a3), some (mI a4), some (mI (l5 + 1)), some (mI l6), some (mI l7), some (mI l8), some (mI a1)]) (by decide) rfl ?_
            refine z_iload (M := M_X12_dates) 172 dX12_dates_172 rfl ?_
            refine z_istore (M := M_X12_dates) 174 dX12_dates_174 (ls' := [some (mR 108), some (mI a1), some (mI a2), some (mI a3), some (mI a4), some (mI (l5 + 1)), some (mI l6), some (mI l8), some (mI l8), some (mI a1)]) (by decide) rfl ?_
            refine z_iincN (M := M_X12_dates) 176 dX12_dates_176 (ls' := [some (mR 108), some (mI a1), some (mI a2), some (mI a3), some (mI a4), some (mI (l5 + 1)), some (mI l6), some (mI l8), some (mI (l8 + 1)), some (mI a1)]) (by decide) rfl (by (unfold m_32; decide)) (by omega) (by omega) rfl ?_
            refine z_goto (M := M_X12_dates) 179 dX12_dates_179 71 rfl ?_
            exact z_mask [true, true, true, true, true, true, true, true, true, false] rfl (ih (l5 + 1) l6 l8 (l8 + 1) h2 G2 R2 (by omega) (by omega) (by omega) (by omega) (by omega) (by omega) (by omega) (by omega) (by omega) (by omega) (by omega) (by omega) (by omega) (by omega) i0 (vw3_k (by omega) i1 (p_.mp (by omega)) (by omega)) (by omega))
          · refine z_iload (M := M_X12_dates) 163 dX12_dates_163 rfl ?_
            refine z_goto (M := M_X12_dates) 165 dX12_dates_165 170 rfl ?_
            refine z_istore (M := M_X12_dates) 170 dX12_dates_170 (ls' := [some (mR 108), some (mI a1), some (mI a2), some (mI a3), some (mI a4), some (mI (l5 + 1)), some (mI l8), some (mI l7), some (mI l8), some (mI a1)]) (by decide) rfl ?_
            refine z_iload (M := M_X12_dates) 172 dX12_dates_172 rfl ?_
            refine z_istore (M := M_X12_dates) 174 dX12_dates_174 (ls' := [some (mR 108), some (mI a1), some (mI a2), some (mI a3), some (mI a4), some (mI (l5 + 1)), some (mI l8), some (mI l8), some (mI l8), some (mI a1)]) (by decide) rfl ?_
            refine z_iincN (M := M_X12_dates) 176 dX12_dates_176 (ls' := [some (mR 108), some (mI a1), some (mI a2), some (mI a3), some (mI a4), some (mI (l5 + 1)), some (mI l8), some (mI l8), some (mI (l8 + 1)), some (mI a1)]) (by decide) rfl (by (unfold m_32; decide)) (by omega) (by omega) rfl ?_
            refine z_goto (M := M_X12_dates) 179 dX12_dates_179 71 rfl ?_
            exact z_mask [true, true, true, true, true, true, true, true, true, false] rfl (ih (l5 + 1) l8 l8 (l8 + 1) h2 G2 R2 (by omega) (by omega) (by omega) (by omega) (by omega) (by omega) (by omega) (by omega) (by omega) (by omega) (by omega) (by omega) (by omega) (by omega) i0 (vw3_l (by omega) i1 (p_.mp (by omega)) (by omega)) (by omega))
      · refine z_iload (M := M_X12_dates) 105 dX12_dates_105 rfl ?_
        refine z_aload_n (M := M_X12_dates) 107 dX12_dates_107 rfl ?_
        refine z_getR (M := M_X12_dates) 108 dX12_dates_108 f_X12_13 o_108 rfl (g_108_3 G) ?_
        refine z_bipush (M := M_X12_dates) 111 dX12_dates_111 ?_
        refine z_iload_n (M := M_X12_dates) 113 dX12_dates_113 rfl ?_
        refine z_iaddN (M := M_X12_dates) 114 dX12_dates_114 (by omega) (by omega) ?_
        refine z_ialdE (M := M_X12_dates) 115 dX12_dates_115 o_110 (by omega) (by omega) ex6 ?_
        refine z_icmp_lt (M := M_X12_dates) 116 dX12_dates_116 126 rfl (fun c13 => ?_) (fun c13 => ?_)
        · refine z_iload_n (M := M_X12_dates) 126 dX12_dates_126 rfl ?_
          refine z_istore (M := M_X12_dates) 127 dX12_dates_127 (ls' := [some (mR 108), some (mI a1), some (mI a2), some (mI a3), some (mI a4), some (mI l5), some (mI l6), some (mI l7), some (mI l8), some (mI a1)]) (by decide) rfl ?_
          refine z_aload_n (M := M_X12_dates) 129 dX12_dates_129 rfl ?_
          refine z_iload (M := M_X12_dates) 130 dX12_dates_130 rfl ?_
          refine z_aload_n (M := M_X12_dates) 132 dX12_dates_132 rfl ?_
          refine z_getR (M := M_X12_dates) 133 dX12_dates_133 f_X12_13 o_108 rfl (g_108_3 G) ?_
          refine z_bipush (M := M_X12_dates) 136 dX12_dates_136 ?_
          refine z_iload (M := M_X12_dates) 138 dX12_dates_138 rfl ?_
          refine z_iaddN (M := M_X12_dates) 140 dX12_dates_140 (by omega) (by omega) ?_
          refine z_ialdE (M := M_X12_dates) 141 dX12_dates_141 o_110 (by omega) (by omega) ex4 ?_
          refine z_vV (M := M_X12_dates) 142 dX12_dates_142 t_X12_findEnds l_X12_428 (m_rr_of rfl) (rest := []) (c_X12_findEnds4 h a1 x4 G ⟨by omega, by omega⟩ ⟨by omega, by omega⟩ (NP.call hN R (fun _ => rfl) (fun _ => rfl) (fun _ => rfl)) (gG_f i0 R (fun _ => rfl))) o_108 rfl rfl rfl (Nat.le_of_ble_eq_true rfl) ⟨rfl, rfl⟩ (fun h3 qx14 => ?_)
          obtain ⟨G3, S3, fx14_0, fx14_1, fx14_2⟩ := qx14
          have R3 := R.call S3 (by decide +kernel)
          refine z_aload_n (M := M_X12_dates) 145 dX12_dates_145 rfl ?_
          refine z_iload_n (M := M_X12_dates) 146 dX12_dates_146 rfl ?_
          refine z_iload_n (M := M_X12_dates) 147 dX12_dates_147 rfl ?_
          refine z_vI (M := M_X12_dates) 148 dX12_dates_148 t_X12_tells l_X12_431 (m_rr_of rfl) (rest := []) (c_X12_tells4 h3 a2 a3 G3 ⟨by omega, by omega⟩ ⟨by omega, by omega⟩ ⟨fx14_1.2, fx14_2.2⟩) o_108 rfl rfl rfl (Nat.le_of_ble_eq_true rfl) ⟨rfl, rfl⟩ (fun x15 h4 qx15 => ?_)
          obtain ⟨G4, S4, ax15, bx15, fx15⟩ := qx15
          unfold lP at fx14_1
          unfold hP at fx14_2
          rw [r_] at fx14_1 fx14_2
          have p_ : 0 < x15 ↔ dtP (h0 110) a1 a2 a3 l8.toNat := dt_iff E_ (dt_at r_ (by omega) ex4) c5 (dt_ln (by omega) (dt_ct r_ (by omega) ex6) (Or.inl ⟨Or.inr c13, rfl⟩)) fx14_1.1 fx14_2.1 (tlF_p fx15)
          have R4 := R3.call S4 (by decide +kernel)
          refine z_if_le (M := M_X12_dates) 151 dX12_dates_151 176 rfl (fun c16 => ?_) (fun c16 => ?_)
          · refine z_iincN (M := M_X12_dates) 176 dX12_dates_176 (ls' := [some (mR 108), some (mI a1), some (mI a2), some (mI a3), some (mI a4), some (mI l5), some (mI l6), some (mI l7), some (mI (l8 + 1)), some (mI a1)]) (by decide) rfl (by (unfold m_32; decide)) (by omega) (by omega) rfl ?_
            refine z_goto (M := M_X12_dates) 179 dX12_dates_179 71 rfl ?_
            exact z_mask [true, true, true, true, true, true, true, true, true, false] rfl (ih l5 l6 l7 (l8 + 1) h4 G4 R4 (by omega) (by omega) (by omega) (by omega) (by omega) (by omega) (by omega) (by omega) (by omega) (by omega) (by omega) (by omega) (by omega) (by omega) i0 (vw3_n (by omega) i1 (fun z => absurd (p_.mpr z) (by omega))) (by omega))
          · refine z_iincN (M := M_X12_dates) 154 dX12_dates_154 (ls' := [some (mR 108), some (mI a1), some (mI a2), some (mI a3), some (mI a4), some (mI (l5 + 1)), some (mI l6), some (mI l7), some (mI l8), some (mI a1)]) (by decide) rfl (by (unfold m_32; decide)) (by omega) (by omega) rfl ?_
            refine z_iload (M := M_X12_dates) 157 dX12_dates_157 rfl ?_
            refine z_iconst (M := M_X12_dates) 159 dX12_dates_159 ?_
            refine z_icmp_ne (M := M_X12_dates) 160 dX12_dates_160 168 rfl (fun c18 => ?_) (fun c18 => ?_)
            · refine z_iload (M := M_X12_dates) 168 dX12_dates_168 rfl ?_
              refine z_istore (M := M_X12_dates) 170 dX12_dates_170 (ls' := [some (mR 108), some (mI a1), some (mI a2), some (mI a3), some (mI a4), some (mI (l5 + 1)), some (mI l6), some (mI l7), some (mI l8), some (mI a1)]) (by decide) rfl ?_
              refine z_iload (M := M_X12_dates) 172 dX12_dates_172 rfl ?_
              refine z_istore (M := M_X12_dates) 174 dX12_dates_174 (ls' := [some (mR 108), some (mI a1), some (mI a2), some (mI a3), some (mI a4), some (mI (l5 + 1)), some (mI l6), some (mI l8), some (mI l8), some (mI a1)]) (by decide) rfl ?_
              refine z_iincN (M := M_X12_dates) 176 dX12_dates_176 (ls' := [some (mR 108), some (mI a1), some (mI a2), some (mI a3), some (mI a4), some (mI (l5 + 1)), some (mI l6), some (mI l8), some (mI (l8 + 1)), some (mI a1)]) (by decide) rfl (by (unfold m_32; decide)) (by omega) (by omega) rfl ?_
              refine z_goto (M := M_X12_dates) 179 dX12_dates_179 71 rfl ?_
              exact z_mask [true, true, true, true, true, true, true, true, true, false] rfl (ih (l5 + 1) l6 l8 (l8 + 1) h4 G4 R4 (by omega) (by omega) (by omega) (by omega) (by omega) (by omega) (by omega) (by omega) (by omega) (by omega) (by omega) (by omega) (by omega) (by omega) i0 (vw3_k (by omega) i1 (p_.mp (by omega)) (by omega)) (by omega))
            · refine z_iload (M := M_X12_dates) 163 dX12_dates_163 rfl ?_
              refine z_goto (M := M_X12_dates) 165 dX12_dates_165 170 rfl ?_
              refine z_istore (M := M_X12_dates) 170 dX12_dates_170 (ls' := [some (mR 108), some (mI a1), some (mI a2), some (mI a3), some (mI a4), some (mI (l5 + 1)), some (mI l8), some (mI l7), some (mI l8), some (mI a1)]) (by decide) rfl ?_
              refine z_iload (M := M_X12_dates) 172 dX12_dates_172 rfl ?_
              refine z_istore (M := M_X12_dates) 174 dX12_dates_174 (ls' := [some (mR 108), some (mI a1), some (mI a2), some (mI a3), some (mI a4), some (mI (l5 + 1)), some (mI l8), some (mI l8), some (mI l8), some (mI a1)]) (by decide) rfl ?_
              refine z_iincN (M := M_X12_dates) 176 dX12_dates_176 (ls' := [some (mR 108), some (mI a1), some (mI a2), some (mI a3), some (mI a4), some (mI (l5 + 1)), some (mI l8), some (mI l8), some (mI (l8 + 1)), some (mI a1)]) (by decide) rfl (by (unfold m_32; decide)) (by omega) (by omega) rfl ?_
              refine z_goto (M := M_X12_dates) 179 dX12_dates_179 71 rfl ?_
              exact z_mask [true, true, true, true, true, true, true, true, true, false] rfl (ih (l5 + 1) l8 l8 (l8 + 1) h4 G4 R4 (by omega) (by omega) (by omega) (by omega) (by omega) (by omega) (by omega) (by omega) (by omega) (by omega) (by omega) (by omega) (by omega) (by omega) i0 (vw3_l (by omega) i1 (p_.mp (by omega)) (by omega)) (by omega))
        · refine z_bipush (M := M_X12_dates) 119 dX12_dates_119 ?_
          refine z_iload_n (M := M_X12_dates) 121 dX12_dates_121 rfl ?_
          refine z_iaddN (M := M_X12_dates) 122 dX12_dates_122 (by omega) (by omega) ?_
          refine z_goto (M := M_X12_dates) 123 dX12_dates_123 127 rfl ?_
          refine z_istore (M := M_X12_dates) 127 dX12_dates_127 (ls' := [some (mR 108), some (mI a1), some (mI a2), some (mI a3), some (mI a4), some (mI l5), some (mI l6), some (mI l7), some (mI l8), some (mI (6 + a1))]) (by decide) rfl ?_
          refine z_aload_n (M := M_X12_dates) 129 dX12_dates_129 rfl ?_
          refine z_iload (M := M_X12_dates) 130 dX12_dates_130 rfl ?_
          refine z_aload_n (M := M_X12_dates) 132 dX12_dates_132 rfl ?_
          refine z_getR (M := M_X12_dates) 133 dX12_dates_133 f_X12_13 o_108 rfl (g_108_3 G) ?_
          refine z_bipush (M := M_X12_dates) 136 dX12_dates_136 ?_
          refine z_iload (M := M_X12_dates) 138 dX12_dates_138 rfl ?_
          refine z_iaddN (M := M_X12_dates) 140 dX12_dates_140 (by omega) (by omega) ?_
          refine z_ialdE (M := M_X12_dates) 141 dX12_dates_141 o_110 (by omega) (by omega) ex4 ?_
          refine z_vV (M := M_X12_dates) 142 dX12_dates_142 t_X12_findEnds l_X12_428 (m_rr_of rfl) (rest := []) (c_X12_findEnds4 h (6 + a1) x4 G ⟨by omega, by omega⟩ ⟨by omega, by omega⟩ (NP.call hN R (fun _ => rfl) (fun _ => rfl) (fun _ => rfl)) (gG_f i0 R (fun _ => rfl))) o_108 rfl rfl rfl (Nat.le_of_ble_eq_true rfl) ⟨rfl, rfl⟩ (fun h5 qx19 => ?_)
          obtain ⟨G5, S5, fx19_0, fx19_1, fx19_2⟩ := qx19
          have R5 := R.call S5 (by decide +kernel)
          refine z_aload_n (M := M_X12_dates) 145 dX12_dates_145 rfl ?_
          refine z_iload_n (M := M_X12_dates) 146 dX12_dates_146 rfl ?_
          refine z_iload_n (M := M_X12_dates) 147 dX12_dates_147 rfl ?_
          refine z_vI (M := M_X12_dates) 148 dX12_dates_148 t_X12_tells l_X12_431 (m_rr_of rfl) (rest := []) (c_X12_tells4 h5 a2 a3 G5 ⟨by omega, by omega⟩ ⟨by omega, by omega⟩ ⟨fx19_1.2, fx19_2.2⟩) o_108 rfl rfl rfl (Nat.le_of_ble_eq_true rfl) ⟨rfl, rfl⟩ (fun x20 h6 qx20 => ?_)
          obtain ⟨G6, S6, ax20, bx20, fx20⟩ := qx20
          unfold lP at fx19_1
          unfold hP at fx19_2
          rw [r_] at fx19_1 fx19_2
          have p_ : 0 < x20 ↔ dtP (h0 110) a1 a2 a3 l8.toNat := dt_iff E_ (dt_at r_ (by omega) ex4) c5 (dt_ln (by omega) (dt_ct r_ (by omega) ex6) (Or.inr ⟨by omega, rfl⟩)) fx19_1.1 fx19_2.1 (tlF_p fx20)
          have R6 := R5.call S6 (by decide +kernel)
          refine z_if_le (M := M_X12_dates) 151 dX12_dates_151 176 rfl (fun c21 => ?_) (fun c21 => ?_)
          · refine z_iincN (M := M_X12_dates) 176 dX12_dates_176 (ls' := [some (mR 108), some (mI a1), some (mI a2), some (mI a3), some (mI a4), some (mI l5), some (mI l6), some (mI l7), some (mI (l8 + 1)), some (mI (6 + a1))]) (by decide) rfl (by (unfold m_32; decide)) (by omega) (by omega) rfl ?_
            refine z_goto (M := M_X12_dates) 179 dX12_dates_179 71 rfl ?_
            exact z_mask [true, true, true, true, true, true, true, true, true, false] rfl (ih l5 l6 l7 (l8 + 1) h6 G6 R6 (by omega) (by omega) (by omega) (by omega) (by omega) (by omega) (by omega) (by omega) (by omega) (by omega) (by omega) (by omega) (by omega) (by omega) i0 (vw3_n (by omega) i1 (fun z => absurd (p_.mpr z) (by omega))) (by omega))
          · refine z_iincN (M := M_X12_dates) 154 dX12_dates_154 (ls' := [some (mR 108), some (mI a1), some (mI a2), some (mI a3), some (mI a4), some (mI (l5 + 1)), some (mI l6), some (mI l7), some (mI l8), some (mI (6 + a1))]) (by decide) rfl (by (unfold m_32; decide)) (by omega) (by omega) rfl ?_
            refine z_iload (M := M_X12_dates) 157 dX12_dates_157 rfl ?_
            refine z_iconst (M := M_X12_dates) 159 dX12_dates_159 ?_
            refine z_icmp_ne (M := M_X12_dates) 160 dX12_dates_160 168 rfl (fun c23 => ?_) (fun c23 => ?_)
            · refine z_iload (M := M_X12_dates) 168 dX12_dates_168 rfl ?_
              refine z_istore (M := M_X12_dates) 170 dX12_dates_170 (ls' := [some (mR 108), some (mI a1), some (mI a2), some (mI a3), some (mI a4), some (mI (l5 + 1)), some (mI l6), some (mI l7), some (mI l8), some (mI (6 + a1))]) (by decide) rfl ?_
              refine z_iload (M := M_X12_dates) 172 dX12_dates_172 rfl ?_
              refine z_istore (M := M_X12_dates) 174 dX12_dates_174 (ls' := [some (mR 108), some (mI a1), some (mI a2), some (mI a3), some (mI a4), some (mI (l5 + 1)), some (mI l6), some (mI l8), some (mI l8), some (mI (6 + a1))]) (by decide) rfl ?_
              refine z_iincN (M := M_X12_dates) 176 dX12_dates_176 (ls' := [some (mR 108), some (mI a1), some (mI a2), some (mI a3), some (mI a4), some (mI (l5 + 1)), some (mI l6), some (mI l8), some (mI (l8 + 1)), some (mI (6 + a1))]) (by decide) rfl (by (unfold m_32; decide)) (by omega) (by omega) rfl ?_
              refine z_goto (M := M_X12_dates) 179 dX12_dates_179 71 rfl ?_
              exact z_mask [true, true, true, true, true, true, true, true, true, false] rfl (ih (l5 + 1) l6 l8 (l8 + 1) h6 G6 R6 (by omega) (by omega) (by omega) (by omega) (by omega) (by omega) (by omega) (by omega) (by omega) (by omega) (by omega) (by omega) (by omega) (by omega) i0 (vw3_k (by omega) i1 (p_.mp (by omega)) (by omega)) (by omega))
            · refine z_iload (M := M_X12_dates) 163 dX12_dates_163 rfl ?_
              refine z_goto (M := M_X12_dates) 165 dX12_dates_165 170 rfl ?_
              refine z_istore (M := M_X12_dates) 170 dX12_dates_170 (ls' := [some (mR 108), some (mI a1), some (mI a2), some (mI a3), some (mI a4), some (mI (l5 + 1)), some (mI l8), some (mI l7), some (mI l8), some (mI (6 + a1))]) (by decide) rfl ?_
              refine z_iload (M := M_X12_dates) 172 dX12_dates_172 rfl ?_
              refine z_istore (M := M_X12_dates) 174 dX12_dates_174 (ls' := [some (mR 108), some (mI a1), some (mI a2), some (mI a3), some (mI a4), some (mI (l5 + 1)), some (mI l8), some (mI l8), some (mI l8), some (mI (6 + a1))]) (by decide) rfl ?_
              refine z_iincN (M := M_X12_dates) 176 dX12_dates_176 (ls' := [some (mR 108), some (mI a1), some (mI a2), some (mI a3), some (mI a4), some (mI (l5 + 1)), some (mI l8), some (mI l8), some (mI (l8 + 1)), some (mI (6 + a1))]) (by decide) rfl (by (unfold m_32; decide)) (by omega) (by omega) rfl ?_
              refine z_goto (M := M_X12_dates) 179 dX12_dates_179 71 rfl ?_
              exact z_mask [true, true, true, true, true, true, true, true, true, false] rfl (ih (l5 + 1) l8 l8 (l8 + 1) h6 G6 R6 (by omega) (by omega) (by omega) (by omega) (by omega) (by omega) (by omega) (by omega) (by omega) (by omega) (by omega) (by omega) (by omega) (by omega) i0 (vw3_l (by omega) i1 (p_.mp (by omega)) (by omega)) (by omega))
theorem a_X12_dates3 (h0 : m_H) (a1 a2 a3 a4 : Int) (G0 : GI h0) (hN : NP h0) : ∀ n, q_X12_dates3 h0 a1 a2 a3 a4 n := by
  intro n
  induction n with
  | zero => unfold q_X12_dates3; intros; omega
  | succ n ih => exact s_X12_dates3_71 h0 a1 a2 a3 a4 G0 hN n ih
set_option maxHeartbeats 4000000 in
set_option maxRecDepth 100000 in
theorem c_X12_dates3 (h0 : m_H) (a1 a2 a3 a4 : Int) (G0 : GI h0) (hN : NP h0) : m_CI M_X12_dates [mR 108, mI a1, mI a2, mI a3, mI a4] h0 (P_X12_dates3 h0 a1 a2 a3 a4) := by
  refine m_CI_of ⟨by decide, rfl, by simp [m_arg, m_isL, M_X12_dates], ⟨rfl, rfl⟩, rfl, rfl⟩ (ls := [some (mR 108), some (mI a1), some (mI a2), some (mI a3), some (mI a4), none, none, none, none, none]) rfl ?_
  have ih := a_X12_dates3 h0 a1 a2 a3 a4 G0 hN 72
  refine z_ok (fun _ _ ok => ?_)
  have oa1 : m_32 a1 := ok 1 _ rfl
  unfold m_32 at oa1
  have oa2 : m_32 a2 := ok 2 _ rfl
  unfold m_32 at oa2
  have oa3 : m_32 a3 := ok 3 _ rfl
  unfold m_32 at oa3
  have oa4 : m_32 a4 := ok 4 _ rfl
  unfold m_32 at oa4
  refine z_aload_n (M := M_X12_dates) 0 dX12_dates_0 rfl ?_
  refine z_iconst (M := M_X12_dates) 1 dX12_dates_1 ?_
  refine z_putIH (M := M_X12_dates) 2 dX12_dates_2 p_X12_133 o_108 rfl (u_108_0 G0) ((FR.rf (cs := [115, 116, 117, 118, 119, 120, 121, 122, 123, 124, 125, 126, 127, 128, 129, 130, 131, 132, 133, 134, 135, 136, 138]) (ss := [(108, 0), (108, 21), (108, 44), (108, 45), (108, 46), (108, 47)]) (h := h0)).up rfl) (fun h1 E1 G1 R1 => ?_)
  refine z_iload_n (M := M_X12_dates) 5 dX12_dates_5 rfl ?_
  refine z_sI (M := M_X12_dates) 6 dX12_dates_6 t_X12_isThing l_X12_166 (m_rr_of rfl) (rest := []) (c_X12_isThing h1 a1 G1) rfl rfl (Nat.le_of_ble_eq_true rfl) ⟨rfl, rfl⟩ (fun x1 h2 qx1 => ?_)
  obtain ⟨rfl, ⟨rfl, cx1⟩ | ⟨rfl, cx1⟩⟩ := qx1
  · refine z_if_eq_F (M := M_X12_dates) 9 dX12_dates_9 56 rfl (by omega) ?_
    refine z_iload_n (M := M_X12_dates) 12 dX12_dates_12 rfl ?_
    refine z_i2l (M := M_X12_dates) 13 dX12_dates_13 ?_
    refine z_lconst (M := M_X12_dates) 14 dX12_dates_14 (v := 1) ?_
    refine z_ldc2 (M := M_X12_dates) 15 dX12_dates_15 k_X12_180 ?_
    refine z_sI (M := M_X12_dates) 18 dX12_dates_18 t_X12_in l_X12_143 (m_rr_of rfl) (rest := []) (c_X12_in h1 a2 1 99 G1) rfl rfl (Nat.le_of_ble_eq_true rfl) ⟨rfl, rfl⟩ (fun x2 h3 qx2 => ?_)
    obtain ⟨rfl, ⟨rfl, cx2⟩ | ⟨rfl, cx2⟩⟩ := qx2
    · refine z_if_eq_F (M := M_X12_dates) 21 dX12_dates_21 56 rfl (by omega) ?_
      refine z_iload_n (M := M_X12_dates) 24 dX12_dates_24 rfl ?_
      refine z_i2l (M := M_X12_dates) 25 dX12_dates_25 ?_
      refine z_lconst (M := M_X12_dates) 26 dX12_dates_26 (v := 0) ?_
      refine z_ldc2 (M := M_X12_dates) 27 dX12_dates_27 k_X12_182 ?_
      refine z_sI (M := M_X12_dates) 30 dX12_dates_30 t_X12_in l_X12_143 (m_rr_of rfl) (rest := []) (c_X12_in h1 a3 0 2 G1) rfl rfl (Nat.le_of_ble_eq_true rfl) ⟨rfl, rfl⟩ (fun x3 h4 qx3 => ?_)
      obtain ⟨rfl, ⟨rfl, cx3⟩ | ⟨rfl, cx3⟩⟩ := qx3
      · refine z_if_eq_F (M := M_X12_dates) 33 dX12_dates_33 56 rfl (by omega) ?_
        refine z_iload (M := M_X12_dates) 36 dX12_dates_36 rfl ?_
        refine z_i2l (M := M_X12_dates) 38 dX12_dates_38 ?_
        refine z_lconst (M := M_X12_dates) 39 dX12_dates_39 (v := 0) ?_
        refine z_ldc2 (M := M_X12_dates) 40 dX12_dates_40 k_X12_182 ?_
        refine z_sI (M := M_X12_dates) 43 dX12_dates_43 t_X12_in l_X12_143 (m_rr_of rfl) (rest := []) (c_X12_in h1 a4 0 2 G1) rfl rfl (Nat.le_of_ble_eq_true rfl) ⟨rfl, rfl⟩ (fun x4 h5 qx4 => ?_)
        obtain ⟨rfl, ⟨rfl, cx4⟩ | ⟨rfl, cx4⟩⟩ := qx4
        · refine z_if_eq_F (M := M_X12_dates) 46 dX12_dates_46 56 rfl (by omega) ?_
          refine z_aload_n (M := M_X12_dates) 49 dX12_dates_49 rfl ?_
          refine z_vI (M := M_X12_dates) 50 dX12_dates_50 t_X12_canBeNow l_X12_377 (m_rr_of rfl) (rest := []) (c_X12_canBeNow2 h1 G1 (NP.call hN R1 (fun _ => rfl) (fun _ => rfl) (fun _ => rfl))) o_108 rfl rfl rfl (Nat.le_of_ble_eq_true rfl) ⟨rfl, rfl⟩ (fun x5 h6 qx5 => ?_)
          obtain ⟨G6, S6, ax5, bx5, fx5_0, fx5_1⟩ := qx5
          rw [(FR.row R1 (fun _ => rfl) : h1 110 = h0 110)] at fx5_1
          have R6 := R1.call S6 (by decide +kernel)
          refine z_if_ne (M := M_X12_dates) 53 dX12_dates_53 59 rfl (fun c6 => ?_) (fun c6 => ?_)
          · have an := fx5_0 (by omega)
            refine z_iconst (M := M_X12_dates) 59 dX12_dates_59 ?_
            refine z_istore (M := M_X12_dates) 60 dX12_dates_60 (ls' := [some (mR 108), some (mI a1), some (mI a2), some (mI a3), some (mI a4), some (mI 0), none, none, none, none]) (by decide) rfl ?_
            refine z_iconst (M := M_X12_dates) 62 dX12_dates_62 ?_
            refine z_istore (M := M_X12_dates) 63 dX12_dates_63 (ls' := [some (mR 108), some (mI a1), some (mI a2), some (mI a3), some (mI a4), some (mI 0), some (mI (-1)), none, none, none]) (by decide) rfl ?_
            refine z_iconst (M := M_X12_dates) 65 dX12_dates_65 ?_
            refine z_istore (M := M_X12_dates) 66 dX12_dates_66 (ls' := [some (mR 108), some (mI a1), some (mI a2), some (mI a3), some (mI a4), some (mI 0), some (mI (-1)), some (mI (-1)), none, none]) (by decide) rfl ?_
            refine z_iconst (M := M_X12_dates) 68 dX12_dates_68 ?_
            refine z_istore (M := M_X12_dates) 69 dX12_dates_69 (ls' := [some (mR 108), some (mI a1), some (mI a2), some (mI a3), some (mI a4), some (mI 0), some (mI (-1)), some (mI (-1)), some (mI 0), none]) (by decide) rfl ?_
            exact z_mask [true, true, true, true, true, true, true, true, true, false] rfl (ih 0 (-1) (-1) 0 h6 G6 R6 (by omega) (by omega) (by omega) (by omega) (by omega) (by omega) (by omega) (by omega) (by omega) (by omega) (by omega) (by omega) (by omega) (by omega) (gG_b an R1 (fun _ => rfl)) vw3_0 (by omega))
          · refine z_bipush (M := M_X12_dates) 56 dX12_dates_56 ?_
            exact z_retI (M := M_X12_dates) 58 dX12_dates_58 rfl ⟨G6, R6, Or.inl ⟨fun z => z.2.2.2.2 (fx5_1 (by omega)), rfl⟩⟩
        · refine z_if_eq_T (M := M_X12_dates) 46 dX12_dates_46 56 rfl (by omega) ?_
          refine z_bipush (M := M_X12_dates) 56 dX12_dates_56 ?_
          exact z_retI (M := M_X12_dates) 58 dX12_dates_58 rfl ⟨G1, R1, Or.inl ⟨fun z => cx4 z.2.2.2.1, rfl⟩⟩
      · refine z_if_eq_T (M := M_X12_dates) 33 dX12_dates_33 56 rfl (by omega) ?_
        refine z_bipush (M := M_X12_dates) 56 dX12_dates_56 ?_
        exact z_retI (M := M_X12_dates) 58 dX12_dates_58 rfl ⟨G1, R1, Or.inl ⟨fun z => cx3 z.2.2.1, rfl⟩⟩
    · refine z_if_eq_T (M := M_X12_dates) 21 dX12_dates_21 56 rfl (by omega) ?_
      refine z_bipush (M := M_X12_dates) 56 dX12_dates_56 ?_
      exact z_retI (M := M_X12_dates) 58 dX12_dates_58 rfl ⟨G1, R1, Or.inl ⟨fun z => cx2 z.2.1, rfl⟩⟩
  · refine z_if_eq_T (M := M_X12_dates) 9 dX12_dates_9 56 rfl (by omega) ?_
    refine z_bipush (M := M_X12_dates) 56 dX12_dates_56 ?_
    exact z_retI (M := M_X12_dates) 58 dX12_dates_58 rfl ⟨G1, R1, Or.inl ⟨fun z => cx1 z.1, rfl⟩⟩
/-! when -/
def wnC (r : Nat → Int) (t l : Int) : Nat → Int := fun i => if i = t.toNat then l else r (42 + i)
def wnP (r : Nat → Int) (t : Int) (j : Nat) : Prop := 1 ≤ j ∧ ¬ gnP r (fun i => r (10 + i)) (wnC r t (j : Int)) (cF r)
def wnK (r : Nat → Int) (t w : Int) : Prop := (0 ≤ t ∧ t ≤ 5) ∧ (0 ≤ w ∧ w ≤ 2) ∧ r (42 + t.toNat) = -1
def wnQ (r : Nat → Int) (t w x : Int) : Prop := (¬ wnK r t w ∧ x = -1) ∨ (wnK r t w ∧ x = vwF (wnP r t) w)
theorem wn_iff {r : Nat → Int} {t l x x3 : Int} (hl : 1 ≤ l) (e : x3 = cF r) (f : x = 1 ↔ ¬ gain (bL r (fun i => r (10 + i)) (wnC r t l) x3)) : x = 1 ↔ wnP r t l.toNat := by
  subst e
  rw [f]
  unfold wnP gnP
  rw [show ((l.toNat : Nat) : Int) = l by omega]
  exact ⟨fun z => ⟨by omega, z⟩, fun z => z.2⟩
/-- the trial ledger, but for one cut -/
def wnL (h : m_H) (r : Nat → Int) (t : Int) : Prop := RB r ∧ (∀ j, j < 32 → h 10 j = r (10 + j)) ∧ (∀ j, j < 6 → j ≠ t.toNat → h 11 j = r (42 + j)) ∧ h 9 7 = r 0 ∧ LE 9 h r ∧ SB (h 9 9) r ∧ CB (h 9 8) r
theorem wnL_0 {h : m_H} {r : Nat → Int} {t : Int} (R : LR 9 h r) : wnL h r t := ⟨R.1, fun j hj => R.2.1 j hj, fun j hj _ => R.2.2.1 j hj, R.2.2.2.2.1, R.2.2.2.2.2.1, R.2.2.2.2.2.2.2, R.2.2.2.2.2.2.1⟩
theorem wnL_to {h h' : m_H} {r : Nat → Int} {t : Int} (W : wnL h r t) (e : ∀ i, i < 8 → h' (9 + i) = h (9 + i)) : wnL h' r t := by
  obtain ⟨b, k, c, n, q, sb, cb⟩ := W
  have e0 : h' 9 = h 9 := e 0 (by decide)
  have e1 : h' 10 = h 10 := e 1 (by decide)
  have e2 : h' 11 = h 11 := e 2 (by decide)
  refine ⟨b, fun j hj => by rw [e1]; exact k j hj, fun j hj hn => by rw [e2]; exact c j hj hn, by rw [e0]; exact n, fun x hx => ?_, by rw [e0]; exact sb, by rw [e0]; exact cb⟩
  rw [e 3 (by decide), e 4 (by decide), e 5 (by decide), e 6 (by decide)]; exact q x hx
theorem wnL_in {h h' : m_H} {r : Nat → Int} {t l : Int} (W : wnL h r t) (E : h' = m_up h 11 t.toNat l) : LK 9 h' r (fun j => r (10 + j)) (wnC r t l) ∧ CB (h' 9 8) r ∧ wnL h' r t := by
  obtain ⟨b, k, c, n, q, sb, cb⟩ := W
  have e : ∀ d, d ≠ 11 → h' d = h d := fun d hd => upo E hd
  have e9 := e 9 (by decide)
  have e10 := e 10 (by decide)
  have q' : LE 9 h' r := fun x hx => by
    rw [e (9 + 3) (by decide), e (9 + 4) (by decide), e (9 + 5) (by decide), e (9 + 6) (by decide)]; exact q x hx
  refine ⟨⟨b, fun j hj => by rw [show 9 + 1 = 10 by decide, e10]; exact k j hj, fun j hj => ?_, by rw [e9]; exact n, q', by rw [e9]; exact sb⟩, by rw [e9]; exact cb, b, fun j hj => by rw [e10]; exact k j hj, fun j hj hn => ?_, by rw [e9]; exact n, q', by rw [e9]; exact sb, by rw [e9]; exact cb⟩
  · show h' 11 j = if j = t.toNat then l else r (42 + j)
    by_cases g : j = t.toNat
    · rw [if_pos g, g]; exact upE E
    · rw [if_neg g, upN E (fun z => g z.2)]; exact c j hj g
  · rw [upN E (fun z => hn z.2)]; exact c j hj hn
/-- the reference's keepers and cuts, but for one -/
def wnM (r : Nat → Int) (t : Int) (h : m_H) : Prop := h 110 = r ∧ (∀ j, j < 32 → h 122 j = r (10 + j)) ∧ ∀ j, j < 6 → j ≠ t.toNat → h 123 j = r (42 + j)
theorem wnM_in {h h' : m_H} {r : Nat → Int} {t l : Int} (W : wnM r t h) (E : h' = m_up h 123 t.toNat l) : RX r (fun j => r (10 + j)) (wnC r t l) h' := by
  obtain ⟨a, k, c⟩ := W
  refine ⟨(upo E (by decide)).trans a, fun j hj => by rw [upo E (by decide)]; exact k j hj, fun j hj => ?_⟩
  show h' 123 j = if j = t.toNat then l else r (42 + j)
  by_cases g : j = t.toNat
  · rw [if_pos g, g]; exact upE E
  · rw [if_neg g, upN E (fun z => g z.2)]; exact c j hj g
theorem wnM_of {h : m_H} {r : Nat → Int} {t l : Int} (X : RX r (fun j => r (10 + j)) (wnC r t l) h) : wnM r t h := ⟨X.1, X.2.1, fun j hj hn => (X.2.2 j hj).trans (if_neg hn)⟩
theorem wnM_0 {h : m_H} {r : Nat → Int} {t : Int} (X : RX r (fun j => r (10 + j)) (fun j => r (42 + j)) h) : wnM r t h := ⟨X.1, X.2.1, fun j hj _ => X.2.2 j hj⟩
theorem vw3_1 {P : Nat → Prop} (n : ¬ P 0) : vw3 P 1 0 (-1) (-1) := vw3_n (l := 0) (by decide) vw3_0 n
theorem LX.when {h h1 : m_H} {t w x y : Int} {cs : List Nat} {ss : List (Nat × Nat)} (G : GI h) (N : NP h) (S1 : FR cs ss h h1) (A : wnQ (h 110) t w x) (B : wnQ (h1 110) t w y) (o : out 110 110 cs ss = true) : x = y := by
  rw [rowz S1 (fr_out o (by decide) (by decide))] at B
  rcases A with ⟨a1, a2⟩ | ⟨a1, a2⟩ <;> rcases B with ⟨b1, b2⟩ | ⟨b1, b2⟩
  · omega
  · exact absurd b1 a1
  · exact absurd a1 b1
  · rw [a2, b2]
abbrev P_X11_when3 (h0 : m_H) (a1 a2 : Int) : Int → m_H → Prop := fun x h' => GI h' ∧ FR (csB ++ [10, 11, 12, 13, 14, 15, 16, 39, 40, 41]) [(9, 7), (9, 8), (9, 9)] h0 h' ∧ (-1) ≤ x ∧ x ≤ 63 ∧ wnQ (h0 110) a1 a2 x
def q_X11_when3 (h0 : m_H) (a1 a2 : Int) (n : Nat) : Prop := (∀ (l3 l4 : Int) (h : m_H), GI h → FR (csB ++ [10, 11, 12, 13, 14, 15, 16, 39, 40, 41]) [(9, 7), (9, 8), (9, 9)] h0 h → 1 ≤ l4 → l4 ≤ 32 → 0 ≤ a1 → a1 ≤ 5 → 0 ≤ a2 → a2 ≤ 2 → (wnL h (h0 110) a1 ∧ h0 110 (42 + a1.toNat) = -1 ∧ bsI (wnP (h0 110) a1) l3 l4) → 2 * (32 - l4) + (1) ≤ (n : Int) → m_Z oF M_X11_when 47 [some (mR 0), some (mI a1), some (mI a2), some (mI l3), some (mI l4)] [] h (m_QI (P_X11_when3 h0 a1 a2)))
set_option maxHeartbeats 4000000 in
set_option maxRecDepth 100000 in
theorem s_X11_when3_47 (h0 : m_H) (a1 a2 : Int) (G0 : GI h0) (hR : LR 1 h0 (h0 110)) (hN : NP h0) (n : Nat) (ih : q_X11_when3 h0 a1 a2 n) : ∀ (l3 l4 : Int) (h : m_H), GI h → FR (csB ++ [10, 11, 12, 13, 14, 15, 16, 39, 40, 41]) [(9, 7), (9, 8), (9, 9)] h0 h → 1 ≤ l4 → l4 ≤ 32 → 0 ≤ a1 → a1 ≤ 5 → 0 ≤ a2 → a2 ≤ 2 → (wnL h (h0 110) a1 ∧ h0 110 (42 + a1.toNat) = -1 ∧ bsI (wnP (h0 110) a1) l3 l4) → 2 * (32 - l4) + (1) ≤ ((n + 1 : Nat) : Int) → m_Z oF M_X11_when 47 [some (mR 0), some (mI a1), some (mI a2), some (mI l3), some (mI l4)] [] h (m_QI (P_X11_when3 h0 a1 a2)) := by
  intro l3 l4 h G R v0 v1 v2 v3 v4 v5 i1 hr
  refine z_ok (fun ostk _ olocs => ?_)
  have ol3 : m_32 l3 := olocs 3 _ rfl
  unfold m_32 at ol3
  refine z_iload (M := M_X11_when) 47 dX11_when_47 rfl ?_
  refine z_bipush (M := M_X11_when) 49 dX11_when_49 ?_
  refine z_icmp_ge (M := M_X11_when) 51 dX11_when_51 99 rfl (fun c1 => ?_) (fun c1 => ?_)
  · refine z_iload_n (M := M_X11_when) 99 dX11_when_99 rfl ?_
    refine z_iload_n (M := M_X11_when) 100 dX11_when_100 rfl ?_
    refine z_sI (M := M_X11_when) 101 dX11_when_101 t_X11_ofWeeks l_X11_326 (m_rr_of rfl) (rest := []) (c_X11_ofWeeks3 h l3 a2 G) rfl rfl (Nat.le_of_ble_eq_true rfl) ⟨rfl, rfl⟩ (fun x2 h1 qx2 => ?_)
    obtain ⟨G1, S1, ax2, bx2, fx2⟩ := qx2
    have R1 := R.call S1 (by decide +kernel)
    exact z_retI (M := M_X11_when) 104 dX11_when_104 rfl ⟨G1, R1, by omega, by omega, Or.inr ⟨⟨⟨by omega, by omega⟩, ⟨by omega, by omega⟩, i1.2.1⟩, fx2.trans (bsI_F i1.2.2 (by omega) a2)⟩⟩
  · refine z_aload_n (M := M_X11_when) 54 dX11_when_54 rfl ?_
    refine z_getR (M := M_X11_when) 55 dX11_when_55 f_X11_16 o_0 rfl (g_0_1 G) ?_
    refine z_getR (M := M_X11_when) 58 dX11_when_58 f_X11_129 o_9 rfl (g_9_1 G) ?_
    refine z_iload_n (M := M_X11_when) 61 dX11_when_61 rfl ?_
    refine z_iload (M := M_X11_when) 62 dX11_when_62 rfl ?_
    refine z_iastH (M := M_X11_when) 64 dX11_when_64 o_11 (by omega) (by omega) (u_11 G (by omega) (by omega)) (R.up rfl) (fun h2 E2 G2 R2 => ?_)
    refine z_aload_n (M := M_X11_when) 65 dX11_when_65 rfl ?_
    refine z_getR (M := M_X11_when) 66 dX11_when_66 f_X11_46 o_0 rfl (g_0_6 G2) ?_
    refine z_aload_n (M := M_X11_when) 69 dX11_when_69 rfl ?_
    refine z_getR (M := M_X11_when) 70 dX11_when_70 f_X11_16 o_0 rfl (g_0_1 G2) ?_
    refine z_aload_n (M := M_X11_when) 73 dX11_when_73 rfl ?_
    refine z_getR (M := M_X11_when) 74 dX11_when_74 f_X11_16 o_0 rfl (g_0_1 G2) ?_
    refine z_getIV (M := M_X11_when) 77 dX11_when_77 f_X11_346 o_9 (by decide) (fun x3 ex3 => ?_)
    refine z_ok (fun ox3 _ _ => ?_)
    have ox3 := ox3.1; unfold m_ok m_32 at ox3
    have wl_ := wnL_in i1.1 E2
    have c3_ := cF_eq (L := 9) wl_.1.1 wl_.2.1 ex3 ox3
    refine z_vI (M := M_X11_when) 80 dX11_when_80 t_X9_canBe l_X11_343 (m_rr_of rfl) (rest := []) (c_X9_canBe2 h2 9 x3 (h0 110) (fun j => h0 110 (10 + j)) (wnC (h0 110) a1 l4) (Or.inr (Or.inl rfl)) G2 wl_.1 (EN_of G0 hN) (SH_of G0) (bL_ok G0 hN (kp_of G0))) o_38 rfl rfl rfl (Nat.le_of_ble_eq_true rfl) ⟨rfl, rfl⟩ (fun x4 h3 qx4 => ?_)
    obtain ⟨G3, S3, ax4, bx4, fx4⟩ := qx4
    have p_ := wn_iff (t := a1) (by omega) c3_ fx4.1
    have w3_ := wnL_to wl_.2.2 (led_same (L := 9) (Or.inr (Or.inl rfl)) S3)
    have R3 := R2.call S3 (by decide +kernel)
    refine z_if_eq (M := M_X11_when) 83 dX11_when_83 93 rfl (fun c5 => ?_) (fun c5 => ?_)
    · refine z_iincN (M := M_X11_when) 93 dX11_when_93 (ls' := [some (mR 0), some (mI a1), some (mI a2), some (mI l3), some (mI (l4 + 1))]) (by decide) rfl (by (unfold m_32; decide)) (by omega) (by omega) rfl ?_
      refine z_goto (M := M_X11_when) 96 dX11_when_96 47 rfl ?_
      exact z_mask [true, true, true, true, true] rfl (ih l3 (l4 + 1) h3 G3 R3 (by omega) (by omega) (by omega) (by omega) (by omega) (by omega) ⟨w3_, i1.2.1, bsI_n i1.2.2 (by omega) (fun z => absurd (p_.mpr z) (by omega))⟩ (by omega))
    · refine z_iload_n (M := M_X11_when) 86 dX11_when_86 rfl ?_
      refine z_iconst (M := M_X11_when) 87 dX11_when_87 ?_
      refine z_iload (M := M_X11_when) 88 dX11_when_88 rfl ?_
      refine z_ishl (M := M_X11_when) 90 dX11_when_90 ?_
      refine z_topm (fun x6 ex6 ox6 => ?_)
      unfold m_32 at ox6
      refine z_ior (M := M_X11_when) 91 dX11_when_91 ?_
      refine z_topm (fun x7 ex7 ox7 => ?_)
      unfold m_32 at ox7
      refine z_istore_n (M := M_X11_when) 92 dX11_when_92 (ls' := [some (mR 0), some (mI a1), some (mI a2), some (mI x7), some (mI l4)]) (by decide) rfl ?_
      refine z_iincN (M := M_X11_when) 93 dX11_when_93 (ls' := [some (mR 0), some (mI a1), some (mI a2), some (mI x7), some (mI (l4 + 1))]) (by decide) rfl (by (unfold m_32; decide)) (by omega) (by omega) rfl ?_
      refine z_goto (M := M_X11_when) 96 dX11_when_96 47 rfl ?_
      exact z_mask [true, true, true, true, true] rfl (ih x7 (l4 + 1) h3 G3 R3 (by omega) (by omega) (by omega) (by omega) (by omega) (by omega) ⟨w3_, i1.2.1, bsI_y i1.2.2 (by omega) (by omega) (p_.mp (by omega)) ex6 ex7⟩ (by omega))
theorem a_X11_when3 (h0 : m_H) (a1 a2 : Int) (G0 : GI h0) (hR : LR 1 h0 (h0 110)) (hN : NP h0) : ∀ n, q_X11_when3 h0 a1 a2 n := by
  intro n
  induction n with
  | zero => unfold q_X11_when3; intros; omega
  | succ n ih => exact s_X11_when3_47 h0 a1 a2 G0 hR hN n ih
set_option maxHeartbeats 4000000 in
set_option maxRecDepth 100000 in
theorem c_X11_when3 (h0 : m_H) (a1 a2 : Int) (G0 : GI h0) (hR : LR 1 h0 (h0 110)) (hN : NP h0) : m_CI M_X11_when [mR 0, mI a1, mI a2] h0 (P_X11_when3 h0 a1 a2) := by
  refine m_CI_of ⟨by decide, rfl, by simp [m_arg, m_isL, M_X11_when], ⟨rfl, rfl⟩, rfl, rfl⟩ (ls := [some (mR 0), some (mI a1), some (mI a2), none, none]) rfl ?_
  have ih := a_X11_when3 h0 a1 a2 G0 hR hN 70
  refine z_ok (fun _ _ ok => ?_)
  have oa1 : m_32 a1 := ok 1 _ rfl
  unfold m_32 at oa1
  have oa2 : m_32 a2 := ok 2 _ rfl
  unfold m_32 at oa2
  refine z_iload_n (M := M_X11_when) 0 dX11_when_0 rfl ?_
  refine z_sI (M := M_X11_when) 1 dX11_when_1 t_X11_isThing l_X11_126 (m_rr_of rfl) (rest := []) (c_X11_isThing h0 a1 G0) rfl rfl (Nat.le_of_ble_eq_true rfl) ⟨rfl, rfl⟩ (fun x1 h1 qx1 => ?_)
  obtain ⟨rfl, ⟨rfl, cx1⟩ | ⟨rfl, cx1⟩⟩ := qx1
  · refine z_if_eq_F (M := M_X11_when) 4 dX11_when_4 29 rfl (by omega) ?_
    refine z_iload_n (M := M_X11_when) 7 dX11_when_7 rfl ?_
    refine z_iconst (M := M_X11_when) 8 dX11_when_8 ?_
    refine z_iconst (M := M_X11_when) 9 dX11_when_9 ?_
    refine z_sI (M := M_X11_when) 10 dX11_when_10 t_X11_within l_X11_112 (m_rr_of rfl) (rest := []) (c_X11_within h0 a2 0 2 G0) rfl rfl (Nat.le_of_ble_eq_true rfl) ⟨rfl, rfl⟩ (fun x2 h2 qx2 => ?_)
    obtain ⟨rfl, ⟨rfl, cx2⟩ | ⟨rfl, cx2⟩⟩ := qx2
    · refine z_if_eq_F (M := M_X11_when) 13 dX11_when_13 29 rfl (by omega) ?_
      refine z_aload_n (M := M_X11_when) 16 dX11_when_16 rfl ?_
      refine z_getR (M := M_X11_when) 17 dX11_when_17 f_X11_12 o_0 rfl (g_0_0 G0) ?_
      refine z_getR (M := M_X11_when) 20 dX11_when_20 f_X11_129 o_1 rfl (g_1_1 G0) ?_
      refine z_iload_n (M := M_X11_when) 23 dX11_when_23 rfl ?_
      refine z_ialdG (M := M_X11_when) 24 dX11_when_24 o_3 (by omega) (by omega) (g_3 G0 (by omega)) (fun x3 ex3 ax3 bx3 => ?_)
      refine z_iconst (M := M_X11_when) 25 dX11_when_25 ?_
      refine z_icmp_eq (M := M_X11_when) 26 dX11_when_26 31 rfl (fun c4 => ?_) (fun c4 => ?_)
      · refine z_aload_n (M := M_X11_when) 31 dX11_when_31 rfl ?_
        refine z_getR (M := M_X11_when) 32 dX11_when_32 f_X11_16 o_0 rfl (g_0_1 G0) ?_
        refine z_aload_n (M := M_X11_when) 35 dX11_when_35 rfl ?_
        refine z_getR (M := M_X11_when) 36 dX11_when_36 f_X11_12 o_0 rfl (g_0_0 G0) ?_
        refine z_vV (M := M_X11_when) 39 dX11_when_39 t_X4_copyFrom l_X11_197 (m_rr_of rfl) (rest := []) (c_X4_copyFrom2 h0 9 1 (Or.inr (Or.inl rfl)) (Or.inl rfl) G0) o_9 rfl rfl rfl (Nat.le_of_ble_eq_true rfl) ⟨rfl, rfl⟩ (fun h3 qx5 => ?_)
        obtain ⟨G3, S3, lc_⟩ := qx5
        have k_ : h0 110 (42 + a1.toNat) = -1 := (lr_c hR (show a1.toNat < 6 by omega)).trans (ex3.trans c4)
        have R3 := (FR.rf (cs := (csB ++ [10, 11, 12, 13, 14, 15, 16, 39, 40, 41])) (ss := [(9, 7), (9, 8), (9, 9)]) (h := h0)).call S3 (by decide +kernel)
        refine z_iconst (M := M_X11_when) 42 dX11_when_42 ?_
        refine z_istore_n (M := M_X11_when) 43 dX11_when_43 (ls' := [some (mR 0), some (mI a1), some (mI a2), some (mI 0), none]) (by decide) rfl ?_
        refine z_iconst (M := M_X11_when) 44 dX11_when_44 ?_
        refine z_istore (M := M_X11_when) 45 dX11_when_45 (ls' := [some (mR 0), some (mI a1), some (mI a2), some (mI 0), some (mI 1)]) (by decide) rfl ?_
        exact z_mask [true, true, true, true, true] rfl (ih 0 1 h3 G3 R3 (by omega) (by omega) (by omega) (by omega) (by omega) (by omega) ⟨wnL_0 (hR.copy lc_), k_, bsI_0 (fun j hj z => by have := z.1; omega)⟩ (by omega))
      · refine z_iconst (M := M_X11_when) 29 dX11_when_29 ?_
        exact z_retI (M := M_X11_when) 30 dX11_when_30 rfl ⟨G0, (FR.rf (cs := (csB ++ [10, 11, 12, 13, 14, 15, 16, 39, 40, 41])) (ss := [(9, 7), (9, 8), (9, 9)]) (h := h0)), by omega, by omega, Or.inl ⟨fun z => c4 (ex3.symm.trans ((lr_c hR (show a1.toNat < 6 by omega)).symm.trans z.2.2)), rfl⟩⟩
    · refine z_if_eq_T (M := M_X11_when) 13 dX11_when_13 29 rfl (by omega) ?_
      refine z_iconst (M := M_X11_when) 29 dX11_when_29 ?_
      exact z_retI (M := M_X11_when) 30 dX11_when_30 rfl ⟨G0, (FR.rf (cs := (csB ++ [10, 11, 12, 13, 14, 15, 16, 39, 40, 41])) (ss := [(9, 7), (9, 8), (9, 9)]) (h := h0)), by omega, by omega, Or.inl ⟨fun z => cx2 z.2.1, rfl⟩⟩
  · refine z_if_eq_T (M := M_X11_when) 4 dX11_when_4 29 rfl (by omega) ?_
    refine z_iconst (M := M_X11_when) 29 dX11_when_29 ?_
    exact z_retI (M := M_X11_when) 30 dX11_when_30 rfl ⟨G0, (FR.rf (cs := (csB ++ [10, 11, 12, 13, 14, 15, 16, 39, 40, 41])) (ss := [(9, 7), (9, 8), (9, 9)]) (h := h0)), by omega, by omega, Or.inl ⟨fun z => cx1 z.1, rfl⟩⟩
abbrev P_X12_when3 (h0 : m_H) (a1 a2 : Int) : Int → m_H → Prop := fun x h' => GI h' ∧ FR [115, 116, 117, 118, 119, 120, 121, 122, 123, 124, 125, 126, 127, 128, 129, 130, 131, 132, 133, 134] [(108, 0), (108, 21)] h0 h' ∧ wnQ (h0 110) a1 a2 x
def q_X12_when3 (h0 : m_H) (a1 a2 : Int) (n : Nat) : Prop := (∀ (l3 l4 l5 l6 : Int) (h : m_H), GI h → FR [115, 116, 117, 118, 119, 120, 121, 122, 123, 124, 125, 126, 127, 128, 129, 130, 131, 132, 133, 134] [(108, 0), (108, 21)] h0 h → (-1) ≤ l4 → l4 ≤ 31 → (-1) ≤ l5 → l5 ≤ 31 → 1 ≤ l6 → l6 ≤ 32 → 0 ≤ a1 → a1 ≤ 5 → 0 ≤ a2 → a2 ≤ 2 → (wnM (h0 110) a1 h ∧ h0 110 (42 + a1.toNat) = -1 ∧ vw3 (wnP (h0 110) a1) l6 l3 l4 l5) → 2 * (32 - l6) + (1) ≤ (n : Int) → m_Z oF M_X12_when 65 [some (mR 108), some (mI a1), some (mI a2), some (mI l3), some (mI l4), some (mI l5), some (mI l6)] [] h (m_QI (P_X12_when3 h0 a1 a2)))
set_option maxHeartbeats 4000000 in
set_option maxRecDepth 100000 in
theorem s_X12_when3_65 (h0 : m_H) (a1 a2 : Int) (G0 : GI h0) (hN : NP h0) (n : Nat) (ih : q_X12_when3 h0 a1 a2 n) : ∀ (l3 l4 l5 l6 : Int) (h : m_H), GI h → FR [115, 116, 117, 118, 119, 120, 121, 122, 123, 124, 125, 126, 127, 128, 129, 130, 131, 132, 133, 134] [(108, 0), (108, 21)] h0 h → (-1) ≤ l4 → l4 ≤ 31 → (-1) ≤ l5 → l5 ≤ 31 → 1 ≤ l6 → l6 ≤ 32 → 0 ≤ a1 → a1 ≤ 5 → 0 ≤ a2 → a2 ≤ 2 → (wnM (h0 110) a1 h ∧ h0 110 (42 + a1.toNat) = -1 ∧ vw3 (wnP (h0 110) a1) l6 l3 l4 l5) → 2 * (32 - l6) + (1) ≤ ((n + 1 : Nat) : Int) → m_Z oF M_X12_when 65 [some (mR 108), some (mI a1), some (mI a2), some (mI l3), some (mI l4), some (mI l5), some (mI l6)] [] h (m_QI (P_X12_when3 h0 a1 a2)) := by
  intro l3 l4 l5 l6 h G R v0 v1 v2 v3 v4 v5 v6 v7 v8 v9 i1 hr
  have lb_ := vw3_b (by omega) i1.2.2
  refine z_ok (fun ostk _ olocs => ?_)
  have ol3 : m_32 l3 := olocs 3 _ rfl
  unfold m_32 at ol3
  refine z_iload (M := M_X12_when) 65 dX12_when_65 rfl ?_
  refine z_bipush (M := M_X12_when) 67 dX12_when_67 ?_
  refine z_icmp_ge (M := M_X12_when) 69 dX12_when_69 119 rfl (fun c1 => ?_) (fun c1 => ?_)
  · refine z_iload_n (M := M_X12_when) 119 dX12_when_119 rfl ?_
    refine z_if_ne (M := M_X12_when) 120 dX12_when_120 127 rfl (fun c2 => ?_) (fun c2 => ?_)
    · refine z_iload_n (M := M_X12_when) 127 dX12_when_127 rfl ?_
      refine z_iconst (M := M_X12_when) 128 dX12_when_128 ?_
      refine z_icmp_ne (M := M_X12_when) 129 dX12_when_129 137 rfl (fun c3 => ?_) (fun c3 => ?_)
      · refine z_iload (M := M_X12_when) 137 dX12_when_137 rfl ?_
        exact z_retI (M := M_X12_when) 139 dX12_when_139 rfl ⟨G, R, Or.inr ⟨⟨⟨by omega, by omega⟩, ⟨by omega, by omega⟩, i1.2.1⟩, vw3_e i1.2.2 (by omega) (Or.inr (Or.inr ⟨by omega, by omega, rfl⟩))⟩⟩
      · refine z_iload (M := M_X12_when) 132 dX12_when_132 rfl ?_
        refine z_goto (M := M_X12_when) 134 dX12_when_134 139 rfl ?_
        exact z_retI (M := M_X12_when) 139 dX12_when_139 rfl ⟨G, R, Or.inr ⟨⟨⟨by omega, by omega⟩, ⟨by omega, by omega⟩, i1.2.1⟩, vw3_e i1.2.2 (by omega) (Or.inr (Or.inl ⟨by omega, rfl⟩))⟩⟩
    · refine z_iload_n (M := M_X12_when) 123 dX12_when_123 rfl ?_
      refine z_goto (M := M_X12_when) 124 dX12_when_124 139 rfl ?_
      exact z_retI (M := M_X12_when) 139 dX12_when_139 rfl ⟨G, R, Or.inr ⟨⟨⟨by omega, by omega⟩, ⟨by omega, by omega⟩, i1.2.1⟩, vw3_e i1.2.2 (by omega) (Or.inl ⟨by omega, rfl⟩)⟩⟩
  · refine z_aload_n (M := M_X12_when) 72 dX12_when_72 rfl ?_
    refine z_getR (M := M_X12_when) 73 dX12_when_73 f_X12_58 o_108 rfl (g_108_28 G) ?_
    refine z_iload_n (M := M_X12_when) 76 dX12_when_76 rfl ?_
    refine z_iload (M := M_X12_when) 77 dX12_when_77 rfl ?_
    refine z_iastH (M := M_X12_when) 79 dX12_when_79 o_123 (by omega) (by omega) (u_123 G (by omega) (by omega)) (R.up rfl) (fun h1 E1 G1 R1 => ?_)
    refine z_aload_n (M := M_X12_when) 80 dX12_when_80 rfl ?_
    refine z_aload_n (M := M_X12_when) 81 dX12_when_81 rfl ?_
    refine z_vI (M := M_X12_when) 82 dX12_when_82 t_X12_counting l_X12_370 (m_rr_of rfl) (rest := [mR 108]) (c_X12_countingX h1 G1) o_108 rfl rfl rfl (Nat.le_of_ble_eq_true rfl) ⟨rfl, rfl⟩ (fun x4 h2 qx4 => ?_)
    obtain ⟨G2, S2, fx4_0⟩ := qx4
    have R2 := R1.call S2 (by decide +kernel)
    refine z_ok (fun ox4 _ _ => ?_)
    have ox4 := ox4.1; unfold m_ok m_32 at ox4
    refine z_vI (M := M_X12_when) 85 dX12_when_85 t_X12_canBe l_X12_374 (m_rr_of rfl) (rest := []) (c_X12_canBe2 h2 x4 G2 (NP.call hN R2 (fun _ => rfl) (fun _ => rfl) (fun _ => rfl))) o_108 rfl rfl rfl (Nat.le_of_ble_eq_true rfl) ⟨rfl, rfl⟩ (fun x5 h3 qx5 => ?_)
    obtain ⟨G3, S3, ax5, bx5, fx5_0, fx5_1⟩ := qx5
    have X1_ := wnM_in i1.1 E1
    have X2_ := X1_.to (FR.row S2 (fun _ => rfl)) (FR.row S2 (fun _ => rfl)) (FR.row S2 (fun _ => rfl))
    have n2_ := NP.call hN R2 (fun _ => rfl) (fun _ => rfl) (fun _ => rfl)
    have g_ := gn_iff X2_ G2 n2_ ax5 bx5 fx5_0 fx5_1
    have p_ := wn_iff (t := a1) (by omega) (fx4_0.trans (congrArg cF X1_.1)) g_
    have X3_ := X2_.to (FR.row S3 (fun _ => rfl)) (FR.row S3 (fun _ => rfl)) (FR.row S3 (fun _ => rfl))
    have R3 := R2.call S3 (by decide +kernel)
    refine z_if_eq (M := M_X12_when) 88 dX12_when_88 113 rfl (fun c6 => ?_) (fun c6 => ?_)
    · refine z_iincN (M := M_X12_when) 113 dX12_when_113 (ls' := [some (mR 108), some (mI a1), some (mI a2), some (mI l3), some (mI l4), some (mI l5), some (mI (l6 + 1))]) (by decide) rfl (by (unfold m_32; decide)) (by omega) (by omega) rfl ?_
      refine z_goto (M := M_X12_when) 116 dX12_when_116 65 rfl ?_
      exact z_mask [true, true, true, true, true, true, true] rfl (ih l3 l4 l5 (l6 + 1) h3 G3 R3 (by omega) (by omega) (by omega) (by omega) (by omega) (by omega) (by omega) (by omega) (by omega) (by omega) ⟨wnM_of X3_, i1.2.1, vw3_n (by omega) i1.2.2 (fun z => absurd (p_.mpr z) (by omega))⟩ (by omega))
    · refine z_iincN (M := M_X12_when) 91 dX12_when_91 (ls' := [some (mR 108), some (mI a1), some (mI a2), some (mI (l3 + 1)), some (mI l4), some (mI l5), some (mI l6)]) (by decide) rfl (by (unfold m_32; decide)) (by omega) (by omega) rfl ?_
      refine z_iload (M := M_X12_when) 94 dX12_when_94 rfl ?_
      refine z_iconst (M := M_X12_when) 96 dX12_when_96 ?_
      refine z_icmp_ne (M := M_X12_when) 97 dX12_when_97 105 rfl (fun c8 => ?_) (fun c8 => ?_)
      · refine z_iload (M := M_X12_when) 105 dX12_when_105 rfl ?_
        refine z_istore (M := M_X12_when) 107 dX12_when_107 (ls' := [some (mR 108), some (mI a1), some (mI a2), some (mI (l3 + 1)), some (mI l4), some (mI l5), some (mI l6)]) (by decide) rfl ?_
        refine z_iload (M := M_X12_when) 109 dX12_when_109 rfl ?_
        refine z_istore (M := M_X12_when) 111 dX12_when_111 (ls' := [some (mR 108), some (mI a1), some (mI a2), some (mI (l3 + 1)), some (mI l4), some (mI l6), some (mI l6)]) (by decide) rfl ?_
        refine z_iincN (M := M_X12_when) 113 dX12_when_113 (ls' := [some (mR 108), some (mI a1), some (mI a2), some (mI (l3 + 1)), some (mI l4), some (mI l6), some (mI (l6 + 1))]) (by decide) rfl (by (unfold m_32; decide)) (by omega) (by omega) rfl ?_
        refine z_goto (M := M_X12_when) 116 dX12_when_116 65 rfl ?_
        exact z_mask [true, true, true, true, true, true, true] rfl (ih (l3 + 1) l4 l6 (l6 + 1) h3 G3 R3 (by omega) (by omega) (by omega) (by omega) (by omega) (by omega) (by omega) (by omega) (by omega) (by omega) ⟨wnM_of X3_, i1.2.1, vw3_k (by omega) i1.2.2 (p_.mp (by omega)) (by omega)⟩ (by omega))
      · refine z_iload (M := M_X12_when) 100 dX12_when_100 rfl ?_
        refine z_goto (M := M_X12_when) 102 dX12_when_102 107 rfl ?_
        refine z_istore (M := M_X12_when) 107 dX12_when_107 (ls' := [some (mR 108), some (mI a1), some (mI a2), some (mI (l3 + 1)), some (mI l6), some (mI l5), some (mI l6)]) (by decide) rfl ?_
        refine z_iload (M := M_X12_when) 109 dX12_when_109 rfl ?_
        refine z_istore (M := M_X12_when) 111 dX12_when_111 (ls' := [some (mR 108), some (mI a1), some (mI a2), some (mI (l3 + 1)), some (mI l6), some (mI l6), some (mI l6)]) (by decide) rfl ?_
        refine z_iincN (M := M_X12_when) 113 dX12_when_113 (ls' := [some (mR 108), some (mI a1), some (mI a2), some (mI (l3 + 1)), some (mI l6), some (mI l6), some (mI (l6 + 1))]) (by decide) rfl (by (unfold m_32; decide)) (by omega) (by omega) rfl ?_
        refine z_goto (M := M_X12_when) 116 dX12_when_116 65 rfl ?_
        exact z_mask [true, true, true, true, true, true, true] rfl (ih (l3 + 1) l6 l6 (l6 + 1) h3 G3 R3 (by omega) (by omega) (by omega) (by omega) (by omega) (by omega) (by omega) (by omega) (by omega) (by omega) ⟨wnM_of X3_, i1.2.1, vw3_l (by omega) i1.2.2 (p_.mp (by omega)) (by omega)⟩ (by omega))
theorem a_X12_when3 (h0 : m_H) (a1 a2 : Int) (G0 : GI h0) (hN : NP h0) : ∀ n, q_X12_when3 h0 a1 a2 n := by
  intro n
  induction n with
  | zero => unfold q_X12_when3; intros; omega
  | succ n ih => exact s_X12_when3_65 h0 a1 a2 G0 hN n ih
set_option maxHeartbeats 4000000 in
set_option maxRecDepth 100000 in
theorem c_X12_when3 (h0 : m_H) (a1 a2 : Int) (G0 : GI h0) (hN : NP h0) : m_CI M_X12_when [mR 108, mI a1, mI a2] h0 (P_X12_when3 h0 a1 a2) := by
  refine m_CI_of ⟨by decide, rfl, by simp [m_arg, m_isL, M_X12_when], ⟨rfl, rfl⟩, rfl, rfl⟩ (ls := [some (mR 108), some (mI a1), some (mI a2), none, none, none, none]) rfl ?_
  have ih := a_X12_when3 h0 a1 a2 G0 hN 70
  refine z_ok (fun _ _ ok => ?_)
  have oa1 : m_32 a1 := ok 1 _ rfl
  unfold m_32 at oa1
  have oa2 : m_32 a2 := ok 2 _ rfl
  unfold m_32 at oa2
  refine z_aload_n (M := M_X12_when) 0 dX12_when_0 rfl ?_
  refine z_iconst (M := M_X12_when) 1 dX12_when_1 ?_
  refine z_putIH (M := M_X12_when) 2 dX12_when_2 p_X12_133 o_108 rfl (u_108_0 G0) ((FR.rf (cs := [115, 116, 117, 118, 119, 120, 121, 122, 123, 124, 125, 126, 127, 128, 129, 130, 131, 132, 133, 134]) (ss := [(108, 0), (108, 21)]) (h := h0)).up rfl) (fun h1 E1 G1 R1 => ?_)
  refine z_iload_n (M := M_X12_when) 5 dX12_when_5 rfl ?_
  refine z_sI (M := M_X12_when) 6 dX12_when_6 t_X12_isThing l_X12_166 (m_rr_of rfl) (rest := []) (c_X12_isThing h1 a1 G1) rfl rfl (Nat.le_of_ble_eq_true rfl) ⟨rfl, rfl⟩ (fun x1 h2 qx1 => ?_)
  obtain ⟨rfl, ⟨rfl, cx1⟩ | ⟨rfl, cx1⟩⟩ := qx1
  · refine z_if_eq_F (M := M_X12_when) 9 dX12_when_9 48 rfl (by omega) ?_
    refine z_iload_n (M := M_X12_when) 12 dX12_when_12 rfl ?_
    refine z_i2l (M := M_X12_when) 13 dX12_when_13 ?_
    refine z_lconst (M := M_X12_when) 14 dX12_when_14 (v := 0) ?_
    refine z_ldc2 (M := M_X12_when) 15 dX12_when_15 k_X12_182 ?_
    refine z_sI (M := M_X12_when) 18 dX12_when_18 t_X12_in l_X12_143 (m_rr_of rfl) (rest := []) (c_X12_in h1 a2 0 2 G1) rfl rfl (Nat.le_of_ble_eq_true rfl) ⟨rfl, rfl⟩ (fun x2 h3 qx2 => ?_)
    obtain ⟨rfl, ⟨rfl, cx2⟩ | ⟨rfl, cx2⟩⟩ := qx2
    · refine z_if_eq_F (M := M_X12_when) 21 dX12_when_21 48 rfl (by omega) ?_
      refine z_aload_n (M := M_X12_when) 24 dX12_when_24 rfl ?_
      refine z_getR (M := M_X12_when) 25 dX12_when_25 f_X12_13 o_108 rfl (g_108_3 G1) ?_
      refine z_bipush (M := M_X12_when) 28 dX12_when_28 ?_
      refine z_iload_n (M := M_X12_when) 30 dX12_when_30 rfl ?_
      refine z_sI (M := M_X12_when) 31 dX12_when_31 t_X12_isThing l_X12_166 (m_rr_of rfl) (rest := [mI 42, mR 110]) (c_X12_isThing h1 a1 G1) rfl rfl (Nat.le_of_ble_eq_true rfl) ⟨rfl, rfl⟩ (fun x3 h4 qx3 => ?_)
      obtain ⟨rfl, ⟨rfl, cx3⟩ | ⟨rfl, cx3⟩⟩ := qx3
      · refine z_if_eq_F (M := M_X12_when) 34 dX12_when_34 41 rfl (by omega) ?_
        refine z_iload_n (M := M_X12_when) 37 dX12_when_37 rfl ?_
        refine z_goto (M := M_X12_when) 38 dX12_when_38 42 rfl ?_
        refine z_iaddN (M := M_X12_when) 42 dX12_when_42 (by omega) (by omega) ?_
        refine z_ialdG (M := M_X12_when) 43 dX12_when_43 o_110 (by omega) (by omega) (gw_c G1 (by omega) (by omega)) (fun x4 ex4 ax4 bx4 => ?_)
        refine z_iconst (M := M_X12_when) 44 dX12_when_44 ?_
        refine z_icmp_eq (M := M_X12_when) 45 dX12_when_45 50 rfl (fun c5 => ?_) (fun c5 => ?_)
        · refine z_aload_n (M := M_X12_when) 50 dX12_when_50 rfl ?_
          refine z_vV (M := M_X12_when) 51 dX12_when_51 t_X12_asIs l_X12_367 (m_rr_of rfl) (rest := []) (c_X12_asIsX h1 G1) o_108 rfl rfl rfl (Nat.le_of_ble_eq_true rfl) ⟨rfl, rfl⟩ (fun h5 qx6 => ?_)
          obtain ⟨G5, S5, fx6_0⟩ := qx6
          have X_ : RX (h0 110) (fun j => h0 110 (10 + j)) (fun j => h0 110 (42 + j)) h5 := (by have z := RX_0 (h0 := h1) (h := h5) (FR.row S5 (fun _ => rfl)) fx6_0; rw [FR.row (c := 110) R1 (fun _ => rfl)] at z; exact z)
          have R5 := R1.call S5 (by decide +kernel)
          refine z_iconst (M := M_X12_when) 54 dX12_when_54 ?_
          refine z_istore_n (M := M_X12_when) 55 dX12_when_55 (ls' := [some (mR 108), some (mI a1), some (mI a2), some (mI 0), none, none, none]) (by decide) rfl ?_
          refine z_iconst (M := M_X12_when) 56 dX12_when_56 ?_
          refine z_istore (M := M_X12_when) 57 dX12_when_57 (ls' := [some (mR 108), some (mI a1), some (mI a2), some (mI 0), some (mI (-1)), none, none]) (by decide) rfl ?_
          refine z_iconst (M := M_X12_when) 59 dX12_when_59 ?_
          refine z_istore (M := M_X12_when) 60 dX12_when_60 (ls' := [some (mR 108), some (mI a1), some (mI a2), some (mI 0), some (mI (-1)), some (mI (-1)), none]) (by decide) rfl ?_
          refine z_iconst (M := M_X12_when) 62 dX12_when_62 ?_
          refine z_istore (M := M_X12_when) 63 dX12_when_63 (ls' := [some (mR 108), some (mI a1), some (mI a2), some (mI 0), some (mI (-1)), some (mI (-1)), some (mI 1)]) (by decide) rfl ?_
          exact z_mask [true, true, true, true, true, true, true] rfl (ih 0 (-1) (-1) 1 h5 G5 R5 (by omega) (by omega) (by omega) (by omega) (by omega) (by omega) (by omega) (by omega) (by omega) (by omega) ⟨wnM_0 X_, dt_ct (h := h1) (FR.row R1 (fun _ => rfl)) (by omega) (ex4.trans c5), vw3_1 (fun z => by have := z.1; omega)⟩ (by omega))
        · refine z_iconst (M := M_X12_when) 48 dX12_when_48 ?_
          exact z_retI (M := M_X12_when) 49 dX12_when_49 rfl ⟨G1, R1, Or.inl ⟨fun z => c5 ((dt_ct (h := h1) (FR.row R1 (fun _ => rfl)) (by omega) ex4).symm.trans z.2.2), rfl⟩⟩
      · refine z_if_eq_T (M := M_X12_when) 34 dX12_when_34 41 rfl (by omega) ?_
        refine z_iconst (M := M_X12_when) 41 dX12_when_41 ?_
        refine z_iaddN (M := M_X12_when) 42 dX12_when_42 (by omega) (by omega) ?_
        refine z_ialdG (M := M_X12_when) 43 dX12_when_43 o_110 (by omega) (by omega) (gw_c G1 (by omega) (by omega)) (fun x7 ex7 ax7 bx7 => ?_)
        refine z_iconst (M := M_X12_when) 44 dX12_when_44 ?_
        refine z_icmp_eq (M := M_X12_when) 45 dX12_when_45 50 rfl (fun c8 => ?_) (fun c8 => ?_)
        · refine z_aload_n (M := M_X12_when) 50 dX12_when_50 rfl ?_
          refine z_vV (M := M_X12_when) 51 dX12_when_51 t_X12_asIs l_X12_367 (m_rr_of rfl) (rest := []) (c_X12_asIsX h1 G1) o_108 rfl rfl rfl (Nat.le_of_ble_eq_true rfl) ⟨rfl, rfl⟩ (fun h6 qx9 => ?_)
          obtain ⟨G6, S6, fx9_0⟩ := qx9
          have X_ : RX (h0 110) (fun j => h0 110 (10 + j)) (fun j => h0 110 (42 + j)) h6 := (by have z := RX_0 (h0 := h1) (h := h6) (FR.row S6 (fun _ => rfl)) fx9_0; rw [FR.row (c := 110) R1 (fun _ => rfl)] at z; exact z)
          have R6 := R1.call S6 (by decide +kernel)
          refine z_iconst (M := M_X12_when) 54 dX12_when_54 ?_
          refine z_istore_n (M := M_X12_when) 55 dX12_when_55 (ls' := [some (mR 108), some (mI a1), some (mI a2), some (mI 0), none, none, none]) (by decide) rfl ?_
          refine z_iconst (M := M_X12_when) 56 dX12_when_56 ?_
          refine z_istore (M := M_X12_when) 57 dX12_when_57 (ls' := [some (mR 108), some (mI a1), some (mI a2), some (mI 0), some (mI (-1)), none, none]) (by decide) rfl ?_
          refine z_iconst (M := M_X12_when) 59 dX12_when_59 ?_
          refine z_istore (M := M_X12_when) 60 dX12_when_60 (ls' := [some (mR 108), some (mI a1), some (mI a2), some (mI 0), some (mI (-1)), some (mI (-1)), none]) (by decide) rfl ?_
          refine z_iconst (M := M_X12_when) 62 dX12_when_62 ?_
          refine z_istore (M := M_X12_when) 63 dX12_when_63 (ls' := [some (mR 108), some (mI a1), some (mI a2), some (mI 0), some (mI (-1)), some (mI (-1)), some (mI 1)]) (by decide) rfl ?_
          exact z_mask [true, true, true, true, true, true, true] rfl (ih 0 (-1) (-1) 1 h6 G6 R6 (by omega) (by omega) (by omega) (by omega) (by omega) (by omega) (by omega) (by omega) (by omega) (by omega) (absurd cx1 cx3) (by omega))
        · refine z_iconst (M := M_X12_when) 48 dX12_when_48 ?_
          exact z_retI (M := M_X12_when) 49 dX12_when_49 rfl ⟨G1, R1, absurd cx1 cx3⟩
    · refine z_if_eq_T (M := M_X12_when) 21 dX12_when_21 48 rfl (by omega) ?_
      refine z_iconst (M := M_X12_when) 48 dX12_when_48 ?_
      exact z_retI (M := M_X12_when) 49 dX12_when_49 rfl ⟨G1, R1, Or.inl ⟨fun z => cx2 z.2.1, rfl⟩⟩
  · refine z_if_eq_T (M := M_X12_when) 9 dX12_when_9 48 rfl (by omega) ?_
    refine z_iconst (M := M_X12_when) 48 dX12_when_48 ?_
    exact z_retI (M := M_X12_when) 49 dX12_when_49 rfl ⟨G1, R1, Or.inl ⟨fun z => cx1 z.1, rfl⟩⟩
