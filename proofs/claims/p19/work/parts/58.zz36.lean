/-! sure -/
theorem vS_ge {f : Nat → Int} {a : Nat} : ∀ n, (∀ j, j < n + 1 → 0 ≤ f (a + j)) → f a ≤ vS f a (n + 1)
  | 0, _ => by
    show f a ≤ 0 + f (a + 0) * (100000000 : Int) ^ 0
    rw [Int.pow_zero, Int.mul_one, Int.zero_add]; exact Int.le_refl _
  | n + 1, h => by
    have i := vS_ge (f := f) (a := a) n (fun j hj => h j (by omega))
    have p : (0 : Int) < (100000000 : Int) ^ (n + 1) := Int.pow_pos (by decide)
    have m := Int.mul_nonneg (h (n + 1) (by omega)) (Int.le_of_lt p)
    rw [vS_succ]
    omega
theorem cmp_v {x a b v : Int} (hv : 0 < v) (h : cmpQ x (a * v) (v * b)) : cmpQ x a b := by
  rw [Int.mul_comm a] at h
  unfold cmpQ at h ⊢
  rcases h with ⟨e, z⟩ | ⟨e, z⟩ | ⟨e, z⟩
  · exact Or.inl ⟨e, Int.lt_of_mul_lt_mul_left z (Int.le_of_lt hv)⟩
  · exact Or.inr (Or.inl ⟨e, Int.eq_of_mul_eq_mul_left (Int.ne_of_gt hv) z⟩)
  · exact Or.inr (Or.inr ⟨e, Int.lt_of_mul_lt_mul_left z (Int.le_of_lt hv)⟩)
def eqB (B : Int × Int × Int) : Prop := B.2.1 ≠ 0 ∧ B.1 = B.2.1
def bsQ (r : Nat → Int) (a b x : Int) : Prop := ∃ B, BW (bR r) b.toNat a.toNat B ∧ (0 < x ↔ bl1 B) ∧ (x = 0 ↔ (eqB B ∧ B.2.2 ≠ 1))
def suV (B1 B2 : Int × Int × Int) (x : Int) : Prop := (x = 1 ∧ bl1 B1) ∨ (x = 2 ∧ ¬ bl1 B1 ∧ bl1 B2) ∨ (x = 3 ∧ (¬ bl1 B1 ∧ ¬ bl1 B2) ∧ eqB B1 ∧ eqB B2) ∨ (x = 0 ∧ (¬ bl1 B1 ∧ ¬ bl1 B2) ∧ ¬ (eqB B1 ∧ eqB B2))
def suQ (r : Nat → Int) (a b x : Int) : Prop := (¬ (thr r a ∧ thr r b ∧ ¬ gain (bR r)) ∧ x = -2) ∨ ((thr r a ∧ thr r b ∧ ¬ gain (bR r)) ∧ ∃ B1 B2, BW (bR r) b.toNat a.toNat B1 ∧ BW (bR r) a.toNat b.toNat B2 ∧ suV B1 B2 x)
theorem bl_eq {Ls : List gE} (hE : ∀ e ∈ Ls, gEo e) {a b : Nat} {B B' : Int × Int × Int} (h : BW Ls a b B) (h' : BW Ls a b B') : (bl1 B ↔ bl1 B') ∧ (eqB B ↔ eqB B') := by
  have gen : ∀ {B B' : Int × Int × Int}, BW Ls a b B → BW Ls a b B' → (bl1 B → bl1 B') ∧ (eqB B → eqB B') := by
    intro B B' h h'
    obtain ⟨z1, z2, z3⟩ := BW_eq hE h h'
    have p1 := h.1
    have p2 := h'.1
    have eq' : B.2.1 ≠ 0 → B.1 = B.2.1 → B'.1 = B'.2.1 := fun n e => by
      rw [e] at z2
      have k : B.2.1 * B'.2.1 = B.2.1 * B'.1 := by rw [z2, Int.mul_comm]
      exact (Int.eq_of_mul_eq_mul_left n k).symm
    refine ⟨?_, ?_⟩
    · rintro ⟨n, q⟩
      have n' : B'.2.1 ≠ 0 := fun z => n (z1.mpr z)
      refine ⟨n', ?_⟩
      rcases q with q | ⟨q, o⟩
      · left
        have l' : 0 < B'.2.1 := by have := p2.2; omega
        have m := Int.mul_lt_mul_of_pos_right q l'
        rw [z2, Int.mul_comm B.2.1] at m
        exact Int.lt_of_mul_lt_mul_right m p1.2
      · exact Or.inr ⟨eq' n q, (z3 n).mp o⟩
    · rintro ⟨n, q⟩
      exact ⟨fun z => n (z1.mpr z), eq' n q⟩
  exact ⟨⟨(gen h h').1, (gen h' h).1⟩, ⟨(gen h h').2, (gen h' h).2⟩⟩
/-- alike both ways: neither is only come near to -/
theorem eq_ng {Ls : List gE} (ng : ¬ gain Ls) {a b : Nat} {B1 B2 : Int × Int × Int} (h1 : BW Ls b a B1) (h2 : BW Ls a b B2) (e1 : eqB B1) (e2 : eqB B2) : ¬ bl1 B1 ∧ ¬ bl1 B2 := by
  obtain ⟨w, w1, w2, w3⟩ := h1.2.1 e1.1
  obtain ⟨v, v1, v2, v3⟩ := h2.2.1 e2.1
  rw [e1.2] at w2
  rw [e2.2] at v2
  have k1 := Int.eq_of_mul_eq_mul_left e1.1 w2
  have k2 := Int.eq_of_mul_eq_mul_left e2.1 v2
  have g : ¬ (ws w ∨ ws v) := fun z => ng ⟨b, w ++ v, wk_app w v b a b w1 v1, Or.inr ⟨by rw [wp_app, wq_app, k1, k2], (ws_app w v).mpr z⟩⟩
  refine ⟨fun z => ?_, fun z => ?_⟩
  · rcases z.2 with q | q
    · have := e1.2; omega
    · exact g (Or.inl (w3 q.2))
  · rcases z.2 with q | q
    · have := e2.2; omega
    · exact g (Or.inr (v3 q.2))
theorem su_eq {r : Nat → Int} (hE : ∀ e ∈ bR r, gEo e) {a b x y : Int} (h : suQ r a b x) (h' : suQ r a b y) : x = y := by
  rcases h with ⟨n, e⟩ | ⟨k, B1, B2, b1, b2, b3⟩
  · rcases h' with ⟨_, e'⟩ | ⟨k', _⟩
    · omega
    · exact absurd k' n
  · rcases h' with ⟨n', _⟩ | ⟨_, C1, C2, c1, c2, c3⟩
    · exact absurd k n'
    · obtain ⟨p1, p2⟩ := bl_eq hE b1 c1
      obtain ⟨q1, q2⟩ := bl_eq hE b2 c2
      unfold suV at b3 c3
      rw [← p1, ← p2, ← q1, ← q2] at c3
      rcases b3 with ⟨x1, x2⟩ | ⟨x1, x2, x3⟩ | ⟨x1, ⟨x2, x3⟩, x4⟩ | ⟨x1, ⟨x2, x3⟩, x4⟩ <;> rcases c3 with ⟨y1, y2⟩ | ⟨y1, y2, y3⟩ | ⟨y1, ⟨y2, y3⟩, y4⟩ | ⟨y1, ⟨y2, y3⟩, y4⟩
      · omega
      · exact absurd x2 y2
      · exact absurd x2 y2
      · exact absurd x2 y2
      · exact absurd y2 x2
      · omega
      · exact absurd x3 y3
      · exact absurd x3 y3
      · exact absurd y2 x2
      · exact absurd y3 x3
      · omega
      · exact absurd x4 y4
      · exact absurd y2 x2
      · exact absurd y3 x3
      · exact absurd y4 x4
      · omega
abbrev P_X7_isAlways2 (h0 : m_H) (a1 : Int) : Int → m_H → Prop := fun x h' => GI h' ∧ FR [] [] h0 h' ∧ 0 ≤ x ∧ x ≤ 1 ∧ (x = 1 ↔ (h0 95 0 = a1 * h0 95 1 ∧ h0 94 1 = a1 * h0 94 0))
set_option maxHeartbeats 4000000 in
set_option maxRecDepth 100000 in
theorem c_X7_isAlways2 (h0 : m_H) (a1 : Int) (G0 : GI h0) (qa : 0 ≤ a1 ∧ a1 ≤ 99) (q95 : (0 < h0 95 0 ∧ h0 95 0 ≤ 1600000000) ∧ 0 ≤ h0 95 1 ∧ h0 95 1 ≤ 1600000000) (q94 : (0 < h0 94 0 ∧ h0 94 0 ≤ 1600000000) ∧ 0 ≤ h0 94 1 ∧ h0 94 1 ≤ 1600000000) : m_CI M_X7_isAlways [mR 93, mJ a1] h0 (P_X7_isAlways2 h0 a1) := by
  refine m_CI_of ⟨by decide, rfl, by simp [m_arg, m_isL, M_X7_isAlways], ⟨rfl, rfl⟩, rfl, rfl⟩ (ls := [some (mR 93), some (mJ a1), none]) rfl ?_
  refine z_aload_n (M := M_X7_isAlways) 0 dX7_isAlways_0 rfl ?_
  refine z_getR (M := M_X7_isAlways) 1 dX7_isAlways_1 f_X7_18 o_93 rfl (g_93_1 G0) ?_
  refine z_getJV (M := M_X7_isAlways) 4 dX7_isAlways_4 f_X7_33 o_95 rfl (fun x1 ex1 => ?_)
  rw [ex1] at q95
  refine z_lload_n (M := M_X7_isAlways) 7 dX7_isAlways_7 rfl ?_
  refine z_aload_n (M := M_X7_isAlways) 8 dX7_isAlways_8 rfl ?_
  refine z_getR (M := M_X7_isAlways) 9 dX7_isAlways_9 f_X7_18 o_93 rfl (g_93_1 G0) ?_
  refine z_getJV (M := M_X7_isAlways) 12 dX7_isAlways_12 f_X7_29 o_95 rfl (fun x2 ex2 => ?_)
  rw [ex2] at q95
  have mx3 := mul_bd (x := a1) (y := x2) (X := 99) (Y := 1600000000) (by omega) (by omega) (by omega) (by omega)
  refine z_lmulN (M := M_X7_isAlways) 15 dX7_isAlways_15 (by omega) (by omega) ?_
  refine z_topBJ (lo := 0) (hi := 158400000000) ⟨by omega, by omega⟩ (fun x3 ex3 ax3 bx3 => ?_)
  refine z_lcmp (M := M_X7_isAlways) 16 dX7_isAlways_16 ?_
  refine z_if_ne (M := M_X7_isAlways) 17 dX7_isAlways_17 44 rfl (fun c4 => ?_) (fun c4 => ?_)
  · rw [m_cmp_eq] at c4
    refine z_iconst (M := M_X7_isAlways) 44 dX7_isAlways_44 ?_
    exact z_retZ (M := M_X7_isAlways) 45 dX7_isAlways_45 rfl (by omega) ⟨G0, (FR.rf (cs := []) (ss := []) (h := h0)), by omega, by omega, ⟨fun z => absurd z (by decide), fun z => absurd (by have y := z.1; rw [ex1, ex2, ex3] at y; exact y) c4⟩⟩
  · rw [m_cmp_eq] at c4
    refine z_aload_n (M := M_X7_isAlways) 20 dX7_isAlways_20 rfl ?_
    refine z_getR (M := M_X7_isAlways) 21 dX7_isAlways_21 f_X7_12 o_93 rfl (g_93_0 G0) ?_
    refine z_getJV (M := M_X7_isAlways) 24 dX7_isAlways_24 f_X7_29 o_94 rfl (fun x5 ex5 => ?_)
    rw [ex5] at q94
    refine z_lload_n (M := M_X7_isAlways) 27 dX7_isAlways_27 rfl ?_
    refine z_aload_n (M := M_X7_isAlways) 28 dX7_isAlways_28 rfl ?_
    refine z_getR (M := M_X7_isAlways) 29 dX7_isAlways_29 f_X7_12 o_93 rfl (g_93_0 G0) ?_
    refine z_getJV (M := M_X7_isAlways) 32 dX7_isAlways_32 f_X7_33 o_94 rfl (fun x6 ex6 => ?_)
    rw [ex6] at q94
    have mx7 := mul_bd (x := a1) (y := x6) (X := 99) (Y := 1600000000) (by omega) (by omega) (by omega) (by omega)
    refine z_lmulN (M := M_X7_isAlways) 35 dX7_isAlways_35 (by omega) (by omega) ?_
    refine z_topBJ (lo := 0) (hi := 158400000000) ⟨by omega, by omega⟩ (fun x7 ex7 ax7 bx7 => ?_)
    refine z_lcmp (M := M_X7_isAlways) 36 dX7_isAlways_36 ?_
    refine z_if_ne (M := M_X7_isAlways) 37 dX7_isAlways_37 44 rfl (fun c8 => ?_) (fun c8 => ?_)
    · rw [m_cmp_eq] at c8
      refine z_iconst (M := M_X7_isAlways) 44 dX7_isAlways_44 ?_
      exact z_retZ (M := M_X7_isAlways) 45 dX7_isAlways_45 rfl (by omega) ⟨G0, (FR.rf (cs := []) (ss := []) (h := h0)), by omega, by omega, ⟨fun z => absurd z (by decide), fun z => absurd (by have y := z.2; rw [ex5, ex6, ex7] at y; exact y) c8⟩⟩
    · rw [m_cmp_eq] at c8
      refine z_iconst (M := M_X7_isAlways) 40 dX7_isAlways_40 ?_
      refine z_goto (M := M_X7_isAlways) 41 dX7_isAlways_41 45 rfl ?_
      exact z_retZ (M := M_X7_isAlways) 45 dX7_isAlways_45 rfl (by omega) ⟨G0, (FR.rf (cs := []) (ss := []) (h := h0)), by omega, by omega, ⟨fun _ => ⟨by rw [ex1, ex2, ex3]; omega, by rw [ex5, ex6, ex7]; omega⟩, fun _ => rfl⟩⟩
abbrev P_X11_sure3 (h0 : m_H) (a1 a2 : Int) : Int → m_H → Prop := fun x h' => GI h' ∧ FR (csB ++ [39, 40, 41]) [] h0 h' ∧ (-2) ≤ x ∧ x ≤ 3 ∧ suQ (h0 110) a1 a2 x
set_option maxHeartbeats 4000000 in
set_option maxRecDepth 100000 in
theorem c_X11_sure3 (h0 : m_H) (a1 a2 : Int) (G0 : GI h0) (hR : LR 1 h0 (h0 110)) (hN : NP h0) : m_CI M_X11_sure [mR 0, mI a1, mI a2] h0 (P_X11_sure3 h0 a1 a2) := by
  refine m_CI_of ⟨by decide, rfl, by simp [m_arg, m_isL, M_X11_sure], ⟨rfl, rfl⟩, rfl, rfl⟩ (ls := [some (mR 0), some (mI a1), some (mI a2)]) rfl ?_
  refine z_ok (fun _ _ ok => ?_)
  have oa1 : m_32 a1 := ok 1 _ rfl
  unfold m_32 at oa1
  have oa2 : m_32 a2 := ok 2 _ rfl
  unfold m_32 at oa2
  refine z_aload_n (M := M_X11_sure) 0 dX11_sure_0 rfl ?_
  refine z_iload_n (M := M_X11_sure) 1 dX11_sure_1 rfl ?_
  refine z_iload_n (M := M_X11_sure) 2 dX11_sure_2 rfl ?_
  refine z_vI (M := M_X11_sure) 3 dX11_sure_3 t_X11_compare l_X11_211 (m_rr_of rfl) (rest := []) (c_X11_compare2 h0 a1 a2 G0 hR hN) o_0 rfl rfl rfl (Nat.le_of_ble_eq_true rfl) ⟨rfl, rfl⟩ (fun x1 h1 qx1 => ?_)
  obtain ⟨G1, S1, ax1, bx1, fx1⟩ := qx1
  have R1 := (FR.rf (cs := (csB ++ [39, 40, 41])) (ss := []) (h := h0)).call S1 (by decide +kernel)
  refine z_if_ne (M := M_X11_sure) 6 dX11_sure_6 12 rfl (fun c2 => ?_) (fun c2 => ?_)
  · have k_ := fx1.1.mp (by omega)
    have p_ := fx1.2 (by omega)
    have pb1_ : (0 < h1 95 0 ∧ h1 95 0 ≤ 1600000000) ∧ 0 ≤ h1 95 1 ∧ h1 95 1 ≤ 1600000000 := p_.1.2.1
    have pb2_ : (0 < h1 94 0 ∧ h1 94 0 ≤ 1600000000) ∧ 0 ≤ h1 94 1 ∧ h1 94 1 ≤ 1600000000 := p_.2.2.1
    refine z_aload_n (M := M_X11_sure) 12 dX11_sure_12 rfl ?_
    refine z_getR (M := M_X11_sure) 13 dX11_sure_13 f_X11_53 o_0 rfl (g_0_7 G1) ?_
    refine z_lconst (M := M_X11_sure) 16 dX11_sure_16 (v := 1) ?_
    refine z_vI (M := M_X11_sure) 17 dX11_sure_17 t_X7_isAlways l_X11_240 (m_rr_of rfl) (rest := []) (c_X7_isAlways2 h1 1 G1 ⟨by omega, by omega⟩ pb1_ pb2_) o_93 rfl rfl rfl (Nat.le_of_ble_eq_true rfl) ⟨rfl, rfl⟩ (fun x3 h2 qx3 => ?_)
    obtain ⟨G2, S2, ax3, bx3, fx3⟩ := qx3
    have al_ : x3 = 1 ↔ (eqB (bd h1 94) ∧ eqB (bd h1 95)) := by
      rw [fx3]; unfold eqB bd; simp only; omega
    have R2 := R1.call S2 (by decide +kernel)
    refine z_if_eq (M := M_X11_sure) 20 dX11_sure_20 25 rfl (fun c4 => ?_) (fun c4 => ?_)
    · refine z_aload_n (M := M_X11_sure) 25 dX11_sure_25 rfl ?_
      refine z_getR (M := M_X11_sure) 26 dX11_sure_26 f_X11_53 o_0 rfl (g_0_7 G2) ?_
      refine z_getR (M := M_X11_sure) 29 dX11_sure_29 f_X11_227 o_93 rfl (g_93_0 G2) ?_
      refine z_vI (M := M_X11_sure) 32 dX11_sure_32 t_X2_isBelowOne l_X11_244 (m_rr_of rfl) (rest := []) (c_X2_isBelowOne2 h2 94 (rfl : isBb 94 = true) G2) o_94 rfl rfl rfl (Nat.le_of_ble_eq_true rfl) ⟨rfl, rfl⟩ (fun x5 h3 qx5 => ?_)
      obtain ⟨G3, S3, ax5, bx5, fx5⟩ := qx5
      rw [frE S2] at fx5
      have R3 := R2.call S3 (by decide +kernel)
      refine z_if_eq (M := M_X11_sure) 35 dX11_sure_35 40 rfl (fun c6 => ?_) (fun c6 => ?_)
      · refine z_aload_n (M := M_X11_sure) 40 dX11_sure_40 rfl ?_
        refine z_getR (M := M_X11_sure) 41 dX11_sure_41 f_X11_53 o_0 rfl (g_0_7 G3) ?_
        refine z_getR (M := M_X11_sure) 44 dX11_sure_44 f_X11_237 o_93 rfl (g_93_1 G3) ?_
        refine z_vI (M := M_X11_sure) 47 dX11_sure_47 t_X2_isBelowOne l_X11_244 (m_rr_of rfl) (rest := []) (c_X2_isBelowOne2 h3 95 (rfl : isBb 95 = true) G3) o_95 rfl rfl rfl (Nat.le_of_ble_eq_true rfl) ⟨rfl, rfl⟩ (fun x7 h4 qx7 => ?_)
        obtain ⟨G4, S4, ax7, bx7, fx7⟩ := qx7
        rw [(frE S3).trans (frE S2)] at fx7
        have R4 := R3.call S4 (by decide +kernel)
        refine z_if_eq (M := M_X11_sure) 50 dX11_sure_50 57 rfl (fun c8 => ?_) (fun c8 => ?_)
        · refine z_iconst (M := M_X11_sure) 57 dX11_sure_57 ?_
          exact z_retI (M := M_X11_sure) 58 dX11_sure_58 rfl ⟨G4, R4, by omega, by omega, Or.inr ⟨k_, _, _, p_.2.1, p_.1.1, Or.inr (Or.inr (Or.inr ⟨rfl, ⟨fun z => absurd (fx5.mpr z) (by omega), fun z => absurd (fx7.mpr z) (by omega)⟩, (fun z => absurd (al_.mpr z) (by omega))⟩))⟩⟩
        · refine z_iconst (M := M_X11_sure) 53 dX11_sure_53 ?_
          refine z_goto (M := M_X11_sure) 54 dX11_sure_54 58 rfl ?_
          exact z_retI (M := M_X11_sure) 58 dX11_sure_58 rfl ⟨G4, R4, by omega, by omega, Or.inr ⟨k_, _, _, p_.2.1, p_.1.1, Or.inr (Or.inl ⟨rfl, fun z => absurd (fx5.mpr z) (by omega), fx7.mp (by omega)⟩)⟩⟩
      · refine z_iconst (M := M_X11_sure) 38 dX11_sure_38 ?_
        exact z_retI (M := M_X11_sure) 39 dX11_sure_39 rfl ⟨G3, R3, by omega, by omega, Or.inr ⟨k_, _, _, p_.2.1, p_.1.1, Or.inl ⟨rfl, fx5.mp (by omega)⟩⟩⟩
    · refine z_iconst (M := M_X11_sure) 23 dX11_sure_23 ?_
      exact z_retI (M := M_X11_sure) 24 dX11_sure_24 rfl ⟨G2, R2, by omega, by omega, by have e_ := al_.mp (by omega); exact Or.inr ⟨k_, _, _, p_.2.1, p_.1.1, Or.inr (Or.inr (Or.inl ⟨rfl, eq_ng k_.2.2 p_.2.1 p_.1.1 e_.1 e_.2, e_⟩))⟩⟩
  · refine z_bipush (M := M_X11_sure) 9 dX11_sure_9 ?_
    exact z_retI (M := M_X11_sure) 11 dX11_sure_11 rfl ⟨G1, R1, by omega, by omega, Or.inl ⟨fun z => absurd (fx1.1.mpr z) (by omega), rfl⟩⟩
abbrev P_X12_besideOne2 (h0 : m_H) (a1 a2 : Int) : Int → m_H → Prop := fun x h' => GI h' ∧ FR [115, 116, 117, 118, 119, 120, 121, 122, 123, 124, 125, 126, 127, 128, 129, 130, 131, 132, 133] [(108, 21)] h0 h' ∧ (-1) ≤ x ∧ x ≤ 2 ∧ bsQ (h0 110) a1 a2 x
set_option maxHeartbeats 4000000 in
set_option maxRecDepth 100000 in
theorem c_X12_besideOne2 (h0 : m_H) (a1 a2 : Int) (G0 : GI h0) (pa1 : 0 ≤ a1 ∧ a1 ≤ 15) (pa2 : 0 ≤ a2 ∧ a2 ≤ 15) (hN : NP h0) (hG : gG (bR (h0 110))) (hO : h0 137 0 = 1) : m_CI M_X12_besideOne [mR 108, mI a1, mI a2] h0 (P_X12_besideOne2 h0 a1 a2) := by
  refine m_CI_of ⟨by decide, rfl, by simp [m_arg, m_isL, M_X12_besideOne], ⟨rfl, rfl⟩, rfl, rfl⟩ (ls := [some (mR 108), some (mI a1), some (mI a2), none]) rfl ?_
  refine z_aload_n (M := M_X12_besideOne) 0 dX12_besideOne_0 rfl ?_
  refine z_iload_n (M := M_X12_besideOne) 1 dX12_besideOne_1 rfl ?_
  refine z_vV (M := M_X12_besideOne) 2 dX12_besideOne_2 t_X12_goFrom l_X12_397 (m_rr_of rfl) (rest := []) (c_X12_goFrom2 h0 a2 G0 ⟨by omega, by omega⟩ (NP.call hN (FR.rf (cs := [115, 116, 117, 118, 119, 120, 121, 122, 123, 124, 125, 126, 127, 128, 129, 130, 131, 132, 133]) (ss := [(108, 21)]) (h := h0)) (fun _ => rfl) (fun _ => rfl) (fun _ => rfl)) (gG_f hG (FR.rf (cs := [115, 116, 117, 118, 119, 120, 121, 122, 123, 124, 125, 126, 127, 128, 129, 130, 131, 132, 133]) (ss := [(108, 21)]) (h := h0)) (fun _ => rfl))) o_108 rfl rfl rfl (Nat.le_of_ble_eq_true rfl) ⟨rfl, rfl⟩ (fun h1 qx1 => ?_)
  obtain ⟨G1, S1, fx1_0, fx1_1⟩ := qx1
  have b_ := fx1_1 a1.toNat (by omega)
  have g_ := fx1_0 a1.toNat (by omega)
  have v_ : 0 < vS (h1 137) 0 5 := by
    have z : h1 137 0 ≤ vS (h1 137) 0 5 := vS_ge (f := h1 137) (a := 0) 4 (fun j hj => by rw [Nat.zero_add]; exact (g_137 G1 (by omega)).1)
    have y : h1 137 0 = 1 := (S1 137 0 rfl).trans hO
    omega
  have R1 := (FR.rf (cs := [115, 116, 117, 118, 119, 120, 121, 122, 123, 124, 125, 126, 127, 128, 129, 130, 131, 132, 133]) (ss := [(108, 21)]) (h := h0)).call S1 (by decide +kernel)
  refine z_aload_n (M := M_X12_besideOne) 5 dX12_besideOne_5 rfl ?_
  refine z_getR (M := M_X12_besideOne) 6 dX12_besideOne_6 f_X12_70 o_108 rfl (g_108_32 G1) ?_
  refine z_iload_n (M := M_X12_besideOne) 9 dX12_besideOne_9 rfl ?_
  refine z_zaldG (M := M_X12_besideOne) 10 dX12_besideOne_10 o_127 (by omega) (by omega) (g_127 G1 (by omega)) (fun x2 ex2 ax2 bx2 => ?_)
  refine z_if_ne (M := M_X12_besideOne) 11 dX12_besideOne_11 16 rfl (fun c3 => ?_) (fun c3 => ?_)
  · refine z_aload_n (M := M_X12_besideOne) 16 dX12_besideOne_16 rfl ?_
    refine z_aload_n (M := M_X12_besideOne) 17 dX12_besideOne_17 rfl ?_
    refine z_getR (M := M_X12_besideOne) 18 dX12_besideOne_18 f_X12_61 o_108 rfl (g_108_29 G1) ?_
    refine z_aload_n (M := M_X12_besideOne) 21 dX12_besideOne_21 rfl ?_
    refine z_getR (M := M_X12_besideOne) 22 dX12_besideOne_22 f_X12_64 o_108 rfl (g_108_30 G1) ?_
    refine z_iconst (M := M_X12_besideOne) 25 dX12_besideOne_25 ?_
    refine z_iload_n (M := M_X12_besideOne) 26 dX12_besideOne_26 rfl ?_
    refine z_imulN (M := M_X12_besideOne) 27 dX12_besideOne_27 (by omega) (by omega) ?_
    refine z_aload_n (M := M_X12_besideOne) 28 dX12_besideOne_28 rfl ?_
    refine z_getR (M := M_X12_besideOne) 29 dX12_besideOne_29 f_X12_100 o_108 rfl (g_108_42 G1) ?_
    refine z_aload_n (M := M_X12_besideOne) 32 dX12_besideOne_32 rfl ?_
    refine z_getR (M := M_X12_besideOne) 33 dX12_besideOne_33 f_X12_100 o_108 rfl (g_108_42 G1) ?_
    refine z_iconst (M := M_X12_besideOne) 36 dX12_besideOne_36 ?_
    refine z_vI (M := M_X12_besideOne) 37 dX12_besideOne_37 t_X12_compare l_X12_350 (m_rr_of rfl) (rest := []) (c_X12_compareC h1 (5 * a1) 0 G1 ⟨by omega, by omega⟩ ⟨by omega, by omega⟩) o_108 rfl rfl rfl (Nat.le_of_ble_eq_true rfl) ⟨rfl, rfl⟩ (fun x4 h2 qx4 => ?_)
    obtain ⟨G2, S2, ax4, bx4, fx4_0⟩ := qx4
    have c_ := cmp_v v_ fx4_0
    rw [at5 (by omega)] at c_
    have u_ := g_.2.2 (ex2.trans (by omega))
    have u1_ : 1 ≤ vS (h1 124) (5 * a1.toNat) 5 := u_.1.1
    have e_ := bOf_y ex2 (by omega)
    rw [e_] at b_
    unfold cmpQ at c_
    have R2 := R1.call S2 (by decide +kernel)
    refine z_istore_n (M := M_X12_besideOne) 40 dX12_besideOne_40 (ls' := [some (mR 108), some (mI a1), some (mI a2), some (mI x4)]) (by decide) rfl ?_
    refine z_iload_n (M := M_X12_besideOne) 41 dX12_besideOne_41 rfl ?_
    refine z_if_ne (M := M_X12_besideOne) 42 dX12_besideOne_42 58 rfl (fun c5 => ?_) (fun c5 => ?_)
    · refine z_iload_n (M := M_X12_besideOne) 58 dX12_besideOne_58 rfl ?_
      exact z_retI (M := M_X12_besideOne) 59 dX12_besideOne_59 rfl ⟨G2, R2, by omega, by omega, ⟨_, b_, by unfold bl1; simp only; omega, by unfold eqB; simp only; omega⟩⟩
    · refine z_aload_n (M := M_X12_besideOne) 45 dX12_besideOne_45 rfl ?_
      refine z_getR (M := M_X12_besideOne) 46 dX12_besideOne_46 f_X12_67 o_108 rfl (g_108_31 G2) ?_
      refine z_iload_n (M := M_X12_besideOne) 49 dX12_besideOne_49 rfl ?_
      refine z_zaldG (M := M_X12_besideOne) 50 dX12_besideOne_50 o_126 (by omega) (by omega) (g_126 G2 (by omega)) (fun x6 ex6 ax6 bx6 => ?_)
      refine z_if_eq (M := M_X12_besideOne) 51 dX12_besideOne_51 58 rfl (fun c7 => ?_) (fun c7 => ?_)
      · refine z_iload_n (M := M_X12_besideOne) 58 dX12_besideOne_58 rfl ?_
        exact z_retI (M := M_X12_besideOne) 59 dX12_besideOne_59 rfl ⟨G2, R2, by omega, by omega, ⟨_, b_, by have o_ : h1 126 a1.toNat = x6 := (S2 126 _ rfl).symm.trans ex6; unfold bl1; simp only [o_]; omega, by have o_ : h1 126 a1.toNat = x6 := (S2 126 _ rfl).symm.trans ex6; unfold eqB; simp only [o_]; omega⟩⟩
      · refine z_iconst (M := M_X12_besideOne) 54 dX12_besideOne_54 ?_
        refine z_goto (M := M_X12_besideOne) 55 dX12_besideOne_55 59 rfl ?_
        exact z_retI (M := M_X12_besideOne) 59 dX12_besideOne_59 rfl ⟨G2, R2, by omega, by omega, ⟨_, b_, by have o_ : h1 126 a1.toNat = x6 := (S2 126 _ rfl).symm.trans ex6; unfold bl1; simp only [o_]; omega, by have o_ : h1 126 a1.toNat = x6 := (S2 126 _ rfl).symm.trans ex6; unfold eqB; simp only [o_]; omega⟩⟩
  · refine z_iconst (M := M_X12_besideOne) 14 dX12_besideOne_14 ?_
    exact z_retI (M := M_X12_besideOne) 15 dX12_besideOne_15 rfl ⟨G1, R1, by omega, by omega, by rw [bOf_n ex2 (by omega)] at b_; exact ⟨_, b_, by unfold bl1; simp only; omega, by unfold eqB; simp only; omega⟩⟩
abbrev P_X12_sure3 (h0 : m_H) (a1 a2 : Int) : Int → m_H → Prop := fun x h' => GI h' ∧ FR [115, 116, 117, 118, 119, 120, 121, 122, 123, 124, 125, 126, 127, 128, 129, 130, 131, 132, 133, 134] [(108, 0), (108, 21)] h0 h' ∧ (-2) ≤ x ∧ x ≤ 3 ∧ suQ (h0 110) a1 a2 x
set_option maxHeartbeats 4000000 in
set_option maxRecDepth 100000 in
theorem c_X12_sure3 (h0 : m_H) (a1 a2 : Int) (G0 : GI h0) (hN : NP h0) (hO : h0 137 0 = 1) : m_CI M_X12_sure [mR 108, mI a1, mI a2] h0 (P_X12_sure3 h0 a1 a2) := by
  refine m_CI_of ⟨by decide, rfl, by simp [m_arg, m_isL, M_X12_sure], ⟨rfl, rfl⟩, rfl, rfl⟩ (ls := [some (mR 108), some (mI a1), some (mI a2), none, none]) rfl ?_
  refine z_ok (fun _ _ ok => ?_)
  have oa1 : m_32 a1 := ok 1 _ rfl
  unfold m_32 at oa1
  have oa2 : m_32 a2 := ok 2 _ rfl
  unfold m_32 at oa2
  refine z_aload_n (M := M_X12_sure) 0 dX12_sure_0 rfl ?_
  refine z_iconst (M := M_X12_sure) 1 dX12_sure_1 ?_
  refine z_putIH (M := M_X12_sure) 2 dX12_sure_2 p_X12_133 o_108 rfl (u_108_0 G0) ((FR.rf (cs := [115, 116, 117, 118, 119, 120, 121, 122, 123, 124, 125, 126, 127, 128, 129, 130, 131, 132, 133, 134]) (ss := [(108, 0), (108, 21)]) (h := h0)).up rfl) (fun h1 E1 G1 R1 => ?_)
  refine z_aload_n (M := M_X12_sure) 5 dX12_sure_5 rfl ?_
  refine z_iload_n (M := M_X12_sure) 6 dX12_sure_6 rfl ?_
  refine z_iload_n (M := M_X12_sure) 7 dX12_sure_7 rfl ?_
  refine z_vI (M := M_X12_sure) 8 dX12_sure_8 t_X12_isAnswered l_X12_394 (m_rr_of rfl) (rest := []) (c_X12_isAnswered2 h1 a1 a2 G1 (NP.call hN R1 (fun _ => rfl) (fun _ => rfl) (fun _ => rfl))) o_108 rfl rfl rfl (Nat.le_of_ble_eq_true rfl) ⟨rfl, rfl⟩ (fun x1 h2 qx1 => ?_)
  obtain ⟨G2, S2, ax1, bx1, fx1_0, fx1_1⟩ := qx1
  have e1_ : h1 110 = h0 110 := FR.row R1 (fun _ => rfl)
  rw [e1_] at fx1_1
  have R2 := R1.call S2 (by decide +kernel)
  have e2_ : h2 110 = h0 110 := FR.row R2 (fun _ => rfl)
  refine z_if_ne (M := M_X12_sure) 11 dX12_sure_11 17 rfl (fun c2 => ?_) (fun c2 => ?_)
  · have an := fx1_0 (by omega)
    have an1 := an.1
    have an2 := an.2.1
    refine z_aload_n (M := M_X12_sure) 17 dX12_sure_17 rfl ?_
    refine z_iload_n (M := M_X12_sure) 18 dX12_sure_18 rfl ?_
    refine z_iload_n (M := M_X12_sure) 19 dX12_sure_19 rfl ?_
    refine z_vI (M := M_X12_sure) 20 dX12_sure_20 t_X12_besideOne l_X12_406 (m_rr_of rfl) (rest := []) (c_X12_besideOne2 h2 a1 a2 G2 ⟨by omega, by omega⟩ ⟨by omega, by omega⟩ (NP.call hN R2 (fun _ => rfl) (fun _ => rfl) (fun _ => rfl)) (gG_f (gG_b an.2.2 R1 (fun _ => rfl)) R2 (fun _ => rfl)) ((R2 137 0 rfl).trans hO)) o_108 rfl rfl rfl (Nat.le_of_ble_eq_true rfl) ⟨rfl, rfl⟩ (fun x3 h3 qx3 => ?_)
    obtain ⟨G3, S3, ax3, bx3, fx3⟩ := qx3
    have R3 := R2.call S3 (by decide +kernel)
    refine z_istore_n (M := M_X12_sure) 23 dX12_sure_23 (ls' := [some (mR 108), some (mI a1), some (mI a2), some (mI x3), none]) (by decide) rfl ?_
    refine z_aload_n (M := M_X12_sure) 24 dX12_sure_24 rfl ?_
    refine z_iload_n (M := M_X12_sure) 25 dX12_sure_25 rfl ?_
    refine z_iload_n (M := M_X12_sure) 26 dX12_sure_26 rfl ?_
    refine z_vI (M := M_X12_sure) 27 dX12_sure_27 t_X12_besideOne l_X12_406 (m_rr_of rfl) (rest := []) (c_X12_besideOne2 h3 a2 a1 G3 ⟨by omega, by omega⟩ ⟨by omega, by omega⟩ (NP.call hN R3 (fun _ => rfl) (fun _ => rfl) (fun _ => rfl)) (gG_f (gG_b an.2.2 R1 (fun _ => rfl)) R3 (fun _ => rfl)) ((R3 137 0 rfl).trans hO)) o_108 rfl rfl rfl (Nat.le_of_ble_eq_true rfl) ⟨rfl, rfl⟩ (fun x4 h4 qx4 => ?_)
    obtain ⟨G4, S4, ax4, bx4, fx4⟩ := qx4
    have e3_ : h3 110 = h0 110 := FR.row R3 (fun _ => rfl)
    rw [e2_] at fx3
    rw [e3_] at fx4
    obtain ⟨B1, b1, p1, q1⟩ := fx3
    obtain ⟨B2, b2, p2, q2⟩ := fx4
    have k_ := fx1_1.mp (by omega)
    have R4 := R3.call S4 (by decide +kernel)
    refine z_istore (M := M_X12_sure) 30 dX12_sure_30 (ls' := [some (mR 108), some (mI a1), some (mI a2), some (mI x3), some (mI x4)]) (by decide) rfl ?_
    refine z_iload_n (M := M_X12_sure) 32 dX12_sure_32 rfl ?_
    refine z_if_le (M := M_X12_sure) 33 dX12_sure_33 40 rfl (fun c5 => ?_) (fun c5 => ?_)
    · refine z_iload (M := M_X12_sure) 40 dX12_sure_40 rfl ?_
      refine z_if_le (M := M_X12_sure) 42 dX12_sure_42 49 rfl (fun c6 => ?_) (fun c6 => ?_)
      · refine z_iload_n (M := M_X12_sure) 49 dX12_sure_49 rfl ?_
        refine z_if_ne (M := M_X12_sure) 50 dX12_sure_50 62 rfl (fun c7 => ?_) (fun c7 => ?_)
        · refine z_iconst (M := M_X12_sure) 62 dX12_sure_62 ?_
          exact z_retI (M := M_X12_sure) 63 dX12_sure_63 rfl ⟨G4, R4, by omega, by omega, Or.inr ⟨k_, _, _, b1, b2, Or.inr (Or.inr (Or.inr ⟨rfl, ⟨(fun z => absurd (p1.mpr z) (by omega)), (fun z => absurd (p2.mpr z) (by omega))⟩, fun z => absurd (q1.mpr ⟨z.1, fun o => absurd (p1.mpr ⟨z.1.1, Or.inr ⟨z.1.2, o⟩⟩) (by omega)⟩) (by omega)⟩))⟩⟩
        · refine z_iload (M := M_X12_sure) 53 dX12_sure_53 rfl ?_
          refine z_if_ne (M := M_X12_sure) 55 dX12_sure_55 62 rfl (fun c8 => ?_) (fun c8 => ?_)
          · refine z_iconst (M := M_X12_sure) 62 dX12_sure_62 ?_
            exact z_retI (M := M_X12_sure) 63 dX12_sure_63 rfl ⟨G4, R4, by omega, by omega, Or.inr ⟨k_, _, _, b1, b2, Or.inr (Or.inr (Or.inr ⟨rfl, ⟨(fun z => absurd (p1.mpr z) (by omega)), (fun z => absurd (p2.mpr z) (by omega))⟩, fun z => absurd (q2.mpr ⟨z.2, fun o => absurd (p2.mpr ⟨z.2.1, Or.inr ⟨z.2.2, o⟩⟩) (by omega)⟩) (by omega)⟩))⟩⟩
          · refine z_iconst (M := M_X12_sure) 58 dX12_sure_58 ?_
            refine z_goto (M := M_X12_sure) 59 dX12_sure_59 63 rfl ?_
            exact z_retI (M := M_X12_sure) 63 dX12_sure_63 rfl ⟨G4, R4, by omega, by omega, Or.inr ⟨k_, _, _, b1, b2, Or.inr (Or.inr (Or.inl ⟨rfl, ⟨(fun z => absurd (p1.mpr z) (by omega)), (fun z => absurd (p2.mpr z) (by omega))⟩, (q1.mp (by omega)).1, (q2.mp (by omega)).1⟩))⟩⟩
      · refine z_iconst (M := M_X12_sure) 45 dX12_sure_45 ?_
        refine z_goto (M := M_X12_sure) 46 dX12_sure_46 63 rfl ?_
        exact z_retI (M := M_X12_sure) 63 dX12_sure_63 rfl ⟨G4, R4, by omega, by omega, Or.inr ⟨k_, _, _, b1, b2, Or.inr (Or.inl ⟨rfl, (fun z => absurd (p1.mpr z) (by omega)), p2.mp (by omega)⟩)⟩⟩
    · refine z_iconst (M := M_X12_sure) 36 dX12_sure_36 ?_
      refine z_goto (M := M_X12_sure) 37 dX12_sure_37 63 rfl ?_
      exact z_retI (M := M_X12_sure) 63 dX12_sure_63 rfl ⟨G4, R4, by omega, by omega, Or.inr ⟨k_, _, _, b1, b2, Or.inl ⟨rfl, p1.mp (by omega)⟩⟩⟩
  · refine z_bipush (M := M_X12_sure) 14 dX12_sure_14 ?_
    exact z_retI (M := M_X12_sure) 16 dX12_sure_16 rfl ⟨G2, R2, by omega, by omega, Or.inl ⟨fun z => absurd (fx1_1.mpr z) (by omega), rfl⟩⟩
theorem LX.sure {h h1 : m_H} {a b x y : Int} {cs : List Nat} {ss : List (Nat × Nat)} (G : GI h) (N : NP h) (S1 : FR cs ss h h1) (A : suQ (h 110) a b x) (B : suQ (h1 110) a b y) (o : out 110 110 cs ss = true) : x = y := by
  rw [rowz S1 (fr_out o (by decide) (by decide))] at B
  exact su_eq (bR_ok G N) A B
