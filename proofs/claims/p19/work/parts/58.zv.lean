/-! told, exact in both -/
def tdS (f : Nat → Int) : Nat → Int
  | 0 => 0
  | k + 1 => m_w (tdS f k + f k)
theorem tdS_c {f g : Nat → Int} : ∀ n : Nat, (∀ k, k < n → f k = g k) → tdS f n = tdS g n
  | 0, _ => rfl
  | n + 1, e => by
    show m_w (tdS f n + f n) = m_w (tdS g n + g n)
    rw [tdS_c n (fun k hk => e k (by omega)), e n (by omega)]
theorem tdS_s {f : Nat → Int} {l k x y : Int} (h0 : 0 ≤ k) (i : l = tdS f k.toNat) (e : x = f k.toNat) (ey : m_w (l + x) = y) : y = tdS f (k + 1).toNat := by
  rw [show (k + 1).toNat = k.toNat + 1 by omega, ← ey, i, e]; rfl
def tfC (h : m_H) (a : Int) : Nat → Int := fun w => h 8 (lnV (h 3 a.toNat) a (w : Int)).toNat / h 8 (12 + h 106 w).toNat
def tfM (h : m_H) (a : Int) : Nat → Int := fun w => h 110 (60 + lnV (h 110 (42 + a).toNat) a (w : Int)).toNat / h 110 (72 + h 147 w).toNat
theorem td_C {h0 h h1 : m_H} {a l x2 x3 x4 : Int} (R : FR [] [] h0 h) (R1 : FR [] [] h0 h1) (hl : 0 ≤ l) (f2 : lnV (h (1 + 2) a.toNat) a l = x2) (e3 : h1 106 l.toNat = x3) (f4 : h1 (1 + 7) x2.toNat / h1 (1 + 7) (12 + x3).toNat = x4) : x4 = tfC h0 a l.toNat := by
  have e : h = h0 := funext fun c => funext fun j => R c j rfl
  have e1 : h1 = h0 := funext fun c => funext fun j => R1 c j rfl
  subst e; subst e1
  unfold tfC
  rw [Int.toNat_of_nonneg hl, e3]
  rw [← f4, ← f2]
theorem td_M {h0 h : m_H} {a l ln x2 x4 x5 : Int} (R : FR [] [(108, 0)] h0 h) (hl : 0 ≤ l) (e2 : h 110 (42 + a).toNat = x2) (en : lnV x2 a l = ln) (e4 : h 147 l.toNat = x4) (f5 : h 110 (60 + ln).toNat / h 110 (72 + x4).toNat = x5) : x5 = tfM h0 a l.toNat := by
  have e : h 110 = h0 110 := rowz R (fun _ => rfl)
  have e1 : h 147 = h0 147 := rowz R (fun _ => rfl)
  unfold tfM
  rw [Int.toNat_of_nonneg hl, ← e, ← e1, e4, e2, en]
  exact f5.symm
def tdQ (o s : Nat) (f : Nat → Int) (a x : Int) (h : m_H) : Prop := ((h o s = 0 ∨ a < 0 ∨ 5 < a) ∧ x = -1) ∨ (h o s ≠ 0 ∧ 0 ≤ a ∧ a ≤ 5 ∧ x = tdS f 32)
abbrev P_X11_told3 (h0 : m_H) (a1 : Int) : Int → m_H → Prop := fun x h' => GI h' ∧ FR [] [] h0 h' ∧ tdQ 105 1 (tfC h0 a1) a1 x h0
def q_X11_told3 (h0 : m_H) (a1 : Int) (n : Nat) : Prop := (∀ (l2 l3 : Int) (h : m_H), GI h → FR [] [] h0 h → 0 ≤ l3 → l3 ≤ 32 → 0 ≤ a1 → a1 ≤ 5 → (l2 = tdS (tfC h0 a1) l3.toNat) → (h0 105 1 ≠ 0) → 2 * (32 - l3) + (1) ≤ (n : Int) → m_Z oF M_X11_told 23 [some (mR 0), some (mI a1), some (mI l2), some (mI l3)] [] h (m_QI (P_X11_told3 h0 a1)))
set_option maxHeartbeats 4000000 in
set_option maxRecDepth 100000 in
theorem s_X11_told3_23 (h0 : m_H) (a1 : Int) (G0 : GI h0) (n : Nat) (ih : q_X11_told3 h0 a1 n) : ∀ (l2 l3 : Int) (h : m_H), GI h → FR [] [] h0 h → 0 ≤ l3 → l3 ≤ 32 → 0 ≤ a1 → a1 ≤ 5 → (l2 = tdS (tfC h0 a1) l3.toNat) → (h0 105 1 ≠ 0) → 2 * (32 - l3) + (1) ≤ ((n + 1 : Nat) : Int) → m_Z oF M_X11_told 23 [some (mR 0), some (mI a1), some (mI l2), some (mI l3)] [] h (m_QI (P_X11_told3 h0 a1)) := by
  intro l2 l3 h G R v0 v1 v2 v3 i0 i1 hr
  refine z_ok (fun ostk _ olocs => ?_)
  have ol2 : m_32 l2 := olocs 2 _ rfl
  unfold m_32 at ol2
  refine z_iload_n (M := M_X11_told) 23 dX11_told_23 rfl ?_
  refine z_bipush (M := M_X11_told) 24 dX11_told_24 ?_
  refine z_icmp_ge (M := M_X11_told) 26 dX11_told_26 63 rfl (fun c1 => ?_) (fun c1 => ?_)
  · refine z_iload_n (M := M_X11_told) 63 dX11_told_63 rfl ?_
    exact z_retI (M := M_X11_told) 64 dX11_told_64 rfl ⟨G, R, Or.inr ⟨i1, by omega, by omega, by rw [i0, show l3.toNat = 32 by omega]⟩⟩
  · refine z_iload_n (M := M_X11_told) 29 dX11_told_29 rfl ?_
    refine z_aload_n (M := M_X11_told) 30 dX11_told_30 rfl ?_
    refine z_getR (M := M_X11_told) 31 dX11_told_31 f_X11_12 o_0 rfl (g_0_0 G) ?_
    refine z_aload_n (M := M_X11_told) 34 dX11_told_34 rfl ?_
    refine z_getR (M := M_X11_told) 35 dX11_told_35 f_X11_12 o_0 rfl (g_0_0 G) ?_
    refine z_iload_n (M := M_X11_told) 38 dX11_told_38 rfl ?_
    refine z_iload_n (M := M_X11_told) 39 dX11_told_39 rfl ?_
    refine z_vI (M := M_X11_told) 40 dX11_told_40 t_X4_lengthIn l_X11_409 (m_rr_of rfl) (rest := [mR 1, mI l2]) (c_X4_lengthIn2 h 1 a1 l3 (Or.inl rfl) G ⟨by omega, by omega⟩) o_1 rfl rfl rfl (Nat.le_of_ble_eq_true rfl) ⟨rfl, rfl⟩ (fun x2 h1 qx2 => ?_)
    obtain ⟨G1, S1, ax2, bx2, fx2⟩ := qx2
    have R1 := R.call S1 (by decide +kernel)
    refine z_aload_n (M := M_X11_told) 43 dX11_told_43 rfl ?_
    refine z_getR (M := M_X11_told) 44 dX11_told_44 f_X11_90 o_0 rfl (g_0_12 G1) ?_
    refine z_getR (M := M_X11_told) 47 dX11_told_47 f_X11_408 o_105 rfl (g_105_0 G1) ?_
    refine z_iload_n (M := M_X11_told) 50 dX11_told_50 rfl ?_
    refine z_ialdG (M := M_X11_told) 51 dX11_told_51 o_106 (by omega) (by omega) (g_106 G1 (by omega)) (fun x3 ex3 ax3 bx3 => ?_)
    refine z_vI (M := M_X11_told) 52 dX11_told_52 t_X4_wholeFeet l_X11_412 (m_rr_of rfl) (rest := [mI l2]) (c_X4_wholeFeet2 h1 1 x2 x3 (Or.inl rfl) G1 ⟨by omega, by omega⟩ ⟨by omega, by omega⟩) o_1 rfl rfl rfl (Nat.le_of_ble_eq_true rfl) ⟨rfl, rfl⟩ (fun x4 h2 qx4 => ?_)
    obtain ⟨G2, S2, ax4, bx4, fx4⟩ := qx4
    have R2 := R1.call S2 (by decide +kernel)
    refine z_ok (fun ox4 _ _ => ?_)
    have ox4 := ox4.1; unfold m_ok m_32 at ox4
    refine z_iadd (M := M_X11_told) 55 dX11_told_55 ?_
    refine z_topm (fun x5 ex5 ox5 => ?_)
    unfold m_32 at ox5
    refine z_istore_n (M := M_X11_told) 56 dX11_told_56 (ls' := [some (mR 0), some (mI a1), some (mI x5), some (mI l3)]) (by decide) rfl ?_
    refine z_iincN (M := M_X11_told) 57 dX11_told_57 (ls' := [some (mR 0), some (mI a1), some (mI x5), some (mI (l3 + 1))]) (by decide) rfl (by (unfold m_32; decide)) (by omega) (by omega) rfl ?_
    refine z_goto (M := M_X11_told) 60 dX11_told_60 23 rfl ?_
    exact z_mask [true, true, true, true] rfl (ih x5 (l3 + 1) h2 G2 R2 (by omega) (by omega) (by omega) (by omega) (tdS_s (by omega) i0 (td_C R R1 (by omega) fx2 ex3 fx4) ex5) i1 (by omega))
theorem a_X11_told3 (h0 : m_H) (a1 : Int) (G0 : GI h0) : ∀ n, q_X11_told3 h0 a1 n := by
  intro n
  induction n with
  | zero => unfold q_X11_told3; intros; omega
  | succ n ih => exact s_X11_told3_23 h0 a1 G0 n ih
set_option maxHeartbeats 4000000 in
set_option maxRecDepth 100000 in
theorem c_X11_told3 (h0 : m_H) (a1 : Int) (G0 : GI h0) : m_CI M_X11_told [mR 0, mI a1] h0 (P_X11_told3 h0 a1) := by
  refine m_CI_of ⟨by decide, rfl, by simp [m_arg, m_isL, M_X11_told], ⟨rfl, rfl⟩, rfl, rfl⟩ (ls := [some (mR 0), some (mI a1), none, none]) rfl ?_
  have ih := a_X11_told3 h0 a1 G0 72
  refine z_ok (fun _ _ ok => ?_)
  have oa1 : m_32 a1 := ok 1 _ rfl
  unfold m_32 at oa1
  refine z_aload_n (M := M_X11_told) 0 dX11_told_0 rfl ?_
  refine z_getR (M := M_X11_told) 1 dX11_told_1 f_X11_90 o_0 rfl (g_0_12 G0) ?_
  refine z_getIG (M := M_X11_told) 4 dX11_told_4 f_X11_399 o_105 (by decide) (g_105_1 G0) (fun x1 ex1 ax1 bx1 => ?_)
  refine z_if_eq (M := M_X11_told) 7 dX11_told_7 17 rfl (fun c2 => ?_) (fun c2 => ?_)
  · refine z_iconst (M := M_X11_told) 17 dX11_told_17 ?_
    exact z_retI (M := M_X11_told) 18 dX11_told_18 rfl ⟨G0, (FR.rf (cs := []) (ss := []) (h := h0)), Or.inl ⟨by omega, rfl⟩⟩
  · refine z_iload_n (M := M_X11_told) 10 dX11_told_10 rfl ?_
    refine z_sI (M := M_X11_told) 11 dX11_told_11 t_X11_isThing l_X11_126 (m_rr_of rfl) (rest := []) (c_X11_isThing h0 a1 G0) rfl rfl (Nat.le_of_ble_eq_true rfl) ⟨rfl, rfl⟩ (fun x3 h1 qx3 => ?_)
    obtain ⟨rfl, ⟨rfl, cx3⟩ | ⟨rfl, cx3⟩⟩ := qx3
    · refine z_if_ne_T (M := M_X11_told) 14 dX11_told_14 19 rfl (by omega) ?_
      refine z_iconst (M := M_X11_told) 19 dX11_told_19 ?_
      refine z_istore_n (M := M_X11_told) 20 dX11_told_20 (ls' := [some (mR 0), some (mI a1), some (mI 0), none]) (by decide) rfl ?_
      refine z_iconst (M := M_X11_told) 21 dX11_told_21 ?_
      refine z_istore_n (M := M_X11_told) 22 dX11_told_22 (ls' := [some (mR 0), some (mI a1), some (mI 0), some (mI 0)]) (by decide) rfl ?_
      exact z_mask [true, true, true, true] rfl (ih 0 0 h0 G0 (FR.rf (cs := []) (ss := []) (h := h0)) (by omega) (by omega) (by omega) (by omega) rfl (by omega) (by omega))
    · refine z_if_ne_F (M := M_X11_told) 14 dX11_told_14 19 rfl (by omega) ?_
      refine z_iconst (M := M_X11_told) 17 dX11_told_17 ?_
      exact z_retI (M := M_X11_told) 18 dX11_told_18 rfl ⟨G0, (FR.rf (cs := []) (ss := []) (h := h0)), Or.inl ⟨by omega, rfl⟩⟩
abbrev P_X12_told3 (h0 : m_H) (a1 : Int) : Int → m_H → Prop := fun x h' => GI h' ∧ FR [] [(108, 0)] h0 h' ∧ tdQ 108 60 (tfM h0 a1) a1 x h0
def q_X12_told3 (h0 : m_H) (a1 : Int) (n : Nat) : Prop := (∀ (l2 l3 : Int) (h : m_H), GI h → FR [] [(108, 0)] h0 h → 0 ≤ l3 → l3 ≤ 32 → 0 ≤ a1 → a1 ≤ 5 → (l2 = tdS (tfM h0 a1) l3.toNat) → (h0 108 60 ≠ 0) → 2 * (32 - l3) + (1) ≤ (n : Int) → m_Z oF M_X12_told 25 [some (mR 108), some (mI a1), some (mI l2), some (mI l3), none] [] h (m_QI (P_X12_told3 h0 a1)))
set_option maxHeartbeats 4000000 in
set_option maxRecDepth 100000 in
theorem s_X12_told3_25 (h0 : m_H) (a1 : Int) (G0 : GI h0) (n : Nat) (ih : q_X12_told3 h0 a1 n) : ∀ (l2 l3 : Int) (h : m_H), GI h → FR [] [(108, 0)] h0 h → 0 ≤ l3 → l3 ≤ 32 → 0 ≤ a1 → a1 ≤ 5 → (l2 = tdS (tfM h0 a1) l3.toNat) → (h0 108 60 ≠ 0) → 2 * (32 - l3) + (1) ≤ ((n + 1 : Nat) : Int) → m_Z oF M_X12_told 25 [some (mR 108), some (mI a1), some (mI l2), some (mI l3), none] [] h (m_QI (P_X12_told3 h0 a1)) := by
  intro l2 l3 h G R v0 v1 v2 v3 i0 i1 hr
  refine z_ok (fun ostk _ olocs => ?_)
  have ol2 : m_32 l2 := olocs 2 _ rfl
  unfold m_32 at ol2
  refine z_iload_n (M := M_X12_told) 25 dX12_told_25 rfl ?_
  refine z_bipush (M := M_X12_told) 26 dX12_told_26 ?_
  refine z_icmp_ge (M := M_X12_told) 28 dX12_told_28 88 rfl (fun c1 => ?_) (fun c1 => ?_)
  · refine z_iload_n (M := M_X12_told) 88 dX12_told_88 rfl ?_
    exact z_retI (M := M_X12_told) 89 dX12_told_89 rfl ⟨G, R, Or.inr ⟨i1, by omega, by omega, by rw [i0, show l3.toNat = 32 by omega]⟩⟩
  · refine z_aload_n (M := M_X12_told) 31 dX12_told_31 rfl ?_
    refine z_getR (M := M_X12_told) 32 dX12_told_32 f_X12_13 o_108 rfl (g_108_3 G) ?_
    refine z_bipush (M := M_X12_told) 35 dX12_told_35 ?_
    refine z_iload_n (M := M_X12_told) 37 dX12_told_37 rfl ?_
    refine z_iaddN (M := M_X12_told) 38 dX12_told_38 (by omega) (by omega) ?_
    refine z_ialdG (M := M_X12_told) 39 dX12_told_39 o_110 (by omega) (by omega) (gw_c G (by omega) (by omega)) (fun x2 ex2 ax2 bx2 => ?_)
    refine z_iconst (M := M_X12_told) 40 dX12_told_40 ?_
    refine z_icmp_eq (M := M_X12_told) 41 dX12_told_41 64 rfl (fun c3 => ?_) (fun c3 => ?_)
    · refine z_iload_n (M := M_X12_told) 64 dX12_told_64 rfl ?_
      refine z_istore (M := M_X12_told) 65 dX12_told_65 (ls' := [some (mR 108), some (mI a1), some (mI l2), some (mI l3), some (mI a1)]) (by decide) rfl ?_
      refine z_iload_n (M := M_X12_told) 67 dX12_told_67 rfl ?_
      refine z_aload_n (M := M_X12_told) 68 dX12_told_68 rfl ?_
      refine z_iload (M := M_X12_told) 69 dX12_told_69 rfl ?_
      refine z_aload_n (M := M_X12_told) 71 dX12_told_71 rfl ?_
      refine z_getR (M := M_X12_told) 72 dX12_told_72 f_X12_130 o_108 rfl (g_108_59 G) ?_
      refine z_iload_n (M := M_X12_told) 75 dX12_told_75 rfl ?_
      refine z_ialdG (M := M_X12_told) 76 dX12_told_76 o_147 (by omega) (by omega) (g_147 G (by omega)) (fun x4 ex4 ax4 bx4 => ?_)
      refine z_vI (M := M_X12_told) 77 dX12_told_77 t_X12_feetOf l_X12_521 (m_rr_of rfl) (rest := [mI l2]) (c_X12_feetOf2 h a1 x4 G ⟨by omega, by omega⟩ ⟨by omega, by omega⟩) o_108 rfl rfl rfl (Nat.le_of_ble_eq_true rfl) ⟨rfl, rfl⟩ (fun x5 h1 qx5 => ?_)
      obtain ⟨G1, S1, ax5, bx5, fx5⟩ := qx5
      have R1 := R.call S1 (by decide +kernel)
      refine z_iadd (M := M_X12_told) 80 dX12_told_80 ?_
      refine z_topm (fun x6 ex6 ox6 => ?_)
      unfold m_32 at ox6
      refine z_istore_n (M := M_X12_told) 81 dX12_told_81 (ls' := [some (mR 108), some (mI a1), some (mI x6), some (mI l3), some (mI a1)]) (by decide) rfl ?_
      refine z_iincN (M := M_X12_told) 82 dX12_told_82 (ls' := [some (mR 108), some (mI a1), some (mI x6), some (mI (l3 + 1)), some (mI a1)]) (by decide) rfl (by (unfold m_32; decide)) (by omega) (by omega) rfl ?_
      refine z_goto (M := M_X12_told) 85 dX12_told_85 25 rfl ?_
      exact z_mask [true, true, true, true, false] rfl (ih x6 (l3 + 1) h1 G1 R1 (by omega) (by omega) (by omega) (by omega) (tdS_s (by omega) i0 (td_M R (by omega) ex2 (by unfold lnV; rw [if_pos (by omega)]) ex4 fx5) ex6) i1 (by omega))
    · refine z_iload_n (M := M_X12_told) 44 dX12_told_44 rfl ?_
      refine z_aload_n (M := M_X12_told) 45 dX12_told_45 rfl ?_
      refine z_getR (M := M_X12_told) 46 dX12_told_46 f_X12_13 o_108 rfl (g_108_3 G) ?_
      refine z_bipush (M := M_X12_told) 49 dX12_told_49 ?_
      refine z_iload_n (M := M_X12_told) 51 dX12_told_51 rfl ?_
      refine z_iaddN (M := M_X12_told) 52 dX12_told_52 (by omega) (by omega) ?_
      refine z_ialdE (M := M_X12_told) 53 dX12_told_53 o_110 (by omega) (by omega) ex2 ?_
      refine z_icmp_lt (M := M_X12_told) 54 dX12_told_54 64 rfl (fun c7 => ?_) (fun c7 => ?_)
      · refine z_iload_n (M := M_X12_told) 64 dX12_told_64 rfl ?_
        refine z_istore (M := M_X12_told) 65 dX12_told_65 (ls' := [some (mR 108), some (mI a1), some (mI l2), some (mI l3), some (mI a1)]) (by decide) rfl ?_
        refine z_iload_n (M := M_X12_told) 67 dX12_told_67 rfl ?_
        refine z_aload_n (M := M_X12_told) 68 dX12_told_68 rfl ?_
        refine z_iload (M := M_X12_told) 69 dX12_told_69 rfl ?_
        refine z_aload_n (M := M_X12_told) 71 dX12_told_71 rfl ?_
        refine z_getR (M := M_X12_told) 72 dX12_told_72 f_X12_130 o_108 rfl (g_108_59 G) ?_
        refine z_iload_n (M := M_X12_told) 75 dX12_told_75 rfl ?_
        refine z_ialdG (M := M_X12_told) 76 dX12_told_76 o_147 (by omega) (by omega) (g_147 G (by omega)) (fun x8 ex8 ax8 bx8 => ?_)
        refine z_vI (M := M_X12_told) 77 dX12_told_77 t_X12_feetOf l_X12_521 (m_rr_of rfl) (rest := [mI l2]) (c_X12_feetOf2 h a1 x8 G ⟨by omega, by omega⟩ ⟨by omega, by omega⟩) o_108 rfl rfl rfl (Nat.le_of_ble_eq_true rfl) ⟨rfl, rfl⟩ (fun x9 h2 qx9 => ?_)
        obtain ⟨G2, S2, ax9, bx9, fx9⟩ := qx9
        have R2 := R.call S2 (by decide +kernel)
        refine z_iadd (M := M_X12_told) 80 dX12_told_80 ?_
        refine z_topm (fun x10 ex10 ox10 => ?_)
        unfold m_32 at ox10
        refine z_istore_n (M := M_X12_told) 81 dX12_told_81 (ls' := [some (mR 108), some (mI a1), some (mI x10), some (mI l3), some (mI a1)]) (by decide) rfl ?_
        refine z_iincN (M := M_X12_told) 82 dX12_told_82 (ls' := [some (mR 108), some (mI a1), some (mI x10), some (mI (l3 + 1)), some (mI a1)]) (by decide) rfl (by (unfold m_32; decide)) (by omega) (by omega) rfl ?_
        refine z_goto (M := M_X12_told) 85 dX12_told_85 25 rfl ?_
        exact z_mask [true, true, true, true, false] rfl (ih x10 (l3 + 1) h2 G2 R2 (by omega) (by omega) (by omega) (by omega) (tdS_s (by omega) i0 (td_M R (by omega) ex2 (by unfold lnV; rw [if_pos (by omega)]) ex8 fx9) ex10) i1 (by omega))
      · refine z_bipush (M := M_X12_told) 57 dX12_told_57 ?_
        refine z_iload_n (M := M_X12_told) 59 dX12_told_59 rfl ?_
        refine z_iaddN (M := M_X12_told) 60 dX12_told_60 (by omega) (by omega) ?_
        refine z_goto (M := M_X12_told) 61 dX12_told_61 65 rfl ?_
        refine z_istore (M := M_X12_told) 65 dX12_told_65 (ls' := [some (mR 108), some (mI a1), some (mI l2), some (mI l3), some (mI (6 + a1))]) (by decide) rfl ?_
        refine z_iload_n (M := M_X12_told) 67 dX12_told_67 rfl ?_
        refine z_aload_n (M := M_X12_told) 68 dX12_told_68 rfl ?_
        refine z_iload (M := M_X12_told) 69 dX12_told_69 rfl ?_
        refine z_aload_n (M := M_X12_told) 71 dX12_told_71 rfl ?_
        refine z_getR (M := M_X12_told) 72 dX12_told_72 f_X12_130 o_108 rfl (g_108_59 G) ?_
        refine z_iload_n (M := M_X12_told) 75 dX12_told_75 rfl ?_
        refine z_ialdG (M := M_X12_told) 76 dX12_told_76 o_147 (by omega) (by omega) (g_147 G (by omega)) (fun x11 ex11 ax11 bx11 => ?_)
        refine z_vI (M := M_X12_told) 77 dX12_told_77 t_X12_feetOf l_X12_521 (m_rr_of rfl) (rest := [mI l2]) (c_X12_feetOf2 h (6 + a1) x11 G ⟨by omega, by omega⟩ ⟨by omega, by omega⟩) o_108 rfl rfl rfl (Nat.le_of_ble_eq_true rfl) ⟨rfl, rfl⟩ (fun x12 h3 qx12 => ?_)
        obtain ⟨G3, S3, ax12, bx12, fx12⟩ := qx12
        have R3 := R.call S3 (by decide +kernel)
        refine z_iadd (M := M_X12_told) 80 dX12_told_80 ?_
        refine z_topm (fun x13 ex13 ox13 => ?_)
        unfold m_32 at ox13
        refine z_istore_n (M := M_X12_told) 81 dX12_told_81 (ls' := [some (mR 108), some (mI a1), some (mI x13), some (mI l3), some (mI (6 + a1))]) (by decide) rfl ?_
        refine z_iincN (M := M_X12_told) 82 dX12_told_82 (ls' := [some (mR 108), some (mI a1), some (mI x13), some (mI (l3 + 1)), some (mI (6 + a1))]) (by decide) rfl (by (unfold m_32; decide)) (by omega) (by omega) rfl ?_
        refine z_goto (M := M_X12_told) 85 dX12_told_85 25 rfl ?_
        exact z_mask [true, true, true, true, false] rfl (ih x13 (l3 + 1) h3 G3 R3 (by omega) (by omega) (by omega) (by omega) (tdS_s (by omega) i0 (td_M R (by omega) ex2 (by unfold lnV; rw [if_neg (by omega)]; omega) ex11 fx12) ex13) i1 (by omega))
theorem a_X12_told3 (h0 : m_H) (a1 : Int) (G0 : GI h0) : ∀ n, q_X12_told3 h0 a1 n := by
  intro n
  induction n with
  | zero => unfold q_X12_told3; intros; omega
  | succ n ih => exact s_X12_told3_25 h0 a1 G0 n ih
set_option maxHeartbeats 4000000 in
set_option maxRecDepth 100000 in
theorem c_X12_told3 (h0 : m_H) (a1 : Int) (G0 : GI h0) : m_CI M_X12_told [mR 108, mI a1] h0 (P_X12_told3 h0 a1) := by
  refine m_CI_of ⟨by decide, rfl, by simp [m_arg, m_isL, M_X12_told], ⟨rfl, rfl⟩, rfl, rfl⟩ (ls := [some (mR 108), some (mI a1), none, none, none]) rfl ?_
  have ih := a_X12_told3 h0 a1 G0 72
  refine z_ok (fun _ _ ok => ?_)
  have oa1 : m_32 a1 := ok 1 _ rfl
  unfold m_32 at oa1
  refine z_aload_n (M := M_X12_told) 0 dX12_told_0 rfl ?_
  refine z_iconst (M := M_X12_told) 1 dX12_told_1 ?_
  refine z_putIH (M := M_X12_told) 2 dX12_told_2 p_X12_133 o_108 rfl (u_108_0 G0) ((FR.rf (cs := []) (ss := [(108, 0)]) (h := h0)).up rfl) (fun h1 E1 G1 R1 => ?_)
  refine z_aload_n (M := M_X12_told) 5 dX12_told_5 rfl ?_
  refine z_getIG (M := M_X12_told) 6 dX12_told_6 f_X12_512 o_108 (by decide) (g_108_60 G1) (fun x1 ex1 ax1 bx1 => ?_)
  have d60_ : h1 108 60 = h0 108 60 := upN E1 (fun q => absurd q.2 (by decide))
  refine z_if_eq (M := M_X12_told) 9 dX12_told_9 19 rfl (fun c2 => ?_) (fun c2 => ?_)
  · refine z_iconst (M := M_X12_told) 19 dX12_told_19 ?_
    exact z_retI (M := M_X12_told) 20 dX12_told_20 rfl ⟨G1, R1, Or.inl ⟨by omega, rfl⟩⟩
  · refine z_iload_n (M := M_X12_told) 12 dX12_told_12 rfl ?_
    refine z_sI (M := M_X12_told) 13 dX12_told_13 t_X12_isThing l_X12_166 (m_rr_of rfl) (rest := []) (c_X12_isThing h1 a1 G1) rfl rfl (Nat.le_of_ble_eq_true rfl) ⟨rfl, rfl⟩ (fun x3 h2 qx3 => ?_)
    obtain ⟨rfl, ⟨rfl, cx3⟩ | ⟨rfl, cx3⟩⟩ := qx3
    · refine z_if_ne_T (M := M_X12_told) 16 dX12_told_16 21 rfl (by omega) ?_
      refine z_iconst (M := M_X12_told) 21 dX12_told_21 ?_
      refine z_istore_n (M := M_X12_told) 22 dX12_told_22 (ls' := [some (mR 108), some (mI a1), some (mI 0), none, none]) (by decide) rfl ?_
      refine z_iconst (M := M_X12_told) 23 dX12_told_23 ?_
      refine z_istore_n (M := M_X12_told) 24 dX12_told_24 (ls' := [some (mR 108), some (mI a1), some (mI 0), some (mI 0), none]) (by decide) rfl ?_
      exact z_mask [true, true, true, true, false] rfl (ih 0 0 h1 G1 R1 (by omega) (by omega) (by omega) (by omega) rfl (by omega) (by omega))
    · refine z_if_ne_F (M := M_X12_told) 16 dX12_told_16 21 rfl (by omega) ?_
      refine z_iconst (M := M_X12_told) 19 dX12_told_19 ?_
      exact z_retI (M := M_X12_told) 20 dX12_told_20 rfl ⟨G1, R1, Or.inl ⟨by omega, rfl⟩⟩
theorem LX.told {h h1 : m_H} {a x y : Int} {cs : List Nat} {ss : List (Nat × Nat)} (R : LX h) (D : DR h) (G : GI h) (S1 : FR cs ss h h1) (A : tdQ 105 1 (tfC h a) a x h) (B : tdQ 108 60 (tfM h1 a) a y h1) (o : out 108 147 cs ss = true) : x = y := by
  have e110 : h1 110 = h 110 := rowz S1 (fr_out o (by decide) (by decide))
  have e147 : h1 147 = h 147 := rowz S1 (fr_out o (by decide) (by decide))
  have e60 : h1 108 60 = h 108 60 := S1 _ _ (fr_out o (by decide) (by decide) 60)
  have d := D.1
  rcases A with ⟨a1, a2⟩ | ⟨a1, a2, a3, a4⟩
  · rcases B with ⟨b1, b2⟩ | ⟨b1, b2, b3, b4⟩
    · rw [a2, b2]
    · omega
  · rcases B with ⟨b1, b2⟩ | ⟨b1, b2, b3, b4⟩
    · omega
    · rw [a4, b4]
      have l := R.2.1
      have dd := (D.2 a1).2.2
      refine tdS_c 32 (fun w hw => ?_)
      have c3 : h 3 a.toNat = h 110 (42 + a.toNat) := l.2.2.1 a.toNat (by omega)
      have i3 : (42 + a).toNat = 42 + a.toNat := by omega
      unfold tfC tfM
      rw [e110, e147, i3, ← c3, ← dd w hw]
      generalize hv : lnV (h 3 a.toNat) a (w : Int) = v
      have hb : 0 ≤ v ∧ v ≤ 11 := by
        rw [← hv]; unfold lnV; split <;> omega
      have g := g_106 G (j := w) hw
      have k1 : h 8 v.toNat = h 110 (60 + v.toNat) := l.2.2.2.1 v.toNat (by omega)
      have k2 : h 8 (12 + h 106 w).toNat = h 110 (60 + (12 + h 106 w).toNat) := l.2.2.2.1 _ (by omega)
      rw [k1, k2, show (60 + v).toNat = 60 + v.toNat by omega, show (72 + h 106 w).toNat = 60 + (12 + h 106 w).toNat by omega]
