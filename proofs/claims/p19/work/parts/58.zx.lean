/-! judge, exact in both -/
noncomputable def jS (W : Int → Prop) (n : Int) : Nat → Int × Int
  | 0 => (-1, 0)
  | d + 1 => cif (W (n - 1 - (d : Int))) (n - 1 - (d : Int), (jS W n d).2 + 1) (jS W n d)
theorem jS_c {W V : Int → Prop} {n : Int} (e : ∀ k, 0 ≤ k → k < n → (W k ↔ V k)) : ∀ d : Nat, (d : Int) ≤ n → jS W n d = jS V n d
  | 0, _ => rfl
  | d + 1, hd => by
    have i := jS_c e d (by omega)
    have z := e (n - 1 - (d : Int)) (by omega) (by omega)
    show cif (W (n - 1 - (d : Int))) _ _ = cif (V (n - 1 - (d : Int))) _ _
    rw [i]
    by_cases g : W (n - 1 - (d : Int))
    · rw [cif_pos g, cif_pos (z.mp g)]
    · rw [cif_neg g, cif_neg (fun y => g (z.mpr y))]
theorem jS_b {W : Int → Prop} {n : Int} : ∀ d : Nat, 0 ≤ (jS W n d).2 ∧ (jS W n d).2 ≤ (d : Int)
  | 0 => ⟨Int.le_refl _, Int.le_refl _⟩
  | d + 1 => by
    have i := jS_b (W := W) (n := n) d
    show 0 ≤ (cif (W (n - 1 - (d : Int))) (n - 1 - (d : Int), (jS W n d).2 + 1) (jS W n d)).2 ∧ (cif (W (n - 1 - (d : Int))) (n - 1 - (d : Int), (jS W n d).2 + 1) (jS W n d)).2 ≤ _
    by_cases g : W (n - 1 - (d : Int))
    · rw [cif_pos g]; show 0 ≤ (jS W n d).2 + 1 ∧ (jS W n d).2 + 1 ≤ _; omega
    · rw [cif_neg g]; omega
def jI (W : Int → Prop) (n l f m : Int) : Prop := f = (jS W n (n - 1 - l).toNat).1 ∧ m = (jS W n (n - 1 - l).toNat).2
theorem jI_0 {W : Int → Prop} {n l : Int} (e : l = n - 1) : jI W n l (-1) 0 := by
  unfold jI; rw [show (n - 1 - l).toNat = 0 by omega]; exact ⟨rfl, rfl⟩
theorem jI_b {W : Int → Prop} {n l f m : Int} (i : jI W n l f m) (h : l ≤ n - 1) : 0 ≤ m ∧ m ≤ n - 1 - l := by
  have z := jS_b (W := W) (n := n) (n - 1 - l).toNat
  rw [i.2]; omega
theorem jI_y {W : Int → Prop} {n l f m : Int} (i : jI W n l f m) (h : l ≤ n - 1) (w : W l) : jI W n (l + (-1)) l (m + 1) := by
  have e : (n - 1 - (l + (-1))).toNat = (n - 1 - l).toNat + 1 := by omega
  have e2 : n - 1 - ((n - 1 - l).toNat : Int) = l := by omega
  unfold jI
  rw [e]
  show l = (cif (W (n - 1 - ((n - 1 - l).toNat : Int))) (n - 1 - ((n - 1 - l).toNat : Int), (jS W n (n - 1 - l).toNat).2 + 1) (jS W n (n - 1 - l).toNat)).1 ∧ m + 1 = (cif (W (n - 1 - ((n - 1 - l).toNat : Int))) (n - 1 - ((n - 1 - l).toNat : Int), (jS W n (n - 1 - l).toNat).2 + 1) (jS W n (n - 1 - l).toNat)).2
  rw [e2, cif_pos w, i.2]; exact ⟨rfl, rfl⟩
theorem jI_n {W : Int → Prop} {n l f m : Int} (i : jI W n l f m) (h : l ≤ n - 1) (w : ¬ W l) : jI W n (l + (-1)) f m := by
  have e : (n - 1 - (l + (-1))).toNat = (n - 1 - l).toNat + 1 := by omega
  have e2 : n - 1 - ((n - 1 - l).toNat : Int) = l := by omega
  unfold jI
  rw [e]
  show f = (cif (W (n - 1 - ((n - 1 - l).toNat : Int))) (n - 1 - ((n - 1 - l).toNat : Int), (jS W n (n - 1 - l).toNat).2 + 1) (jS W n (n - 1 - l).toNat)).1 ∧ m = (cif (W (n - 1 - ((n - 1 - l).toNat : Int))) (n - 1 - ((n - 1 - l).toNat : Int), (jS W n (n - 1 - l).toNat).2 + 1) (jS W n (n - 1 - l).toNat)).2
  rw [e2, cif_neg w]; exact i
theorem jI_e {W : Int → Prop} {n l f m : Int} (i : jI W n l f m) (h : l = -1) : f = (jS W n n.toNat).1 ∧ m = (jS W n n.toNat).2 := by
  unfold jI at i; rw [show (n - 1 - l).toNat = n.toNat by omega] at i; exact i
/-- shorters and cuts by the world -/
def shC (h : m_H) (L : Nat) (p : Int) : Prop := m_and (m_shr (h L 9) p) 1 = 1 → h (L + 7) (12 + p / 4).toNat < h (L + 7) (12 + p % 4).toNat
def cuC (h : m_H) (L : Nat) (t : Int) : Prop := h (L + 2) t.toNat = -1 ∨ h (L + 7) (t + 6).toNat ≤ h (L + 7) t.toNat
def al (P : Int → Prop) (n : Int) : Prop := ∀ k, 0 ≤ k → k < n → P k
theorem al_s {P : Int → Prop} {n : Int} (i : al P n) (p : P n) : al P (n + 1) := fun k h0 h1 => by
  by_cases g : k = n
  · rw [g]; exact p
  · exact i k h0 (by omega)
theorem al_0 {P : Int → Prop} : al P 0 := fun k h0 h1 => by omega
abbrev P_X4_hasShortersByWorld2 (h0 : m_H) (L : Nat) : Int → m_H → Prop := fun x h' => GI h' ∧ FR [] [] h0 h' ∧ 0 ≤ x ∧ x ≤ 1 ∧ (x = 1 ↔ al (shC h0 L) 16)
def q_X4_hasShortersByWorld2 (h0 : m_H) (L : Nat) (n : Nat) : Prop := (∀ (l1 : Int) (h : m_H), GI h → FR [] [] h0 h → 0 ≤ l1 → l1 ≤ 16 → (al (shC h0 L) l1) → 2 * (16 - l1) + (1) ≤ (n : Int) → m_Z oF M_X4_hasShortersByWorld 2 [some (mR L), some (mI l1), none, none] [] h (m_QI (P_X4_hasShortersByWorld2 h0 L)))
set_option maxHeartbeats 4000000 in
set_option maxRecDepth 100000 in
theorem s_X4_hasShortersByWorld2_2 (h0 : m_H) (L : Nat) (hL : isL L) (G0 : GI h0) (n : Nat) (ih : q_X4_hasShortersByWorld2 h0 L n) : ∀ (l1 : Int) (h : m_H), GI h → FR [] [] h0 h → 0 ≤ l1 → l1 ≤ 16 → (al (shC h0 L) l1) → 2 * (16 - l1) + (1) ≤ ((n + 1 : Nat) : Int) → m_Z oF M_X4_hasShortersByWorld 2 [some (mR L), some (mI l1), none, none] [] h (m_QI (P_X4_hasShortersByWorld2 h0 L)) := by
  intro l1 h G R v0 v1 i0 hr
  have e_ := frE R
  refine z_iload_n (M := M_X4_hasShortersByWorld) 2 dX4_hasShortersByWorld_2 rfl ?_
  refine z_bipush (M := M_X4_hasShortersByWorld) 3 dX4_hasShortersByWorld_3 ?_
  refine z_icmp_ge (M := M_X4_hasShortersByWorld) 5 dX4_hasShortersByWorld_5 56 rfl (fun c1 => ?_) (fun c1 => ?_)
  · refine z_iconst (M := M_X4_hasShortersByWorld) 56 dX4_hasShortersByWorld_56 ?_
    exact z_retZ (M := M_X4_hasShortersByWorld) 57 dX4_hasShortersByWorld_57 rfl (by omega) ⟨G, R, by omega, by omega, ⟨fun _ => by rw [show (16 : Int) = l1 by omega]; exact i0, fun _ => rfl⟩⟩
  · refine z_aload_n (M := M_X4_hasShortersByWorld) 8 dX4_hasShortersByWorld_8 rfl ?_
    refine z_getR (M := M_X4_hasShortersByWorld) 9 dX4_hasShortersByWorld_9 f_X4_30 (oL hL) rfl (rL_6 hL G) ?_
    refine z_bipush (M := M_X4_hasShortersByWorld) 12 dX4_hasShortersByWorld_12 ?_
    refine z_iload_n (M := M_X4_hasShortersByWorld) 14 dX4_hasShortersByWorld_14 rfl ?_
    refine z_iconst (M := M_X4_hasShortersByWorld) 15 dX4_hasShortersByWorld_15 ?_
    refine z_idivN (M := M_X4_hasShortersByWorld) 16 dX4_hasShortersByWorld_16 (by omega) (by omega) ?_
    refine z_topBI (lo := 0) (hi := 3) ⟨by omega, by omega⟩ (fun x2 ex2 ax2 bx2 => ?_)
    refine z_iaddN (M := M_X4_hasShortersByWorld) 17 dX4_hasShortersByWorld_17 (by omega) (by omega) ?_
    refine z_ialdG (M := M_X4_hasShortersByWorld) 18 dX4_hasShortersByWorld_18 (oL_7 hL) (by omega) (by omega) (gL_7 hL G (by omega)) (fun x3 ex3 ax3 bx3 => ?_)
    refine z_istore_n (M := M_X4_hasShortersByWorld) 19 dX4_hasShortersByWorld_19 (ls' := [some (mR L), some (mI l1), some (mI x3), none]) (by decide) rfl ?_
    refine z_aload_n (M := M_X4_hasShortersByWorld) 20 dX4_hasShortersByWorld_20 rfl ?_
    refine z_getR (M := M_X4_hasShortersByWorld) 21 dX4_hasShortersByWorld_21 f_X4_30 (oL hL) rfl (rL_6 hL G) ?_
    refine z_bipush (M := M_X4_hasShortersByWorld) 24 dX4_hasShortersByWorld_24 ?_
    refine z_iload_n (M := M_X4_hasShortersByWorld) 26 dX4_hasShortersByWorld_26 rfl ?_
    refine z_iconst (M := M_X4_hasShortersByWorld) 27 dX4_hasShortersByWorld_27 ?_
    refine z_iremN (M := M_X4_hasShortersByWorld) 28 dX4_hasShortersByWorld_28 (by omega) (by omega) ?_
    refine z_topBI (lo := 0) (hi := 3) ⟨by omega, by omega⟩ (fun x4 ex4 ax4 bx4 => ?_)
    refine z_iaddN (M := M_X4_hasShortersByWorld) 29 dX4_hasShortersByWorld_29 (by omega) (by omega) ?_
    refine z_ialdG (M := M_X4_hasShortersByWorld) 30 dX4_hasShortersByWorld_30 (oL_7 hL) (by omega) (by omega) (gL_7 hL G (by omega)) (fun x5 ex5 ax5 bx5 => ?_)
    refine z_istore_n (M := M_X4_hasShortersByWorld) 31 dX4_hasShortersByWorld_31 (ls' := [some (mR L), some (mI l1), some (mI x3), some (mI x5)]) (by decide) rfl ?_
    refine z_aload_n (M := M_X4_hasShortersByWorld) 32 dX4_hasShortersByWorld_32 rfl ?_
    refine z_getIV (M := M_X4_hasShortersByWorld) 33 dX4_hasShortersByWorld_33 f_X4_52 (oL hL) (by decide) (fun x6 ex6 => ?_)
    refine z_ok (fun ox6 _ _ => ?_)
    have ox6 := ox6.1; unfold m_ok m_32 at ox6
    refine z_iload_n (M := M_X4_hasShortersByWorld) 36 dX4_hasShortersByWorld_36 rfl ?_
    refine z_nI (M := M_X4_hasShortersByWorld) 37 dX4_hasShortersByWorld_37 t_X11_hasBit l_X4_59 (m_rr_of rfl) (rest := []) (c_X11_hasBit h x6 l1 G) rfl rfl (Nat.le_of_ble_eq_true rfl) ⟨rfl, rfl⟩ (fun x7 h1 qx7 => ?_)
    obtain ⟨rfl, ⟨rfl, cx7⟩ | ⟨rfl, cx7⟩⟩ := qx7
    · refine z_if_eq_F (M := M_X4_hasShortersByWorld) 40 dX4_hasShortersByWorld_40 50 rfl (by omega) ?_
      refine z_iload_n (M := M_X4_hasShortersByWorld) 43 dX4_hasShortersByWorld_43 rfl ?_
      refine z_iload_n (M := M_X4_hasShortersByWorld) 44 dX4_hasShortersByWorld_44 rfl ?_
      refine z_icmp_lt (M := M_X4_hasShortersByWorld) 45 dX4_hasShortersByWorld_45 50 rfl (fun c8 => ?_) (fun c8 => ?_)
      · refine z_iincN (M := M_X4_hasShortersByWorld) 50 dX4_hasShortersByWorld_50 (ls' := [some (mR L), some (mI (l1 + 1)), some (mI x3), some (mI x5)]) (by decide) rfl (by (unfold m_32; decide)) (by omega) (by omega) rfl ?_
        refine z_goto (M := M_X4_hasShortersByWorld) 53 dX4_hasShortersByWorld_53 2 rfl ?_
        exact z_mask [true, true, false, false] rfl (ih (l1 + 1) h G R (by omega) (by omega) (al_s i0 (fun z => by rw [← e_, ex2, ex4, ex3, ex5]; omega)) (by omega))
      · refine z_iconst (M := M_X4_hasShortersByWorld) 48 dX4_hasShortersByWorld_48 ?_
        exact z_retZ (M := M_X4_hasShortersByWorld) 49 dX4_hasShortersByWorld_49 rfl (by omega) ⟨G, R, by omega, by omega, ⟨fun z => absurd z (by decide), fun z => by have y := z l1 (by omega) (by omega) (by rw [← e_, ex6]; exact cx7); rw [← e_, ex2, ex4, ex3, ex5] at y; omega⟩⟩
    · refine z_if_eq_T (M := M_X4_hasShortersByWorld) 40 dX4_hasShortersByWorld_40 50 rfl (by omega) ?_
      refine z_iincN (M := M_X4_hasShortersByWorld) 50 dX4_hasShortersByWorld_50 (ls' := [some (mR L), some (mI (l1 + 1)), some (mI x3), some (mI x5)]) (by decide) rfl (by (unfold m_32; decide)) (by omega) (by omega) rfl ?_
      refine z_goto (M := M_X4_hasShortersByWorld) 53 dX4_hasShortersByWorld_53 2 rfl ?_
      exact z_mask [true, true, false, false] rfl (ih (l1 + 1) h G R (by omega) (by omega) (al_s i0 (fun z => absurd (by rw [← e_, ex6] at z; exact z) cx7)) (by omega))
theorem a_X4_hasShortersByWorld2 (h0 : m_H) (L : Nat) (hL : isL L) (G0 : GI h0) : ∀ n, q_X4_hasShortersByWorld2 h0 L n := by
  intro n
  induction n with
  | zero => unfold q_X4_hasShortersByWorld2; intros; omega
  | succ n ih => exact s_X4_hasShortersByWorld2_2 h0 L hL G0 n ih
set_option maxHeartbeats 4000000 in
set_option maxRecDepth 100000 in
theorem c_X4_hasShortersByWorld2 (h0 : m_H) (L : Nat) (hL : isL L) (G0 : GI h0) : m_CI M_X4_hasShortersByWorld [mR L] h0 (P_X4_hasShortersByWorld2 h0 L) := by
  refine m_CI_of ⟨by decide, rfl, by simp [m_arg, m_isL, M_X4_hasShortersByWorld], ⟨rfl, rfl⟩, rfl, rfl⟩ (ls := [some (mR L), none, none, none]) rfl ?_
  have ih := a_X4_hasShortersByWorld2 h0 L hL G0 40
  refine z_iconst (M := M_X4_hasShortersByWorld) 0 dX4_hasShortersByWorld_0 ?_
  refine z_istore_n (M := M_X4_hasShortersByWorld) 1 dX4_hasShortersByWorld_1 (ls' := [some (mR L), some (mI 0), none, none]) (by decide) rfl ?_
  exact z_mask [true, true, false, false] rfl (ih 0 h0 G0 (FR.rf (cs := []) (ss := []) (h := h0)) (by omega) (by omega) al_0 (by omega))
abbrev P_X4_hasCutsByWorld2 (h0 : m_H) (L : Nat) : Int → m_H → Prop := fun x h' => GI h' ∧ FR [] [] h0 h' ∧ 0 ≤ x ∧ x ≤ 1 ∧ (x = 1 ↔ al (cuC h0 L) 6)
def q_X4_hasCutsByWorld2 (h0 : m_H) (L : Nat) (n : Nat) : Prop := (∀ (l1 : Int) (h : m_H), GI h → FR [] [] h0 h → 0 ≤ l1 → l1 ≤ 6 → (al (cuC h0 L) l1) → 2 * (6 - l1) + (1) ≤ (n : Int) → m_Z oF M_X4_hasCutsByWorld 2 [some (mR L), some (mI l1)] [] h (m_QI (P_X4_hasCutsByWorld2 h0 L)))
set_option maxHeartbeats 4000000 in
set_option maxRecDepth 100000 in
theorem s_X4_hasCutsByWorld2_2 (h0 : m_H) (L : Nat) (hL : isL L) (G0 : GI h0) (n : Nat) (ih : q_X4_hasCutsByWorld2 h0 L n) : ∀ (l1 : Int) (h : m_H), GI h → FR [] [] h0 h → 0 ≤ l1 → l1 ≤ 6 → (al (cuC h0 L) l1) → 2 * (6 - l1) + (1) ≤ ((n + 1 : Nat) : Int) → m_Z oF M_X4_hasCutsByWorld 2 [some (mR L), some (mI l1)] [] h (m_QI (P_X4_hasCutsByWorld2 h0 L)) := by
  intro l1 h G R v0 v1 i0 hr
  have e_ := frE R
  refine z_iload_n (M := M_X4_hasCutsByWorld) 2 dX4_hasCutsByWorld_2 rfl ?_
  refine z_bipush (M := M_X4_hasCutsByWorld) 3 dX4_hasCutsByWorld_3 ?_
  refine z_icmp_ge (M := M_X4_hasCutsByWorld) 5 dX4_hasCutsByWorld_5 44 rfl (fun c1 => ?_) (fun c1 => ?_)
  · refine z_iconst (M := M_X4_hasCutsByWorld) 44 dX4_hasCutsByWorld_44 ?_
    exact z_retZ (M := M_X4_hasCutsByWorld) 45 dX4_hasCutsByWorld_45 rfl (by omega) ⟨G, R, by omega, by omega, ⟨fun _ => by rw [show (6 : Int) = l1 by omega]; exact i0, fun _ => rfl⟩⟩
  · refine z_aload_n (M := M_X4_hasCutsByWorld) 8 dX4_hasCutsByWorld_8 rfl ?_
    refine z_getR (M := M_X4_hasCutsByWorld) 9 dX4_hasCutsByWorld_9 f_X4_15 (oL hL) rfl (rL_1 hL G) ?_
    refine z_iload_n (M := M_X4_hasCutsByWorld) 12 dX4_hasCutsByWorld_12 rfl ?_
    refine z_ialdG (M := M_X4_hasCutsByWorld) 13 dX4_hasCutsByWorld_13 (oL_2 hL) (by omega) (by omega) (gL_2 hL G (by omega)) (fun x2 ex2 ax2 bx2 => ?_)
    refine z_iconst (M := M_X4_hasCutsByWorld) 14 dX4_hasCutsByWorld_14 ?_
    refine z_icmp_eq (M := M_X4_hasCutsByWorld) 15 dX4_hasCutsByWorld_15 38 rfl (fun c3 => ?_) (fun c3 => ?_)
    · refine z_iincN (M := M_X4_hasCutsByWorld) 38 dX4_hasCutsByWorld_38 (ls' := [some (mR L), some (mI (l1 + 1))]) (by decide) rfl (by (unfold m_32; decide)) (by omega) (by omega) rfl ?_
      refine z_goto (M := M_X4_hasCutsByWorld) 41 dX4_hasCutsByWorld_41 2 rfl ?_
      exact z_mask [true, true] rfl (ih (l1 + 1) h G R (by omega) (by omega) (al_s i0 (Or.inl (by rw [← e_, ex2]; omega))) (by omega))
    · refine z_aload_n (M := M_X4_hasCutsByWorld) 18 dX4_hasCutsByWorld_18 rfl ?_
      refine z_getR (M := M_X4_hasCutsByWorld) 19 dX4_hasCutsByWorld_19 f_X4_30 (oL hL) rfl (rL_6 hL G) ?_
      refine z_iload_n (M := M_X4_hasCutsByWorld) 22 dX4_hasCutsByWorld_22 rfl ?_
      refine z_bipush (M := M_X4_hasCutsByWorld) 23 dX4_hasCutsByWorld_23 ?_
      refine z_iaddN (M := M_X4_hasCutsByWorld) 25 dX4_hasCutsByWorld_25 (by omega) (by omega) ?_
      refine z_ialdG (M := M_X4_hasCutsByWorld) 26 dX4_hasCutsByWorld_26 (oL_7 hL) (by omega) (by omega) (gL_7 hL G (by omega)) (fun x4 ex4 ax4 bx4 => ?_)
      refine z_aload_n (M := M_X4_hasCutsByWorld) 27 dX4_hasCutsByWorld_27 rfl ?_
      refine z_getR (M := M_X4_hasCutsByWorld) 28 dX4_hasCutsByWorld_28 f_X4_30 (oL hL) rfl (rL_6 hL G) ?_
      refine z_iload_n (M := M_X4_hasCutsByWorld) 31 dX4_hasCutsByWorld_31 rfl ?_
      refine z_ialdG (M := M_X4_hasCutsByWorld) 32 dX4_hasCutsByWorld_32 (oL_7 hL) (by omega) (by omega) (gL_7 hL G (by omega)) (fun x5 ex5 ax5 bx5 => ?_)
      refine z_icmp_le (M := M_X4_hasCutsByWorld) 33 dX4_hasCutsByWorld_33 38 rfl (fun c6 => ?_) (fun c6 => ?_)
      · refine z_iincN (M := M_X4_hasCutsByWorld) 38 dX4_hasCutsByWorld_38 (ls' := [some (mR L), some (mI (l1 + 1))]) (by decide) rfl (by (unfold m_32; decide)) (by omega) (by omega) rfl ?_
        refine z_goto (M := M_X4_hasCutsByWorld) 41 dX4_hasCutsByWorld_41 2 rfl ?_
        exact z_mask [true, true] rfl (ih (l1 + 1) h G R (by omega) (by omega) (al_s i0 (Or.inr (by rw [← e_, ex4, ex5]; omega))) (by omega))
      · refine z_iconst (M := M_X4_hasCutsByWorld) 36 dX4_hasCutsByWorld_36 ?_
        exact z_retZ (M := M_X4_hasCutsByWorld) 37 dX4_hasCutsByWorld_37 rfl (by omega) ⟨G, R, by omega, by omega, ⟨fun z => absurd z (by decide), fun z => by have y := z l1 (by omega) (by omega); unfold cuC at y; rw [← e_, ex2, ex4, ex5] at y; omega⟩⟩
theorem a_X4_hasCutsByWorld2 (h0 : m_H) (L : Nat) (hL : isL L) (G0 : GI h0) : ∀ n, q_X4_hasCutsByWorld2 h0 L n := by
  intro n
  induction n with
  | zero => unfold q_X4_hasCutsByWorld2; intros; omega
  | succ n ih => exact s_X4_hasCutsByWorld2_2 h0 L hL G0 n ih
set_option maxHeartbeats 4000000 in
set_option maxRecDepth 100000 in
theorem c_X4_hasCutsByWorld2 (h0 : m_H) (L : Nat) (hL : isL L) (G0 : GI h0) : m_CI M_X4_hasCutsByWorld [mR L] h0 (P_X4_hasCutsByWorld2 h0 L) := by
  refine m_CI_of ⟨by decide, rfl, by simp [m_arg, m_isL, M_X4_hasCutsByWorld], ⟨rfl, rfl⟩, rfl, rfl⟩ (ls := [some (mR L), none]) rfl ?_
  have ih := a_X4_hasCutsByWorld2 h0 L hL G0 20
  refine z_iconst (M := M_X4_hasCutsByWorld) 0 dX4_hasCutsByWorld_0 ?_
  refine z_istore_n (M := M_X4_hasCutsByWorld) 1 dX4_hasCutsByWorld_1 (ls' := [some (mR L), some (mI 0)]) (by decide) rfl ?_
  exact z_mask [true, true] rfl (ih 0 h0 G0 (FR.rf (cs := []) (ss := []) (h := h0)) (by omega) (by omega) al_0 (by omega))
def wrC (h : m_H) (e : Int) : Prop := m_and (m_shr (h 1 8) e) 1 = 1 ∧ ¬ soC h 1 e
def jdQ (W : Int → Prop) (n : Int) (A B : Prop) (a x : Int) : Prop := ((a < 0 ∨ 2 < a) ∧ x = -1) ∨ (a = 0 ∧ x = (jS W n n.toNat).1) ∨ (a = 1 ∧ x = (jS W n n.toNat).2) ∨ (a = 2 ∧ (x = 0 ∨ x = 1) ∧ (x = 1 ↔ ((jS W n n.toNat).2 = 0 ∧ A ∧ B)))
abbrev P_X11_judge3 (h0 : m_H) (a1 : Int) : Int → m_H → Prop := fun x h' => GI h' ∧ FR [] [] h0 h' ∧ jdQ (wrC h0) (h0 1 7) (al (shC h0 1) 16) (al (cuC h0 1) 6) a1 x
def q_X11_judge3 (h0 : m_H) (a1 : Int) (n : Nat) : Prop := (∀ (l2 l3 l4 : Int) (h : m_H), GI h → FR [] [] h0 h → (-1) ≤ l2 → l2 ≤ 23 → (-1) ≤ l4 → l4 ≤ 23 → 0 ≤ a1 → a1 ≤ 2 → (jI (wrC h0) (h0 1 7) l4 l2 l3) → (l4 ≤ h0 1 7 - 1) → 2 * (l4 - (-1)) + (1) ≤ (n : Int) → m_Z oF M_X11_judge 26 [some (mR 0), some (mI a1), some (mI l2), some (mI l3), some (mI l4)] [] h (m_QI (P_X11_judge3 h0 a1)))
set_option maxHeartbeats 4000000 in
set_option maxRecDepth 100000 in
theorem s_X11_judge3_26 (h0 : m_H) (a1 : Int) (G0 : GI h0) (n : Nat) (ih : q_X11_judge3 h0 a1 n) : ∀ (l2 l3 l4 : Int) (h : m_H), GI h → FR [] [] h0 h → (-1) ≤ l2 → l2 ≤ 23 → (-1) ≤ l4 → l4 ≤ 23 → 0 ≤ a1 → a1 ≤ 2 → (jI (wrC h0) (h0 1 7) l4 l2 l3) → (l4 ≤ h0 1 7 - 1) → 2 * (l4 - (-1)) + (1) ≤ ((n + 1 : Nat) : Int) → m_Z oF M_X11_judge 26 [some (mR 0), some (mI a1), some (mI l2), some (mI l3), some (mI l4)] [] h (m_QI (P_X11_judge3 h0 a1)) := by
  intro l2 l3 l4 h G R v0 v1 v2 v3 v4 v5 i0 i1 hr
  have e_ := frE R
  have b0_ := jI_b i0 i1
  have g17_ := g_1_7 G0
  refine z_ok (fun ostk _ olocs => ?_)
  have ol3 : m_32 l3 := olocs 3 _ rfl
  unfold m_32 at ol3
  refine z_iload (M := M_X11_judge) 26 dX11_judge_26 rfl ?_
  refine z_if_lt (M := M_X11_judge) 28 dX11_judge_28 67 rfl (fun c1 => ?_) (fun c1 => ?_)
  · refine z_iload_n (M := M_X11_judge) 67 dX11_judge_67 rfl ?_
    refine z_iconst (M := M_X11_judge) 68 dX11_judge_68 ?_
    refine z_icmp_ne (M := M_X11_judge) 69 dX11_judge_69 102 rfl (fun c2 => ?_) (fun c2 => ?_)
    · refine z_iload_n (M := M_X11_judge) 102 dX11_judge_102 rfl ?_
      refine z_if_ne (M := M_X11_judge) 103 dX11_judge_103 110 rfl (fun c3 => ?_) (fun c3 => ?_)
      · refine z_iload_n (M := M_X11_judge) 110 dX11_judge_110 rfl ?_
        exact z_retI (M := M_X11_judge) 111 dX11_judge_111 rfl ⟨G, R, by obtain ⟨e1, e2⟩ := jI_e i0 (by omega); exact Or.inr (Or.inr (Or.inl ⟨by omega, e2⟩))⟩
      · refine z_iload_n (M := M_X11_judge) 106 dX11_judge_106 rfl ?_
        refine z_goto (M := M_X11_judge) 107 dX11_judge_107 111 rfl ?_
        exact z_retI (M := M_X11_judge) 111 dX11_judge_111 rfl ⟨G, R, by obtain ⟨e1, e2⟩ := jI_e i0 (by omega); exact Or.inr (Or.inl ⟨by omega, e1⟩)⟩
    · refine z_iload_n (M := M_X11_judge) 72 dX11_judge_72 rfl ?_
      refine z_if_ne (M := M_X11_judge) 73 dX11_judge_73 100 rfl (fun c4 => ?_) (fun c4 => ?_)
      · refine z_iconst (M := M_X11_judge) 100 dX11_judge_100 ?_
        exact z_retI (M := M_X11_judge) 101 dX11_judge_101 rfl ⟨G, R, by obtain ⟨e1, e2⟩ := jI_e i0 (by omega); exact Or.inr (Or.inr (Or.inr ⟨by omega, Or.inl rfl, fun z => absurd z (by decide), fun z => by have y := z.1; omega⟩))⟩
      · refine z_aload_n (M := M_X11_judge) 76 dX11_judge_76 rfl ?_
        refine z_getR (M := M_X11_judge) 77 dX11_judge_77 f_X11_12 o_0 rfl (g_0_0 G) ?_
        refine z_vI (M := M_X11_judge) 80 dX11_judge_80 t_X4_hasShortersByWorld l_X11_386 (m_rr_of rfl) (rest := []) (c_X4_hasShortersByWorld2 h 1 (Or.inl rfl) G) o_1 rfl rfl rfl (Nat.le_of_ble_eq_true rfl) ⟨rfl, rfl⟩ (fun x5 h1 qx5 => ?_)
        obtain ⟨G1, S1, ax5, bx5, fx5⟩ := qx5
        have R1 := R.call S1 (by decide +kernel)
        refine z_if_eq (M := M_X11_judge) 83 dX11_judge_83 100 rfl (fun c6 => ?_) (fun c6 => ?_)
        · refine z_iconst (M := M_X11_judge) 100 dX11_judge_100 ?_
          exact z_retI (M := M_X11_judge) 101 dX11_judge_101 rfl ⟨G1, R1, by obtain ⟨e1, e2⟩ := jI_e i0 (by omega); exact Or.inr (Or.inr (Or.inr ⟨by omega, Or.inl rfl, fun z => absurd z (by decide), fun z => by have y := fx5.mpr (by rw [e_]; exact z.2.1); omega⟩))⟩
        · refine z_aload_n (M := M_X11_judge) 86 dX11_judge_86 rfl ?_
          refine z_getR (M := M_X11_judge) 87 dX11_judge_87 f_X11_12 o_0 rfl (g_0_0 G1) ?_
          refine z_vI (M := M_X11_judge) 90 dX11_judge_90 t_X4_hasCutsByWorld l_X11_389 (m_rr_of rfl) (rest := []) (c_X4_hasCutsByWorld2 h1 1 (Or.inl rfl) G1) o_1 rfl rfl rfl (Nat.le_of_ble_eq_true rfl) ⟨rfl, rfl⟩ (fun x7 h2 qx7 => ?_)
          obtain ⟨G2, S2, ax7, bx7, fx7⟩ := qx7
          have R2 := R1.call S2 (by decide +kernel)
          refine z_if_eq (M := M_X11_judge) 93 dX11_judge_93 100 rfl (fun c8 => ?_) (fun c8 => ?_)
          · refine z_iconst (M := M_X11_judge) 100 dX11_judge_100 ?_
            exact z_retI (M := M_X11_judge) 101 dX11_judge_101 rfl ⟨G2, R2, by obtain ⟨e1, e2⟩ := jI_e i0 (by omega); exact Or.inr (Or.inr (Or.inr ⟨by omega, Or.inl rfl, fun z => absurd z (by decide), fun z => by have y := fx7.mpr (by rw [frE R1]; exact z.2.2); omega⟩))⟩
          · refine z_iconst (M := M_X11_judge) 96 dX11_judge_96 ?_
            refine z_goto (M := M_X11_judge) 97 dX11_judge_97 101 rfl ?_
            exact z_retI (M := M_X11_judge) 101 dX11_judge_101 rfl ⟨G2, R2, by obtain ⟨e1, e2⟩ := jI_e i0 (by omega); exact Or.inr (Or.inr (Or.inr ⟨by omega, Or.inr rfl, fun _ => ⟨by omega, by rw [← e_]; exact fx5.mp (by omega), by rw [← frE R1]; exact fx7.mp (by omega)⟩, fun _ => rfl⟩))⟩
  · refine z_aload_n (M := M_X11_judge) 31 dX11_judge_31 rfl ?_
    refine z_getR (M := M_X11_judge) 32 dX11_judge_32 f_X11_12 o_0 rfl (g_0_0 G) ?_
    refine z_iload (M := M_X11_judge) 35 dX11_judge_35 rfl ?_
    refine z_vI (M := M_X11_judge) 37 dX11_judge_37 t_X4_isCounting l_X11_165 (m_rr_of rfl) (rest := []) (c_X4_isCounting2 h 1 l4 (Or.inl rfl) G) o_1 rfl rfl rfl (Nat.le_of_ble_eq_true rfl) ⟨rfl, rfl⟩ (fun x9 h3 qx9 => ?_)
    obtain ⟨G3, S3, ax9, bx9, fx9⟩ := qx9
    have R3 := R.call S3 (by decide +kernel)
    refine z_if_eq (M := M_X11_judge) 40 dX11_judge_40 61 rfl (fun c10 => ?_) (fun c10 => ?_)
    · refine z_iincN (M := M_X11_judge) 61 dX11_judge_61 (ls' := [some (mR 0), some (mI a1), some (mI l2), some (mI l3), some (mI (l4 + (-1)))]) (by decide) rfl (by (unfold m_32; decide)) (by omega) (by omega) rfl ?_
      refine z_goto (M := M_X11_judge) 64 dX11_judge_64 26 rfl ?_
      exact z_mask [true, true, true, true, true] rfl (ih l2 l3 (l4 + (-1)) h3 G3 R3 (by omega) (by omega) (by omega) (by omega) (by omega) (by omega) (jI_n i0 i1 (fun z => by have y := z.1; rw [← e_] at y; have := fx9.mpr y; omega)) (by omega) (by omega))
    · refine z_aload_n (M := M_X11_judge) 43 dX11_judge_43 rfl ?_
      refine z_getR (M := M_X11_judge) 44 dX11_judge_44 f_X11_12 o_0 rfl (g_0_0 G3) ?_
      refine z_iload (M := M_X11_judge) 47 dX11_judge_47 rfl ?_
      refine z_vI (M := M_X11_judge) 49 dX11_judge_49 t_X4_isSoByWorld l_X11_383 (m_rr_of rfl) (rest := []) (c_X4_isSoByWorld2 h3 1 l4 (Or.inl rfl) G3 ⟨by omega, by omega⟩) o_1 rfl rfl rfl (Nat.le_of_ble_eq_true rfl) ⟨rfl, rfl⟩ (fun x11 h4 qx11 => ?_)
      obtain ⟨G4, S4, ax11, bx11, fx11⟩ := qx11
      have R4 := R3.call S4 (by decide +kernel)
      refine z_if_ne (M := M_X11_judge) 52 dX11_judge_52 61 rfl (fun c12 => ?_) (fun c12 => ?_)
      · refine z_iincN (M := M_X11_judge) 61 dX11_judge_61 (ls' := [some (mR 0), some (mI a1), some (mI l2), some (mI l3), some (mI (l4 + (-1)))]) (by decide) rfl (by (unfold m_32; decide)) (by omega) (by omega) rfl ?_
        refine z_goto (M := M_X11_judge) 64 dX11_judge_64 26 rfl ?_
        exact z_mask [true, true, true, true, true] rfl (ih l2 l3 (l4 + (-1)) h4 G4 R4 (by omega) (by omega) (by omega) (by omega) (by omega) (by omega) (jI_n i0 i1 (fun z => z.2 (by rw [← e_, ← frE S3]; exact fx11.mp (by omega)))) (by omega) (by omega))
      · refine z_iload (M := M_X11_judge) 55 dX11_judge_55 rfl ?_
        refine z_istore_n (M := M_X11_judge) 57 dX11_judge_57 (ls' := [some (mR 0), some (mI a1), some (mI l4), some (mI l3), some (mI l4)]) (by decide) rfl ?_
        refine z_iincN (M := M_X11_judge) 58 dX11_judge_58 (ls' := [some (mR 0), some (mI a1), some (mI l4), some (mI (l3 + 1)), some (mI l4)]) (by decide) rfl (by (unfold m_32; decide)) (by omega) (by omega) rfl ?_
        refine z_iincN (M := M_X11_judge) 61 dX11_judge_61 (ls' := [some (mR 0), some (mI a1), some (mI l4), some (mI (l3 + 1)), some (mI (l4 + (-1)))]) (by decide) rfl (by (unfold m_32; decide)) (by omega) (by omega) rfl ?_
        refine z_goto (M := M_X11_judge) 64 dX11_judge_64 26 rfl ?_
        exact z_mask [true, true, true, true, true] rfl (ih l4 (l3 + 1) (l4 + (-1)) h4 G4 R4 (by omega) (by omega) (by omega) (by omega) (by omega) (by omega) (jI_y i0 i1 ⟨by rw [← e_]; exact fx9.mp (by omega), fun z => by rw [← e_, ← frE S3] at z; have := fx11.mpr z; omega⟩) (by omega) (by omega))
theorem a_X11_judge3 (h0 : m_H) (a1 : Int) (G0 : GI h0) : ∀ n, q_X11_judge3 h0 a1 n := by
  intro n
  induction n with
  | zero => unfold q_X11_judge3; intros; omega
  | succ n ih => exact s_X11_judge3_26 h0 a1 G0 n ih
set_option maxHeartbeats 4000000 in
set_option maxRecDepth 100000 in
theorem c_X11_judge3 (h0 : m_H) (a1 : Int) (G0 : GI h0) : m_CI M_X11_judge [mR 0, mI a1] h0 (P_X11_judge3 h0 a1) := by
  refine m_CI_of ⟨by decide, rfl, by simp [m_arg, m_isL, M_X11_judge], ⟨rfl, rfl⟩, rfl, rfl⟩ (ls := [some (mR 0), some (mI a1), none, none, none]) rfl ?_
  have ih := a_X11_judge3 h0 a1 G0 56
  refine z_ok (fun _ _ ok => ?_)
  have oa1 : m_32 a1 := ok 1 _ rfl
  unfold m_32 at oa1
  refine z_iload_n (M := M_X11_judge) 0 dX11_judge_0 rfl ?_
  refine z_iconst (M := M_X11_judge) 1 dX11_judge_1 ?_
  refine z_iconst (M := M_X11_judge) 2 dX11_judge_2 ?_
  refine z_sI (M := M_X11_judge) 3 dX11_judge_3 t_X11_within l_X11_112 (m_rr_of rfl) (rest := []) (c_X11_within h0 a1 0 2 G0) rfl rfl (Nat.le_of_ble_eq_true rfl) ⟨rfl, rfl⟩ (fun x1 h1 qx1 => ?_)
  obtain ⟨rfl, ⟨rfl, cx1⟩ | ⟨rfl, cx1⟩⟩ := qx1
  · refine z_if_ne_T (M := M_X11_judge) 6 dX11_judge_6 11 rfl (by omega) ?_
    refine z_iconst (M := M_X11_judge) 11 dX11_judge_11 ?_
    refine z_istore_n (M := M_X11_judge) 12 dX11_judge_12 (ls' := [some (mR 0), some (mI a1), some (mI (-1)), none, none]) (by decide) rfl ?_
    refine z_iconst (M := M_X11_judge) 13 dX11_judge_13 ?_
    refine z_istore_n (M := M_X11_judge) 14 dX11_judge_14 (ls' := [some (mR 0), some (mI a1), some (mI (-1)), some (mI 0), none]) (by decide) rfl ?_
    refine z_aload_n (M := M_X11_judge) 15 dX11_judge_15 rfl ?_
    refine z_getR (M := M_X11_judge) 16 dX11_judge_16 f_X11_12 o_0 rfl (g_0_0 G0) ?_
    refine z_getIG (M := M_X11_judge) 19 dX11_judge_19 f_X11_162 o_1 (by decide) (g_1_7 G0) (fun x2 ex2 ax2 bx2 => ?_)
    refine z_iconst (M := M_X11_judge) 22 dX11_judge_22 ?_
    refine z_isubN (M := M_X11_judge) 23 dX11_judge_23 (by omega) (by omega) ?_
    refine z_istore (M := M_X11_judge) 24 dX11_judge_24 (ls' := [some (mR 0), some (mI a1), some (mI (-1)), some (mI 0), some (mI (x2 - 1))]) (by decide) rfl ?_
    exact z_mask [true, true, true, true, true] rfl (ih (-1) 0 (x2 - 1) h0 G0 (FR.rf (cs := []) (ss := []) (h := h0)) (by omega) (by omega) (by omega) (by omega) (by omega) (by omega) (jI_0 (by omega)) (by omega) (by omega))
  · refine z_if_ne_F (M := M_X11_judge) 6 dX11_judge_6 11 rfl (by omega) ?_
    refine z_iconst (M := M_X11_judge) 9 dX11_judge_9 ?_
    exact z_retI (M := M_X11_judge) 10 dX11_judge_10 rfl ⟨G0, (FR.rf (cs := []) (ss := []) (h := h0)), Or.inl ⟨by omega, rfl⟩⟩
