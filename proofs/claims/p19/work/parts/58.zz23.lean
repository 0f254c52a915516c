/-! steps over lengths -/
def pBb (B : Int) (v : Int × Int × Int) : Prop := (0 < v.1 ∧ v.1 ≤ B) ∧ 0 ≤ v.2.1 ∧ v.2.1 ≤ B
def bkH (h : m_H) : Prop := ∀ j : Nat, j < 48 → (0 ≤ h 39 j ∧ h 39 j ≤ 200) ∧ 0 ≤ h 41 j ∧ h 41 j ≤ 200
def bkS (h : m_H) : Prop := ∀ p : Nat, p < 16 → pBb 200 (bd h (43 + p))
theorem pBb_ls {B : Int} {x y : Int × Int × Int} (h : pBb B x) (k : pBb B y) : pBb B (lsB x y) := by
  unfold lsB; split
  · exact k
  · exact h
def soW (i : Int) (p : Nat) (h : m_H) : Int × Int × Int := if h 41 (4 * i.toNat + p / 4) ≠ 0 ∧ h 39 (4 * i.toNat + p % 4) ≠ 0 then lsB (bd h (43 + p)) (h 39 (4 * i.toNat + p % 4), h 41 (4 * i.toNat + p / 4), h 40 (4 * i.toNat + p % 4)) else bd h (43 + p)
def soQ (i n : Int) (h0 h : m_H) : Prop := (∀ c, (c < 43 ∨ 58 < c) → h c = h0 c) ∧ ∀ p : Nat, p < 16 → bd h (43 + p) = if (p : Int) < n then soW i p h0 else bd h0 (43 + p)
theorem so_z {i : Int} {h : m_H} : soQ i 0 h h := ⟨fun _ _ => rfl, fun p _ => by rw [if_neg (by omega)]⟩
theorem so_end {i n m : Int} {h0 h : m_H} (q : soQ i n h0 h) (e : n = m) : soQ i m h0 h := e ▸ q
/-- no low: the row stays -/
theorem so_row {i l x : Int} {h0 h : m_H} (q : soQ i (4 * l) h0 h) (i0 : 0 ≤ i) (l0 : 0 ≤ l) (e : h 41 (i * 4 + l).toNat = x) (c : x = 0) : soQ i (4 * (l + 1)) h0 h := by
  refine ⟨q.1, fun p hp => ?_⟩
  rw [q.2 p hp]
  by_cases g : (p : Int) < 4 * l
  · rw [if_pos g, if_pos (by omega)]
  · rw [if_neg g]
    by_cases y : (p : Int) < 4 * (l + 1)
    · rw [if_pos y]
      have a : 4 * i.toNat + p / 4 = (i * 4 + l).toNat := by omega
      have r := q.1 41 (by omega)
      unfold soW
      rw [if_neg]
      rintro ⟨u, _⟩
      rw [a, ← r] at u
      exact u (e.trans c)
    · rw [if_neg y]
/-- no high: it stays -/
theorem so_one {i l m x : Int} {h0 h : m_H} (q : soQ i (4 * l + m) h0 h) (i0 : 0 ≤ i) (l0 : 0 ≤ l) (m0 : 0 ≤ m) (m3 : m ≤ 3) (e : h 39 (i * 4 + m).toNat = x) (c : x = 0) : soQ i (4 * l + (m + 1)) h0 h := by
  refine ⟨q.1, fun p hp => ?_⟩
  rw [q.2 p hp]
  by_cases g : (p : Int) < 4 * l + m
  · rw [if_pos g, if_pos (by omega)]
  · rw [if_neg g]
    by_cases y : (p : Int) < 4 * l + (m + 1)
    · rw [if_pos y]
      have a : 4 * i.toNat + p % 4 = (i * 4 + m).toNat := by omega
      have r := q.1 39 (by omega)
      unfold soW
      rw [if_neg]
      rintro ⟨_, u⟩
      rw [a, ← r] at u
      exact u (e.trans c)
    · rw [if_neg y]
theorem bd_ne {h h1 : m_H} {b c : Nat} {v : Int × Int × Int} (B : bN b v h h1) (q : c ≠ b) : bd h1 c = bd h c := by unfold bd; rw [B.1 c q]
theorem so_ls {i l m x2 x5 x6 : Int} {h0 h h1 : m_H} (q : soQ i (4 * l + m) h0 h) (i0 : 0 ≤ i) (l0 : 0 ≤ l) (l3 : l ≤ 3) (m0 : 0 ≤ m) (m3 : m ≤ 3) (nz : h0 41 (i * 4 + l).toNat ≠ 0) (e2 : h 39 (i * 4 + m).toNat = x2) (c : x2 ≠ 0) (e5 : h 41 (i * 4 + l).toNat = x5) (e6 : h 40 (i * 4 + m).toNat = x6) (B : bN (43 + (l * 4 + m).toNat) (lsB (bd h (43 + (l * 4 + m).toNat)) (x2, x5, x6)) h h1) : soQ i (4 * l + (m + 1)) h0 h1 := by
  refine ⟨fun c hc => ?_, fun p hp => ?_⟩
  · rw [B.1 c (by omega)]; exact q.1 c hc
  · by_cases g : p = (l * 4 + m).toNat
    · have a1 : 4 * i.toNat + p / 4 = (i * 4 + l).toNat := by omega
      have a2 : 4 * i.toNat + p % 4 = (i * 4 + m).toNat := by omega
      have z := q.2 p hp
      rw [if_neg (by omega)] at z
      rw [if_pos (by omega)]
      unfold soW
      rw [a1, a2, ← q.1 39 (by omega), ← q.1 40 (by omega), if_pos ⟨nz, by rw [e2]; exact c⟩, ← q.1 41 (by omega), e2, e5, e6, ← z, g]
      exact B.2
    · rw [bd_ne B (by omega), q.2 p hp]
      by_cases y : (p : Int) < 4 * l + m
      · rw [if_pos y, if_pos (by omega)]
      · rw [if_neg y, if_neg (by omega)]
theorem bkS_ls {h h1 : m_H} {l m x2 x5 x6 : Int} (k : bkS h) (i0 : 0 ≤ l * 4 + m) (i1 : l * 4 + m ≤ 15) (a2 : 0 < x2 ∧ x2 ≤ 200) (a5 : 0 ≤ x5 ∧ x5 ≤ 200) (B : bN (43 + (l * 4 + m).toNat) (lsB (bd h (43 + (l * 4 + m).toNat)) (x2, x5, x6)) h h1) : bkS h1 := fun p hp => by
  by_cases g : p = (l * 4 + m).toNat
  · rw [g, B.2]
    exact pBb_ls (k _ (by omega)) ⟨a2, a5⟩
  · rw [bd_ne B (by omega)]; exact k p hp
theorem bkH_at {h0 h : m_H} (k : bkH h0) (q : ∀ c, (c < 43 ∨ 58 < c) → h c = h0 c) {i x : Int} (i1 : 0 ≤ i) (i2 : i ≤ 47) : (h 39 i.toNat = x → 0 ≤ x ∧ x ≤ 200) ∧ (h 41 i.toNat = x → 0 ≤ x ∧ x ≤ 200) := by
  have z := k i.toNat (by omega)
  rw [q 39 (by omega), q 41 (by omega)]
  exact ⟨fun e => by omega, fun e => by omega⟩
theorem bkS_at {h : m_H} (k : bkS h) {p : Int} (p0 : 0 ≤ p) (p1 : p ≤ 15) : (0 ≤ h (43 + p.toNat) 0 ∧ h (43 + p.toNat) 0 ≤ 3000000000) ∧ 0 ≤ h (43 + p.toNat) 1 ∧ h (43 + p.toNat) 1 ≤ 3000000000 := by
  have z := k p.toNat (by omega)
  unfold pBb bd at z
  simp only at z
  omega
abbrev P_X9_stepOver2 (h0 : m_H) (a1 : Int) : m_H → Prop := fun h' => GI h' ∧ FR (csB ++ []) [] h0 h' ∧ soQ a1 16 h0 h' ∧ bkS h'
def q_X9_stepOver2 (h0 : m_H) (a1 : Int) (n : Nat) : Prop := (∀ (l3 : Int) (h : m_H), GI h → FR (csB ++ []) [] h0 h → 0 ≤ l3 → l3 ≤ 4 → (soQ a1 (4 * l3) h0 h) → (bkS h) → 13 * (4 - l3) + (12) ≤ (n : Int) → m_Z oF M_X9_stepOver 6 [some (mR 38), none, some (mI (a1 * 4)), some (mI l3), none] [] h (m_QV (P_X9_stepOver2 h0 a1))) ∧ (∀ (l3 l4 : Int) (h : m_H), GI h → FR (csB ++ []) [] h0 h → 0 ≤ l3 → l3 ≤ 3 → 0 ≤ l4 → l4 ≤ 4 → (soQ a1 (4 * l3 + l4) h0 h) → (bkS h) → (h0 41 (a1 * 4 + l3).toNat ≠ 0) → 13 * (4 - l3) + 2 * (4 - l4) + (1) ≤ (n : Int) → m_Z oF M_X9_stepOver 28 [some (mR 38), none, some (mI (a1 * 4)), some (mI l3), some (mI l4)] [] h (m_QV (P_X9_stepOver2 h0 a1)))
set_option maxHeartbeats 4000000 in
set_option maxRecDepth 100000 in
theorem s_X9_stepOver2_6 (h0 : m_H) (a1 : Int) (G0 : GI h0) (pa1 : 0 ≤ a1 ∧ a1 ≤ 11) (hH : bkH h0) (hS : bkS h0) (n : Nat) (ih : q_X9_stepOver2 h0 a1 n) : ∀ (l3 : Int) (h : m_H), GI h → FR (csB ++ []) [] h0 h → 0 ≤ l3 → l3 ≤ 4 → (soQ a1 (4 * l3) h0 h) → (bkS h) → 13 * (4 - l3) + (12) ≤ ((n + 1 : Nat) : Int) → m_Z oF M_X9_stepOver 6 [some (mR 38), none, some (mI (a1 * 4)), some (mI l3), none] [] h (m_QV (P_X9_stepOver2 h0 a1)) := by
  intro l3 h G R v0 v1 i0 i1 hr
  refine z_iload_n (M := M_X9_stepOver) 6 dX9_stepOver_6 rfl ?_
  refine z_iconst (M := M_X9_stepOver) 7 dX9_stepOver_7 ?_
  refine z_icmp_ge (M := M_X9_stepOver) 8 dX9_stepOver_8 100 rfl (fun c1 => ?_) (fun c1 => ?_)
  · exact z_retV (M := M_X9_stepOver) 100 dX9_stepOver_100 rfl ⟨G, R, so_end i0 (by omega), i1⟩
  · refine z_aload_n (M := M_X9_stepOver) 11 dX9_stepOver_11 rfl ?_
    refine z_getR (M := M_X9_stepOver) 12 dX9_stepOver_12 f_X9_19 o_38 rfl (g_38_2 G) ?_
    refine z_iload_n (M := M_X9_stepOver) 15 dX9_stepOver_15 rfl ?_
    refine z_iload_n (M := M_X9_stepOver) 16 dX9_stepOver_16 rfl ?_
    refine z_iaddN (M := M_X9_stepOver) 17 dX9_stepOver_17 (by omega) (by omega) ?_
    refine z_ialdV (M := M_X9_stepOver) 18 dX9_stepOver_18 o_41 (by omega) (by omega) (fun x2 ex2 => ?_)
    refine z_ok (fun ox2 _ _ => ?_)
    have ox2 := ox2.1; unfold m_ok m_32 at ox2
    refine z_if_ne (M := M_X9_stepOver) 19 dX9_stepOver_19 25 rfl (fun c3 => ?_) (fun c3 => ?_)
    · refine z_iconst (M := M_X9_stepOver) 25 dX9_stepOver_25 ?_
      refine z_istore (M := M_X9_stepOver) 26 dX9_stepOver_26 (ls' := [some (mR 38), none, some (mI (a1 * 4)), some (mI l3), some (mI 0)]) (by decide) rfl ?_
      exact z_mask [true, false, true, true, true] rfl (ih.2 l3 0 h G R (by omega) (by omega) (by omega) (by omega) (so_end i0 (by omega)) i1 (by rw [← i0.1 41 (by omega), ex2]; exact c3) (by omega))
    · refine z_goto (M := M_X9_stepOver) 22 dX9_stepOver_22 94 rfl ?_
      refine z_iincN (M := M_X9_stepOver) 94 dX9_stepOver_94 (ls' := [some (mR 38), none, some (mI (a1 * 4)), some (mI (l3 + 1)), none]) (by decide) rfl (by (unfold m_32; decide)) (by omega) (by omega) rfl ?_
      refine z_goto (M := M_X9_stepOver) 97 dX9_stepOver_97 6 rfl ?_
      exact z_mask [true, false, true, true, false] rfl (ih.1 (l3 + 1) h G R (by omega) (by omega) (so_row i0 (by omega) (by omega) ex2 (by omega)) i1 (by omega))
set_option maxHeartbeats 4000000 in
set_option maxRecDepth 100000 in
theorem s_X9_stepOver2_28 (h0 : m_H) (a1 : Int) (G0 : GI h0) (pa1 : 0 ≤ a1 ∧ a1 ≤ 11) (hH : bkH h0) (hS : bkS h0) (n : Nat) (ih : q_X9_stepOver2 h0 a1 n) : ∀ (l3 l4 : Int) (h : m_H), GI h → FR (csB ++ []) [] h0 h → 0 ≤ l3 → l3 ≤ 3 → 0 ≤ l4 → l4 ≤ 4 → (soQ a1 (4 * l3 + l4) h0 h) → (bkS h) → (h0 41 (a1 * 4 + l3).toNat ≠ 0) → 13 * (4 - l3) + 2 * (4 - l4) + (1) ≤ ((n + 1 : Nat) : Int) → m_Z oF M_X9_stepOver 28 [some (mR 38), none, some (mI (a1 * 4)), some (mI l3), some (mI l4)] [] h (m_QV (P_X9_stepOver2 h0 a1)) := by
  intro l3 l4 h G R v0 v1 v2 v3 i0 i1 i2 hr
  refine z_iload (M := M_X9_stepOver) 28 dX9_stepOver_28 rfl ?_
  refine z_iconst (M := M_X9_stepOver) 30 dX9_stepOver_30 ?_
  refine z_icmp_ge (M := M_X9_stepOver) 31 dX9_stepOver_31 94 rfl (fun c1 => ?_) (fun c1 => ?_)
  · refine z_iincN (M := M_X9_stepOver) 94 dX9_stepOver_94 (ls' := [some (mR 38), none, some (mI (a1 * 4)), some (mI (l3 + 1)), some (mI l4)]) (by decide) rfl (by (unfold m_32; decide)) (by omega) (by omega) rfl ?_
    refine z_goto (M := M_X9_stepOver) 97 dX9_stepOver_97 6 rfl ?_
    exact z_mask [true, false, true, true, false] rfl (ih.1 (l3 + 1) h G R (by omega) (by omega) (so_end i0 (by omega)) i1 (by omega))
  · refine z_aload_n (M := M_X9_stepOver) 34 dX9_stepOver_34 rfl ?_
    refine z_getR (M := M_X9_stepOver) 35 dX9_stepOver_35 f_X9_9 o_38 rfl (g_38_0 G) ?_
    refine z_iload_n (M := M_X9_stepOver) 38 dX9_stepOver_38 rfl ?_
    refine z_iload (M := M_X9_stepOver) 39 dX9_stepOver_39 rfl ?_
    refine z_iaddN (M := M_X9_stepOver) 41 dX9_stepOver_41 (by omega) (by omega) ?_
    refine z_ialdV (M := M_X9_stepOver) 42 dX9_stepOver_42 o_39 (by omega) (by omega) (fun x2 ex2 => ?_)
    refine z_ok (fun ox2 _ _ => ?_)
    have ox2 := ox2.1; unfold m_ok m_32 at ox2
    refine z_if_eq (M := M_X9_stepOver) 43 dX9_stepOver_43 88 rfl (fun c3 => ?_) (fun c3 => ?_)
    · refine z_iincN (M := M_X9_stepOver) 88 dX9_stepOver_88 (ls' := [some (mR 38), none, some (mI (a1 * 4)), some (mI l3), some (mI (l4 + 1))]) (by decide) rfl (by (unfold m_32; decide)) (by omega) (by omega) rfl ?_
      refine z_goto (M := M_X9_stepOver) 91 dX9_stepOver_91 28 rfl ?_
      exact z_mask [true, false, true, true, true] rfl (ih.2 l3 (l4 + 1) h G R (by omega) (by omega) (by omega) (by omega) (so_one i0 (by omega) (by omega) (by omega) (by omega) ex2 c3) i1 i2 (by omega))
    · refine z_aload_n (M := M_X9_stepOver) 46 dX9_stepOver_46 rfl ?_
      refine z_getR (M := M_X9_stepOver) 47 dX9_stepOver_47 f_X9_26 o_38 rfl (g_38_3 G) ?_
      refine z_iload_n (M := M_X9_stepOver) 50 dX9_stepOver_50 rfl ?_
      refine z_iconst (M := M_X9_stepOver) 51 dX9_stepOver_51 ?_
      refine z_imulN (M := M_X9_stepOver) 52 dX9_stepOver_52 (by omega) (by omega) ?_
      refine z_iload (M := M_X9_stepOver) 53 dX9_stepOver_53 rfl ?_
      refine z_iaddN (M := M_X9_stepOver) 55 dX9_stepOver_55 (by omega) (by omega) ?_
      have hb4 := isB_42 (i := ((l3 * 4) + l4)) (by omega) (by omega)
      refine z_aaldB (M := M_X9_stepOver) 56 dX9_stepOver_56 o_42 (by omega) (by omega) (g_42 G (by omega)) ?_
      refine z_aload_n (M := M_X9_stepOver) 57 dX9_stepOver_57 rfl ?_
      refine z_getR (M := M_X9_stepOver) 58 dX9_stepOver_58 f_X9_9 o_38 rfl (g_38_0 G) ?_
      refine z_iload_n (M := M_X9_stepOver) 61 dX9_stepOver_61 rfl ?_
      refine z_iload (M := M_X9_stepOver) 62 dX9_stepOver_62 rfl ?_
      refine z_iaddN (M := M_X9_stepOver) 64 dX9_stepOver_64 (by omega) (by omega) ?_
      refine z_ialdE (M := M_X9_stepOver) 65 dX9_stepOver_65 o_39 (by omega) (by omega) ex2 ?_
      refine z_i2l (M := M_X9_stepOver) 66 dX9_stepOver_66 ?_
      refine z_aload_n (M := M_X9_stepOver) 67 dX9_stepOver_67 rfl ?_
      refine z_getR (M := M_X9_stepOver) 68 dX9_stepOver_68 f_X9_19 o_38 rfl (g_38_2 G) ?_
      refine z_iload_n (M := M_X9_stepOver) 71 dX9_stepOver_71 rfl ?_
      refine z_iload_n (M := M_X9_stepOver) 72 dX9_stepOver_72 rfl ?_
      refine z_iaddN (M := M_X9_stepOver) 73 dX9_stepOver_73 (by omega) (by omega) ?_
      refine z_ialdV (M := M_X9_stepOver) 74 dX9_stepOver_74 o_41 (by omega) (by omega) (fun x5 ex5 => ?_)
      refine z_ok (fun ox5 _ _ => ?_)
      have ox5 := ox5.1; unfold m_ok m_32 at ox5
      refine z_i2l (M := M_X9_stepOver) 75 dX9_stepOver_75 ?_
      refine z_aload_n (M := M_X9_stepOver) 76 dX9_stepOver_76 rfl ?_
      refine z_getR (M := M_X9_stepOver) 77 dX9_stepOver_77 f_X9_15 o_38 rfl (g_38_1 G) ?_
      refine z_iload_n (M := M_X9_stepOver) 80 dX9_stepOver_80 rfl ?_
      refine z_iload (M := M_X9_stepOver) 81 dX9_stepOver_81 rfl ?_
      refine z_iaddN (M := M_X9_stepOver) 83 dX9_stepOver_83 (by omega) (by omega) ?_
      refine z_zaldG (M := M_X9_stepOver) 84 dX9_stepOver_84 o_40 (by omega) (by omega) (g_40 G (by omega)) (fun x6 ex6 ax6 bx6 => ?_)
      have y2 := (bkH_at hH i0.1 (i := a1 * 4 + l4) (x := x2) (by omega) (by omega)).1 ex2
      have y5 := (bkH_at hH i0.1 (i := a1 * 4 + l3) (x := x5) (by omega) (by omega)).2 ex5
      refine z_vV (M := M_X9_stepOver) 85 dX9_stepOver_85 t_X2_lessen l_X9_66 (m_rr_of rfl) (rest := []) (c_X2_lessen2 h (43 + (((l3 * 4) + l4)).toNat) x2 x5 x6 hb4 G ⟨by omega, by omega⟩ (bkS_at i1 (by omega) (by omega)).1 (bkS_at i1 (by omega) (by omega)).2 ⟨by omega, by omega⟩ ⟨by omega, by omega⟩) (oB hb4) rfl rfl rfl (Nat.le_of_ble_eq_true rfl) ⟨rfl, rfl⟩ (fun h1 qx7 => ?_)
      obtain ⟨G1, S1, B1⟩ := qx7
      have R1 := R.call S1 (by decide +kernel)
      refine z_iincN (M := M_X9_stepOver) 88 dX9_stepOver_88 (ls' := [some (mR 38), none, some (mI (a1 * 4)), some (mI l3), some (mI (l4 + 1))]) (by decide) rfl (by (unfold m_32; decide)) (by omega) (by omega) rfl ?_
      refine z_goto (M := M_X9_stepOver) 91 dX9_stepOver_91 28 rfl ?_
      exact z_mask [true, false, true, true, true] rfl (ih.2 l3 (l4 + 1) h1 G1 R1 (by omega) (by omega) (by omega) (by omega) (so_ls i0 (by omega) (by omega) (by omega) (by omega) (by omega) i2 ex2 c3 ex5 ex6 B1) (bkS_ls i1 (by omega) (by omega) ⟨by omega, by omega⟩ ⟨by omega, by omega⟩ B1) i2 (by omega))
theorem a_X9_stepOver2 (h0 : m_H) (a1 : Int) (G0 : GI h0) (pa1 : 0 ≤ a1 ∧ a1 ≤ 11) (hH : bkH h0) (hS : bkS h0) : ∀ n, q_X9_stepOver2 h0 a1 n := by
  intro n
  induction n with
  | zero => unfold q_X9_stepOver2; refine ⟨?_, ?_⟩ <;> (intros; omega)
  | succ n ih => exact ⟨s_X9_stepOver2_6 h0 a1 G0 pa1 hH hS n ih, s_X9_stepOver2_28 h0 a1 G0 pa1 hH hS n ih⟩
set_option maxHeartbeats 4000000 in
set_option maxRecDepth 100000 in
theorem c_X9_stepOver2 (h0 : m_H) (a1 : Int) (G0 : GI h0) (pa1 : 0 ≤ a1 ∧ a1 ≤ 11) (hH : bkH h0) (hS : bkS h0) : m_CV M_X9_stepOver [mR 38, mI a1] h0 (P_X9_stepOver2 h0 a1) := by
  refine m_CV_of ⟨by decide, rfl, by simp [m_arg, m_isL, M_X9_stepOver], ⟨rfl, rfl⟩, rfl, rfl⟩ (ls := [some (mR 38), some (mI a1), none, none, none]) rfl ?_
  have ih := a_X9_stepOver2 h0 a1 G0 pa1 hH hS 71
  refine z_iload_n (M := M_X9_stepOver) 0 dX9_stepOver_0 rfl ?_
  refine z_iconst (M := M_X9_stepOver) 1 dX9_stepOver_1 ?_
  refine z_imulN (M := M_X9_stepOver) 2 dX9_stepOver_2 (by omega) (by omega) ?_
  refine z_istore_n (M := M_X9_stepOver) 3 dX9_stepOver_3 (ls' := [some (mR 38), some (mI a1), some (mI (a1 * 4)), none, none]) (by decide) rfl ?_
  refine z_iconst (M := M_X9_stepOver) 4 dX9_stepOver_4 ?_
  refine z_istore_n (M := M_X9_stepOver) 5 dX9_stepOver_5 (ls' := [some (mR 38), some (mI a1), some (mI (a1 * 4)), some (mI 0), none]) (by decide) rfl ?_
  exact z_mask [true, false, true, true, false] rfl (ih.1 0 h0 G0 (FR.rf (cs := (csB ++ [])) (ss := []) (h := h0)) (by omega) (by omega) so_z hS (by omega))
abbrev P_X9_eachFootHolds2 (h0 : m_H) : Int → m_H → Prop := fun x h' => GI h' ∧ FR [] [] h0 h' ∧ 0 ≤ x ∧ x ≤ 1 ∧ (x = 1 ↔ ∀ k : Nat, k < 4 → ¬ bl1 (bd h0 (43 + (k * 4 + k))))
def q_X9_eachFootHolds2 (h0 : m_H) (n : Nat) : Prop := (∀ (l1 : Int) (h : m_H), GI h → FR [] [] h0 h → 0 ≤ l1 → l1 ≤ 4 → (∀ k : Nat, (k : Int) < l1 → ¬ bl1 (bd h0 (43 + (k * 4 + k)))) → 2 * (4 - l1) + (1) ≤ (n : Int) → m_Z oF M_X9_eachFootHolds 2 [some (mR 38), some (mI l1)] [] h (m_QI (P_X9_eachFootHolds2 h0)))
set_option maxHeartbeats 4000000 in
set_option maxRecDepth 100000 in
theorem s_X9_eachFootHolds2_2 (h0 : m_H) (G0 : GI h0) (n : Nat) (ih : q_X9_eachFootHolds2 h0 n) : ∀ (l1 : Int) (h : m_H), GI h → FR [] [] h0 h → 0 ≤ l1 → l1 ≤ 4 → (∀ k : Nat, (k : Int) < l1 → ¬ bl1 (bd h0 (43 + (k * 4 + k)))) → 2 * (4 - l1) + (1) ≤ ((n + 1 : Nat) : Int) → m_Z oF M_X9_eachFootHolds 2 [some (mR 38), some (mI l1)] [] h (m_QI (P_X9_eachFootHolds2 h0)) := by
  intro l1 h G R v0 v1 i0 hr
  have e_ := frE R
  refine z_iload_n (M := M_X9_eachFootHolds) 2 dX9_eachFootHolds_2 rfl ?_
  refine z_iconst (M := M_X9_eachFootHolds) 3 dX9_eachFootHolds_3 ?_
  refine z_icmp_ge (M := M_X9_eachFootHolds) 4 dX9_eachFootHolds_4 31 rfl (fun c1 => ?_) (fun c1 => ?_)
  · refine z_iconst (M := M_X9_eachFootHolds) 31 dX9_eachFootHolds_31 ?_
    exact z_retZ (M := M_X9_eachFootHolds) 32 dX9_eachFootHolds_32 rfl (by omega) ⟨G, R, by omega, by omega, ⟨fun _ k hk => i0 k (by omega), fun _ => rfl⟩⟩
  · refine z_aload_n (M := M_X9_eachFootHolds) 7 dX9_eachFootHolds_7 rfl ?_
    refine z_getR (M := M_X9_eachFootHolds) 8 dX9_eachFootHolds_8 f_X9_26 o_38 rfl (g_38_3 G) ?_
    refine z_iload_n (M := M_X9_eachFootHolds) 11 dX9_eachFootHolds_11 rfl ?_
    refine z_iconst (M := M_X9_eachFootHolds) 12 dX9_eachFootHolds_12 ?_
    refine z_imulN (M := M_X9_eachFootHolds) 13 dX9_eachFootHolds_13 (by omega) (by omega) ?_
    refine z_iload_n (M := M_X9_eachFootHolds) 14 dX9_eachFootHolds_14 rfl ?_
    refine z_iaddN (M := M_X9_eachFootHolds) 15 dX9_eachFootHolds_15 (by omega) (by omega) ?_
    have hb2 := isB_42 (i := ((l1 * 4) + l1)) (by omega) (by omega)
    refine z_aaldB (M := M_X9_eachFootHolds) 16 dX9_eachFootHolds_16 o_42 (by omega) (by omega) (g_42 G (by omega)) ?_
    refine z_vI (M := M_X9_eachFootHolds) 17 dX9_eachFootHolds_17 t_X2_isBelowOne l_X9_118 (m_rr_of rfl) (rest := []) (c_X2_isBelowOne2 h (43 + (((l1 * 4) + l1)).toNat) hb2 G) (oB hb2) rfl rfl rfl (Nat.le_of_ble_eq_true rfl) ⟨rfl, rfl⟩ (fun x3 h1 qx3 => ?_)
    obtain ⟨G1, S1, ax3, bx3, fx3⟩ := qx3
    have R1 := R.call S1 (by decide +kernel)
    refine z_if_eq (M := M_X9_eachFootHolds) 20 dX9_eachFootHolds_20 25 rfl (fun c4 => ?_) (fun c4 => ?_)
    · refine z_iincN (M := M_X9_eachFootHolds) 25 dX9_eachFootHolds_25 (ls' := [some (mR 38), some (mI (l1 + 1))]) (by decide) rfl (by (unfold m_32; decide)) (by omega) (by omega) rfl ?_
      refine z_goto (M := M_X9_eachFootHolds) 28 dX9_eachFootHolds_28 2 rfl ?_
      exact z_mask [true, true] rfl (ih (l1 + 1) h1 G1 R1 (by omega) (by omega) (fun k hk => by
        by_cases g : k = l1.toNat
        · have z := fx3; rw [e_, show (l1 * 4 + l1).toNat = k * 4 + k by omega] at z; exact fun y => absurd (z.mpr y) (by omega)
        · exact i0 k (by omega)) (by omega))
    · refine z_iconst (M := M_X9_eachFootHolds) 23 dX9_eachFootHolds_23 ?_
      exact z_retZ (M := M_X9_eachFootHolds) 24 dX9_eachFootHolds_24 rfl (by omega) ⟨G1, R1, by omega, by omega, ⟨fun z => absurd z (by decide), fun z => absurd (fx3.mp (by omega)) (by rw [e_, show (l1 * 4 + l1).toNat = l1.toNat * 4 + l1.toNat by omega]; exact z l1.toNat (by omega))⟩⟩
theorem a_X9_eachFootHolds2 (h0 : m_H) (G0 : GI h0) : ∀ n, q_X9_eachFootHolds2 h0 n := by
  intro n
  induction n with
  | zero => unfold q_X9_eachFootHolds2; intros; omega
  | succ n ih => exact s_X9_eachFootHolds2_2 h0 G0 n ih
set_option maxHeartbeats 4000000 in
set_option maxRecDepth 100000 in
theorem c_X9_eachFootHolds2 (h0 : m_H) (G0 : GI h0) : m_CI M_X9_eachFootHolds [mR 38] h0 (P_X9_eachFootHolds2 h0) := by
  refine m_CI_of ⟨by decide, rfl, by simp [m_arg, m_isL, M_X9_eachFootHolds], ⟨rfl, rfl⟩, rfl, rfl⟩ (ls := [some (mR 38), none]) rfl ?_
  have ih := a_X9_eachFootHolds2 h0 G0 16
  refine z_iconst (M := M_X9_eachFootHolds) 0 dX9_eachFootHolds_0 ?_
  refine z_istore_n (M := M_X9_eachFootHolds) 1 dX9_eachFootHolds_1 (ls' := [some (mR 38), some (mI 0)]) (by decide) rfl ?_
  exact z_mask [true, true] rfl (ih 0 h0 G0 (FR.rf (cs := []) (ss := []) (h := h0)) (by omega) (by omega) (fun k hk => by omega) (by omega))
def fhN (h : m_H) (a b : Int) : Prop := ∀ x y : Nat, y < x → x < 4 → ((x : Int) < a ∨ ((x : Int) = a ∧ (y : Int) < b)) → ¬ ctr (bd h (77 + (x * 4 + y))) (bd h (77 + (y * 4 + x)))
def bkR (h : m_H) : Prop := ∀ p : Nat, p < 16 → pBb 8000000 (bd h (77 + p))
theorem bkR_at {h : m_H} (k : bkR h) {p : Int} (p0 : 0 ≤ p) (p1 : p ≤ 15) : (0 ≤ h (77 + p.toNat) 0 ∧ h (77 + p.toNat) 0 ≤ 3000000000) ∧ 0 ≤ h (77 + p.toNat) 1 ∧ h (77 + p.toNat) 1 ≤ 3000000000 := by
  have z := k p.toNat (by omega)
  unfold pBb bd at z
  simp only at z
  omega
theorem fh_s {h : m_H} {a b : Int} (i : fhN h a b) (a0 : 0 ≤ a) (b0 : 0 ≤ b) (c : ¬ ctr (bd h (77 + (a * 4 + b).toNat)) (bd h (77 + (b * 4 + a).toNat))) : fhN h a (b + 1) := fun x y h1 h2 h3 => by
  by_cases g : (x : Int) = a ∧ (y : Int) = b
  · rw [show x * 4 + y = (a * 4 + b).toNat by omega, show y * 4 + x = (b * 4 + a).toNat by omega]; exact c
  · exact i x y h1 h2 (by omega)
abbrev P_X9_feetHoldTogether2 (h0 : m_H) : Int → m_H → Prop := fun x h' => GI h' ∧ FR [] [] h0 h' ∧ 0 ≤ x ∧ x ≤ 1 ∧ (x = 1 ↔ fhN h0 4 0)
def q_X9_feetHoldTogether2 (h0 : m_H) (n : Nat) : Prop := (∀ (l1 : Int) (h : m_H), GI h → FR [] [] h0 h → 0 ≤ l1 → l1 ≤ 4 → (fhN h0 l1 0) → 11 * (4 - l1) + (10) ≤ (n : Int) → m_Z oF M_X9_feetHoldTogether 2 [some (mR 38), some (mI l1), none, none] [] h (m_QI (P_X9_feetHoldTogether2 h0))) ∧ (∀ (l1 l2 : Int) (h : m_H), GI h → FR [] [] h0 h → 0 ≤ l1 → l1 ≤ 3 → 0 ≤ l2 → l2 ≤ 3 → (fhN h0 l1 l2) → 11 * (4 - l1) + 2 * (3 - l2) + (1) ≤ (n : Int) → m_Z oF M_X9_feetHoldTogether 9 [some (mR 38), some (mI l1), some (mI l2), none] [] h (m_QI (P_X9_feetHoldTogether2 h0)))
set_option maxHeartbeats 4000000 in
set_option maxRecDepth 100000 in
theorem s_X9_feetHoldTogether2_2 (h0 : m_H) (G0 : GI h0) (hR : bkR h0) (n : Nat) (ih : q_X9_feetHoldTogether2 h0 n) : ∀ (l1 : Int) (h : m_H), GI h → FR [] [] h0 h → 0 ≤ l1 → l1 ≤ 4 → (fhN h0 l1 0) → 11 * (4 - l1) + (10) ≤ ((n + 1 : Nat) : Int) → m_Z oF M_X9_feetHoldTogether 2 [some (mR 38), some (mI l1), none, none] [] h (m_QI (P_X9_feetHoldTogether2 h0)) := by
  intro l1 h G R v0 v1 i0 hr
  refine z_iload_n (M := M_X9_feetHoldTogether) 2 dX9_feetHoldTogether_2 rfl ?_
  refine z_iconst (M := M_X9_feetHoldTogether) 3 dX9_feetHoldTogether_3 ?_
  refine z_icmp_ge (M := M_X9_feetHoldTogether) 4 dX9_feetHoldTogether_4 56 rfl (fun c1 => ?_) (fun c1 => ?_)
  · refine z_iconst (M := M_X9_feetHoldTogether) 56 dX9_feetHoldTogether_56 ?_
    exact z_retZ (M := M_X9_feetHoldTogether) 57 dX9_feetHoldTogether_57 rfl (by omega) ⟨G, R, by omega, by omega, ⟨fun _ x y h1 h2 h3 => i0 x y h1 h2 (by omega), fun _ => rfl⟩⟩
  · refine z_iconst (M := M_X9_feetHoldTogether) 7 dX9_feetHoldTogether_7 ?_
    refine z_istore_n (M := M_X9_feetHoldTogether) 8 dX9_feetHoldTogether_8 (ls' := [some (mR 38), some (mI l1), some (mI 0), none]) (by decide) rfl ?_
    exact z_mask [true, true, true, false] rfl (ih.2 l1 0 h G R (by omega) (by omega) (by omega) (by omega) i0 (by omega))
set_option maxHeartbeats 4000000 in
set_option maxRecDepth 100000 in
theorem s_X9_feetHoldTogether2_9 (h0 : m_H) (G0 : GI h0) (hR : bkR h0) (n : Nat) (ih : q_X9_feetHoldTogether2 h0 n) : ∀ (l1 l2 : Int) (h : m_H), GI h → FR [] [] h0 h → 0 ≤ l1 → l1 ≤ 3 → 0 ≤ l2 → l2 ≤ 3 → (fhN h0 l1 l2) → 11 * (4 - l1) + 2 * (3 - l2) + (1) ≤ ((n + 1 : Nat) : Int) → m_Z oF M_X9_feetHoldTogether 9 [some (mR 38), some (mI l1), some (mI l2), none] [] h (m_QI (P_X9_feetHoldTogether2 h0)) := by
  intro l1 l2 h G R v0 v1 v2 v3 i0 hr
  have e_ := frE R
  have hR2 : bkR h := e_ ▸ hR
  refine z_iload_n (M := M_X9_feetHoldTogether) 9 dX9_feetHoldTogether_9 rfl ?_
  refine z_iload_n (M := M_X9_feetHoldTogether) 10 dX9_feetHoldTogether_10 rfl ?_
  refine z_icmp_ge (M := M_X9_feetHoldTogether) 11 dX9_feetHoldTogether_11 50 rfl (fun c1 => ?_) (fun c1 => ?_)
  · refine z_iincN (M := M_X9_feetHoldTogether) 50 dX9_feetHoldTogether_50 (ls' := [some (mR 38), some (mI (l1 + 1)), some (mI l2), none]) (by decide) rfl (by (unfold m_32; decide)) (by omega) (by omega) rfl ?_
    refine z_goto (M := M_X9_feetHoldTogether) 53 dX9_feetHoldTogether_53 2 rfl ?_
    exact z_mask [true, true, false, false] rfl (ih.1 (l1 + 1) h G R (by omega) (by omega) (fun x y h1 h2 h3 => i0 x y h1 h2 (by omega)) (by omega))
  · refine z_aload_n (M := M_X9_feetHoldTogether) 14 dX9_feetHoldTogether_14 rfl ?_
    refine z_getR (M := M_X9_feetHoldTogether) 15 dX9_feetHoldTogether_15 f_X9_33 o_38 rfl (g_38_5 G) ?_
    refine z_iload_n (M := M_X9_feetHoldTogether) 18 dX9_feetHoldTogether_18 rfl ?_
    refine z_iconst (M := M_X9_feetHoldTogether) 19 dX9_feetHoldTogether_19 ?_
    refine z_imulN (M := M_X9_feetHoldTogether) 20 dX9_feetHoldTogether_20 (by omega) (by omega) ?_
    refine z_iload_n (M := M_X9_feetHoldTogether) 21 dX9_feetHoldTogether_21 rfl ?_
    refine z_iaddN (M := M_X9_feetHoldTogether) 22 dX9_feetHoldTogether_22 (by omega) (by omega) ?_
    have hb2 := isB_76 (i := ((l1 * 4) + l2)) (by omega) (by omega)
    refine z_aaldB (M := M_X9_feetHoldTogether) 23 dX9_feetHoldTogether_23 o_76 (by omega) (by omega) (g_76 G (by omega)) ?_
    refine z_astore_n (M := M_X9_feetHoldTogether) 24 dX9_feetHoldTogether_24 (ls' := [some (mR 38), some (mI l1), some (mI l2), some (mR (77 + (((l1 * 4) + l2)).toNat))]) (by decide) rfl ?_
    refine z_aload_n (M := M_X9_feetHoldTogether) 25 dX9_feetHoldTogether_25 rfl ?_
    refine z_aload_n (M := M_X9_feetHoldTogether) 26 dX9_feetHoldTogether_26 rfl ?_
    refine z_getR (M := M_X9_feetHoldTogether) 27 dX9_feetHoldTogether_27 f_X9_33 o_38 rfl (g_38_5 G) ?_
    refine z_iload_n (M := M_X9_feetHoldTogether) 30 dX9_feetHoldTogether_30 rfl ?_
    refine z_iconst (M := M_X9_feetHoldTogether) 31 dX9_feetHoldTogether_31 ?_
    refine z_imulN (M := M_X9_feetHoldTogether) 32 dX9_feetHoldTogether_32 (by omega) (by omega) ?_
    refine z_iload_n (M := M_X9_feetHoldTogether) 33 dX9_feetHoldTogether_33 rfl ?_
    refine z_iaddN (M := M_X9_feetHoldTogether) 34 dX9_feetHoldTogether_34 (by omega) (by omega) ?_
    have hb3 := isB_76 (i := ((l2 * 4) + l1)) (by omega) (by omega)
    refine z_aaldB (M := M_X9_feetHoldTogether) 35 dX9_feetHoldTogether_35 o_76 (by omega) (by omega) (g_76 G (by omega)) ?_
    refine z_vI (M := M_X9_feetHoldTogether) 36 dX9_feetHoldTogether_36 t_X2_contradicts l_X9_121 (m_rr_of rfl) (rest := []) (c_X2_contradicts2 h (77 + (((l1 * 4) + l2)).toNat) (77 + (((l2 * 4) + l1)).toNat) hb2 hb3 G (bkR_at hR2 (by omega) (by omega)).1 (bkR_at hR2 (by omega) (by omega)).2 (bkR_at hR2 (by omega) (by omega)).1 (bkR_at hR2 (by omega) (by omega)).2) (oB hb2) rfl rfl rfl (Nat.le_of_ble_eq_true rfl) ⟨rfl, rfl⟩ (fun x4 h1 qx4 => ?_)
    obtain ⟨G1, S1, ax4, bx4, fx4⟩ := qx4
    have R1 := R.call S1 (by decide +kernel)
    refine z_if_eq (M := M_X9_feetHoldTogether) 39 dX9_feetHoldTogether_39 44 rfl (fun c5 => ?_) (fun c5 => ?_)
    · refine z_iincN (M := M_X9_feetHoldTogether) 44 dX9_feetHoldTogether_44 (ls' := [some (mR 38), some (mI l1), some (mI (l2 + 1)), some (mR (77 + (((l1 * 4) + l2)).toNat))]) (by decide) rfl (by (unfold m_32; decide)) (by omega) (by omega) rfl ?_
      refine z_goto (M := M_X9_feetHoldTogether) 47 dX9_feetHoldTogether_47 9 rfl ?_
      exact z_mask [true, true, true, false] rfl (ih.2 l1 (l2 + 1) h1 G1 R1 (by omega) (by omega) (by omega) (by omega) (fh_s i0 (by omega) (by omega) (fun y => absurd (fx4.mpr (by rw [e_]; exact y)) (by omega))) (by omega))
    · refine z_iconst (M := M_X9_feetHoldTogether) 42 dX9_feetHoldTogether_42 ?_
      exact z_retZ (M := M_X9_feetHoldTogether) 43 dX9_feetHoldTogether_43 rfl (by omega) ⟨G1, R1, by omega, by omega, ⟨fun z => absurd z (by decide), fun z => absurd (fx4.mp (by omega)) (by rw [e_, show (l1 * 4 + l2).toNat = l1.toNat * 4 + l2.toNat by omega, show (l2 * 4 + l1).toNat = l2.toNat * 4 + l1.toNat by omega]; exact z l1.toNat l2.toNat (by omega) (by omega) (by omega))⟩⟩
theorem a_X9_feetHoldTogether2 (h0 : m_H) (G0 : GI h0) (hR : bkR h0) : ∀ n, q_X9_feetHoldTogether2 h0 n := by
  intro n
  induction n with
  | zero => unfold q_X9_feetHoldTogether2; refine ⟨?_, ?_⟩ <;> (intros; omega)
  | succ n ih => exact ⟨s_X9_feetHoldTogether2_2 h0 G0 hR n ih, s_X9_feetHoldTogether2_9 h0 G0 hR n ih⟩
set_option maxHeartbeats 4000000 in
set_option maxRecDepth 100000 in
theorem c_X9_feetHoldTogether2 (h0 : m_H) (G0 : GI h0) (hR : bkR h0) : m_CI M_X9_feetHoldTogether [mR 38] h0 (P_X9_feetHoldTogether2 h0) := by
  refine m_CI_of ⟨by decide, rfl, by simp [m_arg, m_isL, M_X9_feetHoldTogether], ⟨rfl, rfl⟩, rfl, rfl⟩ (ls := [some (mR 38), none, none, none]) rfl ?_
  have ih := a_X9_feetHoldTogether2 h0 G0 hR 61
  refine z_iconst (M := M_X9_feetHoldTogether) 0 dX9_feetHoldTogether_0 ?_
  refine z_istore_n (M := M_X9_feetHoldTogether) 1 dX9_feetHoldTogether_1 (ls' := [some (mR 38), some (mI 0), none, none]) (by decide) rfl ?_
  exact z_mask [true, true, false, false] rfl (ih.1 0 h0 G0 (FR.rf (cs := []) (ss := []) (h := h0)) (by omega) (by omega) (fun x y h1 h2 h3 => by omega) (by omega))
def wyH (c : Nat) (h : m_H) (a b : Nat) : Int × Int × Int := bd h (c + (4 * (a - 12) + (b - 12)) % 16)
def goW (wy st : Nat → Nat → Int × Int × Int) (a b : Nat) : Int × Int × Int := if a = b then (1, 1, 0) else goL wy st a b [12, 13, 14, 15] (wy a b)
def goP (wy st : Nat → Nat → Int × Int × Int) (a b k : Nat) : Int × Int × Int := goL wy st a b ([12, 13, 14, 15].take k) (wy a b)
theorem goP_s {wy st : Nat → Nat → Int × Int × Int} {a b : Nat} : ∀ k, k < 4 → goP wy st a b (k + 1) = if 12 + k ≠ a ∧ 12 + k ≠ b ∧ (wy a (12 + k)).2.1 ≠ 0 ∧ (st (12 + k) b).2.1 ≠ 0 then lsB (goP wy st a b k) (mlB (wy a (12 + k)) (st (12 + k) b)) else goP wy st a b k
  | 0, _ => rfl
  | 1, _ => rfl
  | 2, _ => rfl
  | 3, _ => rfl
theorem pBb_ml {W S B : Int} {x y : Int × Int × Int} (hx : pBb W x) (hy : pBb S y) (e : W * S ≤ B) : pBb B (mlB x y) := by
  have m1 := mul_bd (Int.le_of_lt hx.1.1) hx.1.2 (Int.le_of_lt hy.1.1) hy.1.2
  have m2 := mul_bd hx.2.1 hx.2.2 hy.2.1 hy.2.2
  have m3 := Int.mul_pos hx.1.1 hy.1.1
  refine ⟨⟨m3, ?_⟩, m2.1, ?_⟩
  · show x.1 * y.1 ≤ B; omega
  · show x.2.1 * y.2.1 ≤ B; omega
theorem pBb_up {A B : Int} {x : Int × Int × Int} (h : pBb A x) (e : A ≤ B) : pBb B x := ⟨⟨h.1.1, by have := h.1.2; omega⟩, h.2.1, by have := h.2.2; omega⟩
theorem goP_b {W S B : Int} {wy st : Nat → Nat → Int × Int × Int} {a b : Nat} (hw : ∀ i j, pBb W (wy i j)) (hs : ∀ i j, pBb S (st i j)) (e : W * S ≤ B) (e2 : W ≤ B) : ∀ k, k ≤ 4 → pBb B (goP wy st a b k)
  | 0, _ => pBb_up (hw a b) e2
  | k + 1, hk => by
    rw [goP_s k (by omega)]
    have i := goP_b (a := a) (b := b) hw hs e e2 k (by omega)
    split
    · exact pBb_ls i (pBb_ml (hw _ _) (hs _ _) e)
    · exact i
theorem goW_b {W S B : Int} {wy st : Nat → Nat → Int × Int × Int} {a b : Nat} (hw : ∀ i j, pBb W (wy i j)) (hs : ∀ i j, pBb S (st i j)) (e : W * S ≤ B) (e2 : W ≤ B) (e3 : 1 ≤ B) : pBb B (goW wy st a b) := by
  unfold goW
  split
  · exact ⟨⟨by decide, e3⟩, by decide, e3⟩
  · exact goP_b hw hs e e2 4 (Nat.le_refl _)
theorem wyH_b {B : Int} {c : Nat} {h : m_H} (k : ∀ p : Nat, p < 16 → pBb B (bd h (c + p))) : ∀ i j, pBb B (wyH c h i j) := fun i j => k _ (Nat.mod_lt _ (by decide))
theorem wyH_at {c : Nat} {h : m_H} {a b : Int} (a0 : 0 ≤ a) (a3 : a ≤ 3) (b0 : 0 ≤ b) (b3 : b ≤ 3) : wyH c h (12 + a.toNat) (12 + b.toNat) = bd h (c + (a * 4 + b).toNat) := by
  unfold wyH
  have e : (4 * (12 + a.toNat - 12) + (12 + b.toNat - 12)) % 16 = (a * 4 + b).toNat := by omega
  rw [e]
/-- the ways with a step more, up to a pair, and within one -/
def goI (c d : Nat) (n : Int) (h0 h : m_H) : Prop := (∀ k, (k < d ∨ d + 15 < k) → h k = h0 k) ∧ ∀ p : Nat, (p : Int) < n → bd h (d + p) = goW (wyH c h0) (wyH 43 h0) (12 + p / 4) (12 + p % 4)
def goJ (c d : Nat) (l a b k : Int) (h0 h : m_H) : Prop := (a = l / 4 ∧ b = l % 4 ∧ a ≠ b) ∧ goI c d l h0 h ∧ bd h (d + l.toNat) = goP (wyH c h0) (wyH 43 h0) (12 + a.toNat) (12 + b.toNat) k.toNat
theorem go_same {c d : Nat} {l : Int} {h0 h h1 : m_H} (i : goI c d l h0 h) (l0 : 0 ≤ l) (l1 : l ≤ 15) (q : l / 4 = l % 4) (B : bN (d + l.toNat) (1, 1, 0) h h1) : goI c d (l + 1) h0 h1 := by
  refine ⟨fun k hk => ?_, fun p hp => ?_⟩
  · rw [B.1 k (by omega)]; exact i.1 k hk
  · by_cases g : p = l.toNat
    · rw [g, B.2]; unfold goW; rw [if_pos (by omega)]
    · rw [bd_ne B (by omega)]; exact i.2 p (by omega)
theorem go_first {c d : Nat} {l x2 x3 x7 x9 x11 : Int} {h0 h h1 : m_H} (i : goI c d l h0 h) (hc : c + 15 < d ∨ d + 15 < c) (l0 : 0 ≤ l) (l1 : l ≤ 15) (e2 : l / 4 = x2) (e3 : l % 4 = x3) (q : x2 ≠ x3) (e7 : h (c + l.toNat) 0 = x7) (e9 : h (c + l.toNat) 1 = x9) (e11 : h (c + l.toNat) 2 = x11) (B : bN (d + l.toNat) (x7, x9, x11) h h1) : goJ c d l x2 x3 0 h0 h1 := by
  refine ⟨⟨by omega, by omega, q⟩, ⟨fun k hk => ?_, fun p hp => ?_⟩, ?_⟩
  · rw [B.1 k (by omega)]; exact i.1 k hk
  · rw [bd_ne B (by omega)]; exact i.2 p hp
  · rw [B.2]
    show _ = wyH c h0 (12 + x2.toNat) (12 + x3.toNat)
    rw [wyH_at (by omega) (by omega) (by omega) (by omega), show (x2 * 4 + x3).toNat = l.toNat by omega]
    unfold bd
    rw [← i.1 (c + l.toNat) (by omega), e7, e9, e11]
theorem go_end {c d : Nat} {l a b k : Int} {h0 h : m_H} (i : goJ c d l a b k h0 h) (l0 : 0 ≤ l) (l1 : l ≤ 15) (e : k = 4) : goI c d (l + 1) h0 h := by
  obtain ⟨⟨a1, a2, a3⟩, i1, i2⟩ := i
  refine ⟨i1.1, fun p hp => ?_⟩
  by_cases g : p = l.toNat
  · rw [g, i2, e]
    unfold goW
    rw [if_neg (by omega), show 12 + l.toNat / 4 = 12 + a.toNat by omega, show 12 + l.toNat % 4 = 12 + b.toNat by omega]
    rfl
  · exact i1.2 p (by omega)
theorem go_skip {c d : Nat} {l a b k : Int} {h0 h : m_H} (i : goJ c d l a b k h0 h) (a0 : 0 ≤ a) (a3 : a ≤ 3) (b0 : 0 ≤ b) (b3 : b ≤ 3) (k0 : 0 ≤ k) (k3 : k ≤ 3) (hc : c + 15 < d ∨ d + 15 < c) (hd : 58 < d) (q : k = a ∨ k = b ∨ h (c + (a * 4 + k).toNat) 1 = 0 ∨ h (43 + (k * 4 + b).toNat) 1 = 0) : goJ c d l a b (k + 1) h0 h := by
  obtain ⟨j, i1, i2⟩ := i
  refine ⟨j, i1, ?_⟩
  rw [i2, show (k + 1).toNat = k.toNat + 1 by omega, goP_s k.toNat (by omega), if_neg]
  rw [wyH_at a0 a3 k0 k3, wyH_at k0 k3 b0 b3]
  rintro ⟨u1, u2, u3, u4⟩
  have r1 := i1.1 (c + (a * 4 + k).toNat) (by omega)
  have r2 := i1.1 (43 + (k * 4 + b).toNat) (by omega)
  rcases q with q | q | q | q
  · omega
  · omega
  · exact u3 (by show h0 _ 1 = 0; rw [← r1]; exact q)
  · exact u4 (by show h0 _ 1 = 0; rw [← r2]; exact q)
theorem go_take {c d : Nat} {l a b k x6 x8 x11 x12 x13 x14 o x15 x18 : Int} {h0 h h1 : m_H} (i : goJ c d l a b k h0 h) (l0 : 0 ≤ l) (l1 : l ≤ 15) (a0 : 0 ≤ a) (a3 : a ≤ 3) (b0 : 0 ≤ b) (b3 : b ≤ 3) (k0 : 0 ≤ k) (k3 : k ≤ 3) (hc : c + 15 < d ∨ d + 15 < c) (hd : 58 < d) (n1 : k ≠ a) (n2 : k ≠ b) (e6 : h (c + (a * 4 + k).toNat) 1 = x6) (n3 : x6 ≠ 0) (e8 : h (43 + (k * 4 + b).toNat) 1 = x8) (n4 : x8 ≠ 0) (e11 : h (c + (a * 4 + k).toNat) 0 = x11) (e12 : h (43 + (k * 4 + b).toNat) 0 = x12) (e13 : x11 * x12 = x13) (e14 : x6 * x8 = x14)
    (e15 : h (c + (a * 4 + k).toNat) 2 = x15) (e18 : h (43 + (k * 4 + b).toNat) 2 = x18) (eo : (if x15 = 1 ∨ x18 = 1 then 1 else 0) = o) (B : bN (d + l.toNat) (lsB (bd h (d + l.toNat)) (x13, x14, o)) h h1) : goJ c d l a b (k + 1) h0 h1 := by
  obtain ⟨j, i1, i2⟩ := i
  have r1 := i1.1 (c + (a * 4 + k).toNat) (by omega)
  have r2 := i1.1 (43 + (k * 4 + b).toNat) (by omega)
  refine ⟨j, ⟨fun z hz => ?_, fun p hp => ?_⟩, ?_⟩
  · rw [B.1 z (by omega)]; exact i1.1 z hz
  · rw [bd_ne B (by omega)]; exact i1.2 p hp
  · rw [show (k + 1).toNat = k.toNat + 1 by omega, goP_s k.toNat (by omega), ← i2]
    have w1 : wyH c h0 (12 + a.toNat) (12 + k.toNat) = (x11, x6, x15) := by
      rw [wyH_at a0 a3 k0 k3]; unfold bd; rw [← r1, e11, e6, e15]
    have w2 : wyH 43 h0 (12 + k.toNat) (12 + b.toNat) = (x12, x8, x18) := by
      rw [wyH_at k0 k3 b0 b3]; unfold bd; rw [← r2, e12, e8, e18]
    rw [w1, w2, if_pos ⟨by omega, by omega, n3, n4⟩, B.2]
    have m : mlB (x11, x6, x15) (x12, x8, x18) = (x13, x14, o) := by
      unfold mlB
      show (x11 * x12, x6 * x8, if x15 = 1 ∨ x18 = 1 then (1 : Int) else 0) = _
      rw [e13, e14, eo]
    rw [m]
theorem pBb_at {B : Int} {h : m_H} {c : Nat} (k : pBb B (bd h c)) (e : B ≤ 3000000000) : (0 ≤ h c 0 ∧ h c 0 ≤ 3000000000) ∧ 0 ≤ h c 1 ∧ h c 1 ≤ 3000000000 := by
  unfold pBb bd at k
  simp only at k
  omega
abbrev P_X9_goOn_42x (h0 : m_H) : m_H → Prop := fun h' => GI h' ∧ FR (csB ++ []) [] h0 h' ∧ goI 43 60 16 h0 h'
def q_X9_goOn_42x (h0 : m_H) (n : Nat) : Prop := (∀ (l3 : Int) (h : m_H), GI h → FR (csB ++ []) [] h0 h → 0 ≤ l3 → l3 ≤ 16 → (goI 43 60 l3 h0 h) → 13 * (16 - l3) + (12) ≤ (n : Int) → m_Z oF M_X9_goOn 2 [some (mR 38), some (mR 42), some (mR 59), some (mI l3), none, none, none, none, none] [] h (m_QV (P_X9_goOn_42x h0))) ∧ (∀ (l3 l4 l5 l6 : Int) (h : m_H), GI h → FR (csB ++ []) [] h0 h → 0 ≤ l3 → l3 ≤ 15 → 0 ≤ l4 → l4 ≤ 3 → 0 ≤ l5 → l5 ≤ 3 → 0 ≤ l6 → l6 ≤ 4 → (goJ 43 60 l3 l4 l5 l6 h0 h) → 13 * (16 - l3) + 2 * (4 - l6) + (1) ≤ (n : Int) → m_Z oF M_X9_goOn 64 [some (mR 38), some (mR 42), some (mR 59), some (mI l3), some (mI l4), some (mI l5), some (mI l6), none, none] [] h (m_QV (P_X9_goOn_42x h0)))
set_option maxHeartbeats 4000000 in
set_option maxRecDepth 100000 in
theorem s_X9_goOn_42x_2 (h0 : m_H) (G0 : GI h0) (hs : ∀ p : Nat, p < 16 → pBb 200 (bd h0 (43 + p))) (hw : ∀ p : Nat, p < 16 → pBb 200 (bd h0 (43 + p))) (n : Nat) (ih : q_X9_goOn_42x h0 n) : ∀ (l3 : Int) (h : m_H), GI h → FR (csB ++ []) [] h0 h → 0 ≤ l3 → l3 ≤ 16 → (goI 43 60 l3 h0 h) → 13 * (16 - l3) + (12) ≤ ((n + 1 : Nat) : Int) → m_Z oF M_X9_goOn 2 [some (mR 38), some (mR 42), some (mR 59), some (mI l3), none, none, none, none, none] [] h (m_QV (P_X9_goOn_42x h0)) := by
  intro l3 h G R v0 v1 i0 hr
  refine z_iload_n (M := M_X9_goOn) 2 dX9_goOn_2 rfl ?_
  refine z_bipush (M := M_X9_goOn) 3 dX9_goOn_3 ?_
  refine z_icmp_ge (M := M_X9_goOn) 5 dX9_goOn_5 190 rfl (fun c1 => ?_) (fun c1 => ?_)
  · exact z_retV (M := M_X9_goOn) 190 dX9_goOn_190 rfl ⟨G, R, (show (16 : Int) = l3 by omega) ▸ i0⟩
  · refine z_iload_n (M := M_X9_goOn) 8 dX9_goOn_8 rfl ?_
    refine z_iconst (M := M_X9_goOn) 9 dX9_goOn_9 ?_
    refine z_idivN (M := M_X9_goOn) 10 dX9_goOn_10 (by omega) (by omega) ?_
    refine z_topBI (lo := 0) (hi := 3) ⟨by omega, by omega⟩ (fun x2 ex2 ax2 bx2 => ?_)
    refine z_istore (M := M_X9_goOn) 11 dX9_goOn_11 (ls' := [some (mR 38), some (mR 42), some (mR 59), some (mI l3), some (mI x2), none, none, none, none]) (by decide) rfl ?_
    refine z_iload_n (M := M_X9_goOn) 13 dX9_goOn_13 rfl ?_
    refine z_iconst (M := M_X9_goOn) 14 dX9_goOn_14 ?_
    refine z_iremN (M := M_X9_goOn) 15 dX9_goOn_15 (by omega) (by omega) ?_
    refine z_topBI (lo := 0) (hi := 3) ⟨by omega, by omega⟩ (fun x3 ex3 ax3 bx3 => ?_)
    refine z_istore (M := M_X9_goOn) 16 dX9_goOn_16 (ls' := [some (mR 38), some (mR 42), some (mR 59), some (mI l3), some (mI x2), some (mI x3), none, none, none]) (by decide) rfl ?_
    refine z_iload (M := M_X9_goOn) 18 dX9_goOn_18 rfl ?_
    refine z_iload (M := M_X9_goOn) 20 dX9_goOn_20 rfl ?_
    refine z_icmp_ne (M := M_X9_goOn) 22 dX9_goOn_22 37 rfl (fun c4 => ?_) (fun c4 => ?_)
    · refine z_aload_n (M := M_X9_goOn) 37 dX9_goOn_37 rfl ?_
      refine z_iload_n (M := M_X9_goOn) 38 dX9_goOn_38 rfl ?_
      have hb5 := isB_59 (i := l3) (by omega) (by omega)
      refine z_aaldB (M := M_X9_goOn) 39 dX9_goOn_39 o_59 (by omega) (by omega) (g_59 G (by omega)) ?_
      refine z_aload_n (M := M_X9_goOn) 40 dX9_goOn_40 rfl ?_
      refine z_iload_n (M := M_X9_goOn) 41 dX9_goOn_41 rfl ?_
      have hb6 := isB_42 (i := l3) (by omega) (by omega)
      refine z_aaldB (M := M_X9_goOn) 42 dX9_goOn_42 o_42 (by omega) (by omega) (g_42 G (by omega)) ?_
      refine z_getJV (M := M_X9_goOn) 43 dX9_goOn_43 f_X9_128 (oB hb6) rfl (fun x7 ex7 => ?_)
      refine z_aload_n (M := M_X9_goOn) 46 dX9_goOn_46 rfl ?_
      refine z_iload_n (M := M_X9_goOn) 47 dX9_goOn_47 rfl ?_
      have hb8 := isB_42 (i := l3) (by omega) (by omega)
      refine z_aaldB (M := M_X9_goOn) 48 dX9_goOn_48 o_42 (by omega) (by omega) (g_42 G (by omega)) ?_
      refine z_getJV (M := M_X9_goOn) 49 dX9_goOn_49 f_X9_132 (oB hb8) rfl (fun x9 ex9 => ?_)
      refine z_aload_n (M := M_X9_goOn) 52 dX9_goOn_52 rfl ?_
      refine z_iload_n (M := M_X9_goOn) 53 dX9_goOn_53 rfl ?_
      have hb10 := isB_42 (i := l3) (by omega) (by omega)
      refine z_aaldB (M := M_X9_goOn) 54 dX9_goOn_54 o_42 (by omega) (by omega) (g_42 G (by omega)) ?_
      refine z_getIG (M := M_X9_goOn) 55 dX9_goOn_55 f_X9_134 (oB hb10) (by decide) (gB hb10 G) (fun x11 ex11 ax11 bx11 => ?_)
      refine z_vV (M := M_X9_goOn) 58 dX9_goOn_58 t_X2_put l_X9_125 (m_rr_of rfl) (rest := []) (c_X2_put2 h (60 + (l3).toNat) x7 x9 x11 hb5 G ⟨by omega, by omega⟩) (oB hb5) rfl rfl rfl (Nat.le_of_ble_eq_true rfl) ⟨rfl, rfl⟩ (fun h1 qx12 => ?_)
      obtain ⟨G1, S1, B1⟩ := qx12
      have R1 := R.call S1 (by decide +kernel)
      refine z_iconst (M := M_X9_goOn) 61 dX9_goOn_61 ?_
      refine z_istore (M := M_X9_goOn) 62 dX9_goOn_62 (ls' := [some (mR 38), some (mR 42), some (mR 59), some (mI l3), some (mI x2), some (mI x3), some (mI 0), none, none]) (by decide) rfl ?_
      exact z_mask [true, true, true, true, true, true, true, false, false] rfl (ih.2 l3 x2 x3 0 h1 G1 R1 (by omega) (by omega) (by omega) (by omega) (by omega) (by omega) (by omega) (by omega) (go_first i0 (by decide) (by omega) (by omega) ex2 ex3 c4 ex7 ex9 ex11 B1) (by omega))
    · refine z_aload_n (M := M_X9_goOn) 25 dX9_goOn_25 rfl ?_
      refine z_iload_n (M := M_X9_goOn) 26 dX9_goOn_26 rfl ?_
      have hb13 := isB_59 (i := l3) (by omega) (by omega)
      refine z_aaldB (M := M_X9_goOn) 27 dX9_goOn_27 o_59 (by omega) (by omega) (g_59 G (by omega)) ?_
      refine z_lconst (M := M_X9_goOn) 28 dX9_goOn_28 (v := 1) ?_
      refine z_lconst (M := M_X9_goOn) 29 dX9_goOn_29 (v := 1) ?_
      refine z_iconst (M := M_X9_goOn) 30 dX9_goOn_30 ?_
      refine z_vV (M := M_X9_goOn) 31 dX9_goOn_31 t_X2_put l_X9_125 (m_rr_of rfl) (rest := []) (c_X2_put2 h (60 + (l3).toNat) 1 1 0 hb13 G ⟨by omega, by omega⟩) (oB hb13) rfl rfl rfl (Nat.le_of_ble_eq_true rfl) ⟨rfl, rfl⟩ (fun h2 qx14 => ?_)
      obtain ⟨G2, S2, B2⟩ := qx14
      have R2 := R.call S2 (by decide +kernel)
      refine z_goto (M := M_X9_goOn) 34 dX9_goOn_34 184 rfl ?_
      refine z_iincN (M := M_X9_goOn) 184 dX9_goOn_184 (ls' := [some (mR 38), some (mR 42), some (mR 59), some (mI (l3 + 1)), some (mI x2), some (mI x3), none, none, none]) (by decide) rfl (by (unfold m_32; decide)) (by omega) (by omega) rfl ?_
      refine z_goto (M := M_X9_goOn) 187 dX9_goOn_187 2 rfl ?_
      exact z_mask [true, true, true, true, false, false, false, false, false] rfl (ih.1 (l3 + 1) h2 G2 R2 (by omega) (by omega) (go_same i0 (by omega) (by omega) (by omega) B2) (by omega))
set_option maxHeartbeats 4000000 in
set_option maxRecDepth 100000 in
theorem s_X9_goOn_42x_64 (h0 : m_H) (G0 : GI h0) (hs : ∀ p : Nat, p < 16 → pBb 200 (bd h0 (43 + p))) (hw : ∀ p : Nat, p < 16 → pBb 200 (bd h0 (43 + p))) (n : Nat) (ih : q_X9_goOn_42x h0 n) : ∀ (l3 l4 l5 l6 : Int) (h : m_H), GI h → FR (csB ++ []) [] h0 h → 0 ≤ l3 → l3 ≤ 15 → 0 ≤ l4 → l4 ≤ 3 → 0 ≤ l5 → l5 ≤ 3 → 0 ≤ l6 → l6 ≤ 4 → (goJ 43 60 l3 l4 l5 l6 h0 h) → 13 * (16 - l3) + 2 * (4 - l6) + (1) ≤ ((n + 1 : Nat) : Int) → m_Z oF M_X9_goOn 64 [some (mR 38), some (mR 42), some (mR 59), some (mI l3), some (mI l4), some (mI l5), some (mI l6), none, none] [] h (m_QV (P_X9_goOn_42x h0)) := by
  intro l3 l4 l5 l6 h G R v0 v1 v2 v3 v4 v5 v6 v7 i0 hr
  have gb_ := goP_b (a := 12 + l4.toNat) (b := 12 + l5.toNat) (B := 40000) (wyH_b hw) (wyH_b hs) (by decide) (by decide) l6.toNat (by omega)
  rw [← i0.2.2] at gb_
  have gc_ := pBb_at gb_ (by decide)
  refine z_iload (M := M_X9_goOn) 64 dX9_goOn_64 rfl ?_
  refine z_iconst (M := M_X9_goOn) 66 dX9_goOn_66 ?_
  refine z_icmp_ge (M := M_X9_goOn) 67 dX9_goOn_67 184 rfl (fun c1 => ?_) (fun c1 => ?_)
  · refine z_iincN (M := M_X9_goOn) 184 dX9_goOn_184 (ls' := [some (mR 38), some (mR 42), some (mR 59), some (mI (l3 + 1)), some (mI l4), some (mI l5), some (mI l6), none, none]) (by decide) rfl (by (unfold m_32; decide)) (by omega) (by omega) rfl ?_
    refine z_goto (M := M_X9_goOn) 187 dX9_goOn_187 2 rfl ?_
    exact z_mask [true, true, true, true, false, false, false, false, false] rfl (ih.1 (l3 + 1) h G R (by omega) (by omega) (go_end i0 (by omega) (by omega) (by omega)) (by omega))
  · refine z_aload_n (M := M_X9_goOn) 70 dX9_goOn_70 rfl ?_
    refine z_iload (M := M_X9_goOn) 71 dX9_goOn_71 rfl ?_
    refine z_iconst (M := M_X9_goOn) 73 dX9_goOn_73 ?_
    refine z_imulN (M := M_X9_goOn) 74 dX9_goOn_74 (by omega) (by omega) ?_
    refine z_iload (M := M_X9_goOn) 75 dX9_goOn_75 rfl ?_
    refine z_iaddN (M := M_X9_goOn) 77 dX9_goOn_77 (by omega) (by omega) ?_
    have hb2 := isB_42 (i := ((l4 * 4) + l6)) (by omega) (by omega)
    refine z_aaldB (M := M_X9_goOn) 78 dX9_goOn_78 o_42 (by omega) (by omega) (g_42 G (by omega)) ?_
    refine z_astore (M := M_X9_goOn) 79 dX9_goOn_79 (ls' := [some (mR 38), some (mR 42), some (mR 59), some (mI l3), some (mI l4), some (mI l5), some (mI l6), some (mR (43 + (((l4 * 4) + l6)).toNat)), none]) (by decide) rfl ?_
    refine z_aload_n (M := M_X9_goOn) 81 dX9_goOn_81 rfl ?_
    refine z_getR (M := M_X9_goOn) 82 dX9_goOn_82 f_X9_26 o_38 rfl (g_38_3 G) ?_
    refine z_iload (M := M_X9_goOn) 85 dX9_goOn_85 rfl ?_
    refine z_iconst (M := M_X9_goOn) 87 dX9_goOn_87 ?_
    refine z_imulN (M := M_X9_goOn) 88 dX9_goOn_88 (by omega) (by omega) ?_
    refine z_iload (M := M_X9_goOn) 89 dX9_goOn_89 rfl ?_
    refine z_iaddN (M := M_X9_goOn) 91 dX9_goOn_91 (by omega) (by omega) ?_
    have hb3 := isB_42 (i := ((l6 * 4) + l5)) (by omega) (by omega)
    refine z_aaldB (M := M_X9_goOn) 92 dX9_goOn_92 o_42 (by omega) (by omega) (g_42 G (by omega)) ?_
    refine z_astore (M := M_X9_goOn) 93 dX9_goOn_93 (ls' := [some (mR 38), some (mR 42), some (mR 59), some (mI l3), some (mI l4), some (mI l5), some (mI l6), some (mR (43 + (((l4 * 4) + l6)).toNat)), some (mR (43 + (((l6 * 4) + l5)).toNat))]) (by decide) rfl ?_
    refine z_iload (M := M_X9_goOn) 95 dX9_goOn_95 rfl ?_
    refine z_iload (M := M_X9_goOn) 97 dX9_goOn_97 rfl ?_
    refine z_icmp_eq (M := M_X9_goOn) 99 dX9_goOn_99 178 rfl (fun c4 => ?_) (fun c4 => ?_)
    · refine z_iincN (M := M_X9_goOn) 178 dX9_goOn_178 (ls' := [some (mR 38), some (mR 42), some (mR 59), some (mI l3), some (mI l4), some (mI l5), some (mI (l6 + 1)), some (mR (43 + (((l4 * 4) + l6)).toNat)), some (mR (43 + (((l6 * 4) + l5)).toNat))]) (by decide) rfl (by (unfold m_32; decide)) (by omega) (by omega) rfl ?_
      refine z_goto (M := M_X9_goOn) 181 dX9_goOn_181 64 rfl ?_
      exact z_mask [true, true, true, true, true, true, true, false, false] rfl (ih.2 l3 l4 l5 (l6 + 1) h G R (by omega) (by omega) (by omega) (by omega) (by omega) (by omega) (by omega) (by omega) (go_skip i0 (by omega) (by omega) (by omega) (by omega) (by omega) (by omega) (by decide) (by decide) (Or.inl (by omega))) (by omega))
    · refine z_iload (M := M_X9_goOn) 102 dX9_goOn_102 rfl ?_
      refine z_iload (M := M_X9_goOn) 104 dX9_goOn_104 rfl ?_
      refine z_icmp_eq (M := M_X9_goOn) 106 dX9_goOn_106 178 rfl (fun c5 => ?_) (fun c5 => ?_)
      · refine z_iincN (M := M_X9_goOn) 178 dX9_goOn_178 (ls' := [some (mR 38), some (mR 42), some (mR 59), some (mI l3), some (mI l4), some (mI l5), some (mI (l6 + 1)), some (mR (43 + (((l4 * 4) + l6)).toNat)), some (mR (43 + (((l6 * 4) + l5)).toNat))]) (by decide) rfl (by (unfold m_32; decide)) (by omega) (by omega) rfl ?_
        refine z_goto (M := M_X9_goOn) 181 dX9_goOn_181 64 rfl ?_
        exact z_mask [true, true, true, true, true, true, true, false, false] rfl (ih.2 l3 l4 l5 (l6 + 1) h G R (by omega) (by omega) (by omega) (by omega) (by omega) (by omega) (by omega) (by omega) (go_skip i0 (by omega) (by omega) (by omega) (by omega) (by omega) (by omega) (by decide) (by decide) (Or.inr (Or.inl (by omega)))) (by omega))
      · have bw_ : (0 < h (43 + (l4 * 4 + l6).toNat) 0 ∧ h (43 + (l4 * 4 + l6).toNat) 0 ≤ 200) ∧ 0 ≤ h (43 + (l4 * 4 + l6).toNat) 1 ∧ h (43 + (l4 * 4 + l6).toNat) 1 ≤ 200 := (by have z_ := hw (l4 * 4 + l6).toNat (by omega); unfold pBb bd at z_; rw [← i0.2.1.1 (43 + (l4 * 4 + l6).toNat) (by omega)] at z_; exact z_)
        have bs_ : (0 < h (43 + (l6 * 4 + l5).toNat) 0 ∧ h (43 + (l6 * 4 + l5).toNat) 0 ≤ 200) ∧ 0 ≤ h (43 + (l6 * 4 + l5).toNat) 1 ∧ h (43 + (l6 * 4 + l5).toNat) 1 ≤ 200 := (by have z_ := hs (l6 * 4 + l5).toNat (by omega); unfold pBb bd at z_; rw [← i0.2.1.1 (43 + (l6 * 4 + l5).toNat) (by omega)] at z_; exact z_)
        refine z_aload (M := M_X9_goOn) 109 dX9_goOn_109 rfl ?_
        refine z_getJV (M := M_X9_goOn) 111 dX9_goOn_111 f_X9_132 (oB hb2) rfl (fun x6 ex6 => ?_)
        rw [ex6] at bw_
        refine z_lconst (M := M_X9_goOn) 114 dX9_goOn_114 (v := 0) ?_
        refine z_lcmp (M := M_X9_goOn) 115 dX9_goOn_115 ?_
        refine z_if_eq (M := M_X9_goOn) 116 dX9_goOn_116 178 rfl (fun c7 => ?_) (fun c7 => ?_)
        · rw [m_cmp_eq] at c7
          refine z_iincN (M := M_X9_goOn) 178 dX9_goOn_178 (ls' := [some (mR 38), some (mR 42), some (mR 59), some (mI l3), some (mI l4), some (mI l5), some (mI (l6 + 1)), some (mR (43 + (((l4 * 4) + l6)).toNat)), some (mR (43 + (((l6 * 4) + l5)).toNat))]) (by decide) rfl (by (unfold m_32; decide)) (by omega) (by omega) rfl ?_
          refine z_goto (M := M_X9_goOn) 181 dX9_goOn_181 64 rfl ?_
          exact z_mask [true, true, true, true, true, true, true, false, false] rfl (ih.2 l3 l4 l5 (l6 + 1) h G R (by omega) (by omega) (by omega) (by omega) (by omega) (by omega) (by omega) (by omega) (go_skip i0 (by omega) (by omega) (by omega) (by omega) (by omega) (by omega) (by decide) (by decide) (Or.inr (Or.inr (Or.inl (ex6.trans c7))))) (by omega))
        · rw [m_cmp_eq] at c7
          refine z_aload (M := M_X9_goOn) 119 dX9_goOn_119 rfl ?_
          refine z_getJV (M := M_X9_goOn) 121 dX9_goOn_121 f_X9_132 (oB hb3) rfl (fun x8 ex8 => ?_)
          rw [ex8] at bs_
          refine z_lconst (M := M_X9_goOn) 124 dX9_goOn_124 (v := 0) ?_
          refine z_lcmp (M := M_X9_goOn) 125 dX9_goOn_125 ?_
          refine z_if_eq (M := M_X9_goOn) 126 dX9_goOn_126 178 rfl (fun c9 => ?_) (fun c9 => ?_)
          · rw [m_cmp_eq] at c9
            refine z_iincN (M := M_X9_goOn) 178 dX9_goOn_178 (ls' := [some (mR 38), some (mR 42), some (mR 59), some (mI l3), some (mI l4), some (mI l5), some (mI (l6 + 1)), some (mR (43 + (((l4 * 4) + l6)).toNat)), some (mR (43 + (((l6 * 4) + l5)).toNat))]) (by decide) rfl (by (unfold m_32; decide)) (by omega) (by omega) rfl ?_
            refine z_goto (M := M_X9_goOn) 181 dX9_goOn_181 64 rfl ?_
            exact z_mask [true, true, true, true, true, true, true, false, false] rfl (ih.2 l3 l4 l5 (l6 + 1) h G R (by omega) (by omega) (by omega) (by omega) (by omega) (by omega) (by omega) (by omega) (go_skip i0 (by omega) (by omega) (by omega) (by omega) (by omega) (by omega) (by decide) (by decide) (Or.inr (Or.inr (Or.inr (ex8.trans c9))))) (by omega))
          · rw [m_cmp_eq] at c9
            refine z_aload_n (M := M_X9_goOn) 129 dX9_goOn_129 rfl ?_
            refine z_iload_n (M := M_X9_goOn) 130 dX9_goOn_130 rfl ?_
            have hb10 := isB_59 (i := l3) (by omega) (by omega)
            refine z_aaldB (M := M_X9_goOn) 131 dX9_goOn_131 o_59 (by omega) (by omega) (g_59 G (by omega)) ?_
            refine z_aload (M := M_X9_goOn) 132 dX9_goOn_132 rfl ?_
            refine z_getJV (M := M_X9_goOn) 134 dX9_goOn_134 f_X9_128 (oB hb2) rfl (fun x11 ex11 => ?_)
            rw [ex11] at bw_
            refine z_aload (M := M_X9_goOn) 137 dX9_goOn_137 rfl ?_
            refine z_getJV (M := M_X9_goOn) 139 dX9_goOn_139 f_X9_128 (oB hb3) rfl (fun x12 ex12 => ?_)
            rw [ex12] at bs_
            have mx13 := mul_bd (x := x11) (y := x12) (X := 200) (Y := 200) (by omega) (by omega) (by omega) (by omega)
            refine z_lmulN (M := M_X9_goOn) 142 dX9_goOn_142 (by omega) (by omega) ?_
            refine z_topBJ (lo := 0) (hi := 40000) ⟨by omega, by omega⟩ (fun x13 ex13 ax13 bx13 => ?_)
            refine z_aload (M := M_X9_goOn) 143 dX9_goOn_143 rfl ?_
            refine z_getJE (M := M_X9_goOn) 145 dX9_goOn_145 f_X9_132 (oB hb2) rfl ex6 ?_
            refine z_aload (M := M_X9_goOn) 148 dX9_goOn_148 rfl ?_
            refine z_getJE (M := M_X9_goOn) 150 dX9_goOn_150 f_X9_132 (oB hb3) rfl ex8 ?_
            have mx14 := mul_bd (x := x6) (y := x8) (X := 200) (Y := 200) (by omega) (by omega) (by omega) (by omega)
            refine z_lmulN (M := M_X9_goOn) 153 dX9_goOn_153 (by omega) (by omega) ?_
            refine z_topBJ (lo := 0) (hi := 40000) ⟨by omega, by omega⟩ (fun x14 ex14 ax14 bx14 => ?_)
            refine z_aload (M := M_X9_goOn) 154 dX9_goOn_154 rfl ?_
            refine z_getIG (M := M_X9_goOn) 156 dX9_goOn_156 f_X9_134 (oB hb2) (by decide) (gB hb2 G) (fun x15 ex15 ax15 bx15 => ?_)
            refine z_if_ne (M := M_X9_goOn) 159 dX9_goOn_159 170 rfl (fun c16 => ?_) (fun c16 => ?_)
            · refine z_iconst (M := M_X9_goOn) 170 dX9_goOn_170 ?_
              refine z_goto (M := M_X9_goOn) 171 dX9_goOn_171 175 rfl ?_
              refine z_vV (M := M_X9_goOn) 175 dX9_goOn_175 t_X2_lessen l_X9_66 (m_rr_of rfl) (rest := []) (c_X2_lessen2 h (60 + (l3).toNat) x13 x14 1 hb10 G ⟨by omega, by omega⟩ gc_.1 gc_.2 ⟨by omega, by omega⟩ ⟨by omega, by omega⟩) (oB hb10) rfl rfl rfl (Nat.le_of_ble_eq_true rfl) ⟨rfl, rfl⟩ (fun h1 qx17 => ?_)
              obtain ⟨G1, S1, B1⟩ := qx17
              have R1 := R.call S1 (by decide +kernel)
              refine z_iincN (M := M_X9_goOn) 178 dX9_goOn_178 (ls' := [some (mR 38), some (mR 42), some (mR 59), some (mI l3), some (mI l4), some (mI l5), some (mI (l6 + 1)), some (mR (43 + (((l4 * 4) + l6)).toNat)), some (mR (43 + (((l6 * 4) + l5)).toNat))]) (by decide) rfl (by (unfold m_32; decide)) (by omega) (by omega) rfl ?_
              refine z_goto (M := M_X9_goOn) 181 dX9_goOn_181 64 rfl ?_
              exact z_mask [true, true, true, true, true, true, true, false, false] rfl (ih.2 l3 l4 l5 (l6 + 1) h1 G1 R1 (by omega) (by omega) (by omega) (by omega) (by omega) (by omega) (by omega) (by omega) (go_take i0 (by omega) (by omega) (by omega) (by omega) (by omega) (by omega) (by omega) (by omega) (by decide) (by decide) (by omega) (by omega) ex6 c7 ex8 c9 ex11 ex12 ex13 ex14 ex15 rfl (if_pos (Or.inl (by omega))) B1) (by omega))
            · refine z_aload (M := M_X9_goOn) 162 dX9_goOn_162 rfl ?_
              refine z_getIG (M := M_X9_goOn) 164 dX9_goOn_164 f_X9_134 (oB hb3) (by decide) (gB hb3 G) (fun x18 ex18 ax18 bx18 => ?_)
              refine z_if_eq (M := M_X9_goOn) 167 dX9_goOn_167 174 rfl (fun c19 => ?_) (fun c19 => ?_)
              · refine z_iconst (M := M_X9_goOn) 174 dX9_goOn_174 ?_
                refine z_vV (M := M_X9_goOn) 175 dX9_goOn_175 t_X2_lessen l_X9_66 (m_rr_of rfl) (rest := []) (c_X2_lessen2 h (60 + (l3).toNat) x13 x14 0 hb10 G ⟨by omega, by omega⟩ gc_.1 gc_.2 ⟨by omega, by omega⟩ ⟨by omega, by omega⟩) (oB hb10) rfl rfl rfl (Nat.le_of_ble_eq_true rfl) ⟨rfl, rfl⟩ (fun h2 qx20 => ?_)
                obtain ⟨G2, S2, B2⟩ := qx20
                have R2 := R.call S2 (by decide +kernel)
                refine z_iincN (M := M_X9_goOn) 178 dX9_goOn_178 (ls' := [some (mR 38), some (mR 42), some (mR 59), some (mI l3), some (mI l4), some (mI l5), some (mI (l6 + 1)), some (mR (43 + (((l4 * 4) + l6)).toNat)), some (mR (43 + (((l6 * 4) + l5)).toNat))]) (by decide) rfl (by (unfold m_32; decide)) (by omega) (by omega) rfl ?_
                refine z_goto (M := M_X9_goOn) 181 dX9_goOn_181 64 rfl ?_
                exact z_mask [true, true, true, true, true, true, true, false, false] rfl (ih.2 l3 l4 l5 (l6 + 1) h2 G2 R2 (by omega) (by omega) (by omega) (by omega) (by omega) (by omega) (by omega) (by omega) (go_take i0 (by omega) (by omega) (by omega) (by omega) (by omega) (by omega) (by omega) (by omega) (by decide) (by decide) (by omega) (by omega) ex6 c7 ex8 c9 ex11 ex12 ex13 ex14 ex15 ex18 (if_neg (by omega)) B2) (by omega))
              · refine z_iconst (M := M_X9_goOn) 170 dX9_goOn_170 ?_
                refine z_goto (M := M_X9_goOn) 171 dX9_goOn_171 175 rfl ?_
                refine z_vV (M := M_X9_goOn) 175 dX9_goOn_175 t_X2_lessen l_X9_66 (m_rr_of rfl) (rest := []) (c_X2_lessen2 h (60 + (l3).toNat) x13 x14 1 hb10 G ⟨by omega, by omega⟩ gc_.1 gc_.2 ⟨by omega, by omega⟩ ⟨by omega, by omega⟩) (oB hb10) rfl rfl rfl (Nat.le_of_ble_eq_true rfl) ⟨rfl, rfl⟩ (fun h3 qx21 => ?_)
                obtain ⟨G3, S3, B3⟩ := qx21
                have R3 := R.call S3 (by decide +kernel)
                refine z_iincN (M := M_X9_goOn) 178 dX9_goOn_178 (ls' := [some (mR 38), some (mR 42), some (mR 59), some (mI l3), some (mI l4), some (mI l5), some (mI (l6 + 1)), some (mR (43 + (((l4 * 4) + l6)).toNat)), some (mR (43 + (((l6 * 4) + l5)).toNat))]) (by decide) rfl (by (unfold m_32; decide)) (by omega) (by omega) rfl ?_
                refine z_goto (M := M_X9_goOn) 181 dX9_goOn_181 64 rfl ?_
                exact z_mask [true, true, true, true, true, true, true, false, false] rfl (ih.2 l3 l4 l5 (l6 + 1) h3 G3 R3 (by omega) (by omega) (by omega) (by omega) (by omega) (by omega) (by omega) (by omega) (go_take i0 (by omega) (by omega) (by omega) (by omega) (by omega) (by omega) (by omega) (by omega) (by decide) (by decide) (by omega) (by omega) ex6 c7 ex8 c9 ex11 ex12 ex13 ex14 ex15 ex18 (if_pos (Or.inr (by omega))) B3) (by omega))
theorem a_X9_goOn_42x (h0 : m_H) (G0 : GI h0) (hs : ∀ p : Nat, p < 16 → pBb 200 (bd h0 (43 + p))) (hw : ∀ p : Nat, p < 16 → pBb 200 (bd h0 (43 + p))) : ∀ n, q_X9_goOn_42x h0 n := by
  intro n
  induction n with
  | zero => unfold q_X9_goOn_42x; refine ⟨?_, ?_⟩ <;> (intros; omega)
  | succ n ih => exact ⟨s_X9_goOn_42x_2 h0 G0 hs hw n ih, s_X9_goOn_42x_64 h0 G0 hs hw n ih⟩
set_option maxHeartbeats 4000000 in
set_option maxRecDepth 100000 in
theorem c_X9_goOn_42x (h0 : m_H) (G0 : GI h0) (hs : ∀ p : Nat, p < 16 → pBb 200 (bd h0 (43 + p))) (hw : ∀ p : Nat, p < 16 → pBb 200 (bd h0 (43 + p))) : m_CV M_X9_goOn [mR 38, mR 42, mR 59] h0 (P_X9_goOn_42x h0) := by
  refine m_CV_of ⟨by decide, rfl, by simp [m_arg, m_isL, M_X9_goOn], ⟨rfl, rfl⟩, rfl, rfl⟩ (ls := [some (mR 38), some (mR 42), some (mR 59), none, none, none, none, none, none]) rfl ?_
  have ih := a_X9_goOn_42x h0 G0 hs hw 227
  refine z_iconst (M := M_X9_goOn) 0 dX9_goOn_0 ?_
  refine z_istore_n (M := M_X9_goOn) 1 dX9_goOn_1 (ls' := [some (mR 38), some (mR 42), some (mR 59), some (mI 0), none, none, none, none, none]) (by decide) rfl ?_
  exact z_mask [true, true, true, true, false, false, false, false, false] rfl (ih.1 0 h0 G0 (FR.rf (cs := (csB ++ [])) (ss := []) (h := h0)) (by omega) (by omega) ⟨fun _ _ => rfl, fun p hp => by omega⟩ (by omega))
abbrev P_X9_goOn_59x (h0 : m_H) : m_H → Prop := fun h' => GI h' ∧ FR (csB ++ []) [] h0 h' ∧ goI 60 77 16 h0 h'
def q_X9_goOn_59x (h0 : m_H) (n : Nat) : Prop := (∀ (l3 : Int) (h : m_H), GI h → FR (csB ++ []) [] h0 h → 0 ≤ l3 → l3 ≤ 16 → (goI 60 77 l3 h0 h) → 13 * (16 - l3) + (12) ≤ (n : Int) → m_Z oF M_X9_goOn 2 [some (mR 38), some (mR 59), some (mR 76), some (mI l3), none, none, none, none, none] [] h (m_QV (P_X9_goOn_59x h0))) ∧ (∀ (l3 l4 l5 l6 : Int) (h : m_H), GI h → FR (csB ++ []) [] h0 h → 0 ≤ l3 → l3 ≤ 15 → 0 ≤ l4 → l4 ≤ 3 → 0 ≤ l5 → l5 ≤ 3 → 0 ≤ l6 → l6 ≤ 4 → (goJ 60 77 l3 l4 l5 l6 h0 h) → 13 * (16 - l3) + 2 * (4 - l6) + (1) ≤ (n : Int) → m_Z oF M_X9_goOn 64 [some (mR 38), some (mR 59), some (mR 76), some (mI l3), some (mI l4), some (mI l5), some (mI l6), none, none] [] h (m_QV (P_X9_goOn_59x h0)))
set_option maxHeartbeats 4000000 in
set_option maxRecDepth 100000 in
theorem s_X9_goOn_59x_2 (h0 : m_H) (G0 : GI h0) (hs : ∀ p : Nat, p < 16 → pBb 200 (bd h0 (43 + p))) (hw : ∀ p : Nat, p < 16 → pBb 40000 (bd h0 (60 + p))) (n : Nat) (ih : q_X9_goOn_59x h0 n) : ∀ (l3 : Int) (h : m_H), GI h → FR (csB ++ []) [] h0 h → 0 ≤ l3 → l3 ≤ 16 → (goI 60 77 l3 h0 h) → 13 * (16 - l3) + (12) ≤ ((n + 1 : Nat) : Int) → m_Z oF M_X9_goOn 2 [some (mR 38), some (mR 59), some (mR 76), some (mI l3), none, none, none, none, none] [] h (m_QV (P_X9_goOn_59x h0)) := by
  intro l3 h G R v0 v1 i0 hr
  refine z_iload_n (M := M_X9_goOn) 2 dX9_goOn_2 rfl ?_
  refine z_bipush (M := M_X9_goOn) 3 dX9_goOn_3 ?_
  refine z_icmp_ge (M := M_X9_goOn) 5 dX9_goOn_5 190 rfl (fun c1 => ?_) (fun c1 => ?_)
  · exact z_retV (M := M_X9_goOn) 190 dX9_goOn_190 rfl ⟨G, R, (show (16 : Int) = l3 by omega) ▸ i0⟩
  · refine z_iload_n (M := M_X9_goOn) 8 dX9_goOn_8 rfl ?_
    refine z_iconst (M := M_X9_goOn) 9 dX9_goOn_9 ?_
    refine z_idivN (M := M_X9_goOn) 10 dX9_goOn_10 (by omega) (by omega) ?_
    refine z_topBI (lo := 0) (hi := 3) ⟨by omega, by omega⟩ (fun x2 ex2 ax2 bx2 => ?_)
    refine z_istore (M := M_X9_goOn) 11 dX9_goOn_11 (ls' := [some (mR 38), some (mR 59), some (mR 76), some (mI l3), some (mI x2), none, none, none, none]) (by decide) rfl ?_
    refine z_iload_n (M := M_X9_goOn) 13 dX9_goOn_13 rfl ?_
    refine z_iconst (M := M_X9_goOn) 14 dX9_goOn_14 ?_
    refine z_iremN (M := M_X9_goOn) 15 dX9_goOn_15 (by omega) (by omega) ?_
    refine z_topBI (lo := 0) (hi := 3) ⟨by omega, by omega⟩ (fun x3 ex3 ax3 bx3 => ?_)
    refine z_istore (M := M_X9_goOn) 16 dX9_goOn_16 (ls' := [some (mR 38), some (mR 59), some (mR 76), some (mI l3), some (mI x2), some (mI x3), none, none, none]) (by decide) rfl ?_
    refine z_iload (M := M_X9_goOn) 18 dX9_goOn_18 rfl ?_
    refine z_iload (M := M_X9_goOn) 20 dX9_goOn_20 rfl ?_
    refine z_icmp_ne (M := M_X9_goOn) 22 dX9_goOn_22 37 rfl (fun c4 => ?_) (fun c4 => ?_)
    · refine z_aload_n (M := M_X9_goOn) 37 dX9_goOn_37 rfl ?_
      refine z_iload_n (M := M_X9_goOn) 38 dX9_goOn_38 rfl ?_
      have hb5 := isB_76 (i := l3) (by omega) (by omega)
      refine z_aaldB (M := M_X9_goOn) 39 dX9_goOn_39 o_76 (by omega) (by omega) (g_76 G (by omega)) ?_
      refine z_aload_n (M := M_X9_goOn) 40 dX9_goOn_40 rfl ?_
      refine z_iload_n (M := M_X9_goOn) 41 dX9_goOn_41 rfl ?_
      have hb6 := isB_59 (i := l3) (by omega) (by omega)
      refine z_aaldB (M := M_X9_goOn) 42 dX9_goOn_42 o_59 (by omega) (by omega) (g_59 G (by omega)) ?_
      refine z_getJV (M := M_X9_goOn) 43 dX9_goOn_43 f_X9_128 (oB hb6) rfl (fun x7 ex7 => ?_)
      refine z_aload_n (M := M_X9_goOn) 46 dX9_goOn_46 rfl ?_
      refine z_iload_n (M := M_X9_goOn) 47 dX9_goOn_47 rfl ?_
      have hb8 := isB_59 (i := l3) (by omega) (by omega)
      refine z_aaldB (M := M_X9_goOn) 48 dX9_goOn_48 o_59 (by omega) (by omega) (g_59 G (by omega)) ?_
      refine z_getJV (M := M_X9_goOn) 49 dX9_goOn_49 f_X9_132 (oB hb8) rfl (fun x9 ex9 => ?_)
      refine z_aload_n (M := M_X9_goOn) 52 dX9_goOn_52 rfl ?_
      refine z_iload_n (M := M_X9_goOn) 53 dX9_goOn_53 rfl ?_
      have hb10 := isB_59 (i := l3) (by omega) (by omega)
      refine z_aaldB (M := M_X9_goOn) 54 dX9_goOn_54 o_59 (by omega) (by omega) (g_59 G (by omega)) ?_
      refine z_getIG (M := M_X9_goOn) 55 dX9_goOn_55 f_X9_134 (oB hb10) (by decide) (gB hb10 G) (fun x11 ex11 ax11 bx11 => ?_)
      refine z_vV (M := M_X9_goOn) 58 dX9_goOn_58 t_X2_put l_X9_125 (m_rr_of rfl) (rest := []) (c_X2_put2 h (77 + (l3).toNat) x7 x9 x11 hb5 G ⟨by omega, by omega⟩) (oB hb5) rfl rfl rfl (Nat.le_of_ble_eq_true rfl) ⟨rfl, rfl⟩ (fun h1 qx12 => ?_)
      obtain ⟨G1, S1, B1⟩ := qx12
      have R1 := R.call S1 (by decide +kernel)
      refine z_iconst (M := M_X9_goOn) 61 dX9_goOn_61 ?_
      refine z_istore (M := M_X9_goOn) 62 dX9_goOn_62 (ls' := [some (mR 38), some (mR 59), some (mR 76), some (mI l3), some (mI x2), some (mI x3), some (mI 0), none, none]) (by decide) rfl ?_
      exact z_mask [true, true, true, true, true, true, true, false, false] rfl (ih.2 l3 x2 x3 0 h1 G1 R1 (by omega) (by omega) (by omega) (by omega) (by omega) (by omega) (by omega) (by omega) (go_first i0 (by decide) (by omega) (by omega) ex2 ex3 c4 ex7 ex9 ex11 B1) (by omega))
    · refine z_aload_n (M := M_X9_goOn) 25 dX9_goOn_25 rfl ?_
      refine z_iload_n (M := M_X9_goOn) 26 dX9_goOn_26 rfl ?_
      have hb13 := isB_76 (i := l3) (by omega) (by omega)
      refine z_aaldB (M := M_X9_goOn) 27 dX9_goOn_27 o_76 (by omega) (by omega) (g_76 G (by omega)) ?_
      refine z_lconst (M := M_X9_goOn) 28 dX9_goOn_28 (v := 1) ?_
      refine z_lconst (M := M_X9_goOn) 29 dX9_goOn_29 (v := 1) ?_
      refine z_iconst (M := M_X9_goOn) 30 dX9_goOn_30 ?_
      refine z_vV (M := M_X9_goOn) 31 dX9_goOn_31 t_X2_put l_X9_125 (m_rr_of rfl) (rest := []) (c_X2_put2 h (77 + (l3).toNat) 1 1 0 hb13 G ⟨by omega, by omega⟩) (oB hb13) rfl rfl rfl (Nat.le_of_ble_eq_true rfl) ⟨rfl, rfl⟩ (fun h2 qx14 => ?_)
      obtain ⟨G2, S2, B2⟩ := qx14
      have R2 := R.call S2 (by decide +kernel)
      refine z_goto (M := M_X9_goOn) 34 dX9_goOn_34 184 rfl ?_
      refine z_iincN (M := M_X9_goOn) 184 dX9_goOn_184 (ls' := [some (mR 38), some (mR 59), some (mR 76), some (mI (l3 + 1)), some (mI x2), some (mI x3), none, none, none]) (by decide) rfl (by (unfold m_32; decide)) (by omega) (by omega) rfl ?_
      refine z_goto (M := M_X9_goOn) 187 dX9_goOn_187 2 rfl ?_
      exact z_mask [true, true, true, true, false, false, false, false, false] rfl (ih.1 (l3 + 1) h2 G2 R2 (by omega) (by omega) (go_same i0 (by omega) (by omega) (by omega) B2) (by omega))
set_option maxHeartbeats 4000000 in
set_option maxRecDepth 100000 in
theorem s_X9_goOn_59x_64 (h0 : m_H) (G0 : GI h0) (hs : ∀ p : Nat, p < 16 → pBb 200 (bd h0 (43 + p))) (hw : ∀ p : Nat, p < 16 → pBb 40000 (bd h0 (60 + p))) (n : Nat) (ih : q_X9_goOn_59x h0 n) : ∀ (l3 l4 l5 l6 : Int) (h : m_H), GI h → FR (csB ++ []) [] h0 h → 0 ≤ l3 → l3 ≤ 15 → 0 ≤ l4 → l4 ≤ 3 → 0 ≤ l5 → l5 ≤ 3 → 0 ≤ l6 → l6 ≤ 4 → (goJ 60 77 l3 l4 l5 l6 h0 h) → 13 * (16 - l3) + 2 * (4 - l6) + (1) ≤ ((n + 1 : Nat) : Int) → m_Z oF M_X9_goOn 64 [some (mR 38), some (mR 59), some (mR 76), some (mI l3), some (mI l4), some (mI l5), some (mI l6), none, none] [] h (m_QV (P_X9_goOn_59x h0)) := by
  intro l3 l4 l5 l6 h G R v0 v1 v2 v3 v4 v5 v6 v7 i0 hr
  have gb_ := goP_b (a := 12 + l4.toNat) (b := 12 + l5.toNat) (B := 8000000) (wyH_b hw) (wyH_b hs) (by decide) (by decide) l6.toNat (by omega)
  rw [← i0.2.2] at gb_
  have gc_ := pBb_at gb_ (by decide)
  refine z_iload (M := M_X9_goOn) 64 dX9_goOn_64 rfl ?_
  refine z_iconst (M := M_X9_goOn) 66 dX9_goOn_66 ?_
  refine z_icmp_ge (M := M_X9_goOn) 67 dX9_goOn_67 184 rfl (fun c1 => ?_) (fun c1 => ?_)
  · refine z_iincN (M := M_X9_goOn) 184 dX9_goOn_184 (ls' := [some (mR 38), some (mR 59), some (mR 76), some (mI (l3 + 1)), some (mI l4), some (mI l5), some (mI l6), none, none]) (by decide) rfl (by (unfold m_32; decide)) (by omega) (by omega) rfl ?_
    refine z_goto (M := M_X9_goOn) 187 dX9_goOn_187 2 rfl ?_
    exact z_mask [true, true, true, true, false, false, false, false, false] rfl (ih.1 (l3 + 1) h G R (by omega) (by omega) (go_end i0 (by omega) (by omega) (by omega)) (by omega))
  · refine z_aload_n (M := M_X9_goOn) 70 dX9_goOn_70 rfl ?_
    refine z_iload (M := M_X9_goOn) 71 dX9_goOn_71 rfl ?_
    refine z_iconst (M := M_X9_goOn) 73 dX9_goOn_73 ?_
    refine z_imulN (M := M_X9_goOn) 74 dX9_goOn_74 (by omega) (by omega) ?_
    refine z_iload (M := M_X9_goOn) 75 dX9_goOn_75 rfl ?_
    refine z_iaddN (M := M_X9_goOn) 77 dX9_goOn_77 (by omega) (by omega) ?_
    have hb2 := isB_59 (i := ((l4 * 4) + l6)) (by omega) (by omega)
    refine z_aaldB (M := M_X9_goOn) 78 dX9_goOn_78 o_59 (by omega) (by omega) (g_59 G (by omega)) ?_
    refine z_astore (M := M_X9_goOn) 79 dX9_goOn_79 (ls' := [some (mR 38), some (mR 59), some (mR 76), some (mI l3), some (mI l4), some (mI l5), some (mI l6), some (mR (60 + (((l4 * 4) + l6)).toNat)), none]) (by decide) rfl ?_
    refine z_aload_n (M := M_X9_goOn) 81 dX9_goOn_81 rfl ?_
    refine z_getR (M := M_X9_goOn) 82 dX9_goOn_82 f_X9_26 o_38 rfl (g_38_3 G) ?_
    refine z_iload (M := M_X9_goOn) 85 dX9_goOn_85 rfl ?_
    refine z_iconst (M := M_X9_goOn) 87 dX9_goOn_87 ?_
    refine z_imulN (M := M_X9_goOn) 88 dX9_goOn_88 (by omega) (by omega) ?_
    refine z_iload (M := M_X9_goOn) 89 dX9_goOn_89 rfl ?_
    refine z_iaddN (M := M_X9_goOn) 91 dX9_goOn_91 (by omega) (by omega) ?_
    have hb3 := isB_42 (i := ((l6 * 4) + l5)) (by omega) (by omega)
    refine z_aaldB (M := M_X9_goOn) 92 dX9_goOn_92 o_42 (by omega) (by omega) (g_42 G (by omega)) ?_
    refine z_astore (M := M_X9_goOn) 93 dX9_goOn_93 (ls' := [some (mR 38), some (mR 59), some (mR 76), some (mI l3), some (mI l4), some (mI l5), some (mI l6), some (mR (60 + (((l4 * 4) + l6)).toNat)), some (mR (43 + (((l6 * 4) + l5)).toNat))]) (by decide) rfl ?_
    refine z_iload (M := M_X9_goOn) 95 dX9_goOn_95 rfl ?_
    refine z_iload (M := M_X9_goOn) 97 dX9_goOn_97 rfl ?_
    refine z_icmp_eq (M := M_X9_goOn) 99 dX9_goOn_99 178 rfl (fun c4 => ?_) (fun c4 => ?_)
    · refine z_iincN (M := M_X9_goOn) 178 dX9_goOn_178 (ls' := [some (mR 38), some (mR 59), some (mR 76), some (mI l3), some (mI l4), some (mI l5), some (mI (l6 + 1)), some (mR (60 + (((l4 * 4) + l6)).toNat)), some (mR (43 + (((l6 * 4) + l5)).toNat))]) (by decide) rfl (by (unfold m_32; decide)) (by omega) (by omega) rfl ?_
      refine z_goto (M := M_X9_goOn) 181 dX9_goOn_181 64 rfl ?_
      exact z_mask [true, true, true, true, true, true, true, false, false] rfl (ih.2 l3 l4 l5 (l6 + 1) h G R (by omega) (by omega) (by omega) (by omega) (by omega) (by omega) (by omega) (by omega) (go_skip i0 (by omega) (by omega) (by omega) (by omega) (by omega) (by omega) (by decide) (by decide) (Or.inl (by omega))) (by omega))
    · refine z_iload (M := M_X9_goOn) 102 dX9_goOn_102 rfl ?_
      refine z_iload (M := M_X9_goOn) 104 dX9_goOn_104 rfl ?_
      refine z_icmp_eq (M := M_X9_goOn) 106 dX9_goOn_106 178 rfl (fun c5 => ?_) (fun c5 => ?_)
      · refine z_iincN (M := M_X9_goOn) 178 dX9_goOn_178 (ls' := [some (mR 38), some (mR 59), some (mR 76), some (mI l3), some (mI l4), some (mI l5), some (mI (l6 + 1)), some (mR (60 + (((l4 * 4) + l6)).toNat)), some (mR (43 + (((l6 * 4) + l5)).toNat))]) (by decide) rfl (by (unfold m_32; decide)) (by omega) (by omega) rfl ?_
        refine z_goto (M := M_X9_goOn) 181 dX9_goOn_181 64 rfl ?_
        exact z_mask [true, true, true, true, true, true, true, false, false] rfl (ih.2 l3 l4 l5 (l6 + 1) h G R (by omega) (by omega) (by omega) (by omega) (by omega) (by omega) (by omega) (by omega) (go_skip i0 (by omega) (by omega) (by omega) (by omega) (by omega) (by omega) (by decide) (by decide) (Or.inr (Or.inl (by omega)))) (by omega))
      · have bw_ : (0 < h (60 + (l4 * 4 + l6).toNat) 0 ∧ h (60 + (l4 * 4 + l6).toNat) 0 ≤ 40000) ∧ 0 ≤ h (60 + (l4 * 4 + l6).toNat) 1 ∧ h (60 + (l4 * 4 + l6).toNat) 1 ≤ 40000 := (by have z_ := hw (l4 * 4 + l6).toNat (by omega); unfold pBb bd at z_; rw [← i0.2.1.1 (60 + (l4 * 4 + l6).toNat) (by omega)] at z_; exact z_)
        have bs_ : (0 < h (43 + (l6 * 4 + l5).toNat) 0 ∧ h (43 + (l6 * 4 + l5).toNat) 0 ≤ 200) ∧ 0 ≤ h (43 + (l6 * 4 + l5).toNat) 1 ∧ h (43 + (l6 * 4 + l5).toNat) 1 ≤ 200 := (by have z_ := hs (l6 * 4 + l5).toNat (by omega); unfold pBb bd at z_; rw [← i0.2.1.1 (43 + (l6 * 4 + l5).toNat) (by omega)] at z_; exact z_)
        refine z_aload (M := M_X9_goOn) 109 dX9_goOn_109 rfl ?_
        refine z_getJV (M := M_X9_goOn) 111 dX9_goOn_111 f_X9_132 (oB hb2) rfl (fun x6 ex6 => ?_)
        rw [ex6] at bw_
        refine z_lconst (M := M_X9_goOn) 114 dX9_goOn_114 (v := 0) ?_
        refine z_lcmp (M := M_X9_goOn) 115 dX9_goOn_115 ?_
        refine z_if_eq (M := M_X9_goOn) 116 dX9_goOn_116 178 rfl (fun c7 => ?_) (fun c7 => ?_)
        · rw [m_cmp_eq] at c7
          refine z_iincN (M := M_X9_goOn) 178 dX9_goOn_178 (ls' := [some (mR 38), some (mR 59), some (mR 76), some (mI l3), some (mI l4), some (mI l5), some (mI (l6 + 1)), some (mR (60 + (((l4 * 4) + l6)).toNat)), some (mR (43 + (((l6 * 4) + l5)).toNat))]) (by decide) rfl (by (unfold m_32; decide)) (by omega) (by omega) rfl ?_
          refine z_goto (M := M_X9_goOn) 181 dX9_goOn_181 64 rfl ?_
          exact z_mask [true, true, true, true, true, true, true, false, false] rfl (ih.2 l3 l4 l5 (l6 + 1) h G R (by omega) (by omega) (by omega) (by omega) (by omega) (by omega) (by omega) (by omega) (go_skip i0 (by omega) (by omega) (by omega) (by omega) (by omega) (by omega) (by decide) (by decide) (Or.inr (Or.inr (Or.inl (ex6.trans c7))))) (by omega))
        · rw [m_cmp_eq] at c7
          refine z_aload (M := M_X9_goOn) 119 dX9_goOn_119 rfl ?_
          refine z_getJV (M := M_X9_goOn) 121 dX9_goOn_121 f_X9_132 (oB hb3) rfl (fun x8 ex8 => ?_)
          rw [ex8] at bs_
          refine z_lconst (M := M_X9_goOn) 124 dX9_goOn_124 (v := 0) ?_
          refine z_lcmp (M := M_X9_goOn) 125 dX9_goOn_125 ?_
          refine z_if_eq (M := M_X9_goOn) 126 dX9_goOn_126 178 rfl (fun c9 => ?_) (fun c9 => ?_)
          · rw [m_cmp_eq] at c9
            refine z_iincN (M := M_X9_goOn) 178 dX9_goOn_178 (ls' := [some (mR 38), some (mR 59), some (mR 76), some (mI l3), some (mI l4), some (mI l5), some (mI (l6 + 1)), some (mR (60 + (((l4 * 4) + l6)).toNat)), some (mR (43 + (((l6 * 4) + l5)).toNat))]) (by decide) rfl (by (unfold m_32; decide)) (by omega) (by omega) rfl ?_
            refine z_goto (M := M_X9_goOn) 181 dX9_goOn_181 64 rfl ?_
            exact z_mask [true, true, true, true, true, true, true, false, false] rfl (ih.2 l3 l4 l5 (l6 + 1) h G R (by omega) (by omega) (by omega) (by omega) (by omega) (by omega) (by omega) (by omega) (go_skip i0 (by omega) (by omega) (by omega) (by omega) (by omega) (by omega) (by decide) (by decide) (Or.inr (Or.inr (Or.inr (ex8.trans c9))))) (by omega))
          · rw [m_cmp_eq] at c9
            refine z_aload_n (M := M_X9_goOn) 129 dX9_goOn_129 rfl ?_
            refine z_iload_n (M := M_X9_goOn) 130 dX9_goOn_130 rfl ?_
            have hb10 := isB_76 (i := l3) (by omega) (by omega)
            refine z_aaldB (M := M_X9_goOn) 131 dX9_goOn_131 o_76 (by omega) (by omega) (g_76 G (by omega)) ?_
            refine z_aload (M := M_X9_goOn) 132 dX9_goOn_132 rfl ?_
            refine z_getJV (M := M_X9_goOn) 134 dX9_goOn_134 f_X9_128 (oB hb2) rfl (fun x11 ex11 => ?_)
            rw [ex11] at bw_
            refine z_aload (M := M_X9_goOn) 137 dX9_goOn_137 rfl ?_
            refine z_getJV (M := M_X9_goOn) 139 dX9_goOn_139 f_X9_128 (oB hb3) rfl (fun x12 ex12 => ?_)
            rw [ex12] at bs_
            have mx13 := mul_bd (x := x11) (y := x12) (X := 40000) (Y := 200) (by omega) (by omega) (by omega) (by omega)
            refine z_lmulN (M := M_X9_goOn) 142 dX9_goOn_142 (by omega) (by omega) ?_
            refine z_topBJ (lo := 0) (hi := 8000000) ⟨by omega, by omega⟩ (fun x13 ex13 ax13 bx13 => ?_)
            refine z_aload (M := M_X9_goOn) 143 dX9_goOn_143 rfl ?_
            refine z_getJE (M := M_X9_goOn) 145 dX9_goOn_145 f_X9_132 (oB hb2) rfl ex6 ?_
            refine z_aload (M := M_X9_goOn) 148 dX9_goOn_148 rfl ?_
            refine z_getJE (M := M_X9_goOn) 150 dX9_goOn_150 f_X9_132 (oB hb3) rfl ex8 ?_
            have mx14 := mul_bd (x := x6) (y := x8) (X := 40000) (Y := 200) (by omega) (by omega) (by omega) (by omega)
            refine z_lmulN (M := M_X9_goOn) 153 dX9_goOn_153 (by omega) (by omega) ?_
            refine z_topBJ (lo := 0) (hi := 8000000) ⟨by omega, by omega⟩ (fun x14 ex14 ax14 bx14 => ?_)
            refine z_aload (M := M_X9_goOn) 154 dX9_goOn_154 rfl ?_
            refine z_getIG (M := M_X9_goOn) 156 dX9_goOn_156 f_X9_134 (oB hb2) (by decide) (gB hb2 G) (fun x15 ex15 ax15 bx15 => ?_)
            refine z_if_ne (M := M_X9_goOn) 159 dX9_goOn_159 170 rfl (fun c16 => ?_) (fun c16 => ?_)
            · refine z_iconst (M := M_X9_goOn) 170 dX9_goOn_170 ?_
              refine z_goto (M := M_X9_goOn) 171 dX9_goOn_171 175 rfl ?_
              refine z_vV (M := M_X9_goOn) 175 dX9_goOn_175 t_X2_lessen l_X9_66 (m_rr_of rfl) (rest := []) (c_X2_lessen2 h (77 + (l3).toNat) x13 x14 1 hb10 G ⟨by omega, by omega⟩ gc_.1 gc_.2 ⟨by omega, by omega⟩ ⟨by omega, by omega⟩) (oB hb10) rfl rfl rfl (Nat.le_of_ble_eq_true rfl) ⟨rfl, rfl⟩ (fun h1 qx17 => ?_)
              obtain ⟨G1, S1, B1⟩ := qx17
              have R1 := R.call S1 (by decide +kernel)
              refine z_iincN (M := M_X9_goOn) 178 dX9_goOn_178 (ls' := [some (mR 38), some (mR 59), some (mR 76), some (mI l3), some (mI l4), some (mI l5), some (mI (l6 + 1)), some (mR (60 + (((l4 * 4) + l6)).toNat)), some (mR (43 + (((l6 * 4) + l5)).toNat))]) (by decide) rfl (by (unfold m_32; decide)) (by omega) (by omega) rfl ?_
              refine z_goto (M := M_X9_goOn) 181 dX9_goOn_181 64 rfl ?_
              exact z_mask [true, true, true, true, true, true, true, false, false] rfl (ih.2 l3 l4 l5 (l6 + 1) h1 G1 R1 (by omega) (by omega) (by omega) (by omega) (by omega) (by omega) (by omega) (by omega) (go_take i0 (by omega) (by omega) (by omega) (by omega) (by omega) (by omega) (by omega) (by omega) (by decide) (by decide) (by omega) (by omega) ex6 c7 ex8 c9 ex11 ex12 ex13 ex14 ex15 rfl (if_pos (Or.inl (by omega))) B1) (by omega))
            · refine z_aload (M := M_X9_goOn) 162 dX9_goOn_162 rfl ?_
              refine z_getIG (M := M_X9_goOn) 164 dX9_goOn_164 f_X9_134 (oB hb3) (by decide) (gB hb3 G) (fun x18 ex18 ax18 bx18 => ?_)
              refine z_if_eq (M := M_X9_goOn) 167 dX9_goOn_167 174 rfl (fun c19 => ?_) (fun c19 => ?_)
              · refine z_iconst (M := M_X9_goOn) 174 dX9_goOn_174 ?_
                refine z_vV (M := M_X9_goOn) 175 dX9_goOn_175 t_X2_lessen l_X9_66 (m_rr_of rfl) (rest := []) (c_X2_lessen2 h (77 + (l3).toNat) x13 x14 0 hb10 G ⟨by omega, by omega⟩ gc_.1 gc_.2 ⟨by omega, by omega⟩ ⟨by omega, by omega⟩) (oB hb10) rfl rfl rfl (Nat.le_of_ble_eq_true rfl) ⟨rfl, rfl⟩ (fun h2 qx20 => ?_)
                obtain ⟨G2, S2, B2⟩ := qx20
                have R2 := R.call S2 (by decide +kernel)
                refine z_iincN (M := M_X9_goOn) 178 dX9_goOn_178 (ls' := [some (mR 38), some (mR 59), some (mR 76), some (mI l3), some (mI l4), some (mI l5), some (mI (l6 + 1)), some (mR (60 + (((l4 * 4) + l6)).toNat)), some (mR (43 + (((l6 * 4) + l5)).toNat))]) (by decide) rfl (by (unfold m_32; decide)) (by omega) (by omega) rfl ?_
                refine z_goto (M := M_X9_goOn) 181 dX9_goOn_181 64 rfl ?_
                exact z_mask [true, true, true, true, true, true, true, false, false] rfl (ih.2 l3 l4 l5 (l6 + 1) h2 G2 R2 (by omega) (by omega) (by omega) (by omega) (by omega) (by omega) (by omega) (by omega) (go_take i0 (by omega) (by omega) (by omega) (by omega) (by omega) (by omega) (by omega) (by omega) (by decide) (by decide) (by omega) (by omega) ex6 c7 ex8 c9 ex11 ex12 ex13 ex14 ex15 ex18 (if_neg (by omega)) B2) (by omega))
              · refine z_iconst (M := M_X9_goOn) 170 dX9_goOn_170 ?_
                refine z_goto (M := M_X9_goOn) 171 dX9_goOn_171 175 rfl ?_
                refine z_vV (M := M_X9_goOn) 175 dX9_goOn_175 t_X2_lessen l_X9_66 (m_rr_of rfl) (rest := []) (c_X2_lessen2 h (77 + (l3).toNat) x13 x14 1 hb10 G ⟨by omega, by omega⟩ gc_.1 gc_.2 ⟨by omega, by omega⟩ ⟨by omega, by omega⟩) (oB hb10) rfl rfl rfl (Nat.le_of_ble_eq_true rfl) ⟨rfl, rfl⟩ (fun h3 qx21 => ?_)
                obtain ⟨G3, S3, B3⟩ := qx21
                have R3 := R.call S3 (by decide +kernel)
                refine z_iincN (M := M_X9_goOn) 178 dX9_goOn_178 (ls' := [some (mR 38), some (mR 59), some (mR 76), some (mI l3), some (mI l4), some (mI l5), some (mI (l6 + 1)), some (mR (60 + (((l4 * 4) + l6)).toNat)), some (mR (43 + (((l6 * 4) + l5)).toNat))]) (by decide) rfl (by (unfold m_32; decide)) (by omega) (by omega) rfl ?_
                refine z_goto (M := M_X9_goOn) 181 dX9_goOn_181 64 rfl ?_
                exact z_mask [true, true, true, true, true, true, true, false, false] rfl (ih.2 l3 l4 l5 (l6 + 1) h3 G3 R3 (by omega) (by omega) (by omega) (by omega) (by omega) (by omega) (by omega) (by omega) (go_take i0 (by omega) (by omega) (by omega) (by omega) (by omega) (by omega) (by omega) (by omega) (by decide) (by decide) (by omega) (by omega) ex6 c7 ex8 c9 ex11 ex12 ex13 ex14 ex15 ex18 (if_pos (Or.inr (by omega))) B3) (by omega))
theorem a_X9_goOn_59x (h0 : m_H) (G0 : GI h0) (hs : ∀ p : Nat, p < 16 → pBb 200 (bd h0 (43 + p))) (hw : ∀ p : Nat, p < 16 → pBb 40000 (bd h0 (60 + p))) : ∀ n, q_X9_goOn_59x h0 n := by
  intro n
  induction n with
  | zero => unfold q_X9_goOn_59x; refine ⟨?_, ?_⟩ <;> (intros; omega)
  | succ n ih => exact ⟨s_X9_goOn_59x_2 h0 G0 hs hw n ih, s_X9_goOn_59x_64 h0 G0 hs hw n ih⟩
set_option maxHeartbeats 4000000 in
set_option maxRecDepth 100000 in
theorem c_X9_goOn_59x (h0 : m_H) (G0 : GI h0) (hs : ∀ p : Nat, p < 16 → pBb 200 (bd h0 (43 + p))) (hw : ∀ p : Nat, p < 16 → pBb 40000 (bd h0 (60 + p))) : m_CV M_X9_goOn [mR 38, mR 59, mR 76] h0 (P_X9_goOn_59x h0) := by
  refine m_CV_of ⟨by decide, rfl, by simp [m_arg, m_isL, M_X9_goOn], ⟨rfl, rfl⟩, rfl, rfl⟩ (ls := [some (mR 38), some (mR 59), some (mR 76), none, none, none, none, none, none]) rfl ?_
  have ih := a_X9_goOn_59x h0 G0 hs hw 227
  refine z_iconst (M := M_X9_goOn) 0 dX9_goOn_0 ?_
  refine z_istore_n (M := M_X9_goOn) 1 dX9_goOn_1 (ls' := [some (mR 38), some (mR 59), some (mR 76), some (mI 0), none, none, none, none, none]) (by decide) rfl ?_
  exact z_mask [true, true, true, true, false, false, false, false, false] rfl (ih.1 0 h0 G0 (FR.rf (cs := (csB ++ [])) (ss := []) (h := h0)) (by omega) (by omega) ⟨fun _ _ => rfl, fun p hp => by omega⟩ (by omega))
