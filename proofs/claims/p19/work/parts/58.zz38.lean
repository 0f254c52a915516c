/-! ends and what they tell -/
def eLo (h : m_H) : Int × Int × Int := if h 108 44 = 1 then (vS (h 138) 5 5, vS (h 138) 0 5, if h 108 46 = 1 then 0 else 1) else (1, 0, 1)
def eHi (h : m_H) : Int × Int × Int := if h 108 45 = 1 then (vS (h 138) 10 5, vS (h 138) 15 5, if h 108 47 = 1 then 0 else 1) else (1, 0, 1)
def eOk (h : m_H) : Prop := (h 108 46 = 1 → h 108 44 = 1) ∧ (h 108 47 = 1 → h 108 45 = 1)
def ofK (k : Int) : Int := if k = 2 then 2 else 1
def loK (n k : Int) : Int := if k = 2 then 2 * n - 1 else n
def hiK (n k : Int) : Int := if k = 0 then n else if k = 1 then n + 1 else 2 * n + 1
def tlU (B : Int × Int × Int) (n k : Int) : Prop := B.2.1 * ofK k < B.1 * hiK n k ∨ (B.2.1 * ofK k = B.1 * hiK n k ∧ k = 0 ∧ B.2.2 ≠ 1)
def tlO (C : Int × Int × Int) (n k : Int) : Prop := C.2.1 * loK n k < C.1 * ofK k ∨ (C.1 * ofK k = C.2.1 * loK n k ∧ C.2.2 ≠ 1)
def tlI (B C : Int × Int × Int) (n k : Int) : Prop := B.1 * loK n k ≤ B.2.1 * ofK k ∧ (C.1 * ofK k < C.2.1 * hiK n k ∨ (C.1 * ofK k = C.2.1 * hiK n k ∧ (k = 0 ∨ C.2.2 = 1)))
def tlF (B C : Int × Int × Int) (n k x : Int) : Prop := (¬ (tlU B n k ∧ tlO C n k) ∧ x = 0) ∨ ((tlU B n k ∧ tlO C n k) ∧ ((tlI B C n k ∧ x = 1) ∨ (¬ tlI B C n k ∧ x = 2)))
theorem eLo_y {h : m_H} (e : h 108 44 = 1) : eLo h = (vS (h 138) 5 5, vS (h 138) 0 5, if h 108 46 = 1 then 0 else 1) := if_pos e
theorem eLo_n {h : m_H} (e : h 108 44 ≠ 1) : eLo h = (1, 0, 1) := if_neg e
theorem eHi_y {h : m_H} (e : h 108 45 = 1) : eHi h = (vS (h 138) 10 5, vS (h 138) 15 5, if h 108 47 = 1 then 0 else 1) := if_pos e
theorem eHi_n {h : m_H} (e : h 108 45 ≠ 1) : eHi h = (1, 0, 1) := if_neg e
theorem eLo_c {h0 h : m_H} {x : Int} (R : FR [135, 136] [] h0 h) (ex : h 108 46 = x) (c : x ≠ 1) : (eLo h0).2.2 = 1 := by
  have e : h0 108 46 ≠ 1 := by rw [← (R 108 46 rfl : h 108 46 = h0 108 46), ex]; exact c
  by_cases g : h0 108 44 = 1
  · rw [eLo_y g]; exact if_neg e
  · rw [eLo_n g]
theorem eHi_c {h0 h : m_H} {x : Int} (R : FR [135, 136] [] h0 h) (ex : h 108 47 = x) (c : x ≠ 1) : (eHi h0).2.2 = 1 := by
  have e : h0 108 47 ≠ 1 := by rw [← (R 108 47 rfl : h 108 47 = h0 108 47), ex]; exact c
  by_cases g : h0 108 45 = 1
  · rw [eHi_y g]; exact if_neg e
  · rw [eHi_n g]
theorem eLo_o {h0 h : m_H} {x : Int} (R : FR [135, 136] [] h0 h) (hE : eOk h0) (ex : h 108 46 = x) (c : x = 1) : (eLo h0).2.2 ≠ 1 := by
  have e : h0 108 46 = 1 := ((R 108 46 rfl).symm.trans ex).trans c
  rw [eLo_y (hE.1 e)]
  show (if h0 108 46 = 1 then (0 : Int) else 1) ≠ 1
  rw [if_pos e]; decide
theorem eHi_o {h0 h : m_H} {x : Int} (R : FR [135, 136] [] h0 h) (hE : eOk h0) (ex : h 108 47 = x) (c : x = 1) : (eHi h0).2.2 ≠ 1 := by
  have e : h0 108 47 = 1 := ((R 108 47 rfl).symm.trans ex).trans c
  rw [eHi_y (hE.2 e)]
  show (if h0 108 47 = 1 then (0 : Int) else 1) ≠ 1
  rw [if_pos e]; decide
theorem tl_ln {h0 h : m_H} {x c m : Int} (R : FR [135, 136] [] h0 h) (ex : h 108 44 = x) (cx : x ≠ 1) (hm : 1 ≤ m) : cmpQ (-1) ((eLo h0).2.1 * c) ((eLo h0).1 * m) := by
  rw [eLo_n (by rw [← (R 108 44 rfl : h 108 44 = h0 108 44), ex]; exact cx)]
  exact Or.inl ⟨rfl, by show (0 : Int) * c < 1 * m; rw [Int.zero_mul, Int.one_mul]; omega⟩
theorem tl_hn {h0 h : m_H} {x c m : Int} (R : FR [135, 136] [] h0 h) (ex : h 108 45 = x) (cx : x ≠ 1) (hc : 1 ≤ c) : cmpQ 1 ((eHi h0).1 * c) ((eHi h0).2.1 * m) := by
  rw [eHi_n (by rw [← (R 108 45 rfl : h 108 45 = h0 108 45), ex]; exact cx)]
  exact Or.inr (Or.inr ⟨rfl, by show (0 : Int) * m < 1 * c; rw [Int.zero_mul, Int.one_mul]; omega⟩)
theorem tl_ly {h0 h g : m_H} {x y c m c' m' : Int} (R : FR [135, 136] [] h0 h) (ex : h 108 44 = x) (cx : x = 1) (Rg : FR [135, 136] [] h0 g) (e1 : c = c') (e2 : m = m') (q : cmpQ y (vS (g 138) (0 : Int).toNat 5 * c) (vS (g 138) (0 + 5 : Int).toNat 5 * m)) : cmpQ y ((eLo h0).2.1 * c') ((eLo h0).1 * m') := by
  rw [eLo_y (((R 108 44 rfl).symm.trans ex).trans cx), ← e1, ← e2]
  rw [(FR.row Rg (fun _ => rfl) : g 138 = h0 138)] at q
  exact q
theorem tl_hy {h0 h g : m_H} {x y c m c' m' : Int} (R : FR [135, 136] [] h0 h) (ex : h 108 45 = x) (cx : x = 1) (Rg : FR [135, 136] [] h0 g) (e1 : c = c') (e2 : m = m') (q : cmpQ y (vS (g 138) (10 : Int).toNat 5 * c) (vS (g 138) (10 + 5 : Int).toNat 5 * m)) : cmpQ y ((eHi h0).1 * c') ((eHi h0).2.1 * m') := by
  rw [eHi_y (((R 108 45 rfl).symm.trans ex).trans cx), ← e1, ← e2]
  rw [(FR.row Rg (fun _ => rfl) : g 138 = h0 138)] at q
  exact q
theorem tu_1 {B : Int × Int × Int} {n k l : Int} (q : cmpQ l (B.2.1 * ofK k) (B.1 * hiK n k)) (c : l < 0) : tlU B n k := by
  unfold cmpQ at q
  exact Or.inl (by omega)
theorem tu_2 {B : Int × Int × Int} {n k l : Int} (q : cmpQ l (B.2.1 * ofK k) (B.1 * hiK n k)) (c : l = 0) (hk : k = 0) (o : B.2.2 ≠ 1) : tlU B n k := by
  unfold cmpQ at q
  exact Or.inr ⟨by omega, hk, o⟩
theorem tu_n {B : Int × Int × Int} {n k l : Int} (q : cmpQ l (B.2.1 * ofK k) (B.1 * hiK n k)) (c : 0 < l ∨ (l = 0 ∧ (k ≠ 0 ∨ B.2.2 = 1))) : ¬ tlU B n k := by
  unfold cmpQ at q
  rintro (z | ⟨z1, z2, z3⟩)
  · omega
  · rcases c with c | ⟨c1, c2 | c2⟩
    · omega
    · exact c2 z2
    · exact z3 c2
theorem to_1 {C : Int × Int × Int} {n k l : Int} (q : cmpQ l (C.1 * ofK k) (C.2.1 * loK n k)) (c : 0 < l) : tlO C n k := by
  unfold cmpQ at q
  exact Or.inl (by omega)
theorem to_2 {C : Int × Int × Int} {n k l : Int} (q : cmpQ l (C.1 * ofK k) (C.2.1 * loK n k)) (c : l = 0) (o : C.2.2 ≠ 1) : tlO C n k := by
  unfold cmpQ at q
  exact Or.inr ⟨by omega, o⟩
theorem to_n {C : Int × Int × Int} {n k l : Int} (q : cmpQ l (C.1 * ofK k) (C.2.1 * loK n k)) (c : l < 0 ∨ (l = 0 ∧ C.2.2 = 1)) : ¬ tlO C n k := by
  unfold cmpQ at q
  rintro (z | ⟨z1, z2⟩)
  · omega
  · rcases c with c | ⟨c1, c2⟩
    · omega
    · exact z2 c2
theorem ti_y {B C : Int × Int × Int} {n k l m : Int} (q : cmpQ l (B.2.1 * ofK k) (B.1 * loK n k)) (c : 0 ≤ l) (p : cmpQ m (C.1 * ofK k) (C.2.1 * hiK n k)) (d : m < 0 ∨ (m = 0 ∧ (k = 0 ∨ C.2.2 = 1))) : tlI B C n k := by
  unfold cmpQ at q p
  refine ⟨by omega, ?_⟩
  rcases d with d | ⟨d1, d2⟩
  · exact Or.inl (by omega)
  · exact Or.inr ⟨by omega, d2⟩
theorem ti_n1 {B C : Int × Int × Int} {n k l : Int} (q : cmpQ l (B.2.1 * ofK k) (B.1 * loK n k)) (c : l < 0) : ¬ tlI B C n k := by
  unfold cmpQ at q
  rintro ⟨z, _⟩
  omega
theorem ti_n2 {B C : Int × Int × Int} {n k m : Int} (p : cmpQ m (C.1 * ofK k) (C.2.1 * hiK n k)) (d : 0 < m ∨ (m = 0 ∧ k ≠ 0 ∧ C.2.2 ≠ 1)) : ¬ tlI B C n k := by
  unfold cmpQ at p
  rintro ⟨_, z | ⟨z1, z2⟩⟩
  · omega
  · rcases d with d | ⟨d1, d2, d3⟩
    · omega
    · exact z2.elim d2 d3
abbrev P_X12_beside4 (h0 : m_H) (a1 a2 a3 : Int) : Int → m_H → Prop := fun x h' => GI h' ∧ FR [135, 136] [] h0 h' ∧ (-1) ≤ x ∧ x ≤ 1 ∧ cmpQ x (vS (h0 138) a1.toNat 5 * a3) (vS (h0 138) (a1 + 5).toNat 5 * a2)
def q_X12_beside4 (h0 : m_H) (a1 a2 a3 : Int) (n : Nat) : Prop := (∀ (l4 : Int) (h : m_H), GI h → FR [135, 136] [] h0 h → (-1) ≤ l4 → l4 ≤ 9 → (-2147483648) ≤ a2 → a2 ≤ 2147483647 → (-2147483648) ≤ a3 → a3 ≤ 2147483647 → (cpI (h 135) (h 136) (vS (h0 138) a1.toNat 5 * a3) (vS (h0 138) (a1 + 5).toNat 5 * a2) l4) → 2 * (l4 - (-1)) + (1) ≤ (n : Int) → m_Z oF M_X12_beside 34 [some (mR 108), none, none, none, some (mI l4)] [] h (m_QI (P_X12_beside4 h0 a1 a2 a3)))
set_option maxHeartbeats 4000000 in
set_option maxRecDepth 100000 in
theorem s_X12_beside4_34 (h0 : m_H) (a1 a2 a3 : Int) (G0 : GI h0) (pa1 : 0 ≤ a1 ∧ a1 ≤ 10) (hb2 : 0 ≤ a2 ∧ a2 ≤ 2000000000) (hb3 : 0 ≤ a3 ∧ a3 ≤ 2000000000) (n : Nat) (ih : q_X12_beside4 h0 a1 a2 a3 n) : ∀ (l4 : Int) (h : m_H), GI h → FR [135, 136] [] h0 h → (-1) ≤ l4 → l4 ≤ 9 → (-2147483648) ≤ a2 → a2 ≤ 2147483647 → (-2147483648) ≤ a3 → a3 ≤ 2147483647 → (cpI (h 135) (h 136) (vS (h0 138) a1.toNat 5 * a3) (vS (h0 138) (a1 + 5).toNat 5 * a2) l4) → 2 * (l4 - (-1)) + (1) ≤ ((n + 1 : Nat) : Int) → m_Z oF M_X12_beside 34 [some (mR 108), none, none, none, some (mI l4)] [] h (m_QI (P_X12_beside4 h0 a1 a2 a3)) := by
  intro l4 h G R v0 v1 v2 v3 v4 v5 i0 hr
  refine z_iload (M := M_X12_beside) 34 dX12_beside_34 rfl ?_
  refine z_if_lt (M := M_X12_beside) 36 dX12_beside_36 87 rfl (fun c1 => ?_) (fun c1 => ?_)
  · refine z_iconst (M := M_X12_beside) 87 dX12_beside_87 ?_
    exact z_retI (M := M_X12_beside) 88 dX12_beside_88 rfl ⟨G, R, by omega, by omega, cpI_eq i0 (by omega)⟩
  · refine z_aload_n (M := M_X12_beside) 39 dX12_beside_39 rfl ?_
    refine z_getR (M := M_X12_beside) 40 dX12_beside_40 f_X12_94 o_108 rfl (g_108_40 G) ?_
    refine z_iload (M := M_X12_beside) 43 dX12_beside_43 rfl ?_
    refine z_laldV (M := M_X12_beside) 45 dX12_beside_45 o_135 (by omega) (by omega) (fun x2 ex2 => ?_)
    refine z_aload_n (M := M_X12_beside) 46 dX12_beside_46 rfl ?_
    refine z_getR (M := M_X12_beside) 47 dX12_beside_47 f_X12_97 o_108 rfl (g_108_41 G) ?_
    refine z_iload (M := M_X12_beside) 50 dX12_beside_50 rfl ?_
    refine z_laldV (M := M_X12_beside) 52 dX12_beside_52 o_136 (by omega) (by omega) (fun x3 ex3 => ?_)
    refine z_lcmp (M := M_X12_beside) 53 dX12_beside_53 ?_
    refine z_if_eq (M := M_X12_beside) 54 dX12_beside_54 81 rfl (fun c4 => ?_) (fun c4 => ?_)
    · rw [m_cmp_eq] at c4
      refine z_iincN (M := M_X12_beside) 81 dX12_beside_81 (ls' := [some (mR 108), none, none, none, some (mI (l4 + (-1)))]) (by decide) rfl (by (unfold m_32; decide)) (by omega) (by omega) rfl ?_
      refine z_goto (M := M_X12_beside) 84 dX12_beside_84 34 rfl ?_
      exact z_mask [true, false, false, false, true] rfl (ih (l4 + (-1)) h G R (by omega) (by omega) (by omega) (by omega) (by omega) (by omega) (cpI_step i0 (by omega) ex2 ex3 (by omega)) (by omega))
    · rw [m_cmp_eq] at c4
      refine z_aload_n (M := M_X12_beside) 57 dX12_beside_57 rfl ?_
      refine z_getR (M := M_X12_beside) 58 dX12_beside_58 f_X12_94 o_108 rfl (g_108_40 G) ?_
      refine z_iload (M := M_X12_beside) 61 dX12_beside_61 rfl ?_
      refine z_laldE (M := M_X12_beside) 63 dX12_beside_63 o_135 (by omega) (by omega) ex2 ?_
      refine z_aload_n (M := M_X12_beside) 64 dX12_beside_64 rfl ?_
      refine z_getR (M := M_X12_beside) 65 dX12_beside_65 f_X12_97 o_108 rfl (g_108_41 G) ?_
      refine z_iload (M := M_X12_beside) 68 dX12_beside_68 rfl ?_
      refine z_laldE (M := M_X12_beside) 70 dX12_beside_70 o_136 (by omega) (by omega) ex3 ?_
      refine z_lcmp (M := M_X12_beside) 71 dX12_beside_71 ?_
      refine z_if_ge (M := M_X12_beside) 72 dX12_beside_72 79 rfl (fun c5 => ?_) (fun c5 => ?_)
      · rw [m_cmp_ge] at c5
        refine z_iconst (M := M_X12_beside) 79 dX12_beside_79 ?_
        exact z_retI (M := M_X12_beside) 80 dX12_beside_80 rfl ⟨G, R, by omega, by omega, cpI_gt i0 (by omega) (by omega) ex2 ex3 (by omega)⟩
      · rw [m_cmp_ge] at c5
        refine z_iconst (M := M_X12_beside) 75 dX12_beside_75 ?_
        refine z_goto (M := M_X12_beside) 76 dX12_beside_76 80 rfl ?_
        exact z_retI (M := M_X12_beside) 80 dX12_beside_80 rfl ⟨G, R, by omega, by omega, cpI_lt i0 (by omega) (by omega) ex2 ex3 (by omega)⟩
theorem a_X12_beside4 (h0 : m_H) (a1 a2 a3 : Int) (G0 : GI h0) (pa1 : 0 ≤ a1 ∧ a1 ≤ 10) (hb2 : 0 ≤ a2 ∧ a2 ≤ 2000000000) (hb3 : 0 ≤ a3 ∧ a3 ≤ 2000000000) : ∀ n, q_X12_beside4 h0 a1 a2 a3 n := by
  intro n
  induction n with
  | zero => unfold q_X12_beside4; intros; omega
  | succ n ih => exact s_X12_beside4_34 h0 a1 a2 a3 G0 pa1 hb2 hb3 n ih
set_option maxHeartbeats 4000000 in
set_option maxRecDepth 100000 in
theorem c_X12_beside4 (h0 : m_H) (a1 a2 a3 : Int) (G0 : GI h0) (pa1 : 0 ≤ a1 ∧ a1 ≤ 10) (hb2 : 0 ≤ a2 ∧ a2 ≤ 2000000000) (hb3 : 0 ≤ a3 ∧ a3 ≤ 2000000000) : m_CI M_X12_beside [mR 108, mI a1, mI a2, mI a3] h0 (P_X12_beside4 h0 a1 a2 a3) := by
  refine m_CI_of ⟨by decide, rfl, by simp [m_arg, m_isL, M_X12_beside], ⟨rfl, rfl⟩, rfl, rfl⟩ (ls := [some (mR 108), some (mI a1), some (mI a2), some (mI a3), none]) rfl ?_
  have ih := a_X12_beside4 h0 a1 a2 a3 G0 pa1 hb2 hb3 28
  refine z_ok (fun _ _ ok => ?_)
  have oa2 : m_32 a2 := ok 2 _ rfl
  unfold m_32 at oa2
  have oa3 : m_32 a3 := ok 3 _ rfl
  unfold m_32 at oa3
  refine z_aload_n (M := M_X12_beside) 0 dX12_beside_0 rfl ?_
  refine z_getR (M := M_X12_beside) 1 dX12_beside_1 f_X12_94 o_108 rfl (g_108_40 G0) ?_
  refine z_aload_n (M := M_X12_beside) 4 dX12_beside_4 rfl ?_
  refine z_getR (M := M_X12_beside) 5 dX12_beside_5 f_X12_103 o_108 rfl (g_108_43 G0) ?_
  refine z_iload_n (M := M_X12_beside) 8 dX12_beside_8 rfl ?_
  refine z_iload_n (M := M_X12_beside) 9 dX12_beside_9 rfl ?_
  refine z_i2l (M := M_X12_beside) 10 dX12_beside_10 ?_
  refine z_sV (M := M_X12_beside) 11 dX12_beside_11 t_X12_wide l_X12_387 (m_rr_of rfl) (rest := []) (c_X12_wide20x h0 135 138 a1 a3 (Or.inl rfl) rfl G0 ⟨by omega, by omega⟩ ⟨by omega, by omega⟩) rfl rfl (Nat.le_of_ble_eq_true rfl) ⟨rfl, rfl⟩ (fun h1 qx1 => ?_)
  obtain ⟨G1, S1, d1_, w1_⟩ := qx1
  have R1 := (FR.rf (cs := [135, 136]) (ss := []) (h := h0)).call S1 (by decide +kernel)
  refine z_aload_n (M := M_X12_beside) 14 dX12_beside_14 rfl ?_
  refine z_getR (M := M_X12_beside) 15 dX12_beside_15 f_X12_97 o_108 rfl (g_108_41 G1) ?_
  refine z_aload_n (M := M_X12_beside) 18 dX12_beside_18 rfl ?_
  refine z_getR (M := M_X12_beside) 19 dX12_beside_19 f_X12_103 o_108 rfl (g_108_43 G1) ?_
  refine z_iload_n (M := M_X12_beside) 22 dX12_beside_22 rfl ?_
  refine z_iconst (M := M_X12_beside) 23 dX12_beside_23 ?_
  refine z_iaddN (M := M_X12_beside) 24 dX12_beside_24 (by omega) (by omega) ?_
  refine z_iload_n (M := M_X12_beside) 25 dX12_beside_25 rfl ?_
  refine z_i2l (M := M_X12_beside) 26 dX12_beside_26 ?_
  refine z_sV (M := M_X12_beside) 27 dX12_beside_27 t_X12_wide l_X12_387 (m_rr_of rfl) (rest := []) (c_X12_wide20x h1 136 138 (a1 + 5) a2 (Or.inr rfl) rfl G1 ⟨by omega, by omega⟩ ⟨by omega, by omega⟩) rfl rfl (Nat.le_of_ble_eq_true rfl) ⟨rfl, rfl⟩ (fun h2 qx2 => ?_)
  obtain ⟨G2, S2, d2_, w2_⟩ := qx2
  rw [(FR.row S1 (fun _ => rfl) : h1 138 = h0 138)] at w2_
  have r_ : h2 135 = h1 135 := FR.row S2 (fun _ => rfl)
  have R2 := R1.call S2 (by decide +kernel)
  refine z_bipush (M := M_X12_beside) 30 dX12_beside_30 ?_
  refine z_istore (M := M_X12_beside) 32 dX12_beside_32 (ls' := [some (mR 108), some (mI a1), some (mI a2), some (mI a3), some (mI 9)]) (by decide) rfl ?_
  exact z_mask [true, false, false, false, true] rfl (ih 9 h2 G2 R2 (by omega) (by omega) (by omega) (by omega) (by omega) (by omega) ⟨by rw [r_]; exact d1_, d2_, by rw [r_]; exact w1_, w2_, fun j z1 z2 => by omega⟩ (by omega))
abbrev P_X12_tells4 (h0 : m_H) (a1 a2 : Int) : Int → m_H → Prop := fun x h' => GI h' ∧ FR [135, 136] [] h0 h' ∧ 0 ≤ x ∧ x ≤ 2 ∧ tlF (eLo h0) (eHi h0) a1 a2 x
def q_X12_tells4 (h0 : m_H) (a1 a2 : Int) (n : Nat) : Prop := (∀ (l3 l4 k0 : Int) (h : m_H), GI h → FR [135, 136] [] h0 h → 1 ≤ l3 → l3 ≤ 2 → 1 ≤ l4 → l4 ≤ 197 → 1 ≤ k0 → k0 ≤ 199 → (l3 = ofK a2) → (l4 = loK a1 a2) → (k0 = hiK a1 a2) → (5) ≤ (n : Int) → m_Z oF M_X12_tells 51 [some (mR 108), none, some (mI a2), some (mI l3), some (mI l4), none, none, none, none, none, none, none, none] [mI k0] h (m_QI (P_X12_tells4 h0 a1 a2))) ∧ (∀ (l6 l7 l8 k0 : Int) (h : m_H), GI h → FR [135, 136] [] h0 h → (-1) ≤ l6 → l6 ≤ 1 → (-1) ≤ l7 → l7 ≤ 1 → (-1) ≤ l8 → l8 ≤ 1 → (-1) ≤ k0 → k0 ≤ 1 → (cmpQ l6 ((eLo h0).2.1 * ofK a2) ((eLo h0).1 * loK a1 a2)) → (cmpQ l7 ((eLo h0).2.1 * ofK a2) ((eLo h0).1 * hiK a1 a2)) → (cmpQ l8 ((eHi h0).1 * ofK a2) ((eHi h0).2.1 * loK a1 a2)) → (cmpQ k0 ((eHi h0).1 * ofK a2) ((eHi h0).2.1 * hiK a1 a2)) → (4) ≤ (n : Int) → m_Z oF M_X12_tells 137 [some (mR 108), none, some (mI a2), none, none, none, some (mI l6), some (mI l7), some (mI l8), none, none, none, none] [mI k0] h (m_QI (P_X12_tells4 h0 a1 a2))) ∧ (∀ (l6 l9 l10 : Int) (h : m_H), GI h → FR [135, 136] [] h0 h → (-1) ≤ l6 → l6 ≤ 1 → (-1) ≤ l9 → l9 ≤ 1 → 0 ≤ l10 → l10 ≤ 1 → (cmpQ l6 ((eLo h0).2.1 * ofK a2) ((eLo h0).1 * loK a1 a2)) → (cmpQ l9 ((eHi h0).1 * ofK a2) ((eHi h0).2.1 * hiK a1 a2)) → (l10 = 1 ↔ tlU (eLo h0) a1 a2) → (tlO (eHi h0) a1 a2) → (3) ≤ (n : Int) → m_Z oF M_X12_tells 184 [some (mR 108), none, some (mI a2), none, none, none, some (mI l6), none, none, some (mI l9), some (mI l10), none, none] [] h (m_QI (P_X12_tells4 h0 a1 a2))) ∧ (∀ (l6 l9 l10 : Int) (h : m_H), GI h → FR [135, 136] [] h0 h → (-1) ≤ l6 → l6 ≤ 1 → (-1) ≤ l9 → l9 ≤ 1 → 0 ≤ l10 → l10 ≤ 1 → (l10 = 1 ↔ tlU (eLo h0) a1 a2) → (¬ tlO (eHi h0) a1 a2) → (2) ≤ (n : Int) → m_Z oF M_X12_tells 188 [some (mR 108), none, some (mI a2), none, none, none, some (mI l6), none, none, some (mI l9), some (mI l10), none, none] [] h (m_QI (P_X12_tells4 h0 a1 a2))) ∧ (∀ (k0 : Int) (h : m_H), GI h → FR [135, 136] [] h0 h → 1 ≤ k0 → k0 ≤ 2 → (tlF (eLo h0) (eHi h0) a1 a2 k0) → (1) ≤ (n : Int) → m_Z oF M_X12_tells 246 [none, none, none, none, none, none, none, none, none, none, none, none, none] [mI k0] h (m_QI (P_X12_tells4 h0 a1 a2)))
set_option maxHeartbeats 4000000 in
set_option maxRecDepth 100000 in
theorem s_X12_tells4_51 (h0 : m_H) (a1 a2 : Int) (G0 : GI h0) (pa1 : 1 ≤ a1 ∧ a1 ≤ 99) (pa2 : 0 ≤ a2 ∧ a2 ≤ 2) (hE : eOk h0) (n : Nat) (ih : q_X12_tells4 h0 a1 a2 n) : ∀ (l3 l4 k0 : Int) (h : m_H), GI h → FR [135, 136] [] h0 h → 1 ≤ l3 → l3 ≤ 2 → 1 ≤ l4 → l4 ≤ 197 → 1 ≤ k0 → k0 ≤ 199 → (l3 = ofK a2) → (l4 = loK a1 a2) → (k0 = hiK a1 a2) → (5) ≤ ((n + 1 : Nat) : Int) → m_Z oF M_X12_tells 51 [some (mR 108), none, some (mI a2), some (mI l3), some (mI l4), none, none, none, none, none, none, none, none] [mI k0] h (m_QI (P_X12_tells4 h0 a1 a2)) := by
  intro l3 l4 k0 h G R v0 v1 v2 v3 v4 v5 i1 i2 i3 hr
  refine z_istore (M := M_X12_tells) 51 dX12_tells_51 (ls' := [some (mR 108), none, some (mI a2), some (mI l3), some (mI l4), some (mI k0), none, none, none, none, none, none, none]) (by decide) rfl ?_
  refine z_aload_n (M := M_X12_tells) 53 dX12_tells_53 rfl ?_
  refine z_getIG (M := M_X12_tells) 54 dX12_tells_54 f_X12_409 o_108 (by decide) (g_108_44 G) (fun x1 ex1 ax1 bx1 => ?_)
  refine z_if_eq (M := M_X12_tells) 57 dX12_tells_57 71 rfl (fun c2 => ?_) (fun c2 => ?_)
  · refine z_iconst (M := M_X12_tells) 71 dX12_tells_71 ?_
    refine z_istore (M := M_X12_tells) 72 dX12_tells_72 (ls' := [some (mR 108), none, some (mI a2), some (mI l3), some (mI l4), some (mI k0), some (mI (-1)), none, none, none, none, none, none]) (by decide) rfl ?_
    refine z_aload_n (M := M_X12_tells) 74 dX12_tells_74 rfl ?_
    refine z_getIE (M := M_X12_tells) 75 dX12_tells_75 f_X12_409 o_108 (by decide) ex1 ?_
    refine z_if_eq_T (M := M_X12_tells) 78 dX12_tells_78 92 rfl (by omega) ?_
    refine z_iconst (M := M_X12_tells) 92 dX12_tells_92 ?_
    refine z_istore (M := M_X12_tells) 93 dX12_tells_93 (ls' := [some (mR 108), none, some (mI a2), some (mI l3), some (mI l4), some (mI k0), some (mI (-1)), some (mI (-1)), none, none, none, none, none]) (by decide) rfl ?_
    refine z_aload_n (M := M_X12_tells) 95 dX12_tells_95 rfl ?_
    refine z_getIG (M := M_X12_tells) 96 dX12_tells_96 f_X12_415 o_108 (by decide) (g_108_45 G) (fun x3 ex3 ax3 bx3 => ?_)
    refine z_if_eq (M := M_X12_tells) 99 dX12_tells_99 114 rfl (fun c4 => ?_) (fun c4 => ?_)
    · refine z_iconst (M := M_X12_tells) 114 dX12_tells_114 ?_
      refine z_istore (M := M_X12_tells) 115 dX12_tells_115 (ls' := [some (mR 108), none, some (mI a2), some (mI l3), some (mI l4), some (mI k0), some (mI (-1)), some (mI (-1)), some (mI 1), none, none, none, none]) (by decide) rfl ?_
      refine z_aload_n (M := M_X12_tells) 117 dX12_tells_117 rfl ?_
      refine z_getIE (M := M_X12_tells) 118 dX12_tells_118 f_X12_415 o_108 (by decide) ex3 ?_
      refine z_if_eq_T (M := M_X12_tells) 121 dX12_tells_121 136 rfl (by omega) ?_
      refine z_iconst (M := M_X12_tells) 136 dX12_tells_136 ?_
      exact z_mask [true, false, true, false, false, false, true, true, true, false, false, false, false] rfl (ih.2.1 (-1) (-1) 1 1 h G R (by omega) (by omega) (by omega) (by omega) (by omega) (by omega) (by omega) (by omega) (tl_ln R ex1 (by omega) (by omega)) (tl_ln R ex1 (by omega) (by omega)) (tl_hn R ex3 (by omega) (by omega)) (tl_hn R ex3 (by omega) (by omega)) (by omega))
    · refine z_aload_n (M := M_X12_tells) 102 dX12_tells_102 rfl ?_
      refine z_bipush (M := M_X12_tells) 103 dX12_tells_103 ?_
      refine z_iload (M := M_X12_tells) 105 dX12_tells_105 rfl ?_
      refine z_iload_n (M := M_X12_tells) 107 dX12_tells_107 rfl ?_
      refine z_vI (M := M_X12_tells) 108 dX12_tells_108 t_X12_beside l_X12_421 (m_rr_of rfl) (rest := []) (c_X12_beside4 h 10 l4 l3 G ⟨by omega, by omega⟩ ⟨by omega, by omega⟩ ⟨by omega, by omega⟩) o_108 rfl rfl rfl (Nat.le_of_ble_eq_true rfl) ⟨rfl, rfl⟩ (fun x5 h1 qx5 => ?_)
      obtain ⟨G1, S1, ax5, bx5, fx5⟩ := qx5
      have R1 := R.call S1 (by decide +kernel)
      refine z_goto (M := M_X12_tells) 111 dX12_tells_111 115 rfl ?_
      refine z_istore (M := M_X12_tells) 115 dX12_tells_115 (ls' := [some (mR 108), none, some (mI a2), some (mI l3), some (mI l4), some (mI k0), some (mI (-1)), some (mI (-1)), some (mI x5), none, none, none, none]) (by decide) rfl ?_
      refine z_aload_n (M := M_X12_tells) 117 dX12_tells_117 rfl ?_
      refine z_getIE (M := M_X12_tells) 118 dX12_tells_118 f_X12_415 o_108 (by decide) ((S1 108 45 rfl).trans ex3) ?_
      refine z_if_eq_F (M := M_X12_tells) 121 dX12_tells_121 136 rfl (by omega) ?_
      refine z_aload_n (M := M_X12_tells) 124 dX12_tells_124 rfl ?_
      refine z_bipush (M := M_X12_tells) 125 dX12_tells_125 ?_
      refine z_iload (M := M_X12_tells) 127 dX12_tells_127 rfl ?_
      refine z_iload_n (M := M_X12_tells) 129 dX12_tells_129 rfl ?_
      refine z_vI (M := M_X12_tells) 130 dX12_tells_130 t_X12_beside l_X12_421 (m_rr_of rfl) (rest := []) (c_X12_beside4 h1 10 k0 l3 G1 ⟨by omega, by omega⟩ ⟨by omega, by omega⟩ ⟨by omega, by omega⟩) o_108 rfl rfl rfl (Nat.le_of_ble_eq_true rfl) ⟨rfl, rfl⟩ (fun x6 h2 qx6 => ?_)
      obtain ⟨G2, S2, ax6, bx6, fx6⟩ := qx6
      have R2 := R1.call S2 (by decide +kernel)
      refine z_goto (M := M_X12_tells) 133 dX12_tells_133 137 rfl ?_
      exact z_mask [true, false, true, false, false, false, true, true, true, false, false, false, false] rfl (ih.2.1 (-1) (-1) x5 x6 h2 G2 R2 (by omega) (by omega) (by omega) (by omega) (by omega) (by omega) (by omega) (by omega) (tl_ln R ex1 (by omega) (by omega)) (tl_ln R ex1 (by omega) (by omega)) (tl_hy R ex3 (by omega) R i1 i2 fx5) (tl_hy R ex3 (by omega) R1 i1 i3 fx6) (by omega))
  · refine z_aload_n (M := M_X12_tells) 60 dX12_tells_60 rfl ?_
    refine z_iconst (M := M_X12_tells) 61 dX12_tells_61 ?_
    refine z_iload (M := M_X12_tells) 62 dX12_tells_62 rfl ?_
    refine z_iload_n (M := M_X12_tells) 64 dX12_tells_64 rfl ?_
    refine z_vI (M := M_X12_tells) 65 dX12_tells_65 t_X12_beside l_X12_421 (m_rr_of rfl) (rest := []) (c_X12_beside4 h 0 l4 l3 G ⟨by omega, by omega⟩ ⟨by omega, by omega⟩ ⟨by omega, by omega⟩) o_108 rfl rfl rfl (Nat.le_of_ble_eq_true rfl) ⟨rfl, rfl⟩ (fun x7 h3 qx7 => ?_)
    obtain ⟨G3, S3, ax7, bx7, fx7⟩ := qx7
    have R3 := R.call S3 (by decide +kernel)
    refine z_goto (M := M_X12_tells) 68 dX12_tells_68 72 rfl ?_
    refine z_istore (M := M_X12_tells) 72 dX12_tells_72 (ls' := [some (mR 108), none, some (mI a2), some (mI l3), some (mI l4), some (mI k0), some (mI x7), none, none, none, none, none, none]) (by decide) rfl ?_
    refine z_aload_n (M := M_X12_tells) 74 dX12_tells_74 rfl ?_
    refine z_getIE (M := M_X12_tells) 75 dX12_tells_75 f_X12_409 o_108 (by decide) ((S3 108 44 rfl).trans ex1) ?_
    refine z_if_eq_F (M := M_X12_tells) 78 dX12_tells_78 92 rfl (by omega) ?_
    refine z_aload_n (M := M_X12_tells) 81 dX12_tells_81 rfl ?_
    refine z_iconst (M := M_X12_tells) 82 dX12_tells_82 ?_
    refine z_iload (M := M_X12_tells) 83 dX12_tells_83 rfl ?_
    refine z_iload_n (M := M_X12_tells) 85 dX12_tells_85 rfl ?_
    refine z_vI (M := M_X12_tells) 86 dX12_tells_86 t_X12_beside l_X12_421 (m_rr_of rfl) (rest := []) (c_X12_beside4 h3 0 k0 l3 G3 ⟨by omega, by omega⟩ ⟨by omega, by omega⟩ ⟨by omega, by omega⟩) o_108 rfl rfl rfl (Nat.le_of_ble_eq_true rfl) ⟨rfl, rfl⟩ (fun x8 h4 qx8 => ?_)
    obtain ⟨G4, S4, ax8, bx8, fx8⟩ := qx8
    have R4 := R3.call S4 (by decide +kernel)
    refine z_goto (M := M_X12_tells) 89 dX12_tells_89 93 rfl ?_
    refine z_istore (M := M_X12_tells) 93 dX12_tells_93 (ls' := [some (mR 108), none, some (mI a2), some (mI l3), some (mI l4), some (mI k0), some (mI x7), some (mI x8), none, none, none, none, none]) (by decide) rfl ?_
    refine z_aload_n (M := M_X12_tells) 95 dX12_tells_95 rfl ?_
    refine z_getIG (M := M_X12_tells) 96 dX12_tells_96 f_X12_415 o_108 (by decide) (g_108_45 G4) (fun x9 ex9 ax9 bx9 => ?_)
    refine z_if_eq (M := M_X12_tells) 99 dX12_tells_99 114 rfl (fun c10 => ?_) (fun c10 => ?_)
    · refine z_iconst (M := M_X12_tells) 114 dX12_tells_114 ?_
      refine z_istore (M := M_X12_tells) 115 dX12_tells_115 (ls' := [some (mR 108), none, some (mI a2), some (mI l3), some (mI l4), some (mI k0), some (mI x7), some (mI x8), some (mI 1), none, none, none, none]) (by decide) rfl ?_
      refine z_aload_n (M := M_X12_tells) 117 dX12_tells_117 rfl ?_
      refine z_getIE (M := M_X12_tells) 118 dX12_tells_118 f_X12_415 o_108 (by decide) ex9 ?_
      refine z_if_eq_T (M := M_X12_tells) 121 dX12_tells_121 136 rfl (by omega) ?_
      refine z_iconst (M := M_X12_tells) 136 dX12_tells_136 ?_
      exact z_mask [true, false, true, false, false, false, true, true, true, false, false, false, false] rfl (ih.2.1 x7 x8 1 1 h4 G4 R4 (by omega) (by omega) (by omega) (by omega) (by omega) (by omega) (by omega) (by omega) (tl_ly R ex1 (by omega) R i1 i2 fx7) (tl_ly R ex1 (by omega) R3 i1 i3 fx8) (tl_hn R4 ex9 (by omega) (by omega)) (tl_hn R4 ex9 (by omega) (by omega)) (by omega))
    · refine z_aload_n (M := M_X12_tells) 102 dX12_tells_102 rfl ?_
      refine z_bipush (M := M_X12_tells) 103 dX12_tells_103 ?_
      refine z_iload (M := M_X12_tells) 105 dX12_tells_105 rfl ?_
      refine z_iload_n (M := M_X12_tells) 107 dX12_tells_107 rfl ?_
      refine z_vI (M := M_X12_tells) 108 dX12_tells_108 t_X12_beside l_X12_421 (m_rr_of rfl) (rest := []) (c_X12_beside4 h4 10 l4 l3 G4 ⟨by omega, by omega⟩ ⟨by omega, by omega⟩ ⟨by omega, by omega⟩) o_108 rfl rfl rfl (Nat.le_of_ble_eq_true rfl) ⟨rfl, rfl⟩ (fun x11 h5 qx11 => ?_)
      obtain ⟨G5, S5, ax11, bx11, fx11⟩ := qx11
      have R5 := R4.call S5 (by decide +kernel)
      refine z_goto (M := M_X12_tells) 111 dX12_tells_111 115 rfl ?_
      refine z_istore (M := M_X12_tells) 115 dX12_tells_115 (ls' := [some (mR 108), none, some (mI a2), some (mI l3), some (mI l4), some (mI k0), some (mI x7), some (mI x8), some (mI x11), none, none, none, none]) (by decide) rfl ?_
      refine z_aload_n (M := M_X12_tells) 117 dX12_tells_117 rfl ?_
      refine z_getIE (M := M_X12_tells) 118 dX12_tells_118 f_X12_415 o_108 (by decide) ((S5 108 45 rfl).trans ex9) ?_
      refine z_if_eq_F (M := M_X12_tells) 121 dX12_tells_121 136 rfl (by omega) ?_
      refine z_aload_n (M := M_X12_tells) 124 dX12_tells_124 rfl ?_
      refine z_bipush (M := M_X12_tells) 125 dX12_tells_125 ?_
      refine z_iload (M := M_X12_tells) 127 dX12_tells_127 rfl ?_
      refine z_iload_n (M := M_X12_tells) 129 dX12_tells_129 rfl ?_
      refine z_vI (M := M_X12_tells) 130 dX12_tells_130 t_X12_beside l_X12_421 (m_rr_of rfl) (rest := []) (c_X12_beside4 h5 10 k0 l3 G5 ⟨by omega, by omega⟩ ⟨by omega, by omega⟩ ⟨by omega, by omega⟩) o_108 rfl rfl rfl (Nat.le_of_ble_eq_true rfl) ⟨rfl, rfl⟩ (fun x12 h6 qx12 => ?_)
      obtain ⟨G6, S6, ax12, bx12, fx12⟩ := qx12
      have R6 := R5.call S6 (by decide +kernel)
      refine z_goto (M := M_X12_tells) 133 dX12_tells_133 137 rfl ?_
      exact z_mask [true, false, true, false, false, false, true, true, true, false, false, false, false] rfl (ih.2.1 x7 x8 x11 x12 h6 G6 R6 (by omega) (by omega) (by omega) (by omega) (by omega) (by omega) (by omega) (by omega) (tl_ly R ex1 (by omega) R i1 i2 fx7) (tl_ly R ex1 (by omega) R3 i1 i3 fx8) (tl_hy R4 ex9 (by omega) R4 i1 i2 fx11) (tl_hy R4 ex9 (by omega) R5 i1 i3 fx12) (by omega))
set_option maxHeartbeats 4000000 in
set_option maxRecDepth 100000 in
theorem s_X12_tells4_137 (h0 : m_H) (a1 a2 : Int) (G0 : GI h0) (pa1 : 1 ≤ a1 ∧ a1 ≤ 99) (pa2 : 0 ≤ a2 ∧ a2 ≤ 2) (hE : eOk h0) (n : Nat) (ih : q_X12_tells4 h0 a1 a2 n) : ∀ (l6 l7 l8 k0 : Int) (h : m_H), GI h → FR [135, 136] [] h0 h → (-1) ≤ l6 → l6 ≤ 1 → (-1) ≤ l7 → l7 ≤ 1 → (-1) ≤ l8 → l8 ≤ 1 → (-1) ≤ k0 → k0 ≤ 1 → (cmpQ l6 ((eLo h0).2.1 * ofK a2) ((eLo h0).1 * loK a1 a2)) → (cmpQ l7 ((eLo h0).2.1 * ofK a2) ((eLo h0).1 * hiK a1 a2)) → (cmpQ l8 ((eHi h0).1 * ofK a2) ((eHi h0).2.1 * loK a1 a2)) → (cmpQ k0 ((eHi h0).1 * ofK a2) ((eHi h0).2.1 * hiK a1 a2)) → (4) ≤ ((n + 1 : Nat) : Int) → m_Z oF M_X12_tells 137 [some (mR 108), none, some (mI a2), none, none, none, some (mI l6), some (mI l7), some (mI l8), none, none, none, none] [mI k0] h (m_QI (P_X12_tells4 h0 a1 a2)) := by
  intro l6 l7 l8 k0 h G R v0 v1 v2 v3 v4 v5 v6 v7 i1 i2 i3 i4 hr
  refine z_istore (M := M_X12_tells) 137 dX12_tells_137 (ls' := [some (mR 108), none, some (mI a2), none, none, none, some (mI l6), some (mI l7), some (mI l8), some (mI k0), none, none, none]) (by decide) rfl ?_
  refine z_iload (M := M_X12_tells) 139 dX12_tells_139 rfl ?_
  refine z_if_lt (M := M_X12_tells) 141 dX12_tells_141 160 rfl (fun c1 => ?_) (fun c1 => ?_)
  · refine z_iconst (M := M_X12_tells) 160 dX12_tells_160 ?_
    refine z_goto (M := M_X12_tells) 161 dX12_tells_161 165 rfl ?_
    refine z_istore (M := M_X12_tells) 165 dX12_tells_165 (ls' := [some (mR 108), none, some (mI a2), none, none, none, some (mI l6), some (mI l7), some (mI l8), some (mI k0), some (mI 1), none, none]) (by decide) rfl ?_
    refine z_iload (M := M_X12_tells) 167 dX12_tells_167 rfl ?_
    refine z_if_gt (M := M_X12_tells) 169 dX12_tells_169 184 rfl (fun c2 => ?_) (fun c2 => ?_)
    · exact z_mask [true, false, true, false, false, false, true, false, false, true, true, false, false] rfl (ih.2.2.1 l6 k0 1 h G R (by omega) (by omega) (by omega) (by omega) (by omega) (by omega) i1 i4 ⟨fun _ => tu_1 i2 (by omega), fun _ => rfl⟩ (to_1 i3 (by omega)) (by omega))
    · refine z_iload (M := M_X12_tells) 172 dX12_tells_172 rfl ?_
      refine z_if_ne (M := M_X12_tells) 174 dX12_tells_174 188 rfl (fun c3 => ?_) (fun c3 => ?_)
      · exact z_mask [true, false, true, false, false, false, true, false, false, true, true, false, false] rfl (ih.2.2.2.1 l6 k0 1 h G R (by omega) (by omega) (by omega) (by omega) (by omega) (by omega) ⟨fun _ => tu_1 i2 (by omega), fun _ => rfl⟩ (to_n i3 (Or.inl (by omega))) (by omega))
      · refine z_aload_n (M := M_X12_tells) 177 dX12_tells_177 rfl ?_
        refine z_getIG (M := M_X12_tells) 178 dX12_tells_178 f_X12_418 o_108 (by decide) (g_108_47 G) (fun x4 ex4 ax4 bx4 => ?_)
        refine z_if_eq (M := M_X12_tells) 181 dX12_tells_181 188 rfl (fun c5 => ?_) (fun c5 => ?_)
        · exact z_mask [true, false, true, false, false, false, true, false, false, true, true, false, false] rfl (ih.2.2.2.1 l6 k0 1 h G R (by omega) (by omega) (by omega) (by omega) (by omega) (by omega) ⟨fun _ => tu_1 i2 (by omega), fun _ => rfl⟩ (to_n i3 (Or.inr ⟨by omega, eHi_c R ex4 (by omega)⟩)) (by omega))
        · exact z_mask [true, false, true, false, false, false, true, false, false, true, true, false, false] rfl (ih.2.2.1 l6 k0 1 h G R (by omega) (by omega) (by omega) (by omega) (by omega) (by omega) i1 i4 ⟨fun _ => tu_1 i2 (by omega), fun _ => rfl⟩ (to_2 i3 (by omega) (eHi_o R hE ex4 (by omega))) (by omega))
  · refine z_iload (M := M_X12_tells) 144 dX12_tells_144 rfl ?_
    refine z_if_ne (M := M_X12_tells) 146 dX12_tells_146 164 rfl (fun c6 => ?_) (fun c6 => ?_)
    · refine z_iconst (M := M_X12_tells) 164 dX12_tells_164 ?_
      refine z_istore (M := M_X12_tells) 165 dX12_tells_165 (ls' := [some (mR 108), none, some (mI a2), none, none, none, some (mI l6), some (mI l7), some (mI l8), some (mI k0), some (mI 0), none, none]) (by decide) rfl ?_
      refine z_iload (M := M_X12_tells) 167 dX12_tells_167 rfl ?_
      refine z_if_gt (M := M_X12_tells) 169 dX12_tells_169 184 rfl (fun c7 => ?_) (fun c7 => ?_)
      · exact z_mask [true, false, true, false, false, false, true, false, false, true, true, false, false] rfl (ih.2.2.1 l6 k0 0 h G R (by omega) (by omega) (by omega) (by omega) (by omega) (by omega) i1 i4 ⟨fun z => absurd z (by decide), fun z => absurd z (tu_n i2 (Or.inl (by omega)))⟩ (to_1 i3 (by omega)) (by omega))
      · refine z_iload (M := M_X12_tells) 172 dX12_tells_172 rfl ?_
        refine z_if_ne (M := M_X12_tells) 174 dX12_tells_174 188 rfl (fun c8 => ?_) (fun c8 => ?_)
        · exact z_mask [true, false, true, false, false, false, true, false, false, true, true, false, false] rfl (ih.2.2.2.1 l6 k0 0 h G R (by omega) (by omega) (by omega) (by omega) (by omega) (by omega) ⟨fun z => absurd z (by decide), fun z => absurd z (tu_n i2 (Or.inl (by omega)))⟩ (to_n i3 (Or.inl (by omega))) (by omega))
        · refine z_aload_n (M := M_X12_tells) 177 dX12_tells_177 rfl ?_
          refine z_getIG (M := M_X12_tells) 178 dX12_tells_178 f_X12_418 o_108 (by decide) (g_108_47 G) (fun x9 ex9 ax9 bx9 => ?_)
          refine z_if_eq (M := M_X12_tells) 181 dX12_tells_181 188 rfl (fun c10 => ?_) (fun c10 => ?_)
          · exact z_mask [true, false, true, false, false, false, true, false, false, true, true, false, false] rfl (ih.2.2.2.1 l6 k0 0 h G R (by omega) (by omega) (by omega) (by omega) (by omega) (by omega) ⟨fun z => absurd z (by decide), fun z => absurd z (tu_n i2 (Or.inl (by omega)))⟩ (to_n i3 (Or.inr ⟨by omega, eHi_c R ex9 (by omega)⟩)) (by omega))
          · exact z_mask [true, false, true, false, false, false, true, false, false, true, true, false, false] rfl (ih.2.2.1 l6 k0 0 h G R (by omega) (by omega) (by omega) (by omega) (by omega) (by omega) i1 i4 ⟨fun z => absurd z (by decide), fun z => absurd z (tu_n i2 (Or.inl (by omega)))⟩ (to_2 i3 (by omega) (eHi_o R hE ex9 (by omega))) (by omega))
    · refine z_iload_n (M := M_X12_tells) 149 dX12_tells_149 rfl ?_
      refine z_if_ne (M := M_X12_tells) 150 dX12_tells_150 164 rfl (fun c11 => ?_) (fun c11 => ?_)
      · refine z_iconst (M := M_X12_tells) 164 dX12_tells_164 ?_
        refine z_istore (M := M_X12_tells) 165 dX12_tells_165 (ls' := [some (mR 108), none, some (mI a2), none, none, none, some (mI l6), some (mI l7), some (mI l8), some (mI k0), some (mI 0), none, none]) (by decide) rfl ?_
        refine z_iload (M := M_X12_tells) 167 dX12_tells_167 rfl ?_
        refine z_if_gt (M := M_X12_tells) 169 dX12_tells_169 184 rfl (fun c12 => ?_) (fun c12 => ?_)
        · exact z_mask [true, false, true, false, false, false, true, false, false, true, true, false, false] rfl (ih.2.2.1 l6 k0 0 h G R (by omega) (by omega) (by omega) (by omega) (by omega) (by omega) i1 i4 ⟨fun z => absurd z (by decide), fun z => absurd z (tu_n i2 (Or.inr ⟨by omega, Or.inl (by omega)⟩))⟩ (to_1 i3 (by omega)) (by omega))
        · refine z_iload (M := M_X12_tells) 172 dX12_tells_172 rfl ?_
          refine z_if_ne (M := M_X12_tells) 174 dX12_tells_174 188 rfl (fun c13 => ?_) (fun c13 => ?_)
          · exact z_mask [true, false, true, false, false, false, true, false, false, true, true, false, false] rfl (ih.2.2.2.1 l6 k0 0 h G R (by omega) (by omega) (by omega) (by omega) (by omega) (by omega) ⟨fun z => absurd z (by decide), fun z => absurd z (tu_n i2 (Or.inr ⟨by omega, Or.inl (by omega)⟩))⟩ (to_n i3 (Or.inl (by omega))) (by omega))
          · refine z_aload_n (M := M_X12_tells) 177 dX12_tells_177 rfl ?_
            refine z_getIG (M := M_X12_tells) 178 dX12_tells_178 f_X12_418 o_108 (by decide) (g_108_47 G) (fun x14 ex14 ax14 bx14 => ?_)
            refine z_if_eq (M := M_X12_tells) 181 dX12_tells_181 188 rfl (fun c15 => ?_) (fun c15 => ?_)
            · exact z_mask [true, false, true, false, false, false, true, false, false, true, true, false, false] rfl (ih.2.2.2.1 l6 k0 0 h G R (by omega) (by omega) (by omega) (by omega) (by omega) (by omega) ⟨fun z => absurd z (by decide), fun z => absurd z (tu_n i2 (Or.inr ⟨by omega, Or.inl (by omega)⟩))⟩ (to_n i3 (Or.inr ⟨by omega, eHi_c R ex14 (by omega)⟩)) (by omega))
            · exact z_mask [true, false, true, false, false, false, true, false, false, true, true, false, false] rfl (ih.2.2.1 l6 k0 0 h G R (by omega) (by omega) (by omega) (by omega) (by omega) (by omega) i1 i4 ⟨fun z => absurd z (by decide), fun z => absurd z (tu_n i2 (Or.inr ⟨by omega, Or.inl (by omega)⟩))⟩ (to_2 i3 (by omega) (eHi_o R hE ex14 (by omega))) (by omega))
      · refine z_aload_n (M := M_X12_tells) 153 dX12_tells_153 rfl ?_
        refine z_getIG (M := M_X12_tells) 154 dX12_tells_154 f_X12_412 o_108 (by decide) (g_108_46 G) (fun x16 ex16 ax16 bx16 => ?_)
        refine z_if_eq (M := M_X12_tells) 157 dX12_tells_157 164 rfl (fun c17 => ?_) (fun c17 => ?_)
        · refine z_iconst (M := M_X12_tells) 164 dX12_tells_164 ?_
          refine z_istore (M := M_X12_tells) 165 dX12_tells_165 (ls' := [some (mR 108), none, some (mI a2), none, none, none, some (mI l6), some (mI l7), some (mI l8), some (mI k0), some (mI 0), none, none]) (by decide) rfl ?_
          refine z_iload (M := M_X12_tells) 167 dX12_tells_167 rfl ?_
          refine z_if_gt (M := M_X12_tells) 169 dX12_tells_169 184 rfl (fun c18 => ?_) (fun c18 => ?_)
          · exact z_mask [true, false, true, false, false, false, true, false, false, true, true, false, false] rfl (ih.2.2.1 l6 k0 0 h G R (by omega) (by omega) (by omega) (by omega) (by omega) (by omega) i1 i4 ⟨fun z => absurd z (by decide), fun z => absurd z (tu_n i2 (Or.inr ⟨by omega, Or.inr (eLo_c R ex16 (by omega))⟩))⟩ (to_1 i3 (by omega)) (by omega))
          · refine z_iload (M := M_X12_tells) 172 dX12_tells_172 rfl ?_
            refine z_if_ne (M := M_X12_tells) 174 dX12_tells_174 188 rfl (fun c19 => ?_) (fun c19 => ?_)
            · exact z_mask [true, false, true, false, false, false, true, false, false, true, true, false, false] rfl (ih.2.2.2.1 l6 k0 0 h G R (by omega) (by omega) (by omega) (by omega) (by omega) (by omega) ⟨fun z => absurd z (by decide), fun z => absurd z (tu_n i2 (Or.inr ⟨by omega, Or.inr (eLo_c R ex16 (by omega))⟩))⟩ (to_n i3 (Or.inl (by omega))) (by omega))
            · refine z_aload_n (M := M_X12_tells) 177 dX12_tells_177 rfl ?_
              refine z_getIG (M := M_X12_tells) 178 dX12_tells_178 f_X12_418 o_108 (by decide) (g_108_47 G) (fun x20 ex20 ax20 bx20 => ?_)
              refine z_if_eq (M := M_X12_tells) 181 dX12_tells_181 188 rfl (fun c21 => ?_) (fun c21 => ?_)
              · exact z_mask [true, false, true, false, false, false, true, false, false, true, true, false, false] rfl (ih.2.2.2.1 l6 k0 0 h G R (by omega) (by omega) (by omega) (by omega) (by omega) (by omega) ⟨fun z => absurd z (by decide), fun z => absurd z (tu_n i2 (Or.inr ⟨by omega, Or.inr (eLo_c R ex16 (by omega))⟩))⟩ (to_n i3 (Or.inr ⟨by omega, eHi_c R ex20 (by omega)⟩)) (by omega))
              · exact z_mask [true, false, true, false, false, false, true, false, false, true, true, false, false] rfl (ih.2.2.1 l6 k0 0 h G R (by omega) (by omega) (by omega) (by omega) (by omega) (by omega) i1 i4 ⟨fun z => absurd z (by decide), fun z => absurd z (tu_n i2 (Or.inr ⟨by omega, Or.inr (eLo_c R ex16 (by omega))⟩))⟩ (to_2 i3 (by omega) (eHi_o R hE ex20 (by omega))) (by omega))
        · refine z_iconst (M := M_X12_tells) 160 dX12_tells_160 ?_
          refine z_goto (M := M_X12_tells) 161 dX12_tells_161 165 rfl ?_
          refine z_istore (M := M_X12_tells) 165 dX12_tells_165 (ls' := [some (mR 108), none, some (mI a2), none, none, none, some (mI l6), some (mI l7), some (mI l8), some (mI k0), some (mI 1), none, none]) (by decide) rfl ?_
          refine z_iload (M := M_X12_tells) 167 dX12_tells_167 rfl ?_
          refine z_if_gt (M := M_X12_tells) 169 dX12_tells_169 184 rfl (fun c22 => ?_) (fun c22 => ?_)
          · exact z_mask [true, false, true, false, false, false, true, false, false, true, true, false, false] rfl (ih.2.2.1 l6 k0 1 h G R (by omega) (by omega) (by omega) (by omega) (by omega) (by omega) i1 i4 ⟨fun _ => tu_2 i2 (by omega) (by omega) (eLo_o R hE ex16 (by omega)), fun _ => rfl⟩ (to_1 i3 (by omega)) (by omega))
          · refine z_iload (M := M_X12_tells) 172 dX12_tells_172 rfl ?_
            refine z_if_ne (M := M_X12_tells) 174 dX12_tells_174 188 rfl (fun c23 => ?_) (fun c23 => ?_)
            · exact z_mask [true, false, true, false, false, false, true, false, false, true, true, false, false] rfl (ih.2.2.2.1 l6 k0 1 h G R (by omega) (by omega) (by omega) (by omega) (by omega) (by omega) ⟨fun _ => tu_2 i2 (by omega) (by omega) (eLo_o R hE ex16 (by omega)), fun _ => rfl⟩ (to_n i3 (Or.inl (by omega))) (by omega))
            · refine z_aload_n (M := M_X12_tells) 177 dX12_tells_177 rfl ?_
              refine z_getIG (M := M_X12_tells) 178 dX12_tells_178 f_X12_418 o_108 (by decide) (g_108_47 G) (fun x24 ex24 ax24 bx24 => ?_)
              refine z_if_eq (M := M_X12_tells) 181 dX12_tells_181 188 rfl (fun c25 => ?_) (fun c25 => ?_)
              · exact z_mask [true, false, true, false, false, false, true, false, false, true, true, false, false] rfl (ih.2.2.2.1 l6 k0 1 h G R (by omega) (by omega) (by omega) (by omega) (by omega) (by omega) ⟨fun _ => tu_2 i2 (by omega) (by omega) (eLo_o R hE ex16 (by omega)), fun _ => rfl⟩ (to_n i3 (Or.inr ⟨by omega, eHi_c R ex24 (by omega)⟩)) (by omega))
              · exact z_mask [true, false, true, false, false, false, true, false, false, true, true, false, false] rfl (ih.2.2.1 l6 k0 1 h G R (by omega) (by omega) (by omega) (by omega) (by omega) (by omega) i1 i4 ⟨fun _ => tu_2 i2 (by omega) (by omega) (eLo_o R hE ex16 (by omega)), fun _ => rfl⟩ (to_2 i3 (by omega) (eHi_o R hE ex24 (by omega))) (by omega))
set_option maxHeartbeats 4000000 in
set_option maxRecDepth 100000 in
theorem s_X12_tells4_184 (h0 : m_H) (a1 a2 : Int) (G0 : GI h0) (pa1 : 1 ≤ a1 ∧ a1 ≤ 99) (pa2 : 0 ≤ a2 ∧ a2 ≤ 2) (hE : eOk h0) (n : Nat) (ih : q_X12_tells4 h0 a1 a2 n) : ∀ (l6 l9 l10 : Int) (h : m_H), GI h → FR [135, 136] [] h0 h → (-1) ≤ l6 → l6 ≤ 1 → (-1) ≤ l9 → l9 ≤ 1 → 0 ≤ l10 → l10 ≤ 1 → (cmpQ l6 ((eLo h0).2.1 * ofK a2) ((eLo h0).1 * loK a1 a2)) → (cmpQ l9 ((eHi h0).1 * ofK a2) ((eHi h0).2.1 * hiK a1 a2)) → (l10 = 1 ↔ tlU (eLo h0) a1 a2) → (tlO (eHi h0) a1 a2) → (3) ≤ ((n + 1 : Nat) : Int) → m_Z oF M_X12_tells 184 [some (mR 108), none, some (mI a2), none, none, none, some (mI l6), none, none, some (mI l9), some (mI l10), none, none] [] h (m_QI (P_X12_tells4 h0 a1 a2)) := by
  intro l6 l9 l10 h G R v0 v1 v2 v3 v4 v5 i1 i2 i3 i4 hr
  refine z_iconst (M := M_X12_tells) 184 dX12_tells_184 ?_
  refine z_goto (M := M_X12_tells) 185 dX12_tells_185 189 rfl ?_
  refine z_istore (M := M_X12_tells) 189 dX12_tells_189 (ls' := [some (mR 108), none, some (mI a2), none, none, none, some (mI l6), none, none, some (mI l9), some (mI l10), some (mI 1), none]) (by decide) rfl ?_
  refine z_iload (M := M_X12_tells) 191 dX12_tells_191 rfl ?_
  refine z_if_eq (M := M_X12_tells) 193 dX12_tells_193 201 rfl (fun c1 => ?_) (fun c1 => ?_)
  · refine z_iconst (M := M_X12_tells) 201 dX12_tells_201 ?_
    exact z_retI (M := M_X12_tells) 202 dX12_tells_202 rfl ⟨G, R, by omega, by omega, Or.inl ⟨fun z => absurd (i3.mpr z.1) (by omega), rfl⟩⟩
  · refine z_iload (M := M_X12_tells) 196 dX12_tells_196 rfl ?_
    refine z_if_ne_T (M := M_X12_tells) 198 dX12_tells_198 203 rfl (by omega) ?_
    refine z_iload (M := M_X12_tells) 203 dX12_tells_203 rfl ?_
    refine z_if_lt (M := M_X12_tells) 205 dX12_tells_205 233 rfl (fun c2 => ?_) (fun c2 => ?_)
    · refine z_iconst (M := M_X12_tells) 233 dX12_tells_233 ?_
      refine z_istore (M := M_X12_tells) 234 dX12_tells_234 (ls' := [some (mR 108), none, some (mI a2), none, none, none, some (mI l6), none, none, some (mI l9), some (mI l10), some (mI 1), some (mI 0)]) (by decide) rfl ?_
      refine z_iload (M := M_X12_tells) 236 dX12_tells_236 rfl ?_
      refine z_if_eq_T (M := M_X12_tells) 238 dX12_tells_238 245 rfl (by omega) ?_
      refine z_iconst (M := M_X12_tells) 245 dX12_tells_245 ?_
      exact z_mask [false, false, false, false, false, false, false, false, false, false, false, false, false] rfl (ih.2.2.2.2 2 h G R (by omega) (by omega) (Or.inr ⟨⟨i3.mp (by omega), i4⟩, Or.inr ⟨ti_n1 i1 (by omega), rfl⟩⟩) (by omega))
    · refine z_iload (M := M_X12_tells) 208 dX12_tells_208 rfl ?_
      refine z_if_lt (M := M_X12_tells) 210 dX12_tells_210 229 rfl (fun c3 => ?_) (fun c3 => ?_)
      · refine z_iconst (M := M_X12_tells) 229 dX12_tells_229 ?_
        refine z_goto (M := M_X12_tells) 230 dX12_tells_230 234 rfl ?_
        refine z_istore (M := M_X12_tells) 234 dX12_tells_234 (ls' := [some (mR 108), none, some (mI a2), none, none, none, some (mI l6), none, none, some (mI l9), some (mI l10), some (mI 1), some (mI 1)]) (by decide) rfl ?_
        refine z_iload (M := M_X12_tells) 236 dX12_tells_236 rfl ?_
        refine z_if_eq_F (M := M_X12_tells) 238 dX12_tells_238 245 rfl (by omega) ?_
        refine z_iconst (M := M_X12_tells) 241 dX12_tells_241 ?_
        refine z_goto (M := M_X12_tells) 242 dX12_tells_242 246 rfl ?_
        exact z_mask [false, false, false, false, false, false, false, false, false, false, false, false, false] rfl (ih.2.2.2.2 1 h G R (by omega) (by omega) (Or.inr ⟨⟨i3.mp (by omega), i4⟩, Or.inl ⟨ti_y i1 (by omega) i2 (Or.inl (by omega)), rfl⟩⟩) (by omega))
      · refine z_iload (M := M_X12_tells) 213 dX12_tells_213 rfl ?_
        refine z_if_ne (M := M_X12_tells) 215 dX12_tells_215 233 rfl (fun c4 => ?_) (fun c4 => ?_)
        · refine z_iconst (M := M_X12_tells) 233 dX12_tells_233 ?_
          refine z_istore (M := M_X12_tells) 234 dX12_tells_234 (ls' := [some (mR 108), none, some (mI a2), none, none, none, some (mI l6), none, none, some (mI l9), some (mI l10), some (mI 1), some (mI 0)]) (by decide) rfl ?_
          refine z_iload (M := M_X12_tells) 236 dX12_tells_236 rfl ?_
          refine z_if_eq_T (M := M_X12_tells) 238 dX12_tells_238 245 rfl (by omega) ?_
          refine z_iconst (M := M_X12_tells) 245 dX12_tells_245 ?_
          exact z_mask [false, false, false, false, false, false, false, false, false, false, false, false, false] rfl (ih.2.2.2.2 2 h G R (by omega) (by omega) (Or.inr ⟨⟨i3.mp (by omega), i4⟩, Or.inr ⟨ti_n2 i2 (Or.inl (by omega)), rfl⟩⟩) (by omega))
        · refine z_iload_n (M := M_X12_tells) 218 dX12_tells_218 rfl ?_
          refine z_if_eq (M := M_X12_tells) 219 dX12_tells_219 229 rfl (fun c5 => ?_) (fun c5 => ?_)
          · refine z_iconst (M := M_X12_tells) 229 dX12_tells_229 ?_
            refine z_goto (M := M_X12_tells) 230 dX12_tells_230 234 rfl ?_
            refine z_istore (M := M_X12_tells) 234 dX12_tells_234 (ls' := [some (mR 108), none, some (mI a2), none, none, none, some (mI l6), none, none, some (mI l9), some (mI l10), some (mI 1), some (mI 1)]) (by decide) rfl ?_
            refine z_iload (M := M_X12_tells) 236 dX12_tells_236 rfl ?_
            refine z_if_eq_F (M := M_X12_tells) 238 dX12_tells_238 245 rfl (by omega) ?_
            refine z_iconst (M := M_X12_tells) 241 dX12_tells_241 ?_
            refine z_goto (M := M_X12_tells) 242 dX12_tells_242 246 rfl ?_
            exact z_mask [false, false, false, false, false, false, false, false, false, false, false, false, false] rfl (ih.2.2.2.2 1 h G R (by omega) (by omega) (Or.inr ⟨⟨i3.mp (by omega), i4⟩, Or.inl ⟨ti_y i1 (by omega) i2 (Or.inr ⟨by omega, Or.inl (by omega)⟩), rfl⟩⟩) (by omega))
          · refine z_aload_n (M := M_X12_tells) 222 dX12_tells_222 rfl ?_
            refine z_getIG (M := M_X12_tells) 223 dX12_tells_223 f_X12_418 o_108 (by decide) (g_108_47 G) (fun x6 ex6 ax6 bx6 => ?_)
            refine z_if_ne (M := M_X12_tells) 226 dX12_tells_226 233 rfl (fun c7 => ?_) (fun c7 => ?_)
            · refine z_iconst (M := M_X12_tells) 233 dX12_tells_233 ?_
              refine z_istore (M := M_X12_tells) 234 dX12_tells_234 (ls' := [some (mR 108), none, some (mI a2), none, none, none, some (mI l6), none, none, some (mI l9), some (mI l10), some (mI 1), some (mI 0)]) (by decide) rfl ?_
              refine z_iload (M := M_X12_tells) 236 dX12_tells_236 rfl ?_
              refine z_if_eq_T (M := M_X12_tells) 238 dX12_tells_238 245 rfl (by omega) ?_
              refine z_iconst (M := M_X12_tells) 245 dX12_tells_245 ?_
              exact z_mask [false, false, false, false, false, false, false, false, false, false, false, false, false] rfl (ih.2.2.2.2 2 h G R (by omega) (by omega) (Or.inr ⟨⟨i3.mp (by omega), i4⟩, Or.inr ⟨ti_n2 i2 (Or.inr ⟨by omega, by omega, eHi_o R hE ex6 (by omega)⟩), rfl⟩⟩) (by omega))
            · refine z_iconst (M := M_X12_tells) 229 dX12_tells_229 ?_
              refine z_goto (M := M_X12_tells) 230 dX12_tells_230 234 rfl ?_
              refine z_istore (M := M_X12_tells) 234 dX12_tells_234 (ls' := [some (mR 108), none, some (mI a2), none, none, none, some (mI l6), none, none, some (mI l9), some (mI l10), some (mI 1), some (mI 1)]) (by decide) rfl ?_
              refine z_iload (M := M_X12_tells) 236 dX12_tells_236 rfl ?_
              refine z_if_eq_F (M := M_X12_tells) 238 dX12_tells_238 245 rfl (by omega) ?_
              refine z_iconst (M := M_X12_tells) 241 dX12_tells_241 ?_
              refine z_goto (M := M_X12_tells) 242 dX12_tells_242 246 rfl ?_
              exact z_mask [false, false, false, false, false, false, false, false, false, false, false, false, false] rfl (ih.2.2.2.2 1 h G R (by omega) (by omega) (Or.inr ⟨⟨i3.mp (by omega), i4⟩, Or.inl ⟨ti_y i1 (by omega) i2 (Or.inr ⟨by omega, Or.inr (eHi_c R ex6 (by omega))⟩), rfl⟩⟩) (by omega))
set_option maxHeartbeats 4000000 in
set_option maxRecDepth 100000 in
theorem s_X12_tells4_188 (h0 : m_H) (a1 a2 : Int) (G0 : GI h0) (pa1 : 1 ≤ a1 ∧ a1 ≤ 99) (pa2 : 0 ≤ a2 ∧ a2 ≤ 2) (hE : eOk h0) (n : Nat) (ih : q_X12_tells4 h0 a1 a2 n) : ∀ (l6 l9 l10 : Int) (h : m_H), GI h → FR [135, 136] [] h0 h → (-1) ≤ l6 → l6 ≤ 1 → (-1) ≤ l9 → l9 ≤ 1 → 0 ≤ l10 → l10 ≤ 1 → (l10 = 1 ↔ tlU (eLo h0) a1 a2) → (¬ tlO (eHi h0) a1 a2) → (2) ≤ ((n + 1 : Nat) : Int) → m_Z oF M_X12_tells 188 [some (mR 108), none, some (mI a2), none, none, none, some (mI l6), none, none, some (mI l9), some (mI l10), none, none] [] h (m_QI (P_X12_tells4 h0 a1 a2)) := by
  intro l6 l9 l10 h G R v0 v1 v2 v3 v4 v5 i1 i2 hr
  refine z_iconst (M := M_X12_tells) 188 dX12_tells_188 ?_
  refine z_istore (M := M_X12_tells) 189 dX12_tells_189 (ls' := [some (mR 108), none, some (mI a2), none, none, none, some (mI l6), none, none, some (mI l9), some (mI l10), some (mI 0), none]) (by decide) rfl ?_
  refine z_iload (M := M_X12_tells) 191 dX12_tells_191 rfl ?_
  refine z_if_eq (M := M_X12_tells) 193 dX12_tells_193 201 rfl (fun c1 => ?_) (fun c1 => ?_)
  · refine z_iconst (M := M_X12_tells) 201 dX12_tells_201 ?_
    exact z_retI (M := M_X12_tells) 202 dX12_tells_202 rfl ⟨G, R, by omega, by omega, Or.inl ⟨fun z => absurd (i1.mpr z.1) (by omega), rfl⟩⟩
  · refine z_iload (M := M_X12_tells) 196 dX12_tells_196 rfl ?_
    refine z_if_ne_F (M := M_X12_tells) 198 dX12_tells_198 203 rfl (by omega) ?_
    refine z_iconst (M := M_X12_tells) 201 dX12_tells_201 ?_
    exact z_retI (M := M_X12_tells) 202 dX12_tells_202 rfl ⟨G, R, by omega, by omega, Or.inl ⟨fun z => i2 z.2, rfl⟩⟩
set_option maxHeartbeats 4000000 in
set_option maxRecDepth 100000 in
theorem s_X12_tells4_246 (h0 : m_H) (a1 a2 : Int) (G0 : GI h0) (pa1 : 1 ≤ a1 ∧ a1 ≤ 99) (pa2 : 0 ≤ a2 ∧ a2 ≤ 2) (hE : eOk h0) (n : Nat) (ih : q_X12_tells4 h0 a1 a2 n) : ∀ (k0 : Int) (h : m_H), GI h → FR [135, 136] [] h0 h → 1 ≤ k0 → k0 ≤ 2 → (tlF (eLo h0) (eHi h0) a1 a2 k0) → (1) ≤ ((n + 1 : Nat) : Int) → m_Z oF M_X12_tells 246 [none, none, none, none, none, none, none, none, none, none, none, none, none] [mI k0] h (m_QI (P_X12_tells4 h0 a1 a2)) := by
  intro k0 h G R v0 v1 i1 hr
  exact z_retI (M := M_X12_tells) 246 dX12_tells_246 rfl ⟨G, R, by omega, by omega, i1⟩
theorem a_X12_tells4 (h0 : m_H) (a1 a2 : Int) (G0 : GI h0) (pa1 : 1 ≤ a1 ∧ a1 ≤ 99) (pa2 : 0 ≤ a2 ∧ a2 ≤ 2) (hE : eOk h0) : ∀ n, q_X12_tells4 h0 a1 a2 n := by
  intro n
  induction n with
  | zero => unfold q_X12_tells4; refine ⟨?_, ?_, ?_, ?_, ?_⟩ <;> (intros; omega)
  | succ n ih => exact ⟨s_X12_tells4_51 h0 a1 a2 G0 pa1 pa2 hE n ih, s_X12_tells4_137 h0 a1 a2 G0 pa1 pa2 hE n ih, s_X12_tells4_184 h0 a1 a2 G0 pa1 pa2 hE n ih, s_X12_tells4_188 h0 a1 a2 G0 pa1 pa2 hE n ih, s_X12_tells4_246 h0 a1 a2 G0 pa1 pa2 hE n ih⟩
set_option maxHeartbeats 4000000 in
set_option maxRecDepth 100000 in
theorem c_X12_tells4 (h0 : m_H) (a1 a2 : Int) (G0 : GI h0) (pa1 : 1 ≤ a1 ∧ a1 ≤ 99) (pa2 : 0 ≤ a2 ∧ a2 ≤ 2) (hE : eOk h0) : m_CI M_X12_tells [mR 108, mI a1, mI a2] h0 (P_X12_tells4 h0 a1 a2) := by
  refine m_CI_of ⟨by decide, rfl, by simp [m_arg, m_isL, M_X12_tells], ⟨rfl, rfl⟩, rfl, rfl⟩ (ls := [some (mR 108), some (mI a1), some (mI a2), none, none, none, none, none, none, none, none, none, none]) rfl ?_
  have ih := a_X12_tells4 h0 a1 a2 G0 pa1 pa2 hE 10
  refine z_iload_n (M := M_X12_tells) 0 dX12_tells_0 rfl ?_
  refine z_iconst (M := M_X12_tells) 1 dX12_tells_1 ?_
  refine z_icmp_ne (M := M_X12_tells) 2 dX12_tells_2 9 rfl (fun c1 => ?_) (fun c1 => ?_)
  · refine z_iconst (M := M_X12_tells) 9 dX12_tells_9 ?_
    refine z_istore_n (M := M_X12_tells) 10 dX12_tells_10 (ls' := [some (mR 108), some (mI a1), some (mI a2), some (mI 1), none, none, none, none, none, none, none, none, none]) (by decide) rfl ?_
    refine z_iload_n (M := M_X12_tells) 11 dX12_tells_11 rfl ?_
    refine z_iconst (M := M_X12_tells) 12 dX12_tells_12 ?_
    refine z_icmp_ne_T (M := M_X12_tells) 13 dX12_tells_13 24 rfl (by omega) ?_
    refine z_iload_n (M := M_X12_tells) 24 dX12_tells_24 rfl ?_
    refine z_istore (M := M_X12_tells) 25 dX12_tells_25 (ls' := [some (mR 108), some (mI a1), some (mI a2), some (mI 1), some (mI a1), none, none, none, none, none, none, none, none]) (by decide) rfl ?_
    refine z_iload_n (M := M_X12_tells) 27 dX12_tells_27 rfl ?_
    refine z_if_ne (M := M_X12_tells) 28 dX12_tells_28 35 rfl (fun c2 => ?_) (fun c2 => ?_)
    · refine z_iload_n (M := M_X12_tells) 35 dX12_tells_35 rfl ?_
      refine z_iconst (M := M_X12_tells) 36 dX12_tells_36 ?_
      refine z_icmp_ne_F (M := M_X12_tells) 37 dX12_tells_37 46 rfl (by omega) ?_
      refine z_iload_n (M := M_X12_tells) 40 dX12_tells_40 rfl ?_
      refine z_iconst (M := M_X12_tells) 41 dX12_tells_41 ?_
      refine z_iaddN (M := M_X12_tells) 42 dX12_tells_42 (by omega) (by omega) ?_
      refine z_goto (M := M_X12_tells) 43 dX12_tells_43 51 rfl ?_
      exact z_mask [true, false, true, true, true, false, false, false, false, false, false, false, false] rfl (ih.1 1 a1 (a1 + 1) h0 G0 (FR.rf (cs := [135, 136]) (ss := []) (h := h0)) (by omega) (by omega) (by omega) (by omega) (by omega) (by omega) (by unfold ofK; split <;> omega) (by unfold loK; split <;> omega) (by unfold hiK; split <;> (try split) <;> omega) (by omega))
    · refine z_iload_n (M := M_X12_tells) 31 dX12_tells_31 rfl ?_
      refine z_goto (M := M_X12_tells) 32 dX12_tells_32 51 rfl ?_
      exact z_mask [true, false, true, true, true, false, false, false, false, false, false, false, false] rfl (ih.1 1 a1 a1 h0 G0 (FR.rf (cs := [135, 136]) (ss := []) (h := h0)) (by omega) (by omega) (by omega) (by omega) (by omega) (by omega) (by unfold ofK; split <;> omega) (by unfold loK; split <;> omega) (by unfold hiK; split <;> (try split) <;> omega) (by omega))
  · refine z_iconst (M := M_X12_tells) 5 dX12_tells_5 ?_
    refine z_goto (M := M_X12_tells) 6 dX12_tells_6 10 rfl ?_
    refine z_istore_n (M := M_X12_tells) 10 dX12_tells_10 (ls' := [some (mR 108), some (mI a1), some (mI a2), some (mI 2), none, none, none, none, none, none, none, none, none]) (by decide) rfl ?_
    refine z_iload_n (M := M_X12_tells) 11 dX12_tells_11 rfl ?_
    refine z_iconst (M := M_X12_tells) 12 dX12_tells_12 ?_
    refine z_icmp_ne_F (M := M_X12_tells) 13 dX12_tells_13 24 rfl (by omega) ?_
    refine z_iconst (M := M_X12_tells) 16 dX12_tells_16 ?_
    refine z_iload_n (M := M_X12_tells) 17 dX12_tells_17 rfl ?_
    refine z_imulN (M := M_X12_tells) 18 dX12_tells_18 (by omega) (by omega) ?_
    refine z_iconst (M := M_X12_tells) 19 dX12_tells_19 ?_
    refine z_isubN (M := M_X12_tells) 20 dX12_tells_20 (by omega) (by omega) ?_
    refine z_goto (M := M_X12_tells) 21 dX12_tells_21 25 rfl ?_
    refine z_istore (M := M_X12_tells) 25 dX12_tells_25 (ls' := [some (mR 108), some (mI a1), some (mI a2), some (mI 2), some (mI ((2 * a1) - 1)), none, none, none, none, none, none, none, none]) (by decide) rfl ?_
    refine z_iload_n (M := M_X12_tells) 27 dX12_tells_27 rfl ?_
    refine z_if_ne_T (M := M_X12_tells) 28 dX12_tells_28 35 rfl (by omega) ?_
    refine z_iload_n (M := M_X12_tells) 35 dX12_tells_35 rfl ?_
    refine z_iconst (M := M_X12_tells) 36 dX12_tells_36 ?_
    refine z_icmp_ne_T (M := M_X12_tells) 37 dX12_tells_37 46 rfl (by omega) ?_
    refine z_iconst (M := M_X12_tells) 46 dX12_tells_46 ?_
    refine z_iload_n (M := M_X12_tells) 47 dX12_tells_47 rfl ?_
    refine z_imulN (M := M_X12_tells) 48 dX12_tells_48 (by omega) (by omega) ?_
    refine z_iconst (M := M_X12_tells) 49 dX12_tells_49 ?_
    refine z_iaddN (M := M_X12_tells) 50 dX12_tells_50 (by omega) (by omega) ?_
    exact z_mask [true, false, true, true, true, false, false, false, false, false, false, false, false] rfl (ih.1 2 ((2 * a1) - 1) ((2 * a1) + 1) h0 G0 (FR.rf (cs := [135, 136]) (ss := []) (h := h0)) (by omega) (by omega) (by omega) (by omega) (by omega) (by omega) (by unfold ofK; split <;> omega) (by unfold loK; split <;> omega) (by unfold hiK; split <;> (try split) <;> omega) (by omega))
/-- the lower end, as goFrom left it -/
def fL (h0 h : m_H) (a f : Int) : Prop := BW (bR (h0 110)) (12 + f).toNat a.toNat (bOf (aS h a.toNat)) ∧ (h 108 46 = 1 ↔ (h 127 a.toNat = 1 ∧ h 126 a.toNat ≠ 1))
def fH (h0 h : m_H) (a f : Int) : Prop := BW (bR (h0 110)) a.toNat (12 + f).toNat (bOf (aS h (12 + f).toNat)) ∧ (h 108 47 = 1 ↔ (h 127 (12 + f).toNat = 1 ∧ h 126 (12 + f).toNat ≠ 1))
def lP (h0 h : m_H) (a f : Int) : Prop := BX (bR (h0 110)) (12 + f).toNat a.toNat (eLo h) ∧ (h 108 46 = 1 → h 108 44 = 1)
def hP (h0 h : m_H) (a f : Int) : Prop := BX (bR (h0 110)) a.toNat (12 + f).toNat (eHi h) ∧ (h 108 47 = 1 → h 108 45 = 1)
theorem aS_sam4 {h h' : m_H} {l : Nat} (e1 : h' 124 = h 124) (e2 : h' 125 = h 125) (e3 : h' 126 = h 126) (e4 : h' 127 = h 127) : aS h' l = aS h l := by
  unfold aS
  rw [e1, e2, e3, e4]
theorem fL.put {h0 h h' : m_H} {a f v : Int} {j : Nat} (I : fL h0 h a f) (E : h' = m_up h 138 j v) : fL h0 h' a f := by
  have e1 : h' 124 = h 124 := upo E (by decide)
  have e2 : h' 125 = h 125 := upo E (by decide)
  have e3 : h' 126 = h 126 := upo E (by decide)
  have e4 : h' 127 = h 127 := upo E (by decide)
  have e5 : h' 108 = h 108 := upo E (by decide)
  unfold fL
  rw [aS_sam4 e1 e2 e3 e4, e3, e4, e5]; exact I
theorem fH.put {h0 h h' : m_H} {a f v : Int} {j : Nat} (I : fH h0 h a f) (E : h' = m_up h 138 j v) : fH h0 h' a f := by
  have e1 : h' 124 = h 124 := upo E (by decide)
  have e2 : h' 125 = h 125 := upo E (by decide)
  have e3 : h' 126 = h 126 := upo E (by decide)
  have e4 : h' 127 = h 127 := upo E (by decide)
  have e5 : h' 108 = h 108 := upo E (by decide)
  unfold fH
  rw [aS_sam4 e1 e2 e3 e4, e3, e4, e5]; exact I
theorem fL_0 {h0 h1 h2 h3 : m_H} {a f x v : Int} (b : BW (bR (h0 110)) (12 + f).toNat a.toNat (bOf (aS h1 a.toNat))) (ex : h1 127 a.toNat = x) (E2 : h2 = m_up h1 108 44 x) (E3 : h3 = m_up h2 108 46 v) (c : v = 1 ↔ (x = 1 ∧ h1 126 a.toNat ≠ 1)) : fL h0 h3 a f := by
  have e1 : h3 124 = h1 124 := (upo E3 (by decide)).trans (upo E2 (by decide))
  have e2 : h3 125 = h1 125 := (upo E3 (by decide)).trans (upo E2 (by decide))
  have e3 : h3 126 = h1 126 := (upo E3 (by decide)).trans (upo E2 (by decide))
  have e4 : h3 127 = h1 127 := (upo E3 (by decide)).trans (upo E2 (by decide))
  unfold fL
  rw [aS_sam4 e1 e2 e3 e4, e3, e4, ex, upE E3]; exact ⟨b, c⟩
theorem fH_0 {h0 h1 h2 h3 : m_H} {a f x v : Int} (b : BW (bR (h0 110)) a.toNat (12 + f).toNat (bOf (aS h1 (12 + f).toNat))) (ex : h1 127 (12 + f).toNat = x) (E2 : h2 = m_up h1 108 45 x) (E3 : h3 = m_up h2 108 47 v) (c : v = 1 ↔ (x = 1 ∧ h1 126 (12 + f).toNat ≠ 1)) : fH h0 h3 a f := by
  have e1 : h3 124 = h1 124 := (upo E3 (by decide)).trans (upo E2 (by decide))
  have e2 : h3 125 = h1 125 := (upo E3 (by decide)).trans (upo E2 (by decide))
  have e3 : h3 126 = h1 126 := (upo E3 (by decide)).trans (upo E2 (by decide))
  have e4 : h3 127 = h1 127 := (upo E3 (by decide)).trans (upo E2 (by decide))
  unfold fH
  rw [aS_sam4 e1 e2 e3 e4, e3, e4, ex, upE E3]; exact ⟨b, c⟩
/-- one end: the state's limit is the end's -/
theorem end_bx {Ls : List gE} {h : m_H} {a b : Nat} {t l : Nat} {c y : Int} (B : BW Ls a b (bOf (aS h b))) (g : ga (aS h b)) (e1 : vS (h 138) t 5 = vS (h 125) (5 * b) 5) (e2 : vS (h 138) l 5 = vS (h 124) (5 * b) 5) (hy : h 127 b = y) (hc : c = 1 ↔ (y = 1 ∧ h 126 b ≠ 1)) : BX Ls a b (if y = 1 then (vS (h 138) t 5, vS (h 138) l 5, if c = 1 then 0 else 1) else (1, 0, 1)) := by
  by_cases q : y = 1
  · rw [if_pos q, e1, e2]
    rw [bOf_y hy q] at B
    have u1 : 1 ≤ vS (h 124) (5 * b) 5 := (g.2.2 (hy.trans q)).1.1
    have o : (if c = 1 then (0 : Int) else 1) = h 126 b := by
      have g2 : h 126 b = 0 ∨ h 126 b = 1 := g.2.1
      by_cases r : c = 1
      · rw [if_pos r]; have := (hc.mp r).2; omega
      · rw [if_neg r]
        rcases g2 with z | z
        · exact absurd (hc.mpr ⟨q, by omega⟩) r
        · exact z.symm
    rw [o]
    exact ⟨B, fun z => absurd (show vS (h 124) (5 * b) 5 = 0 from z) (by omega)⟩
  · rw [if_neg q]
    rw [bOf_n hy q] at B
    exact ⟨B, fun _ => rfl⟩
theorem lP_of {h0 h : m_H} {a f l : Int} (hl : 5 ≤ l) (ha : 0 ≤ a ∧ a ≤ 15) (I : feA h a l) (J : fL h0 h a f) : lP h0 h a f := by
  obtain ⟨g, e, d⟩ := I
  refine ⟨?_, fun z => e.trans (J.2.mp z).1⟩
  unfold eLo
  refine end_bx J.1 (g _ (by omega)) (vS_same (fun j hj => ?_)) (vS_same (fun j hj => ?_)) e.symm ?_
  · exact (d j (by omega)).2
  · rw [Nat.zero_add]; exact (d j (by omega)).1
  · rw [e]; exact J.2
theorem hP_of {h0 h : m_H} {a f l : Int} (hl : 5 ≤ l) (hf : 0 ≤ f ∧ f ≤ 3) (I : feB h (12 + f) l) (J : fH h0 h a f) : hP h0 h a f := by
  obtain ⟨g, e, d⟩ := I
  refine ⟨?_, fun z => e.trans (J.2.mp z).1⟩
  unfold eHi
  refine end_bx J.1 (g _ (by omega)) (vS_same (fun j hj => ?_)) (vS_same (fun j hj => ?_)) e.symm ?_
  · exact (d j (by omega)).1
  · exact (d j (by omega)).2
  · rw [e]; exact J.2
theorem lP.same {h0 h h' : m_H} {a f : Int} (I : lP h0 h a f) (e1 : h' 108 44 = h 108 44) (e2 : h' 108 46 = h 108 46) (e3 : ∀ j, j < 10 → h' 138 j = h 138 j) : lP h0 h' a f := by
  have k : eLo h' = eLo h := by
    unfold eLo
    rw [e1, e2, vS_same (f := h' 138) (g := h 138) (a := 5) (b := 5) (n := 5) (fun j hj => e3 _ (by omega)), vS_same (f := h' 138) (g := h 138) (a := 0) (b := 0) (n := 5) (fun j hj => e3 _ (by omega))]
  unfold lP
  rw [k, e1, e2]; exact I
theorem lP.put {h0 h h' : m_H} {a f v : Int} {j : Nat} (I : lP h0 h a f) (E : h' = m_up h 138 j v) (hj : 10 ≤ j) : lP h0 h' a f :=
  I.same (upN E (fun z => absurd z.1 (by decide))) (upN E (fun z => absurd z.1 (by decide))) (fun i hi => upN E (fun z => by have := z.2; omega))
abbrev P_X12_findEnds4 (h0 : m_H) (a1 a2 : Int) : m_H → Prop := fun h' => GI h' ∧ FR [115, 116, 117, 118, 119, 120, 121, 122, 123, 124, 125, 126, 127, 128, 129, 130, 131, 132, 133, 138] [(108, 21), (108, 44), (108, 45), (108, 46), (108, 47)] h0 h' ∧ enQ h' ∧ (lP h0 h' a1 a2 ∧ hP h0 h' a1 a2)
def q_X12_findEnds4 (h0 : m_H) (a1 a2 : Int) (n : Nat) : Prop := (∀ (l3 : Int) (h : m_H), GI h → FR [115, 116, 117, 118, 119, 120, 121, 122, 123, 124, 125, 126, 127, 128, 129, 130, 131, 132, 133, 138] [(108, 21), (108, 44), (108, 45), (108, 46), (108, 47)] h0 h → 0 ≤ l3 → l3 ≤ 5 → (feA h a1 l3) → (fL h0 h a1 a2) → 2 * (5 - l3) + (14) ≤ (n : Int) → m_Z oF M_X12_findEnds 45 [some (mR 108), some (mI a1), some (mI a2), some (mI l3), none] [] h (m_QV (P_X12_findEnds4 h0 a1 a2))) ∧ (∀ (l4 : Int) (h : m_H), GI h → FR [115, 116, 117, 118, 119, 120, 121, 122, 123, 124, 125, 126, 127, 128, 129, 130, 131, 132, 133, 138] [(108, 21), (108, 44), (108, 45), (108, 46), (108, 47)] h0 h → 0 ≤ l4 → l4 ≤ 5 → (e1Q h) → (feB h (12 + a2) l4) → (lP h0 h a1 a2) → (fH h0 h a1 a2) → 2 * (5 - l4) + (1) ≤ (n : Int) → m_Z oF M_X12_findEnds 138 [some (mR 108), none, none, some (mI (12 + a2)), some (mI l4)] [] h (m_QV (P_X12_findEnds4 h0 a1 a2)))
set_option maxHeartbeats 4000000 in
set_option maxRecDepth 100000 in
theorem s_X12_findEnds4_45 (h0 : m_H) (a1 a2 : Int) (G0 : GI h0) (pa1 : 0 ≤ a1 ∧ a1 ≤ 11) (pa2 : 0 ≤ a2 ∧ a2 ≤ 3) (hN : NP h0) (hG : gG (bR (h0 110))) (n : Nat) (ih : q_X12_findEnds4 h0 a1 a2 n) : ∀ (l3 : Int) (h : m_H), GI h → FR [115, 116, 117, 118, 119, 120, 121, 122, 123, 124, 125, 126, 127, 128, 129, 130, 131, 132, 133, 138] [(108, 21), (108, 44), (108, 45), (108, 46), (108, 47)] h0 h → 0 ≤ l3 → l3 ≤ 5 → (feA h a1 l3) → (fL h0 h a1 a2) → 2 * (5 - l3) + (14) ≤ ((n + 1 : Nat) : Int) → m_Z oF M_X12_findEnds 45 [some (mR 108), some (mI a1), some (mI a2), some (mI l3), none] [] h (m_QV (P_X12_findEnds4 h0 a1 a2)) := by
  intro l3 h G R v0 v1 i0 j0 hr
  refine z_iload_n (M := M_X12_findEnds) 45 dX12_findEnds_45 rfl ?_
  refine z_iconst (M := M_X12_findEnds) 46 dX12_findEnds_46 ?_
  refine z_icmp_ge (M := M_X12_findEnds) 47 dX12_findEnds_47 90 rfl (fun c1 => ?_) (fun c1 => ?_)
  · refine z_bipush (M := M_X12_findEnds) 90 dX12_findEnds_90 ?_
    refine z_iload_n (M := M_X12_findEnds) 92 dX12_findEnds_92 rfl ?_
    refine z_iaddN (M := M_X12_findEnds) 93 dX12_findEnds_93 (by omega) (by omega) ?_
    refine z_istore_n (M := M_X12_findEnds) 94 dX12_findEnds_94 (ls' := [some (mR 108), some (mI a1), some (mI a2), some (mI (12 + a2)), none]) (by decide) rfl ?_
    refine z_aload_n (M := M_X12_findEnds) 95 dX12_findEnds_95 rfl ?_
    refine z_iload_n (M := M_X12_findEnds) 96 dX12_findEnds_96 rfl ?_
    refine z_vV (M := M_X12_findEnds) 97 dX12_findEnds_97 t_X12_goFrom l_X12_397 (m_rr_of rfl) (rest := []) (c_X12_goFrom2 h a1 G ⟨by omega, by omega⟩ (NP.call hN R (fun _ => rfl) (fun _ => rfl) (fun _ => rfl)) (gG_f hG R (fun _ => rfl))) o_108 rfl rfl rfl (Nat.le_of_ble_eq_true rfl) ⟨rfl, rfl⟩ (fun h1 qx2 => ?_)
    obtain ⟨G1, S1, fx2_0, fx2_1⟩ := qx2
    rw [(FR.row R (fun _ => rfl) : h 110 = h0 110)] at fx2_1
    have b_ := fx2_1 (12 + a2).toNat (by omega)
    have R1 := R.call S1 (by decide +kernel)
    refine z_aload_n (M := M_X12_findEnds) 100 dX12_findEnds_100 rfl ?_
    refine z_aload_n (M := M_X12_findEnds) 101 dX12_findEnds_101 rfl ?_
    refine z_getR (M := M_X12_findEnds) 102 dX12_findEnds_102 f_X12_70 o_108 rfl (g_108_32 G1) ?_
    refine z_iload_n (M := M_X12_findEnds) 105 dX12_findEnds_105 rfl ?_
    refine z_zaldG (M := M_X12_findEnds) 106 dX12_findEnds_106 o_127 (by omega) (by omega) (g_127 G1 (by omega)) (fun x3 ex3 ax3 bx3 => ?_)
    refine z_putZH (M := M_X12_findEnds) 107 dX12_findEnds_107 p_X12_415 o_108 rfl (by omega) (u_108_45 G1 (by omega) (by omega)) (R1.up rfl) (fun h2 E2 G2 R2 => ?_)
    refine z_aload_n (M := M_X12_findEnds) 110 dX12_findEnds_110 rfl ?_
    refine z_aload_n (M := M_X12_findEnds) 111 dX12_findEnds_111 rfl ?_
    refine z_getIE (M := M_X12_findEnds) 112 dX12_findEnds_112 f_X12_415 o_108 (by decide) (upE E2) ?_
    refine z_if_eq (M := M_X12_findEnds) 115 dX12_findEnds_115 131 rfl (fun c4 => ?_) (fun c4 => ?_)
    · refine z_iconst (M := M_X12_findEnds) 131 dX12_findEnds_131 ?_
      refine z_putZH (M := M_X12_findEnds) 132 dX12_findEnds_132 p_X12_418 o_108 rfl (by omega) (u_108_47 G2 (by omega) (by omega)) (R2.up rfl) (fun h3 E3 G3 R3 => ?_)
      refine z_iconst (M := M_X12_findEnds) 135 dX12_findEnds_135 ?_
      refine z_istore (M := M_X12_findEnds) 136 dX12_findEnds_136 (ls' := [some (mR 108), some (mI a1), some (mI a2), some (mI (12 + a2)), some (mI 0)]) (by decide) rfl ?_
      exact z_mask [true, false, false, true, true] rfl (ih.2 0 h3 G3 R3 (by omega) (by omega) (e1Q.same (feA_end G (by omega) (by omega) (by omega) i0) ((upN E3 (by decide)).trans ((upN E2 (by decide)).trans (S1 108 44 rfl))) ((upo E3 (by decide)).trans ((upo E2 (by decide)).trans (FR.row S1 (fun _ => rfl))))) (feB_0 fx2_0 ex3 E2 E3) ((lP_of (by omega) ⟨by omega, by omega⟩ i0 j0).same ((upN E3 (by decide)).trans ((upN E2 (by decide)).trans (S1 108 44 rfl))) ((upN E3 (by decide)).trans ((upN E2 (by decide)).trans (S1 108 46 rfl))) (fun j _ => (congrFun ((upo E3 (by decide)).trans ((upo E2 (by decide)).trans (FR.row S1 (fun _ => rfl)))) j))) (fH_0 b_ ex3 E2 E3 ⟨fun z => absurd z (by decide), fun z => absurd z.1 (by omega)⟩) (by omega))
    · refine z_aload_n (M := M_X12_findEnds) 118 dX12_findEnds_118 rfl ?_
      refine z_getR (M := M_X12_findEnds) 119 dX12_findEnds_119 f_X12_67 o_108 rfl (g_108_31 G2) ?_
      refine z_iload_n (M := M_X12_findEnds) 122 dX12_findEnds_122 rfl ?_
      refine z_zaldG (M := M_X12_findEnds) 123 dX12_findEnds_123 o_126 (by omega) (by omega) (g_126 G2 (by omega)) (fun x5 ex5 ax5 bx5 => ?_)
      refine z_if_ne (M := M_X12_findEnds) 124 dX12_findEnds_124 131 rfl (fun c6 => ?_) (fun c6 => ?_)
      · refine z_iconst (M := M_X12_findEnds) 131 dX12_findEnds_131 ?_
        refine z_putZH (M := M_X12_findEnds) 132 dX12_findEnds_132 p_X12_418 o_108 rfl (by omega) (u_108_47 G2 (by omega) (by omega)) (R2.up rfl) (fun h4 E4 G4 R4 => ?_)
        refine z_iconst (M := M_X12_findEnds) 135 dX12_findEnds_135 ?_
        refine z_istore (M := M_X12_findEnds) 136 dX12_findEnds_136 (ls' := [some (mR 108), some (mI a1), some (mI a2), some (mI (12 + a2)), some (mI 0)]) (by decide) rfl ?_
        exact z_mask [true, false, false, true, true] rfl (ih.2 0 h4 G4 R4 (by omega) (by omega) (e1Q.same (feA_end G (by omega) (by omega) (by omega) i0) ((upN E4 (by decide)).trans ((upN E2 (by decide)).trans (S1 108 44 rfl))) ((upo E4 (by decide)).trans ((upo E2 (by decide)).trans (FR.row S1 (fun _ => rfl))))) (feB_0 fx2_0 ex3 E2 E4) ((lP_of (by omega) ⟨by omega, by omega⟩ i0 j0).same ((upN E4 (by decide)).trans ((upN E2 (by decide)).trans (S1 108 44 rfl))) ((upN E4 (by decide)).trans ((upN E2 (by decide)).trans (S1 108 46 rfl))) (fun j _ => (congrFun ((upo E4 (by decide)).trans ((upo E2 (by decide)).trans (FR.row S1 (fun _ => rfl)))) j))) (fH_0 b_ ex3 E2 E4 ⟨fun z => absurd z (by decide), fun z => absurd ((show h1 126 (12 + a2).toNat = x5 by rw [← (upo E2 (by decide) : h2 126 = h1 126)]; exact ex5).trans (by omega)) z.2⟩) (by omega))
      · refine z_iconst (M := M_X12_findEnds) 127 dX12_findEnds_127 ?_
        refine z_goto (M := M_X12_findEnds) 128 dX12_findEnds_128 132 rfl ?_
        refine z_putZH (M := M_X12_findEnds) 132 dX12_findEnds_132 p_X12_418 o_108 rfl (by omega) (u_108_47 G2 (by omega) (by omega)) (R2.up rfl) (fun h5 E5 G5 R5 => ?_)
        refine z_iconst (M := M_X12_findEnds) 135 dX12_findEnds_135 ?_
        refine z_istore (M := M_X12_findEnds) 136 dX12_findEnds_136 (ls' := [some (mR 108), some (mI a1), some (mI a2), some (mI (12 + a2)), some (mI 0)]) (by decide) rfl ?_
        exact z_mask [true, false, false, true, true] rfl (ih.2 0 h5 G5 R5 (by omega) (by omega) (e1Q.same (feA_end G (by omega) (by omega) (by omega) i0) ((upN E5 (by decide)).trans ((upN E2 (by decide)).trans (S1 108 44 rfl))) ((upo E5 (by decide)).trans ((upo E2 (by decide)).trans (FR.row S1 (fun _ => rfl))))) (feB_0 fx2_0 ex3 E2 E5) ((lP_of (by omega) ⟨by omega, by omega⟩ i0 j0).same ((upN E5 (by decide)).trans ((upN E2 (by decide)).trans (S1 108 44 rfl))) ((upN E5 (by decide)).trans ((upN E2 (by decide)).trans (S1 108 46 rfl))) (fun j _ => (congrFun ((upo E5 (by decide)).trans ((upo E2 (by decide)).trans (FR.row S1 (fun _ => rfl)))) j))) (fH_0 b_ ex3 E2 E5 ⟨fun _ => ⟨by omega, fun z => absurd ((show h1 126 (12 + a2).toNat = x5 by rw [← (upo E2 (by decide) : h2 126 = h1 126)]; exact ex5).symm.trans z) (by omega)⟩, fun _ => rfl⟩) (by omega))
  · refine z_aload_n (M := M_X12_findEnds) 50 dX12_findEnds_50 rfl ?_
    refine z_getR (M := M_X12_findEnds) 51 dX12_findEnds_51 f_X12_103 o_108 rfl (g_108_43 G) ?_
    refine z_iload_n (M := M_X12_findEnds) 54 dX12_findEnds_54 rfl ?_
    refine z_aload_n (M := M_X12_findEnds) 55 dX12_findEnds_55 rfl ?_
    refine z_getR (M := M_X12_findEnds) 56 dX12_findEnds_56 f_X12_61 o_108 rfl (g_108_29 G) ?_
    refine z_iconst (M := M_X12_findEnds) 59 dX12_findEnds_59 ?_
    refine z_iload_n (M := M_X12_findEnds) 60 dX12_findEnds_60 rfl ?_
    refine z_imulN (M := M_X12_findEnds) 61 dX12_findEnds_61 (by omega) (by omega) ?_
    refine z_iload_n (M := M_X12_findEnds) 62 dX12_findEnds_62 rfl ?_
    refine z_iaddN (M := M_X12_findEnds) 63 dX12_findEnds_63 (by omega) (by omega) ?_
    refine z_laldG (M := M_X12_findEnds) 64 dX12_findEnds_64 o_124 (by omega) (by omega) (g_124 G (by omega)) (fun x7 ex7 ax7 bx7 => ?_)
    refine z_lastH (M := M_X12_findEnds) 65 dX12_findEnds_65 o_138 (by omega) (by omega) (u_138 G (by omega) (by omega)) (R.up rfl) (fun h6 E6 G6 R6 => ?_)
    refine z_aload_n (M := M_X12_findEnds) 66 dX12_findEnds_66 rfl ?_
    refine z_getR (M := M_X12_findEnds) 67 dX12_findEnds_67 f_X12_103 o_108 rfl (g_108_43 G6) ?_
    refine z_iconst (M := M_X12_findEnds) 70 dX12_findEnds_70 ?_
    refine z_iload_n (M := M_X12_findEnds) 71 dX12_findEnds_71 rfl ?_
    refine z_iaddN (M := M_X12_findEnds) 72 dX12_findEnds_72 (by omega) (by omega) ?_
    refine z_aload_n (M := M_X12_findEnds) 73 dX12_findEnds_73 rfl ?_
    refine z_getR (M := M_X12_findEnds) 74 dX12_findEnds_74 f_X12_64 o_108 rfl (g_108_30 G6) ?_
    refine z_iconst (M := M_X12_findEnds) 77 dX12_findEnds_77 ?_
    refine z_iload_n (M := M_X12_findEnds) 78 dX12_findEnds_78 rfl ?_
    refine z_imulN (M := M_X12_findEnds) 79 dX12_findEnds_79 (by omega) (by omega) ?_
    refine z_iload_n (M := M_X12_findEnds) 80 dX12_findEnds_80 rfl ?_
    refine z_iaddN (M := M_X12_findEnds) 81 dX12_findEnds_81 (by omega) (by omega) ?_
    refine z_laldG (M := M_X12_findEnds) 82 dX12_findEnds_82 o_125 (by omega) (by omega) (g_125 G6 (by omega)) (fun x8 ex8 ax8 bx8 => ?_)
    refine z_lastH (M := M_X12_findEnds) 83 dX12_findEnds_83 o_138 (by omega) (by omega) (u_138 G6 (by omega) (by omega)) (R6.up rfl) (fun h7 E7 G7 R7 => ?_)
    refine z_iincN (M := M_X12_findEnds) 84 dX12_findEnds_84 (ls' := [some (mR 108), some (mI a1), some (mI a2), some (mI (l3 + 1)), none]) (by decide) rfl (by (unfold m_32; decide)) (by omega) (by omega) rfl ?_
    refine z_goto (M := M_X12_findEnds) 87 dX12_findEnds_87 45 rfl ?_
    exact z_mask [true, true, true, true, false] rfl (ih.1 (l3 + 1) h7 G7 R7 (by omega) (by omega) (feA_step (by omega) (by omega) (by omega) i0 ex7 E6 ex8 E7) ((j0.put E6).put E7) (by omega))
set_option maxHeartbeats 4000000 in
set_option maxRecDepth 100000 in
theorem s_X12_findEnds4_138 (h0 : m_H) (a1 a2 : Int) (G0 : GI h0) (pa1 : 0 ≤ a1 ∧ a1 ≤ 11) (pa2 : 0 ≤ a2 ∧ a2 ≤ 3) (hN : NP h0) (hG : gG (bR (h0 110))) (n : Nat) (ih : q_X12_findEnds4 h0 a1 a2 n) : ∀ (l4 : Int) (h : m_H), GI h → FR [115, 116, 117, 118, 119, 120, 121, 122, 123, 124, 125, 126, 127, 128, 129, 130, 131, 132, 133, 138] [(108, 21), (108, 44), (108, 45), (108, 46), (108, 47)] h0 h → 0 ≤ l4 → l4 ≤ 5 → (e1Q h) → (feB h (12 + a2) l4) → (lP h0 h a1 a2) → (fH h0 h a1 a2) → 2 * (5 - l4) + (1) ≤ ((n + 1 : Nat) : Int) → m_Z oF M_X12_findEnds 138 [some (mR 108), none, none, some (mI (12 + a2)), some (mI l4)] [] h (m_QV (P_X12_findEnds4 h0 a1 a2)) := by
  intro l4 h G R v0 v1 i0 i1 j0 j1 hr
  refine z_iload (M := M_X12_findEnds) 138 dX12_findEnds_138 rfl ?_
  refine z_iconst (M := M_X12_findEnds) 140 dX12_findEnds_140 ?_
  refine z_icmp_ge (M := M_X12_findEnds) 141 dX12_findEnds_141 192 rfl (fun c1 => ?_) (fun c1 => ?_)
  · exact z_retV (M := M_X12_findEnds) 192 dX12_findEnds_192 rfl ⟨G, R, ⟨i0, feB_end G (by omega) (by omega) (by omega) i1⟩, ⟨j0, hP_of (by omega) ⟨by omega, by omega⟩ i1 j1⟩⟩
  · refine z_aload_n (M := M_X12_findEnds) 144 dX12_findEnds_144 rfl ?_
    refine z_getR (M := M_X12_findEnds) 145 dX12_findEnds_145 f_X12_103 o_108 rfl (g_108_43 G) ?_
    refine z_bipush (M := M_X12_findEnds) 148 dX12_findEnds_148 ?_
    refine z_iload (M := M_X12_findEnds) 150 dX12_findEnds_150 rfl ?_
    refine z_iaddN (M := M_X12_findEnds) 152 dX12_findEnds_152 (by omega) (by omega) ?_
    refine z_aload_n (M := M_X12_findEnds) 153 dX12_findEnds_153 rfl ?_
    refine z_getR (M := M_X12_findEnds) 154 dX12_findEnds_154 f_X12_64 o_108 rfl (g_108_30 G) ?_
    refine z_iconst (M := M_X12_findEnds) 157 dX12_findEnds_157 ?_
    refine z_iload_n (M := M_X12_findEnds) 158 dX12_findEnds_158 rfl ?_
    refine z_imulN (M := M_X12_findEnds) 159 dX12_findEnds_159 (by omega) (by omega) ?_
    refine z_iload (M := M_X12_findEnds) 160 dX12_findEnds_160 rfl ?_
    refine z_iaddN (M := M_X12_findEnds) 162 dX12_findEnds_162 (by omega) (by omega) ?_
    refine z_laldG (M := M_X12_findEnds) 163 dX12_findEnds_163 o_125 (by omega) (by omega) (g_125 G (by omega)) (fun x2 ex2 ax2 bx2 => ?_)
    refine z_lastH (M := M_X12_findEnds) 164 dX12_findEnds_164 o_138 (by omega) (by omega) (u_138 G (by omega) (by omega)) (R.up rfl) (fun h1 E1 G1 R1 => ?_)
    refine z_aload_n (M := M_X12_findEnds) 165 dX12_findEnds_165 rfl ?_
    refine z_getR (M := M_X12_findEnds) 166 dX12_findEnds_166 f_X12_103 o_108 rfl (g_108_43 G1) ?_
    refine z_bipush (M := M_X12_findEnds) 169 dX12_findEnds_169 ?_
    refine z_iload (M := M_X12_findEnds) 171 dX12_findEnds_171 rfl ?_
    refine z_iaddN (M := M_X12_findEnds) 173 dX12_findEnds_173 (by omega) (by omega) ?_
    refine z_aload_n (M := M_X12_findEnds) 174 dX12_findEnds_174 rfl ?_
    refine z_getR (M := M_X12_findEnds) 175 dX12_findEnds_175 f_X12_61 o_108 rfl (g_108_29 G1) ?_
    refine z_iconst (M := M_X12_findEnds) 178 dX12_findEnds_178 ?_
    refine z_iload_n (M := M_X12_findEnds) 179 dX12_findEnds_179 rfl ?_
    refine z_imulN (M := M_X12_findEnds) 180 dX12_findEnds_180 (by omega) (by omega) ?_
    refine z_iload (M := M_X12_findEnds) 181 dX12_findEnds_181 rfl ?_
    refine z_iaddN (M := M_X12_findEnds) 183 dX12_findEnds_183 (by omega) (by omega) ?_
    refine z_laldG (M := M_X12_findEnds) 184 dX12_findEnds_184 o_124 (by omega) (by omega) (g_124 G1 (by omega)) (fun x3 ex3 ax3 bx3 => ?_)
    refine z_lastH (M := M_X12_findEnds) 185 dX12_findEnds_185 o_138 (by omega) (by omega) (u_138 G1 (by omega) (by omega)) (R1.up rfl) (fun h2 E2 G2 R2 => ?_)
    refine z_iincN (M := M_X12_findEnds) 186 dX12_findEnds_186 (ls' := [some (mR 108), none, none, some (mI (12 + a2)), some (mI (l4 + 1))]) (by decide) rfl (by (unfold m_32; decide)) (by omega) (by omega) rfl ?_
    refine z_goto (M := M_X12_findEnds) 189 dX12_findEnds_189 138 rfl ?_
    exact z_mask [true, false, false, true, true] rfl (ih.2 (l4 + 1) h2 G2 R2 (by omega) (by omega) ((i0.put E1 (by omega)).put E2 (by omega)) (feB_step (by omega) (by omega) (by omega) i1 ex2 E1 ex3 E2) ((j0.put E1 (by omega)).put E2 (by omega)) ((j1.put E1).put E2) (by omega))
theorem a_X12_findEnds4 (h0 : m_H) (a1 a2 : Int) (G0 : GI h0) (pa1 : 0 ≤ a1 ∧ a1 ≤ 11) (pa2 : 0 ≤ a2 ∧ a2 ≤ 3) (hN : NP h0) (hG : gG (bR (h0 110))) : ∀ n, q_X12_findEnds4 h0 a1 a2 n := by
  intro n
  induction n with
  | zero => unfold q_X12_findEnds4; refine ⟨?_, ?_⟩ <;> (intros; omega)
  | succ n ih => exact ⟨s_X12_findEnds4_45 h0 a1 a2 G0 pa1 pa2 hN hG n ih, s_X12_findEnds4_138 h0 a1 a2 G0 pa1 pa2 hN hG n ih⟩
set_option maxHeartbeats 4000000 in
set_option maxRecDepth 100000 in
theorem c_X12_findEnds4 (h0 : m_H) (a1 a2 : Int) (G0 : GI h0) (pa1 : 0 ≤ a1 ∧ a1 ≤ 11) (pa2 : 0 ≤ a2 ∧ a2 ≤ 3) (hN : NP h0) (hG : gG (bR (h0 110))) : m_CV M_X12_findEnds [mR 108, mI a1, mI a2] h0 (P_X12_findEnds4 h0 a1 a2) := by
  refine m_CV_of ⟨by decide, rfl, by simp [m_arg, m_isL, M_X12_findEnds], ⟨rfl, rfl⟩, rfl, rfl⟩ (ls := [some (mR 108), some (mI a1), some (mI a2), none, none]) rfl ?_
  have ih := a_X12_findEnds4 h0 a1 a2 G0 pa1 pa2 hN hG 31
  refine z_aload_n (M := M_X12_findEnds) 0 dX12_findEnds_0 rfl ?_
  refine z_bipush (M := M_X12_findEnds) 1 dX12_findEnds_1 ?_
  refine z_iload_n (M := M_X12_findEnds) 3 dX12_findEnds_3 rfl ?_
  refine z_iaddN (M := M_X12_findEnds) 4 dX12_findEnds_4 (by omega) (by omega) ?_
  refine z_vV (M := M_X12_findEnds) 5 dX12_findEnds_5 t_X12_goFrom l_X12_397 (m_rr_of rfl) (rest := []) (c_X12_goFrom2 h0 (12 + a2) G0 ⟨by omega, by omega⟩ (NP.call hN (FR.rf (cs := [115, 116, 117, 118, 119, 120, 121, 122, 123, 124, 125, 126, 127, 128, 129, 130, 131, 132, 133, 138]) (ss := [(108, 21), (108, 44), (108, 45), (108, 46), (108, 47)]) (h := h0)) (fun _ => rfl) (fun _ => rfl) (fun _ => rfl)) (gG_f hG (FR.rf (cs := [115, 116, 117, 118, 119, 120, 121, 122, 123, 124, 125, 126, 127, 128, 129, 130, 131, 132, 133, 138]) (ss := [(108, 21), (108, 44), (108, 45), (108, 46), (108, 47)]) (h := h0)) (fun _ => rfl))) o_108 rfl rfl rfl (Nat.le_of_ble_eq_true rfl) ⟨rfl, rfl⟩ (fun h1 qx1 => ?_)
  obtain ⟨G1, S1, fx1_0, fx1_1⟩ := qx1
  have b_ := fx1_1 a1.toNat (by omega)
  have R1 := (FR.rf (cs := [115, 116, 117, 118, 119, 120, 121, 122, 123, 124, 125, 126, 127, 128, 129, 130, 131, 132, 133, 138]) (ss := [(108, 21), (108, 44), (108, 45), (108, 46), (108, 47)]) (h := h0)).call S1 (by decide +kernel)
  refine z_aload_n (M := M_X12_findEnds) 8 dX12_findEnds_8 rfl ?_
  refine z_aload_n (M := M_X12_findEnds) 9 dX12_findEnds_9 rfl ?_
  refine z_getR (M := M_X12_findEnds) 10 dX12_findEnds_10 f_X12_70 o_108 rfl (g_108_32 G1) ?_
  refine z_iload_n (M := M_X12_findEnds) 13 dX12_findEnds_13 rfl ?_
  refine z_zaldG (M := M_X12_findEnds) 14 dX12_findEnds_14 o_127 (by omega) (by omega) (g_127 G1 (by omega)) (fun x2 ex2 ax2 bx2 => ?_)
  refine z_putZH (M := M_X12_findEnds) 15 dX12_findEnds_15 p_X12_409 o_108 rfl (by omega) (u_108_44 G1 (by omega) (by omega)) (R1.up rfl) (fun h2 E2 G2 R2 => ?_)
  refine z_aload_n (M := M_X12_findEnds) 18 dX12_findEnds_18 rfl ?_
  refine z_aload_n (M := M_X12_findEnds) 19 dX12_findEnds_19 rfl ?_
  refine z_getIE (M := M_X12_findEnds) 20 dX12_findEnds_20 f_X12_409 o_108 (by decide) (upE E2) ?_
  refine z_if_eq (M := M_X12_findEnds) 23 dX12_findEnds_23 39 rfl (fun c3 => ?_) (fun c3 => ?_)
  · refine z_iconst (M := M_X12_findEnds) 39 dX12_findEnds_39 ?_
    refine z_putZH (M := M_X12_findEnds) 40 dX12_findEnds_40 p_X12_412 o_108 rfl (by omega) (u_108_46 G2 (by omega) (by omega)) (R2.up rfl) (fun h3 E3 G3 R3 => ?_)
    refine z_iconst (M := M_X12_findEnds) 43 dX12_findEnds_43 ?_
    refine z_istore_n (M := M_X12_findEnds) 44 dX12_findEnds_44 (ls' := [some (mR 108), some (mI a1), some (mI a2), some (mI 0), none]) (by decide) rfl ?_
    exact z_mask [true, true, true, true, false] rfl (ih.1 0 h3 G3 R3 (by omega) (by omega) (feA_0 fx1_0 ex2 E2 E3) (fL_0 b_ ex2 E2 E3 ⟨fun z => absurd z (by decide), fun z => absurd z.1 (by omega)⟩) (by omega))
  · refine z_aload_n (M := M_X12_findEnds) 26 dX12_findEnds_26 rfl ?_
    refine z_getR (M := M_X12_findEnds) 27 dX12_findEnds_27 f_X12_67 o_108 rfl (g_108_31 G2) ?_
    refine z_iload_n (M := M_X12_findEnds) 30 dX12_findEnds_30 rfl ?_
    refine z_zaldG (M := M_X12_findEnds) 31 dX12_findEnds_31 o_126 (by omega) (by omega) (g_126 G2 (by omega)) (fun x4 ex4 ax4 bx4 => ?_)
    refine z_if_ne (M := M_X12_findEnds) 32 dX12_findEnds_32 39 rfl (fun c5 => ?_) (fun c5 => ?_)
    · refine z_iconst (M := M_X12_findEnds) 39 dX12_findEnds_39 ?_
      refine z_putZH (M := M_X12_findEnds) 40 dX12_findEnds_40 p_X12_412 o_108 rfl (by omega) (u_108_46 G2 (by omega) (by omega)) (R2.up rfl) (fun h4 E4 G4 R4 => ?_)
      refine z_iconst (M := M_X12_findEnds) 43 dX12_findEnds_43 ?_
      refine z_istore_n (M := M_X12_findEnds) 44 dX12_findEnds_44 (ls' := [some (mR 108), some (mI a1), some (mI a2), some (mI 0), none]) (by decide) rfl ?_
      exact z_mask [true, true, true, true, false] rfl (ih.1 0 h4 G4 R4 (by omega) (by omega) (feA_0 fx1_0 ex2 E2 E4) (fL_0 b_ ex2 E2 E4 ⟨fun z => absurd z (by decide), fun z => absurd ((show h1 126 a1.toNat = x4 by rw [← (upo E2 (by decide) : h2 126 = h1 126)]; exact ex4).trans (by omega)) z.2⟩) (by omega))
    · refine z_iconst (M := M_X12_findEnds) 35 dX12_findEnds_35 ?_
      refine z_goto (M := M_X12_findEnds) 36 dX12_findEnds_36 40 rfl ?_
      refine z_putZH (M := M_X12_findEnds) 40 dX12_findEnds_40 p_X12_412 o_108 rfl (by omega) (u_108_46 G2 (by omega) (by omega)) (R2.up rfl) (fun h5 E5 G5 R5 => ?_)
      refine z_iconst (M := M_X12_findEnds) 43 dX12_findEnds_43 ?_
      refine z_istore_n (M := M_X12_findEnds) 44 dX12_findEnds_44 (ls' := [some (mR 108), some (mI a1), some (mI a2), some (mI 0), none]) (by decide) rfl ?_
      exact z_mask [true, true, true, true, false] rfl (ih.1 0 h5 G5 R5 (by omega) (by omega) (feA_0 fx1_0 ex2 E2 E5) (fL_0 b_ ex2 E2 E5 ⟨fun _ => ⟨by omega, fun z => absurd ((show h1 126 a1.toNat = x4 by rw [← (upo E2 (by decide) : h2 126 = h1 126)]; exact ex4).symm.trans z) (by omega)⟩, fun _ => rfl⟩) (by omega))
abbrev P_X12_isAsked4 (h0 : m_H) (a1 a2 : Int) : Int → m_H → Prop := fun x h' => GI h' ∧ FR [115, 116, 117, 118, 119, 120, 121, 122, 123, 124, 125, 126, 127, 128, 129, 130, 131, 132, 133, 134] [(108, 21)] h0 h' ∧ 0 ≤ x ∧ x ≤ 1 ∧ akQ x a1 a2 (bR (h0 110)) ∧ (x = 1 ↔ ftK (h0 110) a1 a2)
set_option maxHeartbeats 4000000 in
set_option maxRecDepth 100000 in
theorem c_X12_isAsked4 (h0 : m_H) (a1 a2 : Int) (G0 : GI h0) (hN : NP h0) : m_CI M_X12_isAsked [mR 108, mI a1, mI a2] h0 (P_X12_isAsked4 h0 a1 a2) := by
  refine m_CI_of ⟨by decide, rfl, by simp [m_arg, m_isL, M_X12_isAsked], ⟨rfl, rfl⟩, rfl, rfl⟩ (ls := [some (mR 108), some (mI a1), some (mI a2)]) rfl ?_
  refine z_ok (fun _ _ ok => ?_)
  have oa1 : m_32 a1 := ok 1 _ rfl
  unfold m_32 at oa1
  have oa2 : m_32 a2 := ok 2 _ rfl
  unfold m_32 at oa2
  refine z_iload_n (M := M_X12_isAsked) 0 dX12_isAsked_0 rfl ?_
  refine z_i2l (M := M_X12_isAsked) 1 dX12_isAsked_1 ?_
  refine z_lconst (M := M_X12_isAsked) 2 dX12_isAsked_2 (v := 0) ?_
  refine z_ldc2 (M := M_X12_isAsked) 3 dX12_isAsked_3 k_X12_385 ?_
  refine z_sI (M := M_X12_isAsked) 6 dX12_isAsked_6 t_X12_in l_X12_143 (m_rr_of rfl) (rest := []) (c_X12_in h0 a1 0 11 G0) rfl rfl (Nat.le_of_ble_eq_true rfl) ⟨rfl, rfl⟩ (fun x1 h1 qx1 => ?_)
  obtain ⟨rfl, ⟨rfl, cx1⟩ | ⟨rfl, cx1⟩⟩ := qx1
  · refine z_if_eq_F (M := M_X12_isAsked) 9 dX12_isAsked_9 35 rfl (by omega) ?_
    refine z_iload_n (M := M_X12_isAsked) 12 dX12_isAsked_12 rfl ?_
    refine z_sI (M := M_X12_isAsked) 13 dX12_isAsked_13 t_X12_isKeeper l_X12_169 (m_rr_of rfl) (rest := []) (c_X12_isKeeper h0 a2 G0) rfl rfl (Nat.le_of_ble_eq_true rfl) ⟨rfl, rfl⟩ (fun x2 h2 qx2 => ?_)
    obtain ⟨rfl, ⟨rfl, cx2⟩ | ⟨rfl, cx2⟩⟩ := qx2
    · refine z_if_eq_F (M := M_X12_isAsked) 16 dX12_isAsked_16 35 rfl (by omega) ?_
      refine z_aload_n (M := M_X12_isAsked) 19 dX12_isAsked_19 rfl ?_
      refine z_iload_n (M := M_X12_isAsked) 20 dX12_isAsked_20 rfl ?_
      refine z_bipush (M := M_X12_isAsked) 21 dX12_isAsked_21 ?_
      refine z_iload_n (M := M_X12_isAsked) 23 dX12_isAsked_23 rfl ?_
      refine z_iaddN (M := M_X12_isAsked) 24 dX12_isAsked_24 (by omega) (by omega) ?_
      refine z_vI (M := M_X12_isAsked) 25 dX12_isAsked_25 t_X12_isAnswered l_X12_394 (m_rr_of rfl) (rest := []) (c_X12_isAnswered2 h0 a1 (12 + a2) G0 (NP.call hN (FR.rf (cs := [115, 116, 117, 118, 119, 120, 121, 122, 123, 124, 125, 126, 127, 128, 129, 130, 131, 132, 133, 134]) (ss := [(108, 21)]) (h := h0)) (fun _ => rfl) (fun _ => rfl) (fun _ => rfl))) o_108 rfl rfl rfl (Nat.le_of_ble_eq_true rfl) ⟨rfl, rfl⟩ (fun x3 h3 qx3 => ?_)
      obtain ⟨G3, S3, ax3, bx3, fx3_0, fx3_1⟩ := qx3
      have R3 := (FR.rf (cs := [115, 116, 117, 118, 119, 120, 121, 122, 123, 124, 125, 126, 127, 128, 129, 130, 131, 132, 133, 134]) (ss := [(108, 21)]) (h := h0)).call S3 (by decide +kernel)
      refine z_if_eq (M := M_X12_isAsked) 28 dX12_isAsked_28 35 rfl (fun c4 => ?_) (fun c4 => ?_)
      · refine z_iconst (M := M_X12_isAsked) 35 dX12_isAsked_35 ?_
        exact z_retZ (M := M_X12_isAsked) 36 dX12_isAsked_36 rfl (by omega) ⟨G3, R3, by omega, by omega, akQ_0, ⟨fun z => absurd z (by decide), fun z => absurd (fx3_1.mpr ⟨z.2.2.1, ⟨by omega, by omega, Or.inr (Or.inl (by omega))⟩, z.2.2.2⟩) (by omega)⟩⟩
      · refine z_iconst (M := M_X12_isAsked) 31 dX12_isAsked_31 ?_
        refine z_goto (M := M_X12_isAsked) 32 dX12_isAsked_32 36 rfl ?_
        exact z_retZ (M := M_X12_isAsked) 36 dX12_isAsked_36 rfl (by omega) ⟨G3, R3, by omega, by omega, fun _ => ⟨⟨by omega, by omega⟩, ⟨by omega, by omega⟩, gG_b (fx3_0 (by omega)).2.2 (FR.rf (cs := [115, 116, 117, 118, 119, 120, 121, 122, 123, 124, 125, 126, 127, 128, 129, 130, 131, 132, 133, 134]) (ss := [(108, 21)]) (h := h0)) (fun _ => rfl)⟩, ⟨fun _ => ⟨cx1, ⟨by omega, by omega⟩, (fx3_1.mp (by omega)).1, (fx3_1.mp (by omega)).2.2⟩, fun _ => rfl⟩⟩
    · refine z_if_eq_T (M := M_X12_isAsked) 16 dX12_isAsked_16 35 rfl (by omega) ?_
      refine z_iconst (M := M_X12_isAsked) 35 dX12_isAsked_35 ?_
      exact z_retZ (M := M_X12_isAsked) 36 dX12_isAsked_36 rfl (by omega) ⟨G0, (FR.rf (cs := [115, 116, 117, 118, 119, 120, 121, 122, 123, 124, 125, 126, 127, 128, 129, 130, 131, 132, 133, 134]) (ss := [(108, 21)]) (h := h0)), by omega, by omega, akQ_0, ⟨fun z => absurd z (by decide), fun z => absurd z.2.1 cx2⟩⟩
  · refine z_if_eq_T (M := M_X12_isAsked) 9 dX12_isAsked_9 35 rfl (by omega) ?_
    refine z_iconst (M := M_X12_isAsked) 35 dX12_isAsked_35 ?_
    exact z_retZ (M := M_X12_isAsked) 36 dX12_isAsked_36 rfl (by omega) ⟨G0, (FR.rf (cs := [115, 116, 117, 118, 119, 120, 121, 122, 123, 124, 125, 126, 127, 128, 129, 130, 131, 132, 133, 134]) (ss := [(108, 21)]) (h := h0)), by omega, by omega, akQ_0, ⟨fun z => absurd z (by decide), fun z => absurd z.1 cx1⟩⟩
def wdK (r : Nat → Int) (a f n k : Int) : Prop := (1 ≤ n ∧ n ≤ 99) ∧ (0 ≤ k ∧ k ≤ 2) ∧ ftK r a f
def wdQ (r : Nat → Int) (a f n k x : Int) : Prop := (¬ wdK r a f n k ∧ x = -2) ∨ (wdK r a f n k ∧ ∃ B C, BX (bR r) (12 + f).toNat a.toNat B ∧ BX (bR r) a.toNat (12 + f).toNat C ∧ tlF B C n k x)
abbrev P_X12_would3 (h0 : m_H) (a1 a2 a3 a4 : Int) : Int → m_H → Prop := fun x h' => GI h' ∧ FR [115, 116, 117, 118, 119, 120, 121, 122, 123, 124, 125, 126, 127, 128, 129, 130, 131, 132, 133, 134, 135, 136, 138] [(108, 0), (108, 21), (108, 44), (108, 45), (108, 46), (108, 47)] h0 h' ∧ (-2) ≤ x ∧ x ≤ 2 ∧ wdQ (h0 110) a1 a2 a3 a4 x
set_option maxHeartbeats 4000000 in
set_option maxRecDepth 100000 in
theorem c_X12_would3 (h0 : m_H) (a1 a2 a3 a4 : Int) (G0 : GI h0) (hN : NP h0) : m_CI M_X12_would [mR 108, mI a1, mI a2, mI a3, mI a4] h0 (P_X12_would3 h0 a1 a2 a3 a4) := by
  refine m_CI_of ⟨by decide, rfl, by simp [m_arg, m_isL, M_X12_would], ⟨rfl, rfl⟩, rfl, rfl⟩ (ls := [some (mR 108), some (mI a1), some (mI a2), some (mI a3), some (mI a4)]) rfl ?_
  refine z_ok (fun _ _ ok => ?_)
  have oa1 : m_32 a1 := ok 1 _ rfl
  unfold m_32 at oa1
  have oa2 : m_32 a2 := ok 2 _ rfl
  unfold m_32 at oa2
  have oa3 : m_32 a3 := ok 3 _ rfl
  unfold m_32 at oa3
  have oa4 : m_32 a4 := ok 4 _ rfl
  unfold m_32 at oa4
  refine z_aload_n (M := M_X12_would) 0 dX12_would_0 rfl ?_
  refine z_iconst (M := M_X12_would) 1 dX12_would_1 ?_
  refine z_putIH (M := M_X12_would) 2 dX12_would_2 p_X12_133 o_108 rfl (u_108_0 G0) ((FR.rf (cs := [115, 116, 117, 118, 119, 120, 121, 122, 123, 124, 125, 126, 127, 128, 129, 130, 131, 132, 133, 134, 135, 136, 138]) (ss := [(108, 0), (108, 21), (108, 44), (108, 45), (108, 46), (108, 47)]) (h := h0)).up rfl) (fun h1 E1 G1 R1 => ?_)
  refine z_iload_n (M := M_X12_would) 5 dX12_would_5 rfl ?_
  refine z_i2l (M := M_X12_would) 6 dX12_would_6 ?_
  refine z_lconst (M := M_X12_would) 7 dX12_would_7 (v := 1) ?_
  refine z_ldc2 (M := M_X12_would) 8 dX12_would_8 k_X12_180 ?_
  refine z_sI (M := M_X12_would) 11 dX12_would_11 t_X12_in l_X12_143 (m_rr_of rfl) (rest := []) (c_X12_in h1 a3 1 99 G1) rfl rfl (Nat.le_of_ble_eq_true rfl) ⟨rfl, rfl⟩ (fun x1 h2 qx1 => ?_)
  obtain ⟨rfl, ⟨rfl, cx1⟩ | ⟨rfl, cx1⟩⟩ := qx1
  · refine z_if_eq_F (M := M_X12_would) 14 dX12_would_14 39 rfl (by omega) ?_
    refine z_iload (M := M_X12_would) 17 dX12_would_17 rfl ?_
    refine z_i2l (M := M_X12_would) 19 dX12_would_19 ?_
    refine z_lconst (M := M_X12_would) 20 dX12_would_20 (v := 0) ?_
    refine z_ldc2 (M := M_X12_would) 21 dX12_would_21 k_X12_182 ?_
    refine z_sI (M := M_X12_would) 24 dX12_would_24 t_X12_in l_X12_143 (m_rr_of rfl) (rest := []) (c_X12_in h1 a4 0 2 G1) rfl rfl (Nat.le_of_ble_eq_true rfl) ⟨rfl, rfl⟩ (fun x2 h3 qx2 => ?_)
    obtain ⟨rfl, ⟨rfl, cx2⟩ | ⟨rfl, cx2⟩⟩ := qx2
    · refine z_if_eq_F (M := M_X12_would) 27 dX12_would_27 39 rfl (by omega) ?_
      refine z_aload_n (M := M_X12_would) 30 dX12_would_30 rfl ?_
      refine z_iload_n (M := M_X12_would) 31 dX12_would_31 rfl ?_
      refine z_iload_n (M := M_X12_would) 32 dX12_would_32 rfl ?_
      refine z_vI (M := M_X12_would) 33 dX12_would_33 t_X12_isAsked l_X12_425 (m_rr_of rfl) (rest := []) (c_X12_isAsked4 h1 a1 a2 G1 (NP.call hN R1 (fun _ => rfl) (fun _ => rfl) (fun _ => rfl))) o_108 rfl rfl rfl (Nat.le_of_ble_eq_true rfl) ⟨rfl, rfl⟩ (fun x3 h4 qx3 => ?_)
      obtain ⟨G4, S4, ax3, bx3, fx3_0, fx3_1⟩ := qx3
      rw [(FR.row R1 (fun _ => rfl) : h1 110 = h0 110)] at fx3_1
      have R4 := R1.call S4 (by decide +kernel)
      refine z_if_ne (M := M_X12_would) 36 dX12_would_36 42 rfl (fun c4 => ?_) (fun c4 => ?_)
      · have an := fx3_0 (by omega)
        have an1 := an.1
        have an2 := an.2.1
        refine z_aload_n (M := M_X12_would) 42 dX12_would_42 rfl ?_
        refine z_iload_n (M := M_X12_would) 43 dX12_would_43 rfl ?_
        refine z_iload_n (M := M_X12_would) 44 dX12_would_44 rfl ?_
        refine z_vV (M := M_X12_would) 45 dX12_would_45 t_X12_findEnds l_X12_428 (m_rr_of rfl) (rest := []) (c_X12_findEnds4 h4 a1 a2 G4 ⟨by omega, by omega⟩ ⟨by omega, by omega⟩ (NP.call hN R4 (fun _ => rfl) (fun _ => rfl) (fun _ => rfl)) (gG_f (gG_b an.2.2 R1 (fun _ => rfl)) R4 (fun _ => rfl))) o_108 rfl rfl rfl (Nat.le_of_ble_eq_true rfl) ⟨rfl, rfl⟩ (fun h5 qx5 => ?_)
        obtain ⟨G5, S5, fx5_0, fx5_1, fx5_2⟩ := qx5
        unfold lP at fx5_1
        unfold hP at fx5_2
        rw [(FR.row R4 (fun _ => rfl) : h4 110 = h0 110)] at fx5_1 fx5_2
        have R5 := R4.call S5 (by decide +kernel)
        refine z_aload_n (M := M_X12_would) 48 dX12_would_48 rfl ?_
        refine z_iload_n (M := M_X12_would) 49 dX12_would_49 rfl ?_
        refine z_iload (M := M_X12_would) 50 dX12_would_50 rfl ?_
        refine z_vI (M := M_X12_would) 52 dX12_would_52 t_X12_tells l_X12_431 (m_rr_of rfl) (rest := []) (c_X12_tells4 h5 a3 a4 G5 ⟨by omega, by omega⟩ ⟨by omega, by omega⟩ ⟨fx5_1.2, fx5_2.2⟩) o_108 rfl rfl rfl (Nat.le_of_ble_eq_true rfl) ⟨rfl, rfl⟩ (fun x6 h6 qx6 => ?_)
        obtain ⟨G6, S6, ax6, bx6, fx6⟩ := qx6
        have R6 := R5.call S6 (by decide +kernel)
        exact z_retI (M := M_X12_would) 55 dX12_would_55 rfl ⟨G6, R6, by omega, by omega, Or.inr ⟨⟨⟨by omega, by omega⟩, ⟨by omega, by omega⟩, fx3_1.mp (by omega)⟩, _, _, fx5_1.1, fx5_2.1, fx6⟩⟩
      · refine z_bipush (M := M_X12_would) 39 dX12_would_39 ?_
        exact z_retI (M := M_X12_would) 41 dX12_would_41 rfl ⟨G4, R4, by omega, by omega, Or.inl ⟨fun z => absurd (fx3_1.mpr z.2.2) (by omega), rfl⟩⟩
    · refine z_if_eq_T (M := M_X12_would) 27 dX12_would_27 39 rfl (by omega) ?_
      refine z_bipush (M := M_X12_would) 39 dX12_would_39 ?_
      exact z_retI (M := M_X12_would) 41 dX12_would_41 rfl ⟨G1, R1, by omega, by omega, Or.inl ⟨fun z => cx2 z.2.1, rfl⟩⟩
  · refine z_if_eq_T (M := M_X12_would) 14 dX12_would_14 39 rfl (by omega) ?_
    refine z_bipush (M := M_X12_would) 39 dX12_would_39 ?_
    exact z_retI (M := M_X12_would) 41 dX12_would_41 rfl ⟨G1, R1, by omega, by omega, Or.inl ⟨fun z => cx1 z.1, rfl⟩⟩
