/-- the ledger at L is what the ledger at K was -/
def LC (L K : Nat) (h0 h' : m_H) : Prop := (∀ j, j < 32 → h' (L + 1) j = h0 (K + 1) j) ∧ (∀ j, j < 6 → h' (L + 2) j = h0 (K + 2) j) ∧ (∀ j, j < 24 → h' (L + 3) j = h0 (K + 3) j) ∧ (∀ j, j < 24 → h' (L + 4) j = h0 (K + 4) j) ∧ (∀ j, j < 24 → h' (L + 5) j = h0 (K + 5) j) ∧ (∀ j, j < 24 → h' (L + 6) j = h0 (K + 6) j) ∧ (∀ j, j < 16 → h' (L + 7) j = h0 (K + 7) j) ∧ h' L 7 = h0 K 7 ∧ h' L 8 = h0 K 8 ∧ h' L 9 = h0 K 9
theorem upo2 {h h' : m_H} {c j : Nat} {v : Int} (E : h' = m_up h c j v) {k : Nat} (hk : k ≠ c) (i : Nat) : h' k i = h k i := by rw [E, m_up_ne1 hk]
theorem cp_at {h h' : m_H} {k0 k1 n : Nat} (E : h' = m_cp h k0 k1 n) {j : Nat} (hj : j < n) : h' k1 j = h k0 j := by rw [E]; simp [m_cp, hj]
theorem cp_ne {h h' : m_H} {k0 k1 n : Nat} (E : h' = m_cp h k0 k1 n) {a : Nat} (ha : a ≠ k1) (j : Nat) : h' a j = h a j := by rw [E, m_cp_row ha]
theorem isL_ne {L K i j : Nat} (hL : isL L) (hK : isL K) (hi : i ≤ 7) (hj : j ≤ 7) (n : i ≠ j) : K + i ≠ L + j := by unfold isL at hL hK; omega
theorem isL_n0 {L K j : Nat} (hL : isL L) (hK : isL K) (hj : j ≤ 7) (n : 0 < j) : K ≠ L + j := by unfold isL at hL hK; omega
abbrev P_X4_copyFrom2 (h0 : m_H) (L : Nat) (K : Nat) : m_H → Prop := fun h' => GI h' ∧ FR [(L + 1), (L + 2), (L + 3), (L + 4), (L + 5), (L + 6), (L + 7)] [(L, 7), (L, 8), (L, 9)] h0 h' ∧ LC L K h0 h'
set_option maxHeartbeats 4000000 in
set_option maxRecDepth 100000 in
theorem c_X4_copyFrom2 (h0 : m_H) (L : Nat) (K : Nat) (hL : isL L) (hK : isL K) (G0 : GI h0) : m_CV M_X4_copyFrom [mR L, mR K] h0 (P_X4_copyFrom2 h0 L K) := by
  refine m_CV_of ⟨by decide, rfl, by simp [m_arg, m_isL, M_X4_copyFrom], ⟨rfl, rfl⟩, rfl, rfl⟩ (ls := [some (mR L), some (mR K)]) rfl ?_
  refine z_aload_n (M := M_X4_copyFrom) 0 dX4_copyFrom_0 rfl ?_
  refine z_getR (M := M_X4_copyFrom) 1 dX4_copyFrom_1 f_X4_9 (oL hK) rfl (rL_0 hK G0) ?_
  refine z_iconst (M := M_X4_copyFrom) 4 dX4_copyFrom_4 ?_
  refine z_aload_n (M := M_X4_copyFrom) 5 dX4_copyFrom_5 rfl ?_
  refine z_getR (M := M_X4_copyFrom) 6 dX4_copyFrom_6 f_X4_9 (oL hL) rfl (rL_0 hL G0) ?_
  refine z_iconst (M := M_X4_copyFrom) 9 dX4_copyFrom_9 ?_
  refine z_bipush (M := M_X4_copyFrom) 10 dX4_copyFrom_10 ?_
  refine z_copyH (M := M_X4_copyFrom) 12 dX4_copyFrom_12 ml_X4_39 (rest := []) (oL_1 hK) (oL_1 hL) rfl (by decide) (Nat.le_of_ble_eq_true rfl) (Nat.le_of_ble_eq_true rfl) (cpL_1 hL hK G0) ((FR.rf (cs := [(L + 1), (L + 2), (L + 3), (L + 4), (L + 5), (L + 6), (L + 7)]) (ss := [(L, 7), (L, 8), (L, 9)]) (h := h0)).cp (fun _ => by simp [fr])) (fun h1 E1 G1 R1 => ?_)
  refine z_aload_n (M := M_X4_copyFrom) 15 dX4_copyFrom_15 rfl ?_
  refine z_getR (M := M_X4_copyFrom) 16 dX4_copyFrom_16 f_X4_15 (oL hK) rfl (rL_1 hK G1) ?_
  refine z_iconst (M := M_X4_copyFrom) 19 dX4_copyFrom_19 ?_
  refine z_aload_n (M := M_X4_copyFrom) 20 dX4_copyFrom_20 rfl ?_
  refine z_getR (M := M_X4_copyFrom) 21 dX4_copyFrom_21 f_X4_15 (oL hL) rfl (rL_1 hL G1) ?_
  refine z_iconst (M := M_X4_copyFrom) 24 dX4_copyFrom_24 ?_
  refine z_bipush (M := M_X4_copyFrom) 25 dX4_copyFrom_25 ?_
  refine z_copyH (M := M_X4_copyFrom) 27 dX4_copyFrom_27 ml_X4_39 (rest := []) (oL_2 hK) (oL_2 hL) rfl (by decide) (Nat.le_of_ble_eq_true rfl) (Nat.le_of_ble_eq_true rfl) (cpL_2 hL hK G1) (R1.cp (fun _ => by simp [fr])) (fun h2 E2 G2 R2 => ?_)
  refine z_aload_n (M := M_X4_copyFrom) 30 dX4_copyFrom_30 rfl ?_
  refine z_getR (M := M_X4_copyFrom) 31 dX4_copyFrom_31 f_X4_18 (oL hK) rfl (rL_2 hK G2) ?_
  refine z_iconst (M := M_X4_copyFrom) 34 dX4_copyFrom_34 ?_
  refine z_aload_n (M := M_X4_copyFrom) 35 dX4_copyFrom_35 rfl ?_
  refine z_getR (M := M_X4_copyFrom) 36 dX4_copyFrom_36 f_X4_18 (oL hL) rfl (rL_2 hL G2) ?_
  refine z_iconst (M := M_X4_copyFrom) 39 dX4_copyFrom_39 ?_
  refine z_bipush (M := M_X4_copyFrom) 40 dX4_copyFrom_40 ?_
  refine z_copyH (M := M_X4_copyFrom) 42 dX4_copyFrom_42 ml_X4_39 (rest := []) (oL_3 hK) (oL_3 hL) rfl (by decide) (Nat.le_of_ble_eq_true rfl) (Nat.le_of_ble_eq_true rfl) (cpL_3 hL hK G2) (R2.cp (fun _ => by simp [fr])) (fun h3 E3 G3 R3 => ?_)
  refine z_aload_n (M := M_X4_copyFrom) 45 dX4_copyFrom_45 rfl ?_
  refine z_getR (M := M_X4_copyFrom) 46 dX4_copyFrom_46 f_X4_21 (oL hK) rfl (rL_3 hK G3) ?_
  refine z_iconst (M := M_X4_copyFrom) 49 dX4_copyFrom_49 ?_
  refine z_aload_n (M := M_X4_copyFrom) 50 dX4_copyFrom_50 rfl ?_
  refine z_getR (M := M_X4_copyFrom) 51 dX4_copyFrom_51 f_X4_21 (oL hL) rfl (rL_3 hL G3) ?_
  refine z_iconst (M := M_X4_copyFrom) 54 dX4_copyFrom_54 ?_
  refine z_bipush (M := M_X4_copyFrom) 55 dX4_copyFrom_55 ?_
  refine z_copyH (M := M_X4_copyFrom) 57 dX4_copyFrom_57 ml_X4_39 (rest := []) (oL_4 hK) (oL_4 hL) rfl (by decide) (Nat.le_of_ble_eq_true rfl) (Nat.le_of_ble_eq_true rfl) (cpL_4 hL hK G3) (R3.cp (fun _ => by simp [fr])) (fun h4 E4 G4 R4 => ?_)
  refine z_aload_n (M := M_X4_copyFrom) 60 dX4_copyFrom_60 rfl ?_
  refine z_getR (M := M_X4_copyFrom) 61 dX4_copyFrom_61 f_X4_24 (oL hK) rfl (rL_4 hK G4) ?_
  refine z_iconst (M := M_X4_copyFrom) 64 dX4_copyFrom_64 ?_
  refine z_aload_n (M := M_X4_copyFrom) 65 dX4_copyFrom_65 rfl ?_
  refine z_getR (M := M_X4_copyFrom) 66 dX4_copyFrom_66 f_X4_24 (oL hL) rfl (rL_4 hL G4) ?_
  refine z_iconst (M := M_X4_copyFrom) 69 dX4_copyFrom_69 ?_
  refine z_bipush (M := M_X4_copyFrom) 70 dX4_copyFrom_70 ?_
  refine z_copyH (M := M_X4_copyFrom) 72 dX4_copyFrom_72 ml_X4_39 (rest := []) (oL_5 hK) (oL_5 hL) rfl (by decide) (Nat.le_of_ble_eq_true rfl) (Nat.le_of_ble_eq_true rfl) (cpL_5 hL hK G4) (R4.cp (fun _ => by simp [fr])) (fun h5 E5 G5 R5 => ?_)
  refine z_aload_n (M := M_X4_copyFrom) 75 dX4_copyFrom_75 rfl ?_
  refine z_getR (M := M_X4_copyFrom) 76 dX4_copyFrom_76 f_X4_27 (oL hK) rfl (rL_5 hK G5) ?_
  refine z_iconst (M := M_X4_copyFrom) 79 dX4_copyFrom_79 ?_
  refine z_aload_n (M := M_X4_copyFrom) 80 dX4_copyFrom_80 rfl ?_
  refine z_getR (M := M_X4_copyFrom) 81 dX4_copyFrom_81 f_X4_27 (oL hL) rfl (rL_5 hL G5) ?_
  refine z_iconst (M := M_X4_copyFrom) 84 dX4_copyFrom_84 ?_
  refine z_bipush (M := M_X4_copyFrom) 85 dX4_copyFrom_85 ?_
  refine z_copyH (M := M_X4_copyFrom) 87 dX4_copyFrom_87 ml_X4_39 (rest := []) (oL_6 hK) (oL_6 hL) rfl (by decide) (Nat.le_of_ble_eq_true rfl) (Nat.le_of_ble_eq_true rfl) (cpL_6 hL hK G5) (R5.cp (fun _ => by simp [fr])) (fun h6 E6 G6 R6 => ?_)
  refine z_aload_n (M := M_X4_copyFrom) 90 dX4_copyFrom_90 rfl ?_
  refine z_getR (M := M_X4_copyFrom) 91 dX4_copyFrom_91 f_X4_30 (oL hK) rfl (rL_6 hK G6) ?_
  refine z_iconst (M := M_X4_copyFrom) 94 dX4_copyFrom_94 ?_
  refine z_aload_n (M := M_X4_copyFrom) 95 dX4_copyFrom_95 rfl ?_
  refine z_getR (M := M_X4_copyFrom) 96 dX4_copyFrom_96 f_X4_30 (oL hL) rfl (rL_6 hL G6) ?_
  refine z_iconst (M := M_X4_copyFrom) 99 dX4_copyFrom_99 ?_
  refine z_bipush (M := M_X4_copyFrom) 100 dX4_copyFrom_100 ?_
  refine z_copyH (M := M_X4_copyFrom) 102 dX4_copyFrom_102 ml_X4_39 (rest := []) (oL_7 hK) (oL_7 hL) rfl (by decide) (Nat.le_of_ble_eq_true rfl) (Nat.le_of_ble_eq_true rfl) (cpL_7 hL hK G6) (R6.cp (fun _ => by simp [fr])) (fun h7 E7 G7 R7 => ?_)
  refine z_aload_n (M := M_X4_copyFrom) 105 dX4_copyFrom_105 rfl ?_
  refine z_aload_n (M := M_X4_copyFrom) 106 dX4_copyFrom_106 rfl ?_
  refine z_getIG (M := M_X4_copyFrom) 107 dX4_copyFrom_107 f_X4_45 (oL hK) (by decide) (gL7 hK G7) (fun x1 ex1 ax1 bx1 => ?_)
  refine z_putIH (M := M_X4_copyFrom) 110 dX4_copyFrom_110 p_X4_45 (oL hL) rfl (uL7 hL G7 (by omega) (by omega)) (R7.up (by simp [fr])) (fun h8 E8 G8 R8 => ?_)
  refine z_aload_n (M := M_X4_copyFrom) 113 dX4_copyFrom_113 rfl ?_
  refine z_aload_n (M := M_X4_copyFrom) 114 dX4_copyFrom_114 rfl ?_
  refine z_getIV (M := M_X4_copyFrom) 115 dX4_copyFrom_115 f_X4_49 (oL hK) (by decide) (fun x2 ex2 => ?_)
  refine z_ok (fun ox2 _ _ => ?_)
  have ox2 := ox2.1; unfold m_ok m_32 at ox2
  refine z_putIH (M := M_X4_copyFrom) 118 dX4_copyFrom_118 p_X4_49 (oL hL) rfl (uL8 hL G8) (R8.up (by simp [fr])) (fun h9 E9 G9 R9 => ?_)
  refine z_aload_n (M := M_X4_copyFrom) 121 dX4_copyFrom_121 rfl ?_
  refine z_aload_n (M := M_X4_copyFrom) 122 dX4_copyFrom_122 rfl ?_
  refine z_getIV (M := M_X4_copyFrom) 123 dX4_copyFrom_123 f_X4_52 (oL hK) (by decide) (fun x3 ex3 => ?_)
  refine z_ok (fun ox3 _ _ => ?_)
  have ox3 := ox3.1; unfold m_ok m_32 at ox3
  refine z_putIH (M := M_X4_copyFrom) 126 dX4_copyFrom_126 p_X4_52 (oL hL) rfl (uL9 hL G9) (R9.up (by simp [fr])) (fun h10 E10 G10 R10 => ?_)
  exact z_retV (M := M_X4_copyFrom) 129 dX4_copyFrom_129 rfl ⟨G10, R10, fun j hj => (upo2 E10 (by omega) j).trans ((upo2 E9 (by omega) j).trans ((upo2 E8 (by omega) j).trans ((cp_ne E7 (by omega) j).trans ((cp_ne E6 (by omega) j).trans ((cp_ne E5 (by omega) j).trans ((cp_ne E4 (by omega) j).trans ((cp_ne E3 (by omega) j).trans ((cp_ne E2 (by omega) j).trans (cp_at E1 hj))))))))), fun j hj => (upo2 E10 (by omega) j).trans ((upo2 E9 (by omega) j).trans ((upo2 E8 (by omega) j).trans ((cp_ne E7 (by omega) j).trans ((cp_ne E6 (by omega) j).trans ((cp_ne E5 (by omega) j).trans ((cp_ne E4 (by omega) j).trans ((cp_ne E3 (by omega) j).trans ((cp_at E2 hj).trans (cp_ne E1 (isL_ne hL hK (by decide) (by decide) (by decide)) j))))))))), fun j hj => (upo2 E10 (by omega) j).trans ((upo2 E9 (by omega) j).trans ((upo2 E8 (by omega) j).trans ((cp_ne E7 (by omega) j).trans ((cp_ne E6 (by omega) j).trans ((cp_ne E5 (by omega) j).trans ((cp_ne E4 (by omega) j).trans ((cp_at E3 hj).trans ((cp_ne E2 (isL_ne hL hK (by decide) (by decide) (by decide)) j).trans (cp_ne E1 (isL_ne hL hK (by decide) (by decide) (by decide)) j))))))))), fun j hj => (upo2 E10 (by omega) j).trans ((upo2 E9 (by omega) j).trans ((upo2 E8 (by omega) j).trans ((cp_ne E7 (by omega) j).trans ((cp_ne E6 (by omega) j).trans ((cp_ne E5 (by omega) j).trans ((cp_at E4 hj).trans ((cp_ne E3 (isL_ne hL hK (by decide) (by decide) (by decide)) j).trans ((cp_ne E2 (isL_ne hL hK (by decide) (by decide) (by decide)) j).trans (cp_ne E1 (isL_ne hL hK (by decide) (by decide) (by decide)) j))))))))), fun j hj => (upo2 E10 (by omega) j).trans ((upo2 E9 (by omega) j).trans ((upo2 E8 (by omega) j).trans ((cp_ne E7 (by omega) j).trans ((cp_ne E6 (by omega) j).trans ((cp_at E5 hj).trans ((cp_ne E4 (isL_ne hL hK (by decide) (by decide) (by decide)) j).trans ((cp_ne E3 (isL_ne hL hK (by decide) (by decide) (by decide)) j).trans ((cp_ne E2 (isL_ne hL hK (by decide) (by decide) (by decide)) j).trans (cp_ne E1 (isL_ne hL hK (by decide) (by decide) (by decide)) j))))))))), fun j hj => (upo2 E10 (by omega) j).trans ((upo2 E9 (by omega) j).trans ((upo2 E8 (by omega) j).trans ((cp_ne E7 (by omega) j).trans ((cp_at E6 hj).trans ((cp_ne E5 (isL_ne hL hK (by decide) (by decide) (by decide)) j).trans ((cp_ne E4 (isL_ne hL hK (by decide) (by decide) (by decide)) j).trans ((cp_ne E3 (isL_ne hL hK (by decide) (by decide) (by decide)) j).trans ((cp_ne E2 (isL_ne hL hK (by decide) (by decide) (by decide)) j).trans (cp_ne E1 (isL_ne hL hK (by decide) (by decide) (by decide)) j))))))))), fun j hj => (upo2 E10 (by omega) j).trans ((upo2 E9 (by omega) j).trans ((upo2 E8 (by omega) j).trans ((cp_at E7 hj).trans ((cp_ne E6 (isL_ne hL hK (by decide) (by decide) (by decide)) j).trans ((cp_ne E5 (isL_ne hL hK (by decide) (by decide) (by decide)) j).trans ((cp_ne E4 (isL_ne hL hK (by decide) (by decide) (by decide)) j).trans ((cp_ne E3 (isL_ne hL hK (by decide) (by decide) (by decide)) j).trans ((cp_ne E2 (isL_ne hL hK (by decide) (by decide) (by decide)) j).trans (cp_ne E1 (isL_ne hL hK (by decide) (by decide) (by decide)) j))))))))), (upN E10 (fun q => absurd q.2 (by decide))).trans ((upN E9 (fun q => absurd q.2 (by decide))).trans ((upE E8).trans ((ex1.symm).trans ((cp_ne E7 (isL_n0 hL hK (by decide) (by decide)) 7).trans ((cp_ne E6 (isL_n0 hL hK (by decide) (by decide)) 7).trans ((cp_ne E5 (isL_n0 hL hK (by decide) (by decide)) 7).trans ((cp_ne E4 (isL_n0 hL hK (by decide) (by decide)) 7).trans ((cp_ne E3 (isL_n0 hL hK (by decide) (by decide)) 7).trans ((cp_ne E2 (isL_n0 hL hK (by decide) (by decide)) 7).trans (cp_ne E1 (isL_n0 hL hK (by decide) (by decide)) 7)))))))))), (upN E10 (fun q => absurd q.2 (by decide))).trans ((upE E9).trans ((ex2.symm).trans ((upN E8 (fun q => absurd q.2 (by decide))).trans ((cp_ne E7 (isL_n0 hL hK (by decide) (by decide)) 8).trans ((cp_ne E6 (isL_n0 hL hK (by decide) (by decide)) 8).trans ((cp_ne E5 (isL_n0 hL hK (by decide) (by decide)) 8).trans ((cp_ne E4 (isL_n0 hL hK (by decide) (by decide)) 8).trans ((cp_ne E3 (isL_n0 hL hK (by decide) (by decide)) 8).trans ((cp_ne E2 (isL_n0 hL hK (by decide) (by decide)) 8).trans (cp_ne E1 (isL_n0 hL hK (by decide) (by decide)) 8)))))))))), (upE E10).trans ((ex3.symm).trans ((upN E9 (fun q => absurd q.2 (by decide))).trans ((upN E8 (fun q => absurd q.2 (by decide))).trans ((cp_ne E7 (isL_n0 hL hK (by decide) (by decide)) 9).trans ((cp_ne E6 (isL_n0 hL hK (by decide) (by decide)) 9).trans ((cp_ne E5 (isL_n0 hL hK (by decide) (by decide)) 9).trans ((cp_ne E4 (isL_n0 hL hK (by decide) (by decide)) 9).trans ((cp_ne E3 (isL_n0 hL hK (by decide) (by decide)) 9).trans ((cp_ne E2 (isL_n0 hL hK (by decide) (by decide)) 9).trans (cp_ne E1 (isL_n0 hL hK (by decide) (by decide)) 9))))))))))⟩
