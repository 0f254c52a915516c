abbrev P_X11_within (h0 : m_H) (a0 a1 a2 : Int) : Int → m_H → Prop := fun x h' => h0 = h' ∧ ((x = 1 ∧ (a1 ≤ a0 ∧ a0 ≤ a2)) ∨ (x = 0 ∧ ¬ (a1 ≤ a0 ∧ a0 ≤ a2)))
set_option maxHeartbeats 4000000 in
set_option maxRecDepth 100000 in
theorem c_X11_within (h0 : m_H) (a0 a1 a2 : Int) (G0 : GI h0) : m_CI M_X11_within [mI a0, mI a1, mI a2] h0 (P_X11_within h0 a0 a1 a2) := by
  refine m_CI_of ⟨by decide, rfl, by simp [m_arg, m_isL, M_X11_within], ⟨rfl, rfl⟩, rfl, rfl⟩ (ls := [some (mI a0), some (mI a1), some (mI a2)]) rfl ?_
  refine z_ok (fun _ _ ok => ?_)
  have oa0 : m_32 a0 := ok 0 _ rfl
  unfold m_32 at oa0
  have oa1 : m_32 a1 := ok 1 _ rfl
  unfold m_32 at oa1
  have oa2 : m_32 a2 := ok 2 _ rfl
  unfold m_32 at oa2
  refine z_iload_n (M := M_X11_within) 0 dX11_within_0 rfl ?_
  refine z_iload_n (M := M_X11_within) 1 dX11_within_1 rfl ?_
  refine z_icmp_lt (M := M_X11_within) 2 dX11_within_2 14 rfl (fun c1 => ?_) (fun c1 => ?_)
  · refine z_iconst (M := M_X11_within) 14 dX11_within_14 ?_
    exact z_retZ (M := M_X11_within) 15 dX11_within_15 rfl (by omega) ⟨rfl, by omega⟩
  · refine z_iload_n (M := M_X11_within) 5 dX11_within_5 rfl ?_
    refine z_iload_n (M := M_X11_within) 6 dX11_within_6 rfl ?_
    refine z_icmp_gt (M := M_X11_within) 7 dX11_within_7 14 rfl (fun c2 => ?_) (fun c2 => ?_)
    · refine z_iconst (M := M_X11_within) 14 dX11_within_14 ?_
      exact z_retZ (M := M_X11_within) 15 dX11_within_15 rfl (by omega) ⟨rfl, by omega⟩
    · refine z_iconst (M := M_X11_within) 10 dX11_within_10 ?_
      refine z_goto (M := M_X11_within) 11 dX11_within_11 15 rfl ?_
      exact z_retZ (M := M_X11_within) 15 dX11_within_15 rfl (by omega) ⟨rfl, by omega⟩
abbrev P_X11_hasBit (h0 : m_H) (a0 a1 : Int) : Int → m_H → Prop := fun x h' => h0 = h' ∧ ((x = 1 ∧ m_and (m_shr a0 a1) 1 = 1) ∨ (x = 0 ∧ ¬ m_and (m_shr a0 a1) 1 = 1))
set_option maxHeartbeats 4000000 in
set_option maxRecDepth 100000 in
theorem c_X11_hasBit (h0 : m_H) (a0 a1 : Int) (G0 : GI h0) : m_CI M_X11_hasBit [mI a0, mI a1] h0 (P_X11_hasBit h0 a0 a1) := by
  refine m_CI_of ⟨by decide, rfl, by simp [m_arg, m_isL, M_X11_hasBit], ⟨rfl, rfl⟩, rfl, rfl⟩ (ls := [some (mI a0), some (mI a1)]) rfl ?_
  refine z_ok (fun _ _ ok => ?_)
  have oa0 : m_32 a0 := ok 0 _ rfl
  unfold m_32 at oa0
  have oa1 : m_32 a1 := ok 1 _ rfl
  unfold m_32 at oa1
  refine z_iload_n (M := M_X11_hasBit) 0 dX11_hasBit_0 rfl ?_
  refine z_iload_n (M := M_X11_hasBit) 1 dX11_hasBit_1 rfl ?_
  refine z_ishr (M := M_X11_hasBit) 2 dX11_hasBit_2 ?_
  refine z_topm (fun x1 ex1 ox1 => ?_)
  unfold m_32 at ox1
  refine z_iconst (M := M_X11_hasBit) 3 dX11_hasBit_3 ?_
  refine z_iand (M := M_X11_hasBit) 4 dX11_hasBit_4 ?_
  refine z_topBI (m_and_1 _) (fun x2 ex2 ax2 bx2 => ?_)
  refine z_iconst (M := M_X11_hasBit) 5 dX11_hasBit_5 ?_
  refine z_icmp_ne (M := M_X11_hasBit) 6 dX11_hasBit_6 13 rfl (fun c3 => ?_) (fun c3 => ?_)
  · refine z_iconst (M := M_X11_hasBit) 13 dX11_hasBit_13 ?_
    exact z_retZ (M := M_X11_hasBit) 14 dX11_hasBit_14 rfl (by omega) ⟨rfl, by subst_vars; omega⟩
  · refine z_iconst (M := M_X11_hasBit) 9 dX11_hasBit_9 ?_
    refine z_goto (M := M_X11_hasBit) 10 dX11_hasBit_10 14 rfl ?_
    exact z_retZ (M := M_X11_hasBit) 14 dX11_hasBit_14 rfl (by omega) ⟨rfl, by subst_vars; omega⟩
abbrev P_X11_isThing (h0 : m_H) (a0 : Int) : Int → m_H → Prop := fun x h' => h0 = h' ∧ ((x = 1 ∧ (0 ≤ a0 ∧ a0 ≤ 5)) ∨ (x = 0 ∧ ¬ (0 ≤ a0 ∧ a0 ≤ 5)))
set_option maxHeartbeats 4000000 in
set_option maxRecDepth 100000 in
theorem c_X11_isThing (h0 : m_H) (a0 : Int) (G0 : GI h0) : m_CI M_X11_isThing [mI a0] h0 (P_X11_isThing h0 a0) := by
  refine m_CI_of ⟨by decide, rfl, by simp [m_arg, m_isL, M_X11_isThing], ⟨rfl, rfl⟩, rfl, rfl⟩ (ls := [some (mI a0)]) rfl ?_
  refine z_ok (fun _ _ ok => ?_)
  have oa0 : m_32 a0 := ok 0 _ rfl
  unfold m_32 at oa0
  refine z_iload_n (M := M_X11_isThing) 0 dX11_isThing_0 rfl ?_
  refine z_iconst (M := M_X11_isThing) 1 dX11_isThing_1 ?_
  refine z_iconst (M := M_X11_isThing) 2 dX11_isThing_2 ?_
  refine z_sI (M := M_X11_isThing) 3 dX11_isThing_3 t_X11_within l_X11_112 (m_rr_of rfl) (rest := []) (c_X11_within h0 a0 0 5 G0) rfl rfl (Nat.le_of_ble_eq_true rfl) ⟨rfl, rfl⟩ (fun x1 h1 qx1 => ?_)
  obtain ⟨rfl, ⟨rfl, cx1⟩ | ⟨rfl, cx1⟩⟩ := qx1
  · exact z_retZ (M := M_X11_isThing) 6 dX11_isThing_6 rfl (by omega) ⟨rfl, by omega⟩
  · exact z_retZ (M := M_X11_isThing) 6 dX11_isThing_6 rfl (by omega) ⟨rfl, by omega⟩
abbrev P_X11_isKeeper (h0 : m_H) (a0 : Int) : Int → m_H → Prop := fun x h' => h0 = h' ∧ ((x = 1 ∧ (0 ≤ a0 ∧ a0 ≤ 3)) ∨ (x = 0 ∧ ¬ (0 ≤ a0 ∧ a0 ≤ 3)))
set_option maxHeartbeats 4000000 in
set_option maxRecDepth 100000 in
theorem c_X11_isKeeper (h0 : m_H) (a0 : Int) (G0 : GI h0) : m_CI M_X11_isKeeper [mI a0] h0 (P_X11_isKeeper h0 a0) := by
  refine m_CI_of ⟨by decide, rfl, by simp [m_arg, m_isL, M_X11_isKeeper], ⟨rfl, rfl⟩, rfl, rfl⟩ (ls := [some (mI a0)]) rfl ?_
  refine z_ok (fun _ _ ok => ?_)
  have oa0 : m_32 a0 := ok 0 _ rfl
  unfold m_32 at oa0
  refine z_iload_n (M := M_X11_isKeeper) 0 dX11_isKeeper_0 rfl ?_
  refine z_iconst (M := M_X11_isKeeper) 1 dX11_isKeeper_1 ?_
  refine z_iconst (M := M_X11_isKeeper) 2 dX11_isKeeper_2 ?_
  refine z_sI (M := M_X11_isKeeper) 3 dX11_isKeeper_3 t_X11_within l_X11_112 (m_rr_of rfl) (rest := []) (c_X11_within h0 a0 0 3 G0) rfl rfl (Nat.le_of_ble_eq_true rfl) ⟨rfl, rfl⟩ (fun x1 h1 qx1 => ?_)
  obtain ⟨rfl, ⟨rfl, cx1⟩ | ⟨rfl, cx1⟩⟩ := qx1
  · exact z_retZ (M := M_X11_isKeeper) 6 dX11_isKeeper_6 rfl (by omega) ⟨rfl, by omega⟩
  · exact z_retZ (M := M_X11_isKeeper) 6 dX11_isKeeper_6 rfl (by omega) ⟨rfl, by omega⟩
abbrev P_X11_isWeek (h0 : m_H) (a0 : Int) : Int → m_H → Prop := fun x h' => h0 = h' ∧ ((x = 1 ∧ (0 ≤ a0 ∧ a0 ≤ 31)) ∨ (x = 0 ∧ ¬ (0 ≤ a0 ∧ a0 ≤ 31)))
set_option maxHeartbeats 4000000 in
set_option maxRecDepth 100000 in
theorem c_X11_isWeek (h0 : m_H) (a0 : Int) (G0 : GI h0) : m_CI M_X11_isWeek [mI a0] h0 (P_X11_isWeek h0 a0) := by
  refine m_CI_of ⟨by decide, rfl, by simp [m_arg, m_isL, M_X11_isWeek], ⟨rfl, rfl⟩, rfl, rfl⟩ (ls := [some (mI a0)]) rfl ?_
  refine z_ok (fun _ _ ok => ?_)
  have oa0 : m_32 a0 := ok 0 _ rfl
  unfold m_32 at oa0
  refine z_iload_n (M := M_X11_isWeek) 0 dX11_isWeek_0 rfl ?_
  refine z_iconst (M := M_X11_isWeek) 1 dX11_isWeek_1 ?_
  refine z_bipush (M := M_X11_isWeek) 2 dX11_isWeek_2 ?_
  refine z_sI (M := M_X11_isWeek) 4 dX11_isWeek_4 t_X11_within l_X11_112 (m_rr_of rfl) (rest := []) (c_X11_within h0 a0 0 31 G0) rfl rfl (Nat.le_of_ble_eq_true rfl) ⟨rfl, rfl⟩ (fun x1 h1 qx1 => ?_)
  obtain ⟨rfl, ⟨rfl, cx1⟩ | ⟨rfl, cx1⟩⟩ := qx1
  · exact z_retZ (M := M_X11_isWeek) 7 dX11_isWeek_7 rfl (by omega) ⟨rfl, by omega⟩
  · exact z_retZ (M := M_X11_isWeek) 7 dX11_isWeek_7 rfl (by omega) ⟨rfl, by omega⟩
abbrev P_X11_isNumber (h0 : m_H) (a0 : Int) : Int → m_H → Prop := fun x h' => h0 = h' ∧ ((x = 1 ∧ (1 ≤ a0 ∧ a0 ≤ 99)) ∨ (x = 0 ∧ ¬ (1 ≤ a0 ∧ a0 ≤ 99)))
set_option maxHeartbeats 4000000 in
set_option maxRecDepth 100000 in
theorem c_X11_isNumber (h0 : m_H) (a0 : Int) (G0 : GI h0) : m_CI M_X11_isNumber [mI a0] h0 (P_X11_isNumber h0 a0) := by
  refine m_CI_of ⟨by decide, rfl, by simp [m_arg, m_isL, M_X11_isNumber], ⟨rfl, rfl⟩, rfl, rfl⟩ (ls := [some (mI a0)]) rfl ?_
  refine z_ok (fun _ _ ok => ?_)
  have oa0 : m_32 a0 := ok 0 _ rfl
  unfold m_32 at oa0
  refine z_iload_n (M := M_X11_isNumber) 0 dX11_isNumber_0 rfl ?_
  refine z_iconst (M := M_X11_isNumber) 1 dX11_isNumber_1 ?_
  refine z_bipush (M := M_X11_isNumber) 2 dX11_isNumber_2 ?_
  refine z_sI (M := M_X11_isNumber) 4 dX11_isNumber_4 t_X11_within l_X11_112 (m_rr_of rfl) (rest := []) (c_X11_within h0 a0 1 99 G0) rfl rfl (Nat.le_of_ble_eq_true rfl) ⟨rfl, rfl⟩ (fun x1 h1 qx1 => ?_)
  obtain ⟨rfl, ⟨rfl, cx1⟩ | ⟨rfl, cx1⟩⟩ := qx1
  · exact z_retZ (M := M_X11_isNumber) 7 dX11_isNumber_7 rfl (by omega) ⟨rfl, by omega⟩
  · exact z_retZ (M := M_X11_isNumber) 7 dX11_isNumber_7 rfl (by omega) ⟨rfl, by omega⟩
abbrev P_X11_isKind (h0 : m_H) (a0 : Int) : Int → m_H → Prop := fun x h' => h0 = h' ∧ ((x = 1 ∧ (0 ≤ a0 ∧ a0 ≤ 2)) ∨ (x = 0 ∧ ¬ (0 ≤ a0 ∧ a0 ≤ 2)))
set_option maxHeartbeats 4000000 in
set_option maxRecDepth 100000 in
theorem c_X11_isKind (h0 : m_H) (a0 : Int) (G0 : GI h0) : m_CI M_X11_isKind [mI a0] h0 (P_X11_isKind h0 a0) := by
  refine m_CI_of ⟨by decide, rfl, by simp [m_arg, m_isL, M_X11_isKind], ⟨rfl, rfl⟩, rfl, rfl⟩ (ls := [some (mI a0)]) rfl ?_
  refine z_ok (fun _ _ ok => ?_)
  have oa0 : m_32 a0 := ok 0 _ rfl
  unfold m_32 at oa0
  refine z_iload_n (M := M_X11_isKind) 0 dX11_isKind_0 rfl ?_
  refine z_iconst (M := M_X11_isKind) 1 dX11_isKind_1 ?_
  refine z_iconst (M := M_X11_isKind) 2 dX11_isKind_2 ?_
  refine z_sI (M := M_X11_isKind) 3 dX11_isKind_3 t_X11_within l_X11_112 (m_rr_of rfl) (rest := []) (c_X11_within h0 a0 0 2 G0) rfl rfl (Nat.le_of_ble_eq_true rfl) ⟨rfl, rfl⟩ (fun x1 h1 qx1 => ?_)
  obtain ⟨rfl, ⟨rfl, cx1⟩ | ⟨rfl, cx1⟩⟩ := qx1
  · exact z_retZ (M := M_X11_isKind) 6 dX11_isKind_6 rfl (by omega) ⟨rfl, by omega⟩
  · exact z_retZ (M := M_X11_isKind) 6 dX11_isKind_6 rfl (by omega) ⟨rfl, by omega⟩
abbrev P_X11_isEntry (h0 : m_H) (a0 a1 a2 a3 : Int) : Int → m_H → Prop := fun x h' => h0 = h' ∧ ((x = 1 ∧ ((0 ≤ a0 ∧ a0 ≤ 5) ∧ (0 ≤ a1 ∧ a1 ≤ 31) ∧ (1 ≤ a2 ∧ a2 ≤ 99) ∧ (0 ≤ a3 ∧ a3 ≤ 2))) ∨ (x = 0 ∧ ¬ ((0 ≤ a0 ∧ a0 ≤ 5) ∧ (0 ≤ a1 ∧ a1 ≤ 31) ∧ (1 ≤ a2 ∧ a2 ≤ 99) ∧ (0 ≤ a3 ∧ a3 ≤ 2))))
set_option maxHeartbeats 4000000 in
set_option maxRecDepth 100000 in
theorem c_X11_isEntry (h0 : m_H) (a0 a1 a2 a3 : Int) (G0 : GI h0) : m_CI M_X11_isEntry [mI a0, mI a1, mI a2, mI a3] h0 (P_X11_isEntry h0 a0 a1 a2 a3) := by
  refine m_CI_of ⟨by decide, rfl, by simp [m_arg, m_isL, M_X11_isEntry], ⟨rfl, rfl⟩, rfl, rfl⟩ (ls := [some (mI a0), some (mI a1), some (mI a2), some (mI a3)]) rfl ?_
  refine z_ok (fun _ _ ok => ?_)
  have oa0 : m_32 a0 := ok 0 _ rfl
  unfold m_32 at oa0
  have oa1 : m_32 a1 := ok 1 _ rfl
  unfold m_32 at oa1
  have oa2 : m_32 a2 := ok 2 _ rfl
  unfold m_32 at oa2
  have oa3 : m_32 a3 := ok 3 _ rfl
  unfold m_32 at oa3
  refine z_iload_n (M := M_X11_isEntry) 0 dX11_isEntry_0 rfl ?_
  refine z_sI (M := M_X11_isEntry) 1 dX11_isEntry_1 t_X11_isThing l_X11_126 (m_rr_of rfl) (rest := []) (c_X11_isThing h0 a0 G0) rfl rfl (Nat.le_of_ble_eq_true rfl) ⟨rfl, rfl⟩ (fun x1 h1 qx1 => ?_)
  obtain ⟨rfl, ⟨rfl, cx1⟩ | ⟨rfl, cx1⟩⟩ := qx1
  · refine z_if_eq_F (M := M_X11_isEntry) 4 dX11_isEntry_4 32 rfl (by omega) ?_
    refine z_iload_n (M := M_X11_isEntry) 7 dX11_isEntry_7 rfl ?_
    refine z_sI (M := M_X11_isEntry) 8 dX11_isEntry_8 t_X11_isWeek l_X11_108 (m_rr_of rfl) (rest := []) (c_X11_isWeek h0 a1 G0) rfl rfl (Nat.le_of_ble_eq_true rfl) ⟨rfl, rfl⟩ (fun x2 h2 qx2 => ?_)
    obtain ⟨rfl, ⟨rfl, cx2⟩ | ⟨rfl, cx2⟩⟩ := qx2
    · refine z_if_eq_F (M := M_X11_isEntry) 11 dX11_isEntry_11 32 rfl (by omega) ?_
      refine z_iload_n (M := M_X11_isEntry) 14 dX11_isEntry_14 rfl ?_
      refine z_sI (M := M_X11_isEntry) 15 dX11_isEntry_15 t_X11_isNumber l_X11_298 (m_rr_of rfl) (rest := []) (c_X11_isNumber h0 a2 G0) rfl rfl (Nat.le_of_ble_eq_true rfl) ⟨rfl, rfl⟩ (fun x3 h3 qx3 => ?_)
      obtain ⟨rfl, ⟨rfl, cx3⟩ | ⟨rfl, cx3⟩⟩ := qx3
      · refine z_if_eq_F (M := M_X11_isEntry) 18 dX11_isEntry_18 32 rfl (by omega) ?_
        refine z_iload_n (M := M_X11_isEntry) 21 dX11_isEntry_21 rfl ?_
        refine z_sI (M := M_X11_isEntry) 22 dX11_isEntry_22 t_X11_isKind l_X11_301 (m_rr_of rfl) (rest := []) (c_X11_isKind h0 a3 G0) rfl rfl (Nat.le_of_ble_eq_true rfl) ⟨rfl, rfl⟩ (fun x4 h4 qx4 => ?_)
        obtain ⟨rfl, ⟨rfl, cx4⟩ | ⟨rfl, cx4⟩⟩ := qx4
        · refine z_if_eq_F (M := M_X11_isEntry) 25 dX11_isEntry_25 32 rfl (by omega) ?_
          refine z_iconst (M := M_X11_isEntry) 28 dX11_isEntry_28 ?_
          refine z_goto (M := M_X11_isEntry) 29 dX11_isEntry_29 33 rfl ?_
          exact z_retZ (M := M_X11_isEntry) 33 dX11_isEntry_33 rfl (by omega) ⟨rfl, by omega⟩
        · refine z_if_eq_T (M := M_X11_isEntry) 25 dX11_isEntry_25 32 rfl (by omega) ?_
          refine z_iconst (M := M_X11_isEntry) 32 dX11_isEntry_32 ?_
          exact z_retZ (M := M_X11_isEntry) 33 dX11_isEntry_33 rfl (by omega) ⟨rfl, by omega⟩
      · refine z_if_eq_T (M := M_X11_isEntry) 18 dX11_isEntry_18 32 rfl (by omega) ?_
        refine z_iconst (M := M_X11_isEntry) 32 dX11_isEntry_32 ?_
        exact z_retZ (M := M_X11_isEntry) 33 dX11_isEntry_33 rfl (by omega) ⟨rfl, by omega⟩
    · refine z_if_eq_T (M := M_X11_isEntry) 11 dX11_isEntry_11 32 rfl (by omega) ?_
      refine z_iconst (M := M_X11_isEntry) 32 dX11_isEntry_32 ?_
      exact z_retZ (M := M_X11_isEntry) 33 dX11_isEntry_33 rfl (by omega) ⟨rfl, by omega⟩
  · refine z_if_eq_T (M := M_X11_isEntry) 4 dX11_isEntry_4 32 rfl (by omega) ?_
    refine z_iconst (M := M_X11_isEntry) 32 dX11_isEntry_32 ?_
    exact z_retZ (M := M_X11_isEntry) 33 dX11_isEntry_33 rfl (by omega) ⟨rfl, by omega⟩
abbrev P_J6_bitCount_0f7a4 (h0 : m_H) (a0 : Int) : Int → m_H → Prop := fun x h' => GI h' ∧ FR [] [] h0 h' ∧ 0 ≤ x ∧ x ≤ 63
set_option maxHeartbeats 4000000 in
set_option maxRecDepth 100000 in
theorem c_J6_bitCount_0f7a4 (h0 : m_H) (a0 : Int) (G0 : GI h0) : m_CI M_J6_bitCount_0f7a4 [mI a0] h0 (P_J6_bitCount_0f7a4 h0 a0) := by
  refine m_CI_of ⟨by decide, rfl, by simp [m_arg, m_isL, M_J6_bitCount_0f7a4], ⟨rfl, rfl⟩, rfl, rfl⟩ (ls := [some (mI a0)]) rfl ?_
  refine z_ok (fun _ _ ok => ?_)
  have oa0 : m_32 a0 := ok 0 _ rfl
  unfold m_32 at oa0
  refine z_iload_n (M := M_J6_bitCount_0f7a4) 0 dJ6_bitCount_0f7a4_0 rfl ?_
  refine z_iload_n (M := M_J6_bitCount_0f7a4) 1 dJ6_bitCount_0f7a4_1 rfl ?_
  refine z_iconst (M := M_J6_bitCount_0f7a4) 2 dJ6_bitCount_0f7a4_2 ?_
  refine z_iushr (M := M_J6_bitCount_0f7a4) 3 dJ6_bitCount_0f7a4_3 ?_
  refine z_topm (fun x1 ex1 ox1 => ?_)
  unfold m_32 at ox1
  refine z_ldcw (M := M_J6_bitCount_0f7a4) 4 dJ6_bitCount_0f7a4_4 k_J6_265 ?_
  refine z_iand (M := M_J6_bitCount_0f7a4) 7 dJ6_bitCount_0f7a4_7 ?_
  refine z_topm (fun x2 ex2 ox2 => ?_)
  unfold m_32 at ox2
  refine z_isub (M := M_J6_bitCount_0f7a4) 8 dJ6_bitCount_0f7a4_8 ?_
  refine z_topm (fun x3 ex3 ox3 => ?_)
  unfold m_32 at ox3
  refine z_istore_n (M := M_J6_bitCount_0f7a4) 9 dJ6_bitCount_0f7a4_9 (ls' := [some (mI x3)]) (by decide) rfl ?_
  refine z_iload_n (M := M_J6_bitCount_0f7a4) 10 dJ6_bitCount_0f7a4_10 rfl ?_
  refine z_ldcw (M := M_J6_bitCount_0f7a4) 11 dJ6_bitCount_0f7a4_11 k_J6_266 ?_
  refine z_iand (M := M_J6_bitCount_0f7a4) 14 dJ6_bitCount_0f7a4_14 ?_
  refine z_topm (fun x4 ex4 ox4 => ?_)
  unfold m_32 at ox4
  refine z_iload_n (M := M_J6_bitCount_0f7a4) 15 dJ6_bitCount_0f7a4_15 rfl ?_
  refine z_iconst (M := M_J6_bitCount_0f7a4) 16 dJ6_bitCount_0f7a4_16 ?_
  refine z_iushr (M := M_J6_bitCount_0f7a4) 17 dJ6_bitCount_0f7a4_17 ?_
  refine z_topm (fun x5 ex5 ox5 => ?_)
  unfold m_32 at ox5
  refine z_ldcw (M := M_J6_bitCount_0f7a4) 18 dJ6_bitCount_0f7a4_18 k_J6_266 ?_
  refine z_iand (M := M_J6_bitCount_0f7a4) 21 dJ6_bitCount_0f7a4_21 ?_
  refine z_topm (fun x6 ex6 ox6 => ?_)
  unfold m_32 at ox6
  refine z_iadd (M := M_J6_bitCount_0f7a4) 22 dJ6_bitCount_0f7a4_22 ?_
  refine z_topm (fun x7 ex7 ox7 => ?_)
  unfold m_32 at ox7
  refine z_istore_n (M := M_J6_bitCount_0f7a4) 23 dJ6_bitCount_0f7a4_23 (ls' := [some (mI x7)]) (by decide) rfl ?_
  refine z_iload_n (M := M_J6_bitCount_0f7a4) 24 dJ6_bitCount_0f7a4_24 rfl ?_
  refine z_iload_n (M := M_J6_bitCount_0f7a4) 25 dJ6_bitCount_0f7a4_25 rfl ?_
  refine z_iconst (M := M_J6_bitCount_0f7a4) 26 dJ6_bitCount_0f7a4_26 ?_
  refine z_iushr (M := M_J6_bitCount_0f7a4) 27 dJ6_bitCount_0f7a4_27 ?_
  refine z_topm (fun x8 ex8 ox8 => ?_)
  unfold m_32 at ox8
  refine z_iadd (M := M_J6_bitCount_0f7a4) 28 dJ6_bitCount_0f7a4_28 ?_
  refine z_topm (fun x9 ex9 ox9 => ?_)
  unfold m_32 at ox9
  refine z_ldcw (M := M_J6_bitCount_0f7a4) 29 dJ6_bitCount_0f7a4_29 k_J6_267 ?_
  refine z_iand (M := M_J6_bitCount_0f7a4) 32 dJ6_bitCount_0f7a4_32 ?_
  refine z_topm (fun x10 ex10 ox10 => ?_)
  unfold m_32 at ox10
  refine z_istore_n (M := M_J6_bitCount_0f7a4) 33 dJ6_bitCount_0f7a4_33 (ls' := [some (mI x10)]) (by decide) rfl ?_
  refine z_iload_n (M := M_J6_bitCount_0f7a4) 34 dJ6_bitCount_0f7a4_34 rfl ?_
  refine z_iload_n (M := M_J6_bitCount_0f7a4) 35 dJ6_bitCount_0f7a4_35 rfl ?_
  refine z_bipush (M := M_J6_bitCount_0f7a4) 36 dJ6_bitCount_0f7a4_36 ?_
  refine z_iushr (M := M_J6_bitCount_0f7a4) 38 dJ6_bitCount_0f7a4_38 ?_
  refine z_topm (fun x11 ex11 ox11 => ?_)
  unfold m_32 at ox11
  refine z_iadd (M := M_J6_bitCount_0f7a4) 39 dJ6_bitCount_0f7a4_39 ?_
  refine z_topm (fun x12 ex12 ox12 => ?_)
  unfold m_32 at ox12
  refine z_istore_n (M := M_J6_bitCount_0f7a4) 40 dJ6_bitCount_0f7a4_40 (ls' := [some (mI x12)]) (by decide) rfl ?_
  refine z_iload_n (M := M_J6_bitCount_0f7a4) 41 dJ6_bitCount_0f7a4_41 rfl ?_
  refine z_iload_n (M := M_J6_bitCount_0f7a4) 42 dJ6_bitCount_0f7a4_42 rfl ?_
  refine z_bipush (M := M_J6_bitCount_0f7a4) 43 dJ6_bitCount_0f7a4_43 ?_
  refine z_iushr (M := M_J6_bitCount_0f7a4) 45 dJ6_bitCount_0f7a4_45 ?_
  refine z_topm (fun x13 ex13 ox13 => ?_)
  unfold m_32 at ox13
  refine z_iadd (M := M_J6_bitCount_0f7a4) 46 dJ6_bitCount_0f7a4_46 ?_
  refine z_topm (fun x14 ex14 ox14 => ?_)
  unfold m_32 at ox14
  refine z_istore_n (M := M_J6_bitCount_0f7a4) 47 dJ6_bitCount_0f7a4_47 (ls' := [some (mI x14)]) (by decide) rfl ?_
  refine z_iload_n (M := M_J6_bitCount_0f7a4) 48 dJ6_bitCount_0f7a4_48 rfl ?_
  refine z_bipush (M := M_J6_bitCount_0f7a4) 49 dJ6_bitCount_0f7a4_49 ?_
  refine z_iand (M := M_J6_bitCount_0f7a4) 51 dJ6_bitCount_0f7a4_51 ?_
  refine z_topBI (m_and_63 _) (fun x15 ex15 ax15 bx15 => ?_)
  exact z_retI (M := M_J6_bitCount_0f7a4) 52 dJ6_bitCount_0f7a4_52 rfl ⟨G0, (FR.rf (cs := []) (ss := []) (h := h0)), by omega, by omega⟩
abbrev P_J13_compare_74951 (h0 : m_H) (a0 a1 : Int) : Int → m_H → Prop := fun x h' => GI h' ∧ FR [] [] h0 h' ∧ (-1) ≤ x ∧ x ≤ 1
set_option maxHeartbeats 4000000 in
set_option maxRecDepth 100000 in
theorem c_J13_compare_74951 (h0 : m_H) (a0 a1 : Int) (G0 : GI h0) : m_CI M_J13_compare_74951 [mJ a0, mJ a1] h0 (P_J13_compare_74951 h0 a0 a1) := by
  refine m_CI_of ⟨by decide, rfl, by simp [m_arg, m_isL, M_J13_compare_74951], ⟨rfl, rfl⟩, rfl, rfl⟩ (ls := [some (mJ a0), none, some (mJ a1), none]) rfl ?_
  refine z_lload_n (M := M_J13_compare_74951) 0 dJ13_compare_74951_0 rfl ?_
  refine z_lload_n (M := M_J13_compare_74951) 1 dJ13_compare_74951_1 rfl ?_
  refine z_lcmp (M := M_J13_compare_74951) 2 dJ13_compare_74951_2 ?_
  refine z_if_ge (M := M_J13_compare_74951) 3 dJ13_compare_74951_3 10 rfl (fun c1 => ?_) (fun c1 => ?_)
  · rw [m_cmp_ge] at c1
    refine z_lload_n (M := M_J13_compare_74951) 10 dJ13_compare_74951_10 rfl ?_
    refine z_lload_n (M := M_J13_compare_74951) 11 dJ13_compare_74951_11 rfl ?_
    refine z_lcmp (M := M_J13_compare_74951) 12 dJ13_compare_74951_12 ?_
    refine z_if_ne (M := M_J13_compare_74951) 13 dJ13_compare_74951_13 20 rfl (fun c2 => ?_) (fun c2 => ?_)
    · rw [m_cmp_eq] at c2
      refine z_iconst (M := M_J13_compare_74951) 20 dJ13_compare_74951_20 ?_
      exact z_retI (M := M_J13_compare_74951) 21 dJ13_compare_74951_21 rfl ⟨G0, (FR.rf (cs := []) (ss := []) (h := h0)), by omega, by omega⟩
    · rw [m_cmp_eq] at c2
      refine z_iconst (M := M_J13_compare_74951) 16 dJ13_compare_74951_16 ?_
      refine z_goto (M := M_J13_compare_74951) 17 dJ13_compare_74951_17 21 rfl ?_
      exact z_retI (M := M_J13_compare_74951) 21 dJ13_compare_74951_21 rfl ⟨G0, (FR.rf (cs := []) (ss := []) (h := h0)), by omega, by omega⟩
  · rw [m_cmp_ge] at c1
    refine z_iconst (M := M_J13_compare_74951) 6 dJ13_compare_74951_6 ?_
    refine z_goto (M := M_J13_compare_74951) 7 dJ13_compare_74951_7 21 rfl ?_
    exact z_retI (M := M_J13_compare_74951) 21 dJ13_compare_74951_21 rfl ⟨G0, (FR.rf (cs := []) (ss := []) (h := h0)), by omega, by omega⟩
abbrev P_X11_quotient (h0 : m_H) (a0 a1 : Int) : Int → m_H → Prop := fun x h' => GI h' ∧ FR [] [] h0 h'
set_option maxHeartbeats 4000000 in
set_option maxRecDepth 100000 in
theorem c_X11_quotient (h0 : m_H) (a0 a1 : Int) (G0 : GI h0) : m_CJ M_X11_quotient [mJ a0, mJ a1] h0 (P_X11_quotient h0 a0 a1) := by
  refine m_CJ_of ⟨by decide, rfl, by simp [m_arg, m_isL, M_X11_quotient], ⟨rfl, rfl⟩, rfl, rfl⟩ (ls := [some (mJ a0), none, some (mJ a1), none]) rfl ?_
  refine z_lload_n (M := M_X11_quotient) 0 dX11_quotient_0 rfl ?_
  refine z_lconst (M := M_X11_quotient) 1 dX11_quotient_1 (v := 0) ?_
  refine z_lcmp (M := M_X11_quotient) 2 dX11_quotient_2 ?_
  refine z_if_ne (M := M_X11_quotient) 3 dX11_quotient_3 10 rfl (fun c1 => ?_) (fun c1 => ?_)
  · rw [m_cmp_eq] at c1
    refine z_lload_n (M := M_X11_quotient) 10 dX11_quotient_10 rfl ?_
    refine z_lload_n (M := M_X11_quotient) 11 dX11_quotient_11 rfl ?_
    refine z_ldiv (M := M_X11_quotient) 12 dX11_quotient_12 (by omega) ?_
    refine z_topJ (fun x2 ex2 => ?_)
    exact z_retJ (M := M_X11_quotient) 13 dX11_quotient_13 rfl ⟨G0, (FR.rf (cs := []) (ss := []) (h := h0))⟩
  · rw [m_cmp_eq] at c1
    refine z_lconst (M := M_X11_quotient) 6 dX11_quotient_6 (v := 0) ?_
    refine z_goto (M := M_X11_quotient) 7 dX11_quotient_7 13 rfl ?_
    exact z_retJ (M := M_X11_quotient) 13 dX11_quotient_13 rfl ⟨G0, (FR.rf (cs := []) (ss := []) (h := h0))⟩
abbrev P_X11_remainder (h0 : m_H) (a0 a1 : Int) : Int → m_H → Prop := fun x h' => GI h' ∧ FR [] [] h0 h'
set_option maxHeartbeats 4000000 in
set_option maxRecDepth 100000 in
theorem c_X11_remainder (h0 : m_H) (a0 a1 : Int) (G0 : GI h0) : m_CJ M_X11_remainder [mJ a0, mJ a1] h0 (P_X11_remainder h0 a0 a1) := by
  refine m_CJ_of ⟨by decide, rfl, by simp [m_arg, m_isL, M_X11_remainder], ⟨rfl, rfl⟩, rfl, rfl⟩ (ls := [some (mJ a0), none, some (mJ a1), none]) rfl ?_
  refine z_lload_n (M := M_X11_remainder) 0 dX11_remainder_0 rfl ?_
  refine z_lconst (M := M_X11_remainder) 1 dX11_remainder_1 (v := 0) ?_
  refine z_lcmp (M := M_X11_remainder) 2 dX11_remainder_2 ?_
  refine z_if_ne (M := M_X11_remainder) 3 dX11_remainder_3 10 rfl (fun c1 => ?_) (fun c1 => ?_)
  · rw [m_cmp_eq] at c1
    refine z_lload_n (M := M_X11_remainder) 10 dX11_remainder_10 rfl ?_
    refine z_lload_n (M := M_X11_remainder) 11 dX11_remainder_11 rfl ?_
    refine z_lrem (M := M_X11_remainder) 12 dX11_remainder_12 (by omega) ?_
    refine z_topJ (fun x2 ex2 => ?_)
    exact z_retJ (M := M_X11_remainder) 13 dX11_remainder_13 rfl ⟨G0, (FR.rf (cs := []) (ss := []) (h := h0))⟩
  · rw [m_cmp_eq] at c1
    refine z_lconst (M := M_X11_remainder) 6 dX11_remainder_6 (v := 0) ?_
    refine z_goto (M := M_X11_remainder) 7 dX11_remainder_7 13 rfl ?_
    exact z_retJ (M := M_X11_remainder) 13 dX11_remainder_13 rfl ⟨G0, (FR.rf (cs := []) (ss := []) (h := h0))⟩
abbrev P_X11_commonDivisor (h0 : m_H) (a0 a1 : Int) : Int → m_H → Prop := fun x h' => GI h' ∧ FR [] [] h0 h'
def q_X11_commonDivisor (h0 : m_H) (a0 a1 : Int) (n : Nat) : Prop := (∀ (l4 l6 l8 : Int) (h : m_H), GI h → FR [] [] h0 h → 0 ≤ l8 → l8 ≤ 200 → 2 * (200 - l8) + (1) ≤ (n : Int) → m_Z oF M_X11_commonDivisor 9 [none, none, none, none, some (mJ l4), none, some (mJ l6), none, some (mI l8), none, none] [] h (m_QJ (P_X11_commonDivisor h0 a0 a1)))
set_option maxHeartbeats 4000000 in
set_option maxRecDepth 100000 in
theorem s_X11_commonDivisor_9 (h0 : m_H) (a0 a1 : Int) (G0 : GI h0) (n : Nat) (ih : q_X11_commonDivisor h0 a0 a1 n) : ∀ (l4 l6 l8 : Int) (h : m_H), GI h → FR [] [] h0 h → 0 ≤ l8 → l8 ≤ 200 → 2 * (200 - l8) + (1) ≤ ((n + 1 : Nat) : Int) → m_Z oF M_X11_commonDivisor 9 [none, none, none, none, some (mJ l4), none, some (mJ l6), none, some (mI l8), none, none] [] h (m_QJ (P_X11_commonDivisor h0 a0 a1)) := by
  intro l4 l6 l8 h G R v0 v1 hr
  refine z_iload (M := M_X11_commonDivisor) 9 dX11_commonDivisor_9 rfl ?_
  refine z_sipush (M := M_X11_commonDivisor) 11 dX11_commonDivisor_11 ?_
  refine z_icmp_ge (M := M_X11_commonDivisor) 14 dX11_commonDivisor_14 45 rfl (fun c1 => ?_) (fun c1 => ?_)
  · refine z_lload (M := M_X11_commonDivisor) 45 dX11_commonDivisor_45 rfl ?_
    exact z_retJ (M := M_X11_commonDivisor) 47 dX11_commonDivisor_47 rfl ⟨G, R⟩
  · refine z_lload (M := M_X11_commonDivisor) 17 dX11_commonDivisor_17 rfl ?_
    refine z_lconst (M := M_X11_commonDivisor) 19 dX11_commonDivisor_19 (v := 0) ?_
    refine z_lcmp (M := M_X11_commonDivisor) 20 dX11_commonDivisor_20 ?_
    refine z_if_eq (M := M_X11_commonDivisor) 21 dX11_commonDivisor_21 45 rfl (fun c2 => ?_) (fun c2 => ?_)
    · rw [m_cmp_eq] at c2
      refine z_lload (M := M_X11_commonDivisor) 45 dX11_commonDivisor_45 rfl ?_
      exact z_retJ (M := M_X11_commonDivisor) 47 dX11_commonDivisor_47 rfl ⟨G, R⟩
    · rw [m_cmp_eq] at c2
      refine z_lload (M := M_X11_commonDivisor) 24 dX11_commonDivisor_24 rfl ?_
      refine z_lload (M := M_X11_commonDivisor) 26 dX11_commonDivisor_26 rfl ?_
      refine z_lrem (M := M_X11_commonDivisor) 28 dX11_commonDivisor_28 (by omega) ?_
      refine z_topJ (fun x3 ex3 => ?_)
      refine z_lstore (M := M_X11_commonDivisor) 29 dX11_commonDivisor_29 (ls' := [none, none, none, none, some (mJ l4), none, some (mJ l6), none, some (mI l8), some (mJ x3), none]) (by decide) rfl ?_
      refine z_lload (M := M_X11_commonDivisor) 31 dX11_commonDivisor_31 rfl ?_
      refine z_lstore (M := M_X11_commonDivisor) 33 dX11_commonDivisor_33 (ls' := [none, none, none, none, some (mJ l6), none, some (mJ l6), none, some (mI l8), some (mJ x3), none]) (by decide) rfl ?_
      refine z_lload (M := M_X11_commonDivisor) 35 dX11_commonDivisor_35 rfl ?_
      refine z_lstore (M := M_X11_commonDivisor) 37 dX11_commonDivisor_37 (ls' := [none, none, none, none, some (mJ l6), none, some (mJ x3), none, some (mI l8), some (mJ x3), none]) (by decide) rfl ?_
      refine z_iincN (M := M_X11_commonDivisor) 39 dX11_commonDivisor_39 (ls' := [none, none, none, none, some (mJ l6), none, some (mJ x3), none, some (mI (l8 + 1)), some (mJ x3), none]) (by decide) rfl (by (unfold m_32; decide)) (by omega) (by omega) rfl ?_
      refine z_goto (M := M_X11_commonDivisor) 42 dX11_commonDivisor_42 9 rfl ?_
      exact z_mask [false, false, false, false, true, false, true, false, true, false, false] rfl (ih l6 x3 (l8 + 1) h G R (by omega) (by omega) (by omega))
theorem a_X11_commonDivisor (h0 : m_H) (a0 a1 : Int) (G0 : GI h0) : ∀ n, q_X11_commonDivisor h0 a0 a1 n := by
  intro n
  induction n with
  | zero => unfold q_X11_commonDivisor; intros; omega
  | succ n ih => exact s_X11_commonDivisor_9 h0 a0 a1 G0 n ih
set_option maxHeartbeats 4000000 in
set_option maxRecDepth 100000 in
theorem c_X11_commonDivisor (h0 : m_H) (a0 a1 : Int) (G0 : GI h0) : m_CJ M_X11_commonDivisor [mJ a0, mJ a1] h0 (P_X11_commonDivisor h0 a0 a1) := by
  refine m_CJ_of ⟨by decide, rfl, by simp [m_arg, m_isL, M_X11_commonDivisor], ⟨rfl, rfl⟩, rfl, rfl⟩ (ls := [some (mJ a0), none, some (mJ a1), none, none, none, none, none, none, none, none]) rfl ?_
  have ih := a_X11_commonDivisor h0 a0 a1 G0 408
  refine z_lload_n (M := M_X11_commonDivisor) 0 dX11_commonDivisor_0 rfl ?_
  refine z_lstore (M := M_X11_commonDivisor) 1 dX11_commonDivisor_1 (ls' := [some (mJ a0), none, some (mJ a1), none, some (mJ a0), none, none, none, none, none, none]) (by decide) rfl ?_
  refine z_lload_n (M := M_X11_commonDivisor) 3 dX11_commonDivisor_3 rfl ?_
  refine z_lstore (M := M_X11_commonDivisor) 4 dX11_commonDivisor_4 (ls' := [some (mJ a0), none, some (mJ a1), none, some (mJ a0), none, some (mJ a1), none, none, none, none]) (by decide) rfl ?_
  refine z_iconst (M := M_X11_commonDivisor) 6 dX11_commonDivisor_6 ?_
  refine z_istore (M := M_X11_commonDivisor) 7 dX11_commonDivisor_7 (ls' := [some (mJ a0), none, some (mJ a1), none, some (mJ a0), none, some (mJ a1), none, some (mI 0), none, none]) (by decide) rfl ?_
  exact z_mask [false, false, false, false, true, false, true, false, true, false, false] rfl (ih a0 a1 0 h0 G0 (FR.rf (cs := []) (ss := []) (h := h0)) (by omega) (by omega) (by omega))
abbrev P_X11_compareFractions (h0 : m_H) (a0 a1 a2 a3 : Int) : Int → m_H → Prop := fun x h' => GI h' ∧ FR [] [] h0 h'
def q_X11_compareFractions (h0 : m_H) (a0 a1 a2 a3 : Int) (n : Nat) : Prop := (∀ (l8 l10 l12 l14 l16 l17 : Int) (h : m_H), GI h → FR [] [] h0 h → (-1) ≤ l16 → l16 ≤ 1 → 0 ≤ l17 → l17 ≤ 200 → 2 * (200 - l17) + (1) ≤ (n : Int) → m_Z oF M_X11_compareFractions 20 [none, none, none, none, none, none, none, none, some (mJ l8), none, some (mJ l10), none, some (mJ l12), none, some (mJ l14), none, some (mI l16), some (mI l17), none, none, none, none, none] [] h (m_QI (P_X11_compareFractions h0 a0 a1 a2 a3)))
set_option maxHeartbeats 4000000 in
set_option maxRecDepth 100000 in
theorem s_X11_compareFractions_20 (h0 : m_H) (a0 a1 a2 a3 : Int) (G0 : GI h0) (n : Nat) (ih : q_X11_compareFractions h0 a0 a1 a2 a3 n) : ∀ (l8 l10 l12 l14 l16 l17 : Int) (h : m_H), GI h → FR [] [] h0 h → (-1) ≤ l16 → l16 ≤ 1 → 0 ≤ l17 → l17 ≤ 200 → 2 * (200 - l17) + (1) ≤ ((n + 1 : Nat) : Int) → m_Z oF M_X11_compareFractions 20 [none, none, none, none, none, none, none, none, some (mJ l8), none, some (mJ l10), none, some (mJ l12), none, some (mJ l14), none, some (mI l16), some (mI l17), none, none, none, none, none] [] h (m_QI (P_X11_compareFractions h0 a0 a1 a2 a3)) := by
  intro l8 l10 l12 l14 l16 l17 h G R v0 v1 v2 v3 hr
  refine z_iload (M := M_X11_compareFractions) 20 dX11_compareFractions_20 rfl ?_
  refine z_sipush (M := M_X11_compareFractions) 22 dX11_compareFractions_22 ?_
  refine z_icmp_ge (M := M_X11_compareFractions) 25 dX11_compareFractions_25 134 rfl (fun c1 => ?_) (fun c1 => ?_)
  · refine z_iconst (M := M_X11_compareFractions) 134 dX11_compareFractions_134 ?_
    exact z_retI (M := M_X11_compareFractions) 135 dX11_compareFractions_135 rfl ⟨G, R⟩
  · refine z_lload (M := M_X11_compareFractions) 28 dX11_compareFractions_28 rfl ?_
    refine z_lconst (M := M_X11_compareFractions) 30 dX11_compareFractions_30 (v := 0) ?_
    refine z_lcmp (M := M_X11_compareFractions) 31 dX11_compareFractions_31 ?_
    refine z_if_le (M := M_X11_compareFractions) 32 dX11_compareFractions_32 134 rfl (fun c2 => ?_) (fun c2 => ?_)
    · rw [m_cmp_le] at c2
      refine z_iconst (M := M_X11_compareFractions) 134 dX11_compareFractions_134 ?_
      exact z_retI (M := M_X11_compareFractions) 135 dX11_compareFractions_135 rfl ⟨G, R⟩
    · rw [m_cmp_le] at c2
      refine z_lload (M := M_X11_compareFractions) 35 dX11_compareFractions_35 rfl ?_
      refine z_lconst (M := M_X11_compareFractions) 37 dX11_compareFractions_37 (v := 0) ?_
      refine z_lcmp (M := M_X11_compareFractions) 38 dX11_compareFractions_38 ?_
      refine z_if_le (M := M_X11_compareFractions) 39 dX11_compareFractions_39 134 rfl (fun c3 => ?_) (fun c3 => ?_)
      · rw [m_cmp_le] at c3
        refine z_iconst (M := M_X11_compareFractions) 134 dX11_compareFractions_134 ?_
        exact z_retI (M := M_X11_compareFractions) 135 dX11_compareFractions_135 rfl ⟨G, R⟩
      · rw [m_cmp_le] at c3
        refine z_lload (M := M_X11_compareFractions) 42 dX11_compareFractions_42 rfl ?_
        refine z_lload (M := M_X11_compareFractions) 44 dX11_compareFractions_44 rfl ?_
        refine z_ldiv (M := M_X11_compareFractions) 46 dX11_compareFractions_46 (by omega) ?_
        refine z_topJ (fun x4 ex4 => ?_)
        refine z_lload (M := M_X11_compareFractions) 47 dX11_compareFractions_47 rfl ?_
        refine z_lload (M := M_X11_compareFractions) 49 dX11_compareFractions_49 rfl ?_
        refine z_ldiv (M := M_X11_compareFractions) 51 dX11_compareFractions_51 (by omega) ?_
        refine z_topJ (fun x5 ex5 => ?_)
        refine z_sI (M := M_X11_compareFractions) 52 dX11_compareFractions_52 t_J13_compare_74951 l_X11_443 (m_rr_of rfl) (rest := []) (c_J13_compare_74951 h x4 x5 G) rfl rfl (Nat.le_of_ble_eq_true rfl) ⟨rfl, rfl⟩ (fun x6 h1 qx6 => ?_)
        obtain ⟨G1, S1, ax6, bx6⟩ := qx6
        have R1 := R.call S1 (by decide +kernel)
        refine z_istore (M := M_X11_compareFractions) 55 dX11_compareFractions_55 (ls' := [none, none, none, none, none, none, none, none, some (mJ l8), none, some (mJ l10), none, some (mJ l12), none, some (mJ l14), none, some (mI l16), some (mI l17), some (mI x6), none, none, none, none]) (by decide) rfl ?_
        refine z_lload (M := M_X11_compareFractions) 57 dX11_compareFractions_57 rfl ?_
        refine z_lload (M := M_X11_compareFractions) 59 dX11_compareFractions_59 rfl ?_
        refine z_lrem (M := M_X11_compareFractions) 61 dX11_compareFractions_61 (by omega) ?_
        refine z_topJ (fun x7 ex7 => ?_)
        refine z_lstore (M := M_X11_compareFractions) 62 dX11_compareFractions_62 (ls' := [none, none, none, none, none, none, none, none, some (mJ l8), none, some (mJ l10), none, some (mJ l12), none, some (mJ l14), none, some (mI l16), some (mI l17), some (mI x6), some (mJ x7), none, none, none]) (by decide) rfl ?_
        refine z_lload (M := M_X11_compareFractions) 64 dX11_compareFractions_64 rfl ?_
        refine z_lload (M := M_X11_compareFractions) 66 dX11_compareFractions_66 rfl ?_
        refine z_lrem (M := M_X11_compareFractions) 68 dX11_compareFractions_68 (by omega) ?_
        refine z_topJ (fun x8 ex8 => ?_)
        refine z_lstore (M := M_X11_compareFractions) 69 dX11_compareFractions_69 (ls' := [none, none, none, none, none, none, none, none, some (mJ l8), none, some (mJ l10), none, some (mJ l12), none, some (mJ l14), none, some (mI l16), some (mI l17), some (mI x6), some (mJ x7), none, some (mJ x8), none]) (by decide) rfl ?_
        refine z_iload (M := M_X11_compareFractions) 71 dX11_compareFractions_71 rfl ?_
        refine z_if_eq (M := M_X11_compareFractions) 73 dX11_compareFractions_73 82 rfl (fun c9 => ?_) (fun c9 => ?_)
        · refine z_lload (M := M_X11_compareFractions) 82 dX11_compareFractions_82 rfl ?_
          refine z_lconst (M := M_X11_compareFractions) 84 dX11_compareFractions_84 (v := 0) ?_
          refine z_lcmp (M := M_X11_compareFractions) 85 dX11_compareFractions_85 ?_
          refine z_if_eq (M := M_X11_compareFractions) 86 dX11_compareFractions_86 96 rfl (fun c10 => ?_) (fun c10 => ?_)
          · rw [m_cmp_eq] at c10
            refine z_iload (M := M_X11_compareFractions) 96 dX11_compareFractions_96 rfl ?_
            refine z_lload (M := M_X11_compareFractions) 98 dX11_compareFractions_98 rfl ?_
            refine z_lload (M := M_X11_compareFractions) 100 dX11_compareFractions_100 rfl ?_
            refine z_sI (M := M_X11_compareFractions) 102 dX11_compareFractions_102 t_J13_compare_74951 l_X11_443 (m_rr_of rfl) (rest := [mI l16]) (c_J13_compare_74951 h1 x7 x8 G1) rfl rfl (Nat.le_of_ble_eq_true rfl) ⟨rfl, rfl⟩ (fun x11 h2 qx11 => ?_)
            obtain ⟨G2, S2, ax11, bx11⟩ := qx11
            have R2 := R1.call S2 (by decide +kernel)
            refine z_imul (M := M_X11_compareFractions) 105 dX11_compareFractions_105 ?_
            refine z_topm (fun x12 ex12 ox12 => ?_)
            unfold m_32 at ox12
            exact z_retI (M := M_X11_compareFractions) 106 dX11_compareFractions_106 rfl ⟨G2, R2⟩
          · rw [m_cmp_eq] at c10
            refine z_lload (M := M_X11_compareFractions) 89 dX11_compareFractions_89 rfl ?_
            refine z_lconst (M := M_X11_compareFractions) 91 dX11_compareFractions_91 (v := 0) ?_
            refine z_lcmp (M := M_X11_compareFractions) 92 dX11_compareFractions_92 ?_
            refine z_if_ne (M := M_X11_compareFractions) 93 dX11_compareFractions_93 107 rfl (fun c13 => ?_) (fun c13 => ?_)
            · rw [m_cmp_eq] at c13
              refine z_lload (M := M_X11_compareFractions) 107 dX11_compareFractions_107 rfl ?_
              refine z_lstore (M := M_X11_compareFractions) 109 dX11_compareFractions_109 (ls' := [none, none, none, none, none, none, none, none, some (mJ l10), none, some (mJ l10), none, some (mJ l12), none, some (mJ l14), none, some (mI l16), some (mI l17), some (mI x6), some (mJ x7), none, some (mJ x8), none]) (by decide) rfl ?_
              refine z_lload (M := M_X11_compareFractions) 111 dX11_compareFractions_111 rfl ?_
              refine z_lstore (M := M_X11_compareFractions) 113 dX11_compareFractions_113 (ls' := [none, none, none, none, none, none, none, none, some (mJ l10), none, some (mJ l10), none, some (mJ l14), none, some (mJ l14), none, some (mI l16), some (mI l17), some (mI x6), some (mJ x7), none, some (mJ x8), none]) (by decide) rfl ?_
              refine z_lload (M := M_X11_compareFractions) 115 dX11_compareFractions_115 rfl ?_
              refine z_lstore (M := M_X11_compareFractions) 117 dX11_compareFractions_117 (ls' := [none, none, none, none, none, none, none, none, some (mJ l10), none, some (mJ x7), none, some (mJ l14), none, some (mJ l14), none, some (mI l16), some (mI l17), some (mI x6), some (mJ x7), none, some (mJ x8), none]) (by decide) rfl ?_
              refine z_lload (M := M_X11_compareFractions) 119 dX11_compareFractions_119 rfl ?_
              refine z_lstore (M := M_X11_compareFractions) 121 dX11_compareFractions_121 (ls' := [none, none, none, none, none, none, none, none, some (mJ l10), none, some (mJ x7), none, some (mJ l14), none, some (mJ x8), none, some (mI l16), some (mI l17), some (mI x6), some (mJ x7), none, some (mJ x8), none]) (by decide) rfl ?_
              refine z_iload (M := M_X11_compareFractions) 123 dX11_compareFractions_123 rfl ?_
              refine z_inegN (M := M_X11_compareFractions) 125 dX11_compareFractions_125 (by omega) (by omega) ?_
              refine z_istore (M := M_X11_compareFractions) 126 dX11_compareFractions_126 (ls' := [none, none, none, none, none, none, none, none, some (mJ l10), none, some (mJ x7), none, some (mJ l14), none, some (mJ x8), none, some (mI (-l16)), some (mI l17), some (mI x6), some (mJ x7), none, some (mJ x8), none]) (by decide) rfl ?_
              refine z_iincN (M := M_X11_compareFractions) 128 dX11_compareFractions_128 (ls' := [none, none, none, none, none, none, none, none, some (mJ l10), none, some (mJ x7), none, some (mJ l14), none, some (mJ x8), none, some (mI (-l16)), some (mI (l17 + 1)), some (mI x6), some (mJ x7), none, some (mJ x8), none]) (by decide) rfl (by (unfold m_32; decide)) (by omega) (by omega) rfl ?_
              refine z_goto (M := M_X11_compareFractions) 131 dX11_compareFractions_131 20 rfl ?_
              exact z_mask [false, false, false, false, false, false, false, false, true, false, true, false, true, false, true, false, true, true, false, false, false, false, false] rfl (ih l10 x7 l14 x8 (-l16) (l17 + 1) h1 G1 R1 (by omega) (by omega) (by omega) (by omega) (by omega))
            · rw [m_cmp_eq] at c13
              refine z_iload (M := M_X11_compareFractions) 96 dX11_compareFractions_96 rfl ?_
              refine z_lload (M := M_X11_compareFractions) 98 dX11_compareFractions_98 rfl ?_
              refine z_lload (M := M_X11_compareFractions) 100 dX11_compareFractions_100 rfl ?_
              refine z_sI (M := M_X11_compareFractions) 102 dX11_compareFractions_102 t_J13_compare_74951 l_X11_443 (m_rr_of rfl) (rest := [mI l16]) (c_J13_compare_74951 h1 x7 x8 G1) rfl rfl (Nat.le_of_ble_eq_true rfl) ⟨rfl, rfl⟩ (fun x14 h3 qx14 => ?_)
              obtain ⟨G3, S3, ax14, bx14⟩ := qx14
              have R3 := R1.call S3 (by decide +kernel)
              refine z_imul (M := M_X11_compareFractions) 105 dX11_compareFractions_105 ?_
              refine z_topm (fun x15 ex15 ox15 => ?_)
              unfold m_32 at ox15
              exact z_retI (M := M_X11_compareFractions) 106 dX11_compareFractions_106 rfl ⟨G3, R3⟩
        · refine z_iload (M := M_X11_compareFractions) 76 dX11_compareFractions_76 rfl ?_
          refine z_iload (M := M_X11_compareFractions) 78 dX11_compareFractions_78 rfl ?_
          refine z_imul (M := M_X11_compareFractions) 80 dX11_compareFractions_80 ?_
          refine z_topm (fun x16 ex16 ox16 => ?_)
          unfold m_32 at ox16
          exact z_retI (M := M_X11_compareFractions) 81 dX11_compareFractions_81 rfl ⟨G1, R1⟩
theorem a_X11_compareFractions (h0 : m_H) (a0 a1 a2 a3 : Int) (G0 : GI h0) : ∀ n, q_X11_compareFractions h0 a0 a1 a2 a3 n := by
  intro n
  induction n with
  | zero => unfold q_X11_compareFractions; intros; omega
  | succ n ih => exact s_X11_compareFractions_20 h0 a0 a1 a2 a3 G0 n ih
set_option maxHeartbeats 4000000 in
set_option maxRecDepth 100000 in
theorem c_X11_compareFractions (h0 : m_H) (a0 a1 a2 a3 : Int) (G0 : GI h0) : m_CI M_X11_compareFractions [mJ a0, mJ a1, mJ a2, mJ a3] h0 (P_X11_compareFractions h0 a0 a1 a2 a3) := by
  refine m_CI_of ⟨by decide, rfl, by simp [m_arg, m_isL, M_X11_compareFractions], ⟨rfl, rfl⟩, rfl, rfl⟩ (ls := [some (mJ a0), none, some (mJ a1), none, some (mJ a2), none, some (mJ a3), none, none, none, none, none, none, none, none, none, none, none, none, none, none, none, none]) rfl ?_
  have ih := a_X11_compareFractions h0 a0 a1 a2 a3 G0 408
  refine z_lload_n (M := M_X11_compareFractions) 0 dX11_compareFractions_0 rfl ?_
  refine z_lstore (M := M_X11_compareFractions) 1 dX11_compareFractions_1 (ls' := [some (mJ a0), none, some (mJ a1), none, some (mJ a2), none, some (mJ a3), none, some (mJ a0), none, none, none, none, none, none, none, none, none, none, none, none, none, none]) (by decide) rfl ?_
  refine z_lload_n (M := M_X11_compareFractions) 3 dX11_compareFractions_3 rfl ?_
  refine z_lstore (M := M_X11_compareFractions) 4 dX11_compareFractions_4 (ls' := [some (mJ a0), none, some (mJ a1), none, some (mJ a2), none, some (mJ a3), none, some (mJ a0), none, some (mJ a1), none, none, none, none, none, none, none, none, none, none, none, none]) (by decide) rfl ?_
  refine z_lload (M := M_X11_compareFractions) 6 dX11_compareFractions_6 rfl ?_
  refine z_lstore (M := M_X11_compareFractions) 8 dX11_compareFractions_8 (ls' := [some (mJ a0), none, some (mJ a1), none, some (mJ a2), none, some (mJ a3), none, some (mJ a0), none, some (mJ a1), none, some (mJ a2), none, none, none, none, none, none, none, none, none, none]) (by decide) rfl ?_
  refine z_lload (M := M_X11_compareFractions) 10 dX11_compareFractions_10 rfl ?_
  refine z_lstore (M := M_X11_compareFractions) 12 dX11_compareFractions_12 (ls' := [some (mJ a0), none, some (mJ a1), none, some (mJ a2), none, some (mJ a3), none, some (mJ a0), none, some (mJ a1), none, some (mJ a2), none, some (mJ a3), none, none, none, none, none, none, none, none]) (by decide) rfl ?_
  refine z_iconst (M := M_X11_compareFractions) 14 dX11_compareFractions_14 ?_
  refine z_istore (M := M_X11_compareFractions) 15 dX11_compareFractions_15 (ls' := [some (mJ a0), none, some (mJ a1), none, some (mJ a2), none, some (mJ a3), none, some (mJ a0), none, some (mJ a1), none, some (mJ a2), none, some (mJ a3), none, some (mI 1), none, none, none, none, none, none]) (by decide) rfl ?_
  refine z_iconst (M := M_X11_compareFractions) 17 dX11_compareFractions_17 ?_
  refine z_istore (M := M_X11_compareFractions) 18 dX11_compareFractions_18 (ls' := [some (mJ a0), none, some (mJ a1), none, some (mJ a2), none, some (mJ a3), none, some (mJ a0), none, some (mJ a1), none, some (mJ a2), none, some (mJ a3), none, some (mI 1), some (mI 0), none, none, none, none, none]) (by decide) rfl ?_
  exact z_mask [false, false, false, false, false, false, false, false, true, false, true, false, true, false, true, false, true, true, false, false, false, false, false] rfl (ih a0 a1 a2 a3 1 0 h0 G0 (FR.rf (cs := []) (ss := []) (h := h0)) (by omega) (by omega) (by omega) (by omega) (by omega))
abbrev P_X11_atMost (h0 : m_H) (a0 a1 : Int) : Int → m_H → Prop := fun x h' => GI h' ∧ FR [] [] h0 h'
set_option maxHeartbeats 4000000 in
set_option maxRecDepth 100000 in
theorem c_X11_atMost (h0 : m_H) (a0 a1 : Int) (G0 : GI h0) : m_CI M_X11_atMost [mJ a0, mJ a1] h0 (P_X11_atMost h0 a0 a1) := by
  refine m_CI_of ⟨by decide, rfl, by simp [m_arg, m_isL, M_X11_atMost], ⟨rfl, rfl⟩, rfl, rfl⟩ (ls := [some (mJ a0), none, some (mJ a1), none]) rfl ?_
  refine z_lload_n (M := M_X11_atMost) 0 dX11_atMost_0 rfl ?_
  refine z_lload_n (M := M_X11_atMost) 1 dX11_atMost_1 rfl ?_
  refine z_minJ (M := M_X11_atMost) 2 dX11_atMost_2 ml_X11_438 (rest := []) (Nat.le_of_ble_eq_true rfl) (Nat.le_of_ble_eq_true rfl) ?_
  refine z_topJ (fun x1 ex1 => ?_)
  refine z_l2i (M := M_X11_atMost) 5 dX11_atMost_5 ?_
  refine z_topm (fun x2 ex2 ox2 => ?_)
  unfold m_32 at ox2
  exact z_retI (M := M_X11_atMost) 6 dX11_atMost_6 rfl ⟨G0, (FR.rf (cs := []) (ss := []) (h := h0))⟩
abbrev P_X11_ofWeeks (h0 : m_H) (a0 a1 : Int) : Int → m_H → Prop := fun x h' => GI h' ∧ FR [] [] h0 h' ∧ (-1) ≤ x ∧ x ≤ 63
def q_X11_ofWeeks (h0 : m_H) (a0 a1 : Int) (n : Nat) : Prop := (∀ (l2 l3 : Int) (h : m_H), GI h → FR [] [] h0 h → (-1) ≤ l2 → l2 ≤ 31 → 0 ≤ l3 → l3 ≤ 32 → (-2147483648) ≤ a0 → a0 ≤ 2147483647 → (-2147483648) ≤ a1 → a1 ≤ 2147483647 → 2 * (32 - l3) + (1) ≤ (n : Int) → m_Z oF M_X11_ofWeeks 13 [some (mI a0), some (mI a1), some (mI l2), some (mI l3)] [] h (m_QI (P_X11_ofWeeks h0 a0 a1)))
set_option maxHeartbeats 4000000 in
set_option maxRecDepth 100000 in
theorem s_X11_ofWeeks_13 (h0 : m_H) (a0 a1 : Int) (G0 : GI h0) (n : Nat) (ih : q_X11_ofWeeks h0 a0 a1 n) : ∀ (l2 l3 : Int) (h : m_H), GI h → FR [] [] h0 h → (-1) ≤ l2 → l2 ≤ 31 → 0 ≤ l3 → l3 ≤ 32 → (-2147483648) ≤ a0 → a0 ≤ 2147483647 → (-2147483648) ≤ a1 → a1 ≤ 2147483647 → 2 * (32 - l3) + (1) ≤ ((n + 1 : Nat) : Int) → m_Z oF M_X11_ofWeeks 13 [some (mI a0), some (mI a1), some (mI l2), some (mI l3)] [] h (m_QI (P_X11_ofWeeks h0 a0 a1)) := by
  intro l2 l3 h G R v0 v1 v2 v3 v4 v5 v6 v7 hr
  refine z_iload_n (M := M_X11_ofWeeks) 13 dX11_ofWeeks_13 rfl ?_
  refine z_bipush (M := M_X11_ofWeeks) 14 dX11_ofWeeks_14 ?_
  refine z_icmp_ge (M := M_X11_ofWeeks) 16 dX11_ofWeeks_16 43 rfl (fun c1 => ?_) (fun c1 => ?_)
  · refine z_iload_n (M := M_X11_ofWeeks) 43 dX11_ofWeeks_43 rfl ?_
    exact z_retI (M := M_X11_ofWeeks) 44 dX11_ofWeeks_44 rfl ⟨G, R, by omega, by omega⟩
  · refine z_iload_n (M := M_X11_ofWeeks) 19 dX11_ofWeeks_19 rfl ?_
    refine z_iload_n (M := M_X11_ofWeeks) 20 dX11_ofWeeks_20 rfl ?_
    refine z_sI (M := M_X11_ofWeeks) 21 dX11_ofWeeks_21 t_X11_hasBit l_X11_435 (m_rr_of rfl) (rest := []) (c_X11_hasBit h a0 l3 G) rfl rfl (Nat.le_of_ble_eq_true rfl) ⟨rfl, rfl⟩ (fun x2 h1 qx2 => ?_)
    obtain ⟨rfl, ⟨rfl, cx2⟩ | ⟨rfl, cx2⟩⟩ := qx2
    · refine z_if_eq_F (M := M_X11_ofWeeks) 24 dX11_ofWeeks_24 37 rfl (by omega) ?_
      refine z_iload_n (M := M_X11_ofWeeks) 27 dX11_ofWeeks_27 rfl ?_
      refine z_istore_n (M := M_X11_ofWeeks) 28 dX11_ofWeeks_28 (ls' := [some (mI a0), some (mI a1), some (mI l3), some (mI l3)]) (by decide) rfl ?_
      refine z_iload_n (M := M_X11_ofWeeks) 29 dX11_ofWeeks_29 rfl ?_
      refine z_iconst (M := M_X11_ofWeeks) 30 dX11_ofWeeks_30 ?_
      refine z_icmp_ne (M := M_X11_ofWeeks) 31 dX11_ofWeeks_31 37 rfl (fun c3 => ?_) (fun c3 => ?_)
      · refine z_iincN (M := M_X11_ofWeeks) 37 dX11_ofWeeks_37 (ls' := [some (mI a0), some (mI a1), some (mI l3), some (mI (l3 + 1))]) (by decide) rfl (by (unfold m_32; decide)) (by omega) (by omega) rfl ?_
        refine z_goto (M := M_X11_ofWeeks) 40 dX11_ofWeeks_40 13 rfl ?_
        exact z_mask [true, true, true, true] rfl (ih l3 (l3 + 1) h G R (by omega) (by omega) (by omega) (by omega) (by omega) (by omega) (by omega) (by omega) (by omega))
      · refine z_goto (M := M_X11_ofWeeks) 34 dX11_ofWeeks_34 43 rfl ?_
        refine z_iload_n (M := M_X11_ofWeeks) 43 dX11_ofWeeks_43 rfl ?_
        exact z_retI (M := M_X11_ofWeeks) 44 dX11_ofWeeks_44 rfl ⟨G, R, by omega, by omega⟩
    · refine z_if_eq_T (M := M_X11_ofWeeks) 24 dX11_ofWeeks_24 37 rfl (by omega) ?_
      refine z_iincN (M := M_X11_ofWeeks) 37 dX11_ofWeeks_37 (ls' := [some (mI a0), some (mI a1), some (mI l2), some (mI (l3 + 1))]) (by decide) rfl (by (unfold m_32; decide)) (by omega) (by omega) rfl ?_
      refine z_goto (M := M_X11_ofWeeks) 40 dX11_ofWeeks_40 13 rfl ?_
      exact z_mask [true, true, true, true] rfl (ih l2 (l3 + 1) h G R (by omega) (by omega) (by omega) (by omega) (by omega) (by omega) (by omega) (by omega) (by omega))
theorem a_X11_ofWeeks (h0 : m_H) (a0 a1 : Int) (G0 : GI h0) : ∀ n, q_X11_ofWeeks h0 a0 a1 n := by
  intro n
  induction n with
  | zero => unfold q_X11_ofWeeks; intros; omega
  | succ n ih => exact s_X11_ofWeeks_13 h0 a0 a1 G0 n ih
set_option maxHeartbeats 4000000 in
set_option maxRecDepth 100000 in
theorem c_X11_ofWeeks (h0 : m_H) (a0 a1 : Int) (G0 : GI h0) : m_CI M_X11_ofWeeks [mI a0, mI a1] h0 (P_X11_ofWeeks h0 a0 a1) := by
  refine m_CI_of ⟨by decide, rfl, by simp [m_arg, m_isL, M_X11_ofWeeks], ⟨rfl, rfl⟩, rfl, rfl⟩ (ls := [some (mI a0), some (mI a1), none, none]) rfl ?_
  have ih := a_X11_ofWeeks h0 a0 a1 G0 72
  refine z_ok (fun _ _ ok => ?_)
  have oa0 : m_32 a0 := ok 0 _ rfl
  unfold m_32 at oa0
  have oa1 : m_32 a1 := ok 1 _ rfl
  unfold m_32 at oa1
  refine z_iload_n (M := M_X11_ofWeeks) 0 dX11_ofWeeks_0 rfl ?_
  refine z_if_ne (M := M_X11_ofWeeks) 1 dX11_ofWeeks_1 9 rfl (fun c1 => ?_) (fun c1 => ?_)
  · refine z_iconst (M := M_X11_ofWeeks) 9 dX11_ofWeeks_9 ?_
    refine z_istore_n (M := M_X11_ofWeeks) 10 dX11_ofWeeks_10 (ls' := [some (mI a0), some (mI a1), some (mI (-1)), none]) (by decide) rfl ?_
    refine z_iconst (M := M_X11_ofWeeks) 11 dX11_ofWeeks_11 ?_
    refine z_istore_n (M := M_X11_ofWeeks) 12 dX11_ofWeeks_12 (ls' := [some (mI a0), some (mI a1), some (mI (-1)), some (mI 0)]) (by decide) rfl ?_
    exact z_mask [true, true, true, true] rfl (ih (-1) 0 h0 G0 (FR.rf (cs := []) (ss := []) (h := h0)) (by omega) (by omega) (by omega) (by omega) (by omega) (by omega) (by omega) (by omega) (by omega))
  · refine z_iload_n (M := M_X11_ofWeeks) 4 dX11_ofWeeks_4 rfl ?_
    refine z_sI (M := M_X11_ofWeeks) 5 dX11_ofWeeks_5 t_J6_bitCount_0f7a4 l_X11_415 (m_rr_of rfl) (rest := []) (c_J6_bitCount_0f7a4 h0 a0 G0) rfl rfl (Nat.le_of_ble_eq_true rfl) ⟨rfl, rfl⟩ (fun x2 h1 qx2 => ?_)
    obtain ⟨G1, S1, ax2, bx2⟩ := qx2
    have R1 := (FR.rf (cs := []) (ss := []) (h := h0)).call S1 (by decide +kernel)
    exact z_retI (M := M_X11_ofWeeks) 8 dX11_ofWeeks_8 rfl ⟨G1, R1, by omega, by omega⟩
abbrev P_X2_clear (h0 : m_H) (b : Nat) : m_H → Prop := fun h' => GI h' ∧ FR (csB ++ []) [] h0 h'
set_option maxHeartbeats 4000000 in
set_option maxRecDepth 100000 in
theorem c_X2_clear (h0 : m_H) (b : Nat) (hb : isB b) (G0 : GI h0) : m_CV M_X2_clear [mR b] h0 (P_X2_clear h0 b) := by
  refine m_CV_of ⟨by decide, rfl, by simp [m_arg, m_isL, M_X2_clear], ⟨rfl, rfl⟩, rfl, rfl⟩ (ls := [some (mR b)]) rfl ?_
  refine z_aload_n (M := M_X2_clear) 0 dX2_clear_0 rfl ?_
  refine z_lconst (M := M_X2_clear) 1 dX2_clear_1 (v := 1) ?_
  refine z_putJH (M := M_X2_clear) 2 dX2_clear_2 p_X2_7 (oB hb) rfl (uB0 hb G0) ((FR.rf (cs := (csB ++ [])) (ss := []) (h := h0)).up (frB hb)) (fun h1 E1 G1 R1 => ?_)
  refine z_aload_n (M := M_X2_clear) 5 dX2_clear_5 rfl ?_
  refine z_lconst (M := M_X2_clear) 6 dX2_clear_6 (v := 0) ?_
  refine z_putJH (M := M_X2_clear) 7 dX2_clear_7 p_X2_13 (oB hb) rfl (uB1 hb G1) (R1.up (frB hb)) (fun h2 E2 G2 R2 => ?_)
  refine z_aload_n (M := M_X2_clear) 10 dX2_clear_10 rfl ?_
  refine z_iconst (M := M_X2_clear) 11 dX2_clear_11 ?_
  refine z_putZH (M := M_X2_clear) 12 dX2_clear_12 p_X2_16 (oB hb) rfl (by omega) (uB2 hb G2 (by omega) (by omega)) (R2.up (frB hb)) (fun h3 E3 G3 R3 => ?_)
  exact z_retV (M := M_X2_clear) 15 dX2_clear_15 rfl ⟨G3, R3⟩
abbrev P_X2_put (h0 : m_H) (b : Nat) (a1 a2 a3 : Int) : m_H → Prop := fun h' => GI h' ∧ FR (csB ++ []) [] h0 h'
set_option maxHeartbeats 4000000 in
set_option maxRecDepth 100000 in
theorem c_X2_put (h0 : m_H) (b : Nat) (a1 a2 a3 : Int) (hb : isB b) (G0 : GI h0) (pa3 : 0 ≤ a3 ∧ a3 ≤ 1) : m_CV M_X2_put [mR b, mJ a1, mJ a2, mI a3] h0 (P_X2_put h0 b a1 a2 a3) := by
  refine m_CV_of ⟨by decide, rfl, by simp [m_arg, m_isL, M_X2_put], ⟨rfl, rfl⟩, rfl, rfl⟩ (ls := [some (mR b), some (mJ a1), none, some (mJ a2), none, some (mI a3)]) rfl ?_
  refine z_aload_n (M := M_X2_put) 0 dX2_put_0 rfl ?_
  refine z_lload_n (M := M_X2_put) 1 dX2_put_1 rfl ?_
  refine z_putJH (M := M_X2_put) 2 dX2_put_2 p_X2_7 (oB hb) rfl (uB0 hb G0) ((FR.rf (cs := (csB ++ [])) (ss := []) (h := h0)).up (frB hb)) (fun h1 E1 G1 R1 => ?_)
  refine z_aload_n (M := M_X2_put) 5 dX2_put_5 rfl ?_
  refine z_lload_n (M := M_X2_put) 6 dX2_put_6 rfl ?_
  refine z_putJH (M := M_X2_put) 7 dX2_put_7 p_X2_13 (oB hb) rfl (uB1 hb G1) (R1.up (frB hb)) (fun h2 E2 G2 R2 => ?_)
  refine z_aload_n (M := M_X2_put) 10 dX2_put_10 rfl ?_
  refine z_iload (M := M_X2_put) 11 dX2_put_11 rfl ?_
  refine z_putZH (M := M_X2_put) 13 dX2_put_13 p_X2_16 (oB hb) rfl (by omega) (uB2 hb G2 (by omega) (by omega)) (R2.up (frB hb)) (fun h3 E3 G3 R3 => ?_)
  exact z_retV (M := M_X2_put) 16 dX2_put_16 rfl ⟨G3, R3⟩
abbrev P_X2_lessen (h0 : m_H) (b : Nat) (a1 a2 a3 : Int) : m_H → Prop := fun h' => GI h' ∧ FR (csB ++ []) [] h0 h'
set_option maxHeartbeats 4000000 in
set_option maxRecDepth 100000 in
theorem c_X2_lessen (h0 : m_H) (b : Nat) (a1 a2 a3 : Int) (hb : isB b) (G0 : GI h0) (pa3 : 0 ≤ a3 ∧ a3 ≤ 1) : m_CV M_X2_lessen [mR b, mJ a1, mJ a2, mI a3] h0 (P_X2_lessen h0 b a1 a2 a3) := by
  refine m_CV_of ⟨by decide, rfl, by simp [m_arg, m_isL, M_X2_lessen], ⟨rfl, rfl⟩, rfl, rfl⟩ (ls := [some (mR b), some (mJ a1), none, some (mJ a2), none, some (mI a3), none, none, none, none]) rfl ?_
  refine z_aload_n (M := M_X2_lessen) 0 dX2_lessen_0 rfl ?_
  refine z_getJV (M := M_X2_lessen) 1 dX2_lessen_1 f_X2_7 (oB hb) rfl (fun x1 ex1 => ?_)
  refine z_lload_n (M := M_X2_lessen) 4 dX2_lessen_4 rfl ?_
  refine z_lmul (M := M_X2_lessen) 5 dX2_lessen_5 ?_
  refine z_topJ (fun x2 ex2 => ?_)
  refine z_lstore (M := M_X2_lessen) 6 dX2_lessen_6 (ls' := [some (mR b), some (mJ a1), none, some (mJ a2), none, some (mI a3), some (mJ x2), none, none, none]) (by decide) rfl ?_
  refine z_lload_n (M := M_X2_lessen) 8 dX2_lessen_8 rfl ?_
  refine z_aload_n (M := M_X2_lessen) 9 dX2_lessen_9 rfl ?_
  refine z_getJV (M := M_X2_lessen) 10 dX2_lessen_10 f_X2_13 (oB hb) rfl (fun x3 ex3 => ?_)
  refine z_lmul (M := M_X2_lessen) 13 dX2_lessen_13 ?_
  refine z_topJ (fun x4 ex4 => ?_)
  refine z_lstore (M := M_X2_lessen) 14 dX2_lessen_14 (ls' := [some (mR b), some (mJ a1), none, some (mJ a2), none, some (mI a3), some (mJ x2), none, some (mJ x4), none]) (by decide) rfl ?_
  refine z_lload (M := M_X2_lessen) 16 dX2_lessen_16 rfl ?_
  refine z_lload (M := M_X2_lessen) 18 dX2_lessen_18 rfl ?_
  refine z_lcmp (M := M_X2_lessen) 20 dX2_lessen_20 ?_
  refine z_if_lt (M := M_X2_lessen) 21 dX2_lessen_21 37 rfl (fun c5 => ?_) (fun c5 => ?_)
  · rw [m_cmp_lt] at c5
    refine z_aload_n (M := M_X2_lessen) 37 dX2_lessen_37 rfl ?_
    refine z_lload_n (M := M_X2_lessen) 38 dX2_lessen_38 rfl ?_
    refine z_lload_n (M := M_X2_lessen) 39 dX2_lessen_39 rfl ?_
    refine z_iload (M := M_X2_lessen) 40 dX2_lessen_40 rfl ?_
    refine z_vV (M := M_X2_lessen) 42 dX2_lessen_42 t_X2_put l_X2_20 (m_rr_of rfl) (rest := []) (c_X2_put h0 b a1 a2 a3 hb G0 ⟨by omega, by omega⟩) (oB hb) rfl rfl rfl (Nat.le_of_ble_eq_true rfl) ⟨rfl, rfl⟩ (fun h1 qx6 => ?_)
    obtain ⟨G1, S1⟩ := qx6
    have R1 := (FR.rf (cs := (csB ++ [])) (ss := []) (h := h0)).call S1 (by decide +kernel)
    exact z_retV (M := M_X2_lessen) 45 dX2_lessen_45 rfl ⟨G1, R1⟩
  · rw [m_cmp_lt] at c5
    refine z_lload (M := M_X2_lessen) 24 dX2_lessen_24 rfl ?_
    refine z_lload (M := M_X2_lessen) 26 dX2_lessen_26 rfl ?_
    refine z_lcmp (M := M_X2_lessen) 28 dX2_lessen_28 ?_
    refine z_if_ne (M := M_X2_lessen) 29 dX2_lessen_29 45 rfl (fun c7 => ?_) (fun c7 => ?_)
    · rw [m_cmp_eq] at c7
      exact z_retV (M := M_X2_lessen) 45 dX2_lessen_45 rfl ⟨G0, (FR.rf (cs := (csB ++ [])) (ss := []) (h := h0))⟩
    · rw [m_cmp_eq] at c7
      refine z_iload (M := M_X2_lessen) 32 dX2_lessen_32 rfl ?_
      refine z_if_eq (M := M_X2_lessen) 34 dX2_lessen_34 45 rfl (fun c8 => ?_) (fun c8 => ?_)
      · exact z_retV (M := M_X2_lessen) 45 dX2_lessen_45 rfl ⟨G0, (FR.rf (cs := (csB ++ [])) (ss := []) (h := h0))⟩
      · refine z_aload_n (M := M_X2_lessen) 37 dX2_lessen_37 rfl ?_
        refine z_lload_n (M := M_X2_lessen) 38 dX2_lessen_38 rfl ?_
        refine z_lload_n (M := M_X2_lessen) 39 dX2_lessen_39 rfl ?_
        refine z_iload (M := M_X2_lessen) 40 dX2_lessen_40 rfl ?_
        refine z_vV (M := M_X2_lessen) 42 dX2_lessen_42 t_X2_put l_X2_20 (m_rr_of rfl) (rest := []) (c_X2_put h0 b a1 a2 a3 hb G0 ⟨by omega, by omega⟩) (oB hb) rfl rfl rfl (Nat.le_of_ble_eq_true rfl) ⟨rfl, rfl⟩ (fun h2 qx9 => ?_)
        obtain ⟨G2, S2⟩ := qx9
        have R2 := (FR.rf (cs := (csB ++ [])) (ss := []) (h := h0)).call S2 (by decide +kernel)
        exact z_retV (M := M_X2_lessen) 45 dX2_lessen_45 rfl ⟨G2, R2⟩
abbrev P_X2_isBelowOne (h0 : m_H) (b : Nat) : Int → m_H → Prop := fun x h' => GI h' ∧ FR [] [] h0 h' ∧ 0 ≤ x ∧ x ≤ 1
set_option maxHeartbeats 4000000 in
set_option maxRecDepth 100000 in
theorem c_X2_isBelowOne (h0 : m_H) (b : Nat) (hb : isB b) (G0 : GI h0) : m_CI M_X2_isBelowOne [mR b] h0 (P_X2_isBelowOne h0 b) := by
  refine m_CI_of ⟨by decide, rfl, by simp [m_arg, m_isL, M_X2_isBelowOne], ⟨rfl, rfl⟩, rfl, rfl⟩ (ls := [some (mR b)]) rfl ?_
  refine z_aload_n (M := M_X2_isBelowOne) 0 dX2_isBelowOne_0 rfl ?_
  refine z_getJV (M := M_X2_isBelowOne) 1 dX2_isBelowOne_1 f_X2_13 (oB hb) rfl (fun x1 ex1 => ?_)
  refine z_lconst (M := M_X2_isBelowOne) 4 dX2_isBelowOne_4 (v := 0) ?_
  refine z_lcmp (M := M_X2_isBelowOne) 5 dX2_isBelowOne_5 ?_
  refine z_if_eq (M := M_X2_isBelowOne) 6 dX2_isBelowOne_6 44 rfl (fun c2 => ?_) (fun c2 => ?_)
  · rw [m_cmp_eq] at c2
    refine z_iconst (M := M_X2_isBelowOne) 44 dX2_isBelowOne_44 ?_
    exact z_retZ (M := M_X2_isBelowOne) 45 dX2_isBelowOne_45 rfl (by omega) ⟨G0, (FR.rf (cs := []) (ss := []) (h := h0)), by omega, by omega⟩
  · rw [m_cmp_eq] at c2
    refine z_aload_n (M := M_X2_isBelowOne) 9 dX2_isBelowOne_9 rfl ?_
    refine z_getJV (M := M_X2_isBelowOne) 10 dX2_isBelowOne_10 f_X2_7 (oB hb) rfl (fun x3 ex3 => ?_)
    refine z_aload_n (M := M_X2_isBelowOne) 13 dX2_isBelowOne_13 rfl ?_
    refine z_getJE (M := M_X2_isBelowOne) 14 dX2_isBelowOne_14 f_X2_13 (oB hb) rfl ex1 ?_
    refine z_lcmp (M := M_X2_isBelowOne) 17 dX2_isBelowOne_17 ?_
    refine z_if_lt (M := M_X2_isBelowOne) 18 dX2_isBelowOne_18 40 rfl (fun c4 => ?_) (fun c4 => ?_)
    · rw [m_cmp_lt] at c4
      refine z_iconst (M := M_X2_isBelowOne) 40 dX2_isBelowOne_40 ?_
      refine z_goto (M := M_X2_isBelowOne) 41 dX2_isBelowOne_41 45 rfl ?_
      exact z_retZ (M := M_X2_isBelowOne) 45 dX2_isBelowOne_45 rfl (by omega) ⟨G0, (FR.rf (cs := []) (ss := []) (h := h0)), by omega, by omega⟩
    · rw [m_cmp_lt] at c4
      refine z_aload_n (M := M_X2_isBelowOne) 21 dX2_isBelowOne_21 rfl ?_
      refine z_getJE (M := M_X2_isBelowOne) 22 dX2_isBelowOne_22 f_X2_7 (oB hb) rfl ex3 ?_
      refine z_aload_n (M := M_X2_isBelowOne) 25 dX2_isBelowOne_25 rfl ?_
      refine z_getJE (M := M_X2_isBelowOne) 26 dX2_isBelowOne_26 f_X2_13 (oB hb) rfl ex1 ?_
      refine z_lcmp (M := M_X2_isBelowOne) 29 dX2_isBelowOne_29 ?_
      refine z_if_ne (M := M_X2_isBelowOne) 30 dX2_isBelowOne_30 44 rfl (fun c5 => ?_) (fun c5 => ?_)
      · rw [m_cmp_eq] at c5
        refine z_iconst (M := M_X2_isBelowOne) 44 dX2_isBelowOne_44 ?_
        exact z_retZ (M := M_X2_isBelowOne) 45 dX2_isBelowOne_45 rfl (by omega) ⟨G0, (FR.rf (cs := []) (ss := []) (h := h0)), by omega, by omega⟩
      · rw [m_cmp_eq] at c5
        refine z_aload_n (M := M_X2_isBelowOne) 33 dX2_isBelowOne_33 rfl ?_
        refine z_getIG (M := M_X2_isBelowOne) 34 dX2_isBelowOne_34 f_X2_16 (oB hb) (by decide) (gB hb G0) (fun x6 ex6 ax6 bx6 => ?_)
        refine z_if_eq (M := M_X2_isBelowOne) 37 dX2_isBelowOne_37 44 rfl (fun c7 => ?_) (fun c7 => ?_)
        · refine z_iconst (M := M_X2_isBelowOne) 44 dX2_isBelowOne_44 ?_
          exact z_retZ (M := M_X2_isBelowOne) 45 dX2_isBelowOne_45 rfl (by omega) ⟨G0, (FR.rf (cs := []) (ss := []) (h := h0)), by omega, by omega⟩
        · refine z_iconst (M := M_X2_isBelowOne) 40 dX2_isBelowOne_40 ?_
          refine z_goto (M := M_X2_isBelowOne) 41 dX2_isBelowOne_41 45 rfl ?_
          exact z_retZ (M := M_X2_isBelowOne) 45 dX2_isBelowOne_45 rfl (by omega) ⟨G0, (FR.rf (cs := []) (ss := []) (h := h0)), by omega, by omega⟩
abbrev P_X2_contradicts (h0 : m_H) (b : Nat) (c : Nat) : Int → m_H → Prop := fun x h' => GI h' ∧ FR [] [] h0 h' ∧ 0 ≤ x ∧ x ≤ 1
set_option maxHeartbeats 4000000 in
set_option maxRecDepth 100000 in
theorem c_X2_contradicts (h0 : m_H) (b : Nat) (c : Nat) (hb : isB b) (hc : isB c) (G0 : GI h0) : m_CI M_X2_contradicts [mR b, mR c] h0 (P_X2_contradicts h0 b c) := by
  refine m_CI_of ⟨by decide, rfl, by simp [m_arg, m_isL, M_X2_contradicts], ⟨rfl, rfl⟩, rfl, rfl⟩ (ls := [some (mR b), some (mR c), none, none, none, none]) rfl ?_
  refine z_aload_n (M := M_X2_contradicts) 0 dX2_contradicts_0 rfl ?_
  refine z_getJV (M := M_X2_contradicts) 1 dX2_contradicts_1 f_X2_7 (oB hb) rfl (fun x1 ex1 => ?_)
  refine z_aload_n (M := M_X2_contradicts) 4 dX2_contradicts_4 rfl ?_
  refine z_getJV (M := M_X2_contradicts) 5 dX2_contradicts_5 f_X2_7 (oB hc) rfl (fun x2 ex2 => ?_)
  refine z_lmul (M := M_X2_contradicts) 8 dX2_contradicts_8 ?_
  refine z_topJ (fun x3 ex3 => ?_)
  refine z_lstore_n (M := M_X2_contradicts) 9 dX2_contradicts_9 (ls' := [some (mR b), some (mR c), some (mJ x3), none, none, none]) (by decide) rfl ?_
  refine z_aload_n (M := M_X2_contradicts) 10 dX2_contradicts_10 rfl ?_
  refine z_getJV (M := M_X2_contradicts) 11 dX2_contradicts_11 f_X2_13 (oB hb) rfl (fun x4 ex4 => ?_)
  refine z_aload_n (M := M_X2_contradicts) 14 dX2_contradicts_14 rfl ?_
  refine z_getJV (M := M_X2_contradicts) 15 dX2_contradicts_15 f_X2_13 (oB hc) rfl (fun x5 ex5 => ?_)
  refine z_lmul (M := M_X2_contradicts) 18 dX2_contradicts_18 ?_
  refine z_topJ (fun x6 ex6 => ?_)
  refine z_lstore (M := M_X2_contradicts) 19 dX2_contradicts_19 (ls' := [some (mR b), some (mR c), some (mJ x3), none, some (mJ x6), none]) (by decide) rfl ?_
  refine z_lload_n (M := M_X2_contradicts) 21 dX2_contradicts_21 rfl ?_
  refine z_lload (M := M_X2_contradicts) 22 dX2_contradicts_22 rfl ?_
  refine z_lcmp (M := M_X2_contradicts) 24 dX2_contradicts_24 ?_
  refine z_if_lt (M := M_X2_contradicts) 25 dX2_contradicts_25 49 rfl (fun c7 => ?_) (fun c7 => ?_)
  · rw [m_cmp_lt] at c7
    refine z_iconst (M := M_X2_contradicts) 49 dX2_contradicts_49 ?_
    refine z_goto (M := M_X2_contradicts) 50 dX2_contradicts_50 54 rfl ?_
    exact z_retZ (M := M_X2_contradicts) 54 dX2_contradicts_54 rfl (by omega) ⟨G0, (FR.rf (cs := []) (ss := []) (h := h0)), by omega, by omega⟩
  · rw [m_cmp_lt] at c7
    refine z_lload_n (M := M_X2_contradicts) 28 dX2_contradicts_28 rfl ?_
    refine z_lload (M := M_X2_contradicts) 29 dX2_contradicts_29 rfl ?_
    refine z_lcmp (M := M_X2_contradicts) 31 dX2_contradicts_31 ?_
    refine z_if_ne (M := M_X2_contradicts) 32 dX2_contradicts_32 53 rfl (fun c8 => ?_) (fun c8 => ?_)
    · rw [m_cmp_eq] at c8
      refine z_iconst (M := M_X2_contradicts) 53 dX2_contradicts_53 ?_
      exact z_retZ (M := M_X2_contradicts) 54 dX2_contradicts_54 rfl (by omega) ⟨G0, (FR.rf (cs := []) (ss := []) (h := h0)), by omega, by omega⟩
    · rw [m_cmp_eq] at c8
      refine z_aload_n (M := M_X2_contradicts) 35 dX2_contradicts_35 rfl ?_
      refine z_getIG (M := M_X2_contradicts) 36 dX2_contradicts_36 f_X2_16 (oB hb) (by decide) (gB hb G0) (fun x9 ex9 ax9 bx9 => ?_)
      refine z_if_ne (M := M_X2_contradicts) 39 dX2_contradicts_39 49 rfl (fun c10 => ?_) (fun c10 => ?_)
      · refine z_iconst (M := M_X2_contradicts) 49 dX2_contradicts_49 ?_
        refine z_goto (M := M_X2_contradicts) 50 dX2_contradicts_50 54 rfl ?_
        exact z_retZ (M := M_X2_contradicts) 54 dX2_contradicts_54 rfl (by omega) ⟨G0, (FR.rf (cs := []) (ss := []) (h := h0)), by omega, by omega⟩
      · refine z_aload_n (M := M_X2_contradicts) 42 dX2_contradicts_42 rfl ?_
        refine z_getIG (M := M_X2_contradicts) 43 dX2_contradicts_43 f_X2_16 (oB hc) (by decide) (gB hc G0) (fun x11 ex11 ax11 bx11 => ?_)
        refine z_if_eq (M := M_X2_contradicts) 46 dX2_contradicts_46 53 rfl (fun c12 => ?_) (fun c12 => ?_)
        · refine z_iconst (M := M_X2_contradicts) 53 dX2_contradicts_53 ?_
          exact z_retZ (M := M_X2_contradicts) 54 dX2_contradicts_54 rfl (by omega) ⟨G0, (FR.rf (cs := []) (ss := []) (h := h0)), by omega, by omega⟩
        · refine z_iconst (M := M_X2_contradicts) 49 dX2_contradicts_49 ?_
          refine z_goto (M := M_X2_contradicts) 50 dX2_contradicts_50 54 rfl ?_
          exact z_retZ (M := M_X2_contradicts) 54 dX2_contradicts_54 rfl (by omega) ⟨G0, (FR.rf (cs := []) (ss := []) (h := h0)), by omega, by omega⟩
abbrev P_X4_hasRoom (h0 : m_H) (L : Nat) : Int → m_H → Prop := fun x h' => h0 = h' ∧ ((x = 1 ∧ h0 L 7 ≤ 23) ∨ (x = 0 ∧ ¬ h0 L 7 ≤ 23))
set_option maxHeartbeats 4000000 in
set_option maxRecDepth 100000 in
theorem c_X4_hasRoom (h0 : m_H) (L : Nat) (hL : isL L) (G0 : GI h0) : m_CI M_X4_hasRoom [mR L] h0 (P_X4_hasRoom h0 L) := by
  refine m_CI_of ⟨by decide, rfl, by simp [m_arg, m_isL, M_X4_hasRoom], ⟨rfl, rfl⟩, rfl, rfl⟩ (ls := [some (mR L)]) rfl ?_
  refine z_aload_n (M := M_X4_hasRoom) 0 dX4_hasRoom_0 rfl ?_
  refine z_getIG (M := M_X4_hasRoom) 1 dX4_hasRoom_1 f_X4_45 (oL hL) (by decide) (gL7 hL G0) (fun x1 ex1 ax1 bx1 => ?_)
  refine z_bipush (M := M_X4_hasRoom) 4 dX4_hasRoom_4 ?_
  refine z_icmp_ge (M := M_X4_hasRoom) 6 dX4_hasRoom_6 13 rfl (fun c2 => ?_) (fun c2 => ?_)
  · refine z_iconst (M := M_X4_hasRoom) 13 dX4_hasRoom_13 ?_
    exact z_retZ (M := M_X4_hasRoom) 14 dX4_hasRoom_14 rfl (by omega) ⟨rfl, by omega⟩
  · refine z_iconst (M := M_X4_hasRoom) 9 dX4_hasRoom_9 ?_
    refine z_goto (M := M_X4_hasRoom) 10 dX4_hasRoom_10 14 rfl ?_
    exact z_retZ (M := M_X4_hasRoom) 14 dX4_hasRoom_14 rfl (by omega) ⟨rfl, by omega⟩
abbrev P_X4_copyFrom (h0 : m_H) (L : Nat) (K : Nat) : m_H → Prop := fun h' => GI h' ∧ FR [(L + 1), (L + 2), (L + 3), (L + 4), (L + 5), (L + 6), (L + 7)] [(L, 7), (L, 8), (L, 9)] h0 h'
set_option maxHeartbeats 4000000 in
set_option maxRecDepth 100000 in
theorem c_X4_copyFrom (h0 : m_H) (L : Nat) (K : Nat) (hL : isL L) (hK : isL K) (G0 : GI h0) : m_CV M_X4_copyFrom [mR L, mR K] h0 (P_X4_copyFrom h0 L K) := by
  refine m_CV_of ⟨by decide, rfl, by simp [m_arg, m_isL, M_X4_copyFrom], ⟨rfl, rfl⟩, rfl, rfl⟩ (ls := [some (mR L), some (mR K)]) rfl ?_
  refine z_aload_n (M := M_X4_copyFrom) 0 dX4_copyFrom_0 rfl ?_
  refine z_getR (M := M_X4_copyFrom) 1 dX4_copyFrom_1 f_X4_9 (oL hK) rfl (rL_0 hK G0) ?_
  refine z_iconst (M := M_X4_copyFrom) 4 dX4_copyFrom_4 ?_
  refine z_aload_n (M := M_X4_copyFrom) 5 dX4_copyFrom_5 rfl ?_
  refine z_getR (M := M_X4_copyFrom) 6 dX4_copyFrom_6 f_X4_9 (oL hL) rfl (rL_0 hL G0) ?_
  refine z_iconst (M := M_X4_copyFrom) 9 dX4_copyFrom_9 ?_
  refine z_bipush (M := M_X4_copyFrom) 10 dX4_copyFrom_10 ?_
  refine z_copyH (M := M_X4_copyFrom) 12 dX4_copyFrom_12 ml_X4_39 (rest := []) (oL_1 hK) (oL_1 hL) rfl (by decide) (Nat.le_of_ble_eq_true rfl) (Nat.le_of_ble_eq_true rfl) (cpL_1 hL hK G0) ((FR.rf (cs := [(L + 1), (L + 2), (L + 3), (L + 4), (L + 5), (L + 6), (L + 7)]) (ss := [(L, 7), (L, 8), (L, 9)]) (h := h0)).cp (fun _ => by simp [fr])) (fun h1 E1 G1 R1 => ?_)
  refine z_aload_n (M := M_X4_copyFrom) 15 dX4_copyFrom_15 rfl ?_
  refine z_getR (M := M_X4_copyFrom) 16 dX4_copyFrom_16 f_X4_15 (oL hK) rfl (rL_1 hK G1) ?_
  refine z_iconst (M := M_X4_copyFrom) 19 dX4_copyFrom_19 ?_
  refine z_aload_n (M := M_X4_copyFrom) 20 dX4_copyFrom_20 rfl ?_
  refine z_getR (M := M_X4_copyFrom) 21 dX4_copyFrom_21 f_X4_15 (oL hL) rfl (rL_1 hL G1) ?_
  refine z_iconst (M := M_X4_copyFrom) 24 dX4_copyFrom_24 ?_
  refine z_bipush (M := M_X4_copyFrom) 25 dX4_copyFrom_25 ?_
  refine z_copyH (M := M_X4_copyFrom) 27 dX4_copyFrom_27 ml_X4_39 (rest := []) (oL_2 hK) (oL_2 hL) rfl (by decide) (Nat.le_of_ble_eq_true rfl) (Nat.le_of_ble_eq_true rfl) (cpL_2 hL hK G1) (R1.cp (fun _ => by simp [fr])) (fun h2 E2 G2 R2 => ?_)
  refine z_aload_n (M := M_X4_copyFrom) 30 dX4_copyFrom_30 rfl ?_
  refine z_getR (M := M_X4_copyFrom) 31 dX4_copyFrom_31 f_X4_18 (oL hK) rfl (rL_2 hK G2) ?_
  refine z_iconst (M := M_X4_copyFrom) 34 dX4_copyFrom_34 ?_
  refine z_aload_n (M := M_X4_copyFrom) 35 dX4_copyFrom_35 rfl ?_
  refine z_getR (M := M_X4_copyFrom) 36 dX4_copyFrom_36 f_X4_18 (oL hL) rfl (rL_2 hL G2) ?_
  refine z_iconst (M := M_X4_copyFrom) 39 dX4_copyFrom_39 ?_
  refine z_bipush (M := M_X4_copyFrom) 40 dX4_copyFrom_40 ?_
  refine z_copyH (M := M_X4_copyFrom) 42 dX4_copyFrom_42 ml_X4_39 (rest := []) (oL_3 hK) (oL_3 hL) rfl (by decide) (Nat.le_of_ble_eq_true rfl) (Nat.le_of_ble_eq_true rfl) (cpL_3 hL hK G2) (R2.cp (fun _ => by simp [fr])) (fun h3 E3 G3 R3 => ?_)
  refine z_aload_n (M := M_X4_copyFrom) 45 dX4_copyFrom_45 rfl ?_
  refine z_getR (M := M_X4_copyFrom) 46 dX4_copyFrom_46 f_X4_21 (oL hK) rfl (rL_3 hK G3) ?_
  refine z_iconst (M := M_X4_copyFrom) 49 dX4_copyFrom_49 ?_
  refine z_aload_n (M := M_X4_copyFrom) 50 dX4_copyFrom_50 rfl ?_
  refine z_getR (M := M_X4_copyFrom) 51 dX4_copyFrom_51 f_X4_21 (oL hL) rfl (rL_3 hL G3) ?_
  refine z_iconst (M := M_X4_copyFrom) 54 dX4_copyFrom_54 ?_
  refine z_bipush (M := M_X4_copyFrom) 55 dX4_copyFrom_55 ?_
  refine z_copyH (M := M_X4_copyFrom) 57 dX4_copyFrom_57 ml_X4_39 (rest := []) (oL_4 hK) (oL_4 hL) rfl (by decide) (Nat.le_of_ble_eq_true rfl) (Nat.le_of_ble_eq_true rfl) (cpL_4 hL hK G3) (R3.cp (fun _ => by simp [fr])) (fun h4 E4 G4 R4 => ?_)
  refine z_aload_n (M := M_X4_copyFrom) 60 dX4_copyFrom_60 rfl ?_
  refine z_getR (M := M_X4_copyFrom) 61 dX4_copyFrom_61 f_X4_24 (oL hK) rfl (rL_4 hK G4) ?_
  refine z_iconst (M := M_X4_copyFrom) 64 dX4_copyFrom_64 ?_
  refine z_aload_n (M := M_X4_copyFrom) 65 dX4_copyFrom_65 rfl ?_
  refine z_getR (M := M_X4_copyFrom) 66 dX4_copyFrom_66 f_X4_24 (oL hL) rfl (rL_4 hL G4) ?_
  refine z_iconst (M := M_X4_copyFrom) 69 dX4_copyFrom_69 ?_
  refine z_bipush (M := M_X4_copyFrom) 70 dX4_copyFrom_70 ?_
  refine z_copyH (M := M_X4_copyFrom) 72 dX4_copyFrom_72 ml_X4_39 (rest := []) (oL_5 hK) (oL_5 hL) rfl (by decide) (Nat.le_of_ble_eq_true rfl) (Nat.le_of_ble_eq_true rfl) (cpL_5 hL hK G4) (R4.cp (fun _ => by simp [fr])) (fun h5 E5 G5 R5 => ?_)
  refine z_aload_n (M := M_X4_copyFrom) 75 dX4_copyFrom_75 rfl ?_
  refine z_getR (M := M_X4_copyFrom) 76 dX4_copyFrom_76 f_X4_27 (oL hK) rfl (rL_5 hK G5) ?_
  refine z_iconst (M := M_X4_copyFrom) 79 dX4_copyFrom_79 ?_
  refine z_aload_n (M := M_X4_copyFrom) 80 dX4_copyFrom_80 rfl ?_
  refine z_getR (M := M_X4_copyFrom) 81 dX4_copyFrom_81 f_X4_27 (oL hL) rfl (rL_5 hL G5) ?_
  refine z_iconst (M := M_X4_copyFrom) 84 dX4_copyFrom_84 ?_
  refine z_bipush (M := M_X4_copyFrom) 85 dX4_copyFrom_85 ?_
  refine z_copyH (M := M_X4_copyFrom) 87 dX4_copyFrom_87 ml_X4_39 (rest := []) (oL_6 hK) (oL_6 hL) rfl (by decide) (Nat.le_of_ble_eq_true rfl) (Nat.le_of_ble_eq_true rfl) (cpL_6 hL hK G5) (R5.cp (fun _ => by simp [fr])) (fun h6 E6 G6 R6 => ?_)
  refine z_aload_n (M := M_X4_copyFrom) 90 dX4_copyFrom_90 rfl ?_
  refine z_getR (M := M_X4_copyFrom) 91 dX4_copyFrom_91 f_X4_30 (oL hK) rfl (rL_6 hK G6) ?_
  refine z_iconst (M := M_X4_copyFrom) 94 dX4_copyFrom_94 ?_
  refine z_aload_n (M := M_X4_copyFrom) 95 dX4_copyFrom_95 rfl ?_
  refine z_getR (M := M_X4_copyFrom) 96 dX4_copyFrom_96 f_X4_30 (oL hL) rfl (rL_6 hL G6) ?_
  refine z_iconst (M := M_X4_copyFrom) 99 dX4_copyFrom_99 ?_
  refine z_bipush (M := M_X4_copyFrom) 100 dX4_copyFrom_100 ?_
  refine z_copyH (M := M_X4_copyFrom) 102 dX4_copyFrom_102 ml_X4_39 (rest := []) (oL_7 hK) (oL_7 hL) rfl (by decide) (Nat.le_of_ble_eq_true rfl) (Nat.le_of_ble_eq_true rfl) (cpL_7 hL hK G6) (R6.cp (fun _ => by simp [fr])) (fun h7 E7 G7 R7 => ?_)
  refine z_aload_n (M := M_X4_copyFrom) 105 dX4_copyFrom_105 rfl ?_
  refine z_aload_n (M := M_X4_copyFrom) 106 dX4_copyFrom_106 rfl ?_
  refine z_getIG (M := M_X4_copyFrom) 107 dX4_copyFrom_107 f_X4_45 (oL hK) (by decide) (gL7 hK G7) (fun x1 ex1 ax1 bx1 => ?_)
  refine z_putIH (M := M_X4_copyFrom) 110 dX4_copyFrom_110 p_X4_45 (oL hL) rfl (uL7 hL G7 (by omega) (by omega)) (R7.up (by simp [fr])) (fun h8 E8 G8 R8 => ?_)
  refine z_aload_n (M := M_X4_copyFrom) 113 dX4_copyFrom_113 rfl ?_
  refine z_aload_n (M := M_X4_copyFrom) 114 dX4_copyFrom_114 rfl ?_
  refine z_getIV (M := M_X4_copyFrom) 115 dX4_copyFrom_115 f_X4_49 (oL hK) (by decide) (fun x2 ex2 => ?_)
  refine z_ok (fun ox2 _ _ => ?_)
  have ox2 := ox2.1; unfold m_ok m_32 at ox2
  refine z_putIH (M := M_X4_copyFrom) 118 dX4_copyFrom_118 p_X4_49 (oL hL) rfl (uL8 hL G8) (R8.up (by simp [fr])) (fun h9 E9 G9 R9 => ?_)
  refine z_aload_n (M := M_X4_copyFrom) 121 dX4_copyFrom_121 rfl ?_
  refine z_aload_n (M := M_X4_copyFrom) 122 dX4_copyFrom_122 rfl ?_
  refine z_getIV (M := M_X4_copyFrom) 123 dX4_copyFrom_123 f_X4_52 (oL hK) (by decide) (fun x3 ex3 => ?_)
  refine z_ok (fun ox3 _ _ => ?_)
  have ox3 := ox3.1; unfold m_ok m_32 at ox3
  refine z_putIH (M := M_X4_copyFrom) 126 dX4_copyFrom_126 p_X4_52 (oL hL) rfl (uL9 hL G9) (R9.up (by simp [fr])) (fun h10 E10 G10 R10 => ?_)
  exact z_retV (M := M_X4_copyFrom) 129 dX4_copyFrom_129 rfl ⟨G10, R10⟩
abbrev P_X4_isCounting (h0 : m_H) (L : Nat) (a1 : Int) : Int → m_H → Prop := fun x h' => GI h' ∧ FR [] [] h0 h' ∧ 0 ≤ x ∧ x ≤ 1
set_option maxHeartbeats 4000000 in
set_option maxRecDepth 100000 in
theorem c_X4_isCounting (h0 : m_H) (L : Nat) (a1 : Int) (hL : isL L) (G0 : GI h0) : m_CI M_X4_isCounting [mR L, mI a1] h0 (P_X4_isCounting h0 L a1) := by
  refine m_CI_of ⟨by decide, rfl, by simp [m_arg, m_isL, M_X4_isCounting], ⟨rfl, rfl⟩, rfl, rfl⟩ (ls := [some (mR L), some (mI a1)]) rfl ?_
  refine z_ok (fun _ _ ok => ?_)
  have oa1 : m_32 a1 := ok 1 _ rfl
  unfold m_32 at oa1
  refine z_aload_n (M := M_X4_isCounting) 0 dX4_isCounting_0 rfl ?_
  refine z_getIV (M := M_X4_isCounting) 1 dX4_isCounting_1 f_X4_49 (oL hL) (by decide) (fun x1 ex1 => ?_)
  refine z_ok (fun ox1 _ _ => ?_)
  have ox1 := ox1.1; unfold m_ok m_32 at ox1
  refine z_iload_n (M := M_X4_isCounting) 4 dX4_isCounting_4 rfl ?_
  refine z_nI (M := M_X4_isCounting) 5 dX4_isCounting_5 t_X11_hasBit l_X4_59 (m_rr_of rfl) (rest := []) (c_X11_hasBit h0 x1 a1 G0) rfl rfl (Nat.le_of_ble_eq_true rfl) ⟨rfl, rfl⟩ (fun x2 h1 qx2 => ?_)
  obtain ⟨rfl, ⟨rfl, cx2⟩ | ⟨rfl, cx2⟩⟩ := qx2
  · exact z_retZ (M := M_X4_isCounting) 8 dX4_isCounting_8 rfl (by omega) ⟨G0, (FR.rf (cs := []) (ss := []) (h := h0)), by omega, by omega⟩
  · exact z_retZ (M := M_X4_isCounting) 8 dX4_isCounting_8 rfl (by omega) ⟨G0, (FR.rf (cs := []) (ss := []) (h := h0)), by omega, by omega⟩
abbrev P_X4_setCounting (h0 : m_H) (L : Nat) (a1 a2 : Int) : m_H → Prop := fun h' => GI h' ∧ FR [] [(L, 8)] h0 h'
set_option maxHeartbeats 4000000 in
set_option maxRecDepth 100000 in
theorem c_X4_setCounting (h0 : m_H) (L : Nat) (a1 a2 : Int) (hL : isL L) (G0 : GI h0) (pa2 : 0 ≤ a2 ∧ a2 ≤ 1) : m_CV M_X4_setCounting [mR L, mI a1, mI a2] h0 (P_X4_setCounting h0 L a1 a2) := by
  refine m_CV_of ⟨by decide, rfl, by simp [m_arg, m_isL, M_X4_setCounting], ⟨rfl, rfl⟩, rfl, rfl⟩ (ls := [some (mR L), some (mI a1), some (mI a2), none]) rfl ?_
  refine z_ok (fun _ _ ok => ?_)
  have oa1 : m_32 a1 := ok 1 _ rfl
  unfold m_32 at oa1
  refine z_iconst (M := M_X4_setCounting) 0 dX4_setCounting_0 ?_
  refine z_iload_n (M := M_X4_setCounting) 1 dX4_setCounting_1 rfl ?_
  refine z_ishl (M := M_X4_setCounting) 2 dX4_setCounting_2 ?_
  refine z_topm (fun x1 ex1 ox1 => ?_)
  unfold m_32 at ox1
  refine z_istore_n (M := M_X4_setCounting) 3 dX4_setCounting_3 (ls' := [some (mR L), some (mI a1), some (mI a2), some (mI x1)]) (by decide) rfl ?_
  refine z_aload_n (M := M_X4_setCounting) 4 dX4_setCounting_4 rfl ?_
  refine z_iload_n (M := M_X4_setCounting) 5 dX4_setCounting_5 rfl ?_
  refine z_if_eq (M := M_X4_setCounting) 6 dX4_setCounting_6 18 rfl (fun c2 => ?_) (fun c2 => ?_)
  · refine z_aload_n (M := M_X4_setCounting) 18 dX4_setCounting_18 rfl ?_
    refine z_getIV (M := M_X4_setCounting) 19 dX4_setCounting_19 f_X4_49 (oL hL) (by decide) (fun x3 ex3 => ?_)
    refine z_ok (fun ox3 _ _ => ?_)
    have ox3 := ox3.1; unfold m_ok m_32 at ox3
    refine z_iload_n (M := M_X4_setCounting) 22 dX4_setCounting_22 rfl ?_
    refine z_iconst (M := M_X4_setCounting) 23 dX4_setCounting_23 ?_
    refine z_ixor (M := M_X4_setCounting) 24 dX4_setCounting_24 ?_
    refine z_topm (fun x4 ex4 ox4 => ?_)
    unfold m_32 at ox4
    refine z_iand (M := M_X4_setCounting) 25 dX4_setCounting_25 ?_
    refine z_topm (fun x5 ex5 ox5 => ?_)
    unfold m_32 at ox5
    refine z_putIH (M := M_X4_setCounting) 26 dX4_setCounting_26 p_X4_49 (oL hL) rfl (uL8 hL G0) ((FR.rf (cs := []) (ss := [(L, 8)]) (h := h0)).up (by simp [fr])) (fun h1 E1 G1 R1 => ?_)
    exact z_retV (M := M_X4_setCounting) 29 dX4_setCounting_29 rfl ⟨G1, R1⟩
  · refine z_aload_n (M := M_X4_setCounting) 9 dX4_setCounting_9 rfl ?_
    refine z_getIV (M := M_X4_setCounting) 10 dX4_setCounting_10 f_X4_49 (oL hL) (by decide) (fun x6 ex6 => ?_)
    refine z_ok (fun ox6 _ _ => ?_)
    have ox6 := ox6.1; unfold m_ok m_32 at ox6
    refine z_iload_n (M := M_X4_setCounting) 13 dX4_setCounting_13 rfl ?_
    refine z_ior (M := M_X4_setCounting) 14 dX4_setCounting_14 ?_
    refine z_topm (fun x7 ex7 ox7 => ?_)
    unfold m_32 at ox7
    refine z_goto (M := M_X4_setCounting) 15 dX4_setCounting_15 26 rfl ?_
    refine z_putIH (M := M_X4_setCounting) 26 dX4_setCounting_26 p_X4_49 (oL hL) rfl (uL8 hL G0) ((FR.rf (cs := []) (ss := [(L, 8)]) (h := h0)).up (by simp [fr])) (fun h2 E2 G2 R2 => ?_)
    exact z_retV (M := M_X4_setCounting) 29 dX4_setCounting_29 rfl ⟨G2, R2⟩
abbrev P_X4_isShorter (h0 : m_H) (L : Nat) (a1 a2 : Int) : Int → m_H → Prop := fun x h' => GI h' ∧ FR [] [] h0 h' ∧ 0 ≤ x ∧ x ≤ 1
set_option maxHeartbeats 4000000 in
set_option maxRecDepth 100000 in
theorem c_X4_isShorter (h0 : m_H) (L : Nat) (a1 a2 : Int) (hL : isL L) (G0 : GI h0) : m_CI M_X4_isShorter [mR L, mI a1, mI a2] h0 (P_X4_isShorter h0 L a1 a2) := by
  refine m_CI_of ⟨by decide, rfl, by simp [m_arg, m_isL, M_X4_isShorter], ⟨rfl, rfl⟩, rfl, rfl⟩ (ls := [some (mR L), some (mI a1), some (mI a2)]) rfl ?_
  refine z_ok (fun _ _ ok => ?_)
  have oa1 : m_32 a1 := ok 1 _ rfl
  unfold m_32 at oa1
  have oa2 : m_32 a2 := ok 2 _ rfl
  unfold m_32 at oa2
  refine z_aload_n (M := M_X4_isShorter) 0 dX4_isShorter_0 rfl ?_
  refine z_getIV (M := M_X4_isShorter) 1 dX4_isShorter_1 f_X4_52 (oL hL) (by decide) (fun x1 ex1 => ?_)
  refine z_ok (fun ox1 _ _ => ?_)
  have ox1 := ox1.1; unfold m_ok m_32 at ox1
  refine z_iload_n (M := M_X4_isShorter) 4 dX4_isShorter_4 rfl ?_
  refine z_iconst (M := M_X4_isShorter) 5 dX4_isShorter_5 ?_
  refine z_imul (M := M_X4_isShorter) 6 dX4_isShorter_6 ?_
  refine z_topm (fun x2 ex2 ox2 => ?_)
  unfold m_32 at ox2
  refine z_iload_n (M := M_X4_isShorter) 7 dX4_isShorter_7 rfl ?_
  refine z_iadd (M := M_X4_isShorter) 8 dX4_isShorter_8 ?_
  refine z_topm (fun x3 ex3 ox3 => ?_)
  unfold m_32 at ox3
  refine z_nI (M := M_X4_isShorter) 9 dX4_isShorter_9 t_X11_hasBit l_X4_59 (m_rr_of rfl) (rest := []) (c_X11_hasBit h0 x1 x3 G0) rfl rfl (Nat.le_of_ble_eq_true rfl) ⟨rfl, rfl⟩ (fun x4 h1 qx4 => ?_)
  obtain ⟨rfl, ⟨rfl, cx4⟩ | ⟨rfl, cx4⟩⟩ := qx4
  · exact z_retZ (M := M_X4_isShorter) 12 dX4_isShorter_12 rfl (by omega) ⟨G0, (FR.rf (cs := []) (ss := []) (h := h0)), by omega, by omega⟩
  · exact z_retZ (M := M_X4_isShorter) 12 dX4_isShorter_12 rfl (by omega) ⟨G0, (FR.rf (cs := []) (ss := []) (h := h0)), by omega, by omega⟩
abbrev P_X4_shorters (h0 : m_H) (L : Nat) : Int → m_H → Prop := fun x h' => GI h' ∧ FR [] [] h0 h' ∧ 0 ≤ x ∧ x ≤ 63
set_option maxHeartbeats 4000000 in
set_option maxRecDepth 100000 in
theorem c_X4_shorters (h0 : m_H) (L : Nat) (hL : isL L) (G0 : GI h0) : m_CI M_X4_shorters [mR L] h0 (P_X4_shorters h0 L) := by
  refine m_CI_of ⟨by decide, rfl, by simp [m_arg, m_isL, M_X4_shorters], ⟨rfl, rfl⟩, rfl, rfl⟩ (ls := [some (mR L)]) rfl ?_
  refine z_aload_n (M := M_X4_shorters) 0 dX4_shorters_0 rfl ?_
  refine z_getIV (M := M_X4_shorters) 1 dX4_shorters_1 f_X4_52 (oL hL) (by decide) (fun x1 ex1 => ?_)
  refine z_ok (fun ox1 _ _ => ?_)
  have ox1 := ox1.1; unfold m_ok m_32 at ox1
  refine z_sI (M := M_X4_shorters) 4 dX4_shorters_4 t_J6_bitCount_0f7a4 l_X4_63 (m_rr_of rfl) (rest := []) (c_J6_bitCount_0f7a4 h0 x1 G0) rfl rfl (Nat.le_of_ble_eq_true rfl) ⟨rfl, rfl⟩ (fun x2 h1 qx2 => ?_)
  obtain ⟨G1, S1, ax2, bx2⟩ := qx2
  have R1 := (FR.rf (cs := []) (ss := []) (h := h0)).call S1 (by decide +kernel)
  exact z_retI (M := M_X4_shorters) 7 dX4_shorters_7 rfl ⟨G1, R1, by omega, by omega⟩
abbrev P_X4_hasRoomForShorter (h0 : m_H) (L : Nat) : Int → m_H → Prop := fun x h' => GI h' ∧ FR [] [] h0 h' ∧ 0 ≤ x ∧ x ≤ 1
set_option maxHeartbeats 4000000 in
set_option maxRecDepth 100000 in
theorem c_X4_hasRoomForShorter (h0 : m_H) (L : Nat) (hL : isL L) (G0 : GI h0) : m_CI M_X4_hasRoomForShorter [mR L] h0 (P_X4_hasRoomForShorter h0 L) := by
  refine m_CI_of ⟨by decide, rfl, by simp [m_arg, m_isL, M_X4_hasRoomForShorter], ⟨rfl, rfl⟩, rfl, rfl⟩ (ls := [some (mR L)]) rfl ?_
  refine z_aload_n (M := M_X4_hasRoomForShorter) 0 dX4_hasRoomForShorter_0 rfl ?_
  refine z_vI (M := M_X4_hasRoomForShorter) 1 dX4_hasRoomForShorter_1 t_X4_shorters l_X4_69 (m_rr_of rfl) (rest := []) (c_X4_shorters h0 L hL G0) (oL hL) rfl rfl rfl (Nat.le_of_ble_eq_true rfl) ⟨rfl, rfl⟩ (fun x1 h1 qx1 => ?_)
  obtain ⟨G1, S1, ax1, bx1⟩ := qx1
  have R1 := (FR.rf (cs := []) (ss := []) (h := h0)).call S1 (by decide +kernel)
  refine z_bipush (M := M_X4_hasRoomForShorter) 4 dX4_hasRoomForShorter_4 ?_
  refine z_icmp_ge (M := M_X4_hasRoomForShorter) 6 dX4_hasRoomForShorter_6 13 rfl (fun c2 => ?_) (fun c2 => ?_)
  · refine z_iconst (M := M_X4_hasRoomForShorter) 13 dX4_hasRoomForShorter_13 ?_
    exact z_retZ (M := M_X4_hasRoomForShorter) 14 dX4_hasRoomForShorter_14 rfl (by omega) ⟨G1, R1, by omega, by omega⟩
  · refine z_iconst (M := M_X4_hasRoomForShorter) 9 dX4_hasRoomForShorter_9 ?_
    refine z_goto (M := M_X4_hasRoomForShorter) 10 dX4_hasRoomForShorter_10 14 rfl ?_
    exact z_retZ (M := M_X4_hasRoomForShorter) 14 dX4_hasRoomForShorter_14 rfl (by omega) ⟨G1, R1, by omega, by omega⟩
abbrev P_X4_addShorter (h0 : m_H) (L : Nat) (a1 a2 : Int) : m_H → Prop := fun h' => GI h' ∧ FR [] [(L, 9)] h0 h'
set_option maxHeartbeats 4000000 in
set_option maxRecDepth 100000 in
theorem c_X4_addShorter (h0 : m_H) (L : Nat) (a1 a2 : Int) (hL : isL L) (G0 : GI h0) (pa1 : 0 ≤ a1 ∧ a1 ≤ 3) (pa2 : 0 ≤ a2 ∧ a2 ≤ 3) : m_CV M_X4_addShorter [mR L, mI a1, mI a2] h0 (P_X4_addShorter h0 L a1 a2) := by
  refine m_CV_of ⟨by decide, rfl, by simp [m_arg, m_isL, M_X4_addShorter], ⟨rfl, rfl⟩, rfl, rfl⟩ (ls := [some (mR L), some (mI a1), some (mI a2)]) rfl ?_
  refine z_aload_n (M := M_X4_addShorter) 0 dX4_addShorter_0 rfl ?_
  refine z_dup (M := M_X4_addShorter) 1 dX4_addShorter_1 rfl ?_
  refine z_getIV (M := M_X4_addShorter) 2 dX4_addShorter_2 f_X4_52 (oL hL) (by decide) (fun x1 ex1 => ?_)
  refine z_ok (fun ox1 _ _ => ?_)
  have ox1 := ox1.1; unfold m_ok m_32 at ox1
  refine z_iconst (M := M_X4_addShorter) 5 dX4_addShorter_5 ?_
  refine z_iload_n (M := M_X4_addShorter) 6 dX4_addShorter_6 rfl ?_
  refine z_iconst (M := M_X4_addShorter) 7 dX4_addShorter_7 ?_
  refine z_imulN (M := M_X4_addShorter) 8 dX4_addShorter_8 (by omega) (by omega) ?_
  refine z_iload_n (M := M_X4_addShorter) 9 dX4_addShorter_9 rfl ?_
  refine z_iaddN (M := M_X4_addShorter) 10 dX4_addShorter_10 (by omega) (by omega) ?_
  refine z_ishl (M := M_X4_addShorter) 11 dX4_addShorter_11 ?_
  refine z_topm (fun x2 ex2 ox2 => ?_)
  unfold m_32 at ox2
  refine z_ior (M := M_X4_addShorter) 12 dX4_addShorter_12 ?_
  refine z_topm (fun x3 ex3 ox3 => ?_)
  unfold m_32 at ox3
  refine z_putIH (M := M_X4_addShorter) 13 dX4_addShorter_13 p_X4_52 (oL hL) rfl (uL9 hL G0) ((FR.rf (cs := []) (ss := [(L, 9)]) (h := h0)).up (by simp [fr])) (fun h1 E1 G1 R1 => ?_)
  exact z_retV (M := M_X4_addShorter) 16 dX4_addShorter_16 rfl ⟨G1, R1⟩
abbrev P_X4_isThere (h0 : m_H) (L : Nat) (a1 : Int) : Int → m_H → Prop := fun x h' => h0 = h' ∧ ((x = 1 ∧ (0 ≤ a1 ∧ a1 ≤ 15 ∧ (a1 < 6 ∨ 12 ≤ a1 ∨ h0 (L + 2) (a1 - 6).toNat ≠ -1))) ∨ (x = 0 ∧ ¬ (0 ≤ a1 ∧ a1 ≤ 15 ∧ (a1 < 6 ∨ 12 ≤ a1 ∨ h0 (L + 2) (a1 - 6).toNat ≠ -1))))
set_option maxHeartbeats 4000000 in
set_option maxRecDepth 100000 in
theorem c_X4_isThere (h0 : m_H) (L : Nat) (a1 : Int) (hL : isL L) (G0 : GI h0) : m_CI M_X4_isThere [mR L, mI a1] h0 (P_X4_isThere h0 L a1) := by
  refine m_CI_of ⟨by decide, rfl, by simp [m_arg, m_isL, M_X4_isThere], ⟨rfl, rfl⟩, rfl, rfl⟩ (ls := [some (mR L), some (mI a1), none]) rfl ?_
  refine z_ok (fun _ _ ok => ?_)
  have oa1 : m_32 a1 := ok 1 _ rfl
  unfold m_32 at oa1
  refine z_iload_n (M := M_X4_isThere) 0 dX4_isThere_0 rfl ?_
  refine z_iconst (M := M_X4_isThere) 1 dX4_isThere_1 ?_
  refine z_bipush (M := M_X4_isThere) 2 dX4_isThere_2 ?_
  refine z_nI (M := M_X4_isThere) 4 dX4_isThere_4 t_X11_within l_X4_73 (m_rr_of rfl) (rest := []) (c_X11_within h0 a1 0 15 G0) rfl rfl (Nat.le_of_ble_eq_true rfl) ⟨rfl, rfl⟩ (fun x1 h1 qx1 => ?_)
  obtain ⟨rfl, ⟨rfl, cx1⟩ | ⟨rfl, cx1⟩⟩ := qx1
  · refine z_if_ne_T (M := M_X4_isThere) 7 dX4_isThere_7 12 rfl (by omega) ?_
    refine z_iload_n (M := M_X4_isThere) 12 dX4_isThere_12 rfl ?_
    refine z_bipush (M := M_X4_isThere) 13 dX4_isThere_13 ?_
    refine z_icmp_lt (M := M_X4_isThere) 15 dX4_isThere_15 28 rfl (fun c2 => ?_) (fun c2 => ?_)
    · refine z_iconst (M := M_X4_isThere) 28 dX4_isThere_28 ?_
      refine z_istore_n (M := M_X4_isThere) 29 dX4_isThere_29 (ls' := [some (mR L), some (mI a1), some (mI 0)]) (by decide) rfl ?_
      refine z_iload_n (M := M_X4_isThere) 30 dX4_isThere_30 rfl ?_
      refine z_if_eq_T (M := M_X4_isThere) 31 dX4_isThere_31 47 rfl (by omega) ?_
      refine z_iconst (M := M_X4_isThere) 47 dX4_isThere_47 ?_
      refine z_goto (M := M_X4_isThere) 48 dX4_isThere_48 52 rfl ?_
      exact z_retZ (M := M_X4_isThere) 52 dX4_isThere_52 rfl (by omega) ⟨rfl, by omega⟩
    · refine z_iload_n (M := M_X4_isThere) 18 dX4_isThere_18 rfl ?_
      refine z_bipush (M := M_X4_isThere) 19 dX4_isThere_19 ?_
      refine z_icmp_ge (M := M_X4_isThere) 21 dX4_isThere_21 28 rfl (fun c3 => ?_) (fun c3 => ?_)
      · refine z_iconst (M := M_X4_isThere) 28 dX4_isThere_28 ?_
        refine z_istore_n (M := M_X4_isThere) 29 dX4_isThere_29 (ls' := [some (mR L), some (mI a1), some (mI 0)]) (by decide) rfl ?_
        refine z_iload_n (M := M_X4_isThere) 30 dX4_isThere_30 rfl ?_
        refine z_if_eq_T (M := M_X4_isThere) 31 dX4_isThere_31 47 rfl (by omega) ?_
        refine z_iconst (M := M_X4_isThere) 47 dX4_isThere_47 ?_
        refine z_goto (M := M_X4_isThere) 48 dX4_isThere_48 52 rfl ?_
        exact z_retZ (M := M_X4_isThere) 52 dX4_isThere_52 rfl (by omega) ⟨rfl, by omega⟩
      · refine z_iconst (M := M_X4_isThere) 24 dX4_isThere_24 ?_
        refine z_goto (M := M_X4_isThere) 25 dX4_isThere_25 29 rfl ?_
        refine z_istore_n (M := M_X4_isThere) 29 dX4_isThere_29 (ls' := [some (mR L), some (mI a1), some (mI 1)]) (by decide) rfl ?_
        refine z_iload_n (M := M_X4_isThere) 30 dX4_isThere_30 rfl ?_
        refine z_if_eq_F (M := M_X4_isThere) 31 dX4_isThere_31 47 rfl (by omega) ?_
        refine z_aload_n (M := M_X4_isThere) 34 dX4_isThere_34 rfl ?_
        refine z_getR (M := M_X4_isThere) 35 dX4_isThere_35 f_X4_15 (oL hL) rfl (rL_1 hL G0) ?_
        refine z_iload_n (M := M_X4_isThere) 38 dX4_isThere_38 rfl ?_
        refine z_bipush (M := M_X4_isThere) 39 dX4_isThere_39 ?_
        refine z_isubN (M := M_X4_isThere) 41 dX4_isThere_41 (by omega) (by omega) ?_
        refine z_ialdG (M := M_X4_isThere) 42 dX4_isThere_42 (oL_2 hL) (by omega) (by omega) (gL_2 hL G0 (by omega)) (fun x4 ex4 ax4 bx4 => ?_)
        refine z_iconst (M := M_X4_isThere) 43 dX4_isThere_43 ?_
        refine z_icmp_eq (M := M_X4_isThere) 44 dX4_isThere_44 51 rfl (fun c5 => ?_) (fun c5 => ?_)
        · refine z_iconst (M := M_X4_isThere) 51 dX4_isThere_51 ?_
          exact z_retZ (M := M_X4_isThere) 52 dX4_isThere_52 rfl (by omega) ⟨rfl, by omega⟩
        · refine z_iconst (M := M_X4_isThere) 47 dX4_isThere_47 ?_
          refine z_goto (M := M_X4_isThere) 48 dX4_isThere_48 52 rfl ?_
          exact z_retZ (M := M_X4_isThere) 52 dX4_isThere_52 rfl (by omega) ⟨rfl, by omega⟩
  · refine z_if_ne_F (M := M_X4_isThere) 7 dX4_isThere_7 12 rfl (by omega) ?_
    refine z_iconst (M := M_X4_isThere) 10 dX4_isThere_10 ?_
    exact z_retZ (M := M_X4_isThere) 11 dX4_isThere_11 rfl (by omega) ⟨rfl, by omega⟩
abbrev P_X4_lengthIn (h0 : m_H) (L : Nat) (a1 a2 : Int) : Int → m_H → Prop := fun x h' => GI h' ∧ FR [] [] h0 h' ∧ 0 ≤ x ∧ x ≤ 11
set_option maxHeartbeats 4000000 in
set_option maxRecDepth 100000 in
theorem c_X4_lengthIn (h0 : m_H) (L : Nat) (a1 a2 : Int) (hL : isL L) (G0 : GI h0) (pa1 : 0 ≤ a1 ∧ a1 ≤ 5) : m_CI M_X4_lengthIn [mR L, mI a1, mI a2] h0 (P_X4_lengthIn h0 L a1 a2) := by
  refine m_CI_of ⟨by decide, rfl, by simp [m_arg, m_isL, M_X4_lengthIn], ⟨rfl, rfl⟩, rfl, rfl⟩ (ls := [some (mR L), some (mI a1), some (mI a2), none]) rfl ?_
  refine z_ok (fun _ _ ok => ?_)
  have oa2 : m_32 a2 := ok 2 _ rfl
  unfold m_32 at oa2
  refine z_aload_n (M := M_X4_lengthIn) 0 dX4_lengthIn_0 rfl ?_
  refine z_getR (M := M_X4_lengthIn) 1 dX4_lengthIn_1 f_X4_15 (oL hL) rfl (rL_1 hL G0) ?_
  refine z_iload_n (M := M_X4_lengthIn) 4 dX4_lengthIn_4 rfl ?_
  refine z_ialdG (M := M_X4_lengthIn) 5 dX4_lengthIn_5 (oL_2 hL) (by omega) (by omega) (gL_2 hL G0 (by omega)) (fun x1 ex1 ax1 bx1 => ?_)
  refine z_istore_n (M := M_X4_lengthIn) 6 dX4_lengthIn_6 (ls' := [some (mR L), some (mI a1), some (mI a2), some (mI x1)]) (by decide) rfl ?_
  refine z_iload_n (M := M_X4_lengthIn) 7 dX4_lengthIn_7 rfl ?_
  refine z_iconst (M := M_X4_lengthIn) 8 dX4_lengthIn_8 ?_
  refine z_icmp_eq (M := M_X4_lengthIn) 9 dX4_lengthIn_9 24 rfl (fun c2 => ?_) (fun c2 => ?_)
  · refine z_iload_n (M := M_X4_lengthIn) 24 dX4_lengthIn_24 rfl ?_
    exact z_retI (M := M_X4_lengthIn) 25 dX4_lengthIn_25 rfl ⟨G0, (FR.rf (cs := []) (ss := []) (h := h0)), by omega, by omega⟩
  · refine z_iload_n (M := M_X4_lengthIn) 12 dX4_lengthIn_12 rfl ?_
    refine z_iload_n (M := M_X4_lengthIn) 13 dX4_lengthIn_13 rfl ?_
    refine z_icmp_lt (M := M_X4_lengthIn) 14 dX4_lengthIn_14 24 rfl (fun c3 => ?_) (fun c3 => ?_)
    · refine z_iload_n (M := M_X4_lengthIn) 24 dX4_lengthIn_24 rfl ?_
      exact z_retI (M := M_X4_lengthIn) 25 dX4_lengthIn_25 rfl ⟨G0, (FR.rf (cs := []) (ss := []) (h := h0)), by omega, by omega⟩
    · refine z_iload_n (M := M_X4_lengthIn) 17 dX4_lengthIn_17 rfl ?_
      refine z_bipush (M := M_X4_lengthIn) 18 dX4_lengthIn_18 ?_
      refine z_iaddN (M := M_X4_lengthIn) 20 dX4_lengthIn_20 (by omega) (by omega) ?_
      refine z_goto (M := M_X4_lengthIn) 21 dX4_lengthIn_21 25 rfl ?_
      exact z_retI (M := M_X4_lengthIn) 25 dX4_lengthIn_25 rfl ⟨G0, (FR.rf (cs := []) (ss := []) (h := h0)), by omega, by omega⟩
abbrev P_X4_lengthOf (h0 : m_H) (L : Nat) (a1 : Int) : Int → m_H → Prop := fun x h' => GI h' ∧ FR [] [] h0 h' ∧ 0 ≤ x ∧ x ≤ 11
set_option maxHeartbeats 4000000 in
set_option maxRecDepth 100000 in
theorem c_X4_lengthOf (h0 : m_H) (L : Nat) (a1 : Int) (hL : isL L) (G0 : GI h0) (pa1 : 0 ≤ a1 ∧ a1 ≤ 23) : m_CI M_X4_lengthOf [mR L, mI a1] h0 (P_X4_lengthOf h0 L a1) := by
  refine m_CI_of ⟨by decide, rfl, by simp [m_arg, m_isL, M_X4_lengthOf], ⟨rfl, rfl⟩, rfl, rfl⟩ (ls := [some (mR L), some (mI a1)]) rfl ?_
  refine z_aload_n (M := M_X4_lengthOf) 0 dX4_lengthOf_0 rfl ?_
  refine z_aload_n (M := M_X4_lengthOf) 1 dX4_lengthOf_1 rfl ?_
  refine z_getR (M := M_X4_lengthOf) 2 dX4_lengthOf_2 f_X4_18 (oL hL) rfl (rL_2 hL G0) ?_
  refine z_iload_n (M := M_X4_lengthOf) 5 dX4_lengthOf_5 rfl ?_
  refine z_ialdG (M := M_X4_lengthOf) 6 dX4_lengthOf_6 (oL_3 hL) (by omega) (by omega) (gL_3 hL G0 (by omega)) (fun x1 ex1 ax1 bx1 => ?_)
  refine z_aload_n (M := M_X4_lengthOf) 7 dX4_lengthOf_7 rfl ?_
  refine z_getR (M := M_X4_lengthOf) 8 dX4_lengthOf_8 f_X4_21 (oL hL) rfl (rL_3 hL G0) ?_
  refine z_iload_n (M := M_X4_lengthOf) 11 dX4_lengthOf_11 rfl ?_
  refine z_ialdG (M := M_X4_lengthOf) 12 dX4_lengthOf_12 (oL_4 hL) (by omega) (by omega) (gL_4 hL G0 (by omega)) (fun x2 ex2 ax2 bx2 => ?_)
  refine z_vI (M := M_X4_lengthOf) 13 dX4_lengthOf_13 t_X4_lengthIn l_X4_77 (m_rr_of rfl) (rest := []) (c_X4_lengthIn h0 L x1 x2 hL G0 ⟨by omega, by omega⟩) (oL hL) rfl rfl rfl (Nat.le_of_ble_eq_true rfl) ⟨rfl, rfl⟩ (fun x3 h1 qx3 => ?_)
  obtain ⟨G1, S1, ax3, bx3⟩ := qx3
  have R1 := (FR.rf (cs := []) (ss := []) (h := h0)).call S1 (by decide +kernel)
  exact z_retI (M := M_X4_lengthOf) 16 dX4_lengthOf_16 rfl ⟨G1, R1, by omega, by omega⟩
abbrev P_X4_keeperOf (h0 : m_H) (L : Nat) (a1 : Int) : Int → m_H → Prop := fun x h' => GI h' ∧ FR [] [] h0 h' ∧ (-1) ≤ x ∧ x ≤ 3
set_option maxHeartbeats 4000000 in
set_option maxRecDepth 100000 in
theorem c_X4_keeperOf (h0 : m_H) (L : Nat) (a1 : Int) (hL : isL L) (G0 : GI h0) (pa1 : 0 ≤ a1 ∧ a1 ≤ 23) : m_CI M_X4_keeperOf [mR L, mI a1] h0 (P_X4_keeperOf h0 L a1) := by
  refine m_CI_of ⟨by decide, rfl, by simp [m_arg, m_isL, M_X4_keeperOf], ⟨rfl, rfl⟩, rfl, rfl⟩ (ls := [some (mR L), some (mI a1)]) rfl ?_
  refine z_aload_n (M := M_X4_keeperOf) 0 dX4_keeperOf_0 rfl ?_
  refine z_getR (M := M_X4_keeperOf) 1 dX4_keeperOf_1 f_X4_9 (oL hL) rfl (rL_0 hL G0) ?_
  refine z_aload_n (M := M_X4_keeperOf) 4 dX4_keeperOf_4 rfl ?_
  refine z_getR (M := M_X4_keeperOf) 5 dX4_keeperOf_5 f_X4_21 (oL hL) rfl (rL_3 hL G0) ?_
  refine z_iload_n (M := M_X4_keeperOf) 8 dX4_keeperOf_8 rfl ?_
  refine z_ialdG (M := M_X4_keeperOf) 9 dX4_keeperOf_9 (oL_4 hL) (by omega) (by omega) (gL_4 hL G0 (by omega)) (fun x1 ex1 ax1 bx1 => ?_)
  refine z_ialdG (M := M_X4_keeperOf) 10 dX4_keeperOf_10 (oL_1 hL) (by omega) (by omega) (gL_1 hL G0 (by omega)) (fun x2 ex2 ax2 bx2 => ?_)
  exact z_retI (M := M_X4_keeperOf) 11 dX4_keeperOf_11 rfl ⟨G0, (FR.rf (cs := []) (ss := []) (h := h0)), by omega, by omega⟩
abbrev P_X4_leastHalves (h0 : m_H) (L : Nat) (a1 : Int) : Int → m_H → Prop := fun x h' => GI h' ∧ FR [] [] h0 h' ∧ (-1) ≤ x ∧ x ≤ 198
set_option maxHeartbeats 4000000 in
set_option maxRecDepth 100000 in
theorem c_X4_leastHalves (h0 : m_H) (L : Nat) (a1 : Int) (hL : isL L) (G0 : GI h0) (pa1 : 0 ≤ a1 ∧ a1 ≤ 23) : m_CI M_X4_leastHalves [mR L, mI a1] h0 (P_X4_leastHalves h0 L a1) := by
  refine m_CI_of ⟨by decide, rfl, by simp [m_arg, m_isL, M_X4_leastHalves], ⟨rfl, rfl⟩, rfl, rfl⟩ (ls := [some (mR L), some (mI a1)]) rfl ?_
  refine z_iconst (M := M_X4_leastHalves) 0 dX4_leastHalves_0 ?_
  refine z_aload_n (M := M_X4_leastHalves) 1 dX4_leastHalves_1 rfl ?_
  refine z_getR (M := M_X4_leastHalves) 2 dX4_leastHalves_2 f_X4_24 (oL hL) rfl (rL_4 hL G0) ?_
  refine z_iload_n (M := M_X4_leastHalves) 5 dX4_leastHalves_5 rfl ?_
  refine z_ialdG (M := M_X4_leastHalves) 6 dX4_leastHalves_6 (oL_5 hL) (by omega) (by omega) (gL_5 hL G0 (by omega)) (fun x1 ex1 ax1 bx1 => ?_)
  refine z_imulN (M := M_X4_leastHalves) 7 dX4_leastHalves_7 (by omega) (by omega) ?_
  refine z_aload_n (M := M_X4_leastHalves) 8 dX4_leastHalves_8 rfl ?_
  refine z_getR (M := M_X4_leastHalves) 9 dX4_leastHalves_9 f_X4_27 (oL hL) rfl (rL_5 hL G0) ?_
  refine z_iload_n (M := M_X4_leastHalves) 12 dX4_leastHalves_12 rfl ?_
  refine z_ialdG (M := M_X4_leastHalves) 13 dX4_leastHalves_13 (oL_6 hL) (by omega) (by omega) (gL_6 hL G0 (by omega)) (fun x2 ex2 ax2 bx2 => ?_)
  refine z_iconst (M := M_X4_leastHalves) 14 dX4_leastHalves_14 ?_
  refine z_icmp_ne (M := M_X4_leastHalves) 15 dX4_leastHalves_15 22 rfl (fun c3 => ?_) (fun c3 => ?_)
  · refine z_iconst (M := M_X4_leastHalves) 22 dX4_leastHalves_22 ?_
    refine z_isubN (M := M_X4_leastHalves) 23 dX4_leastHalves_23 (by omega) (by omega) ?_
    exact z_retI (M := M_X4_leastHalves) 24 dX4_leastHalves_24 rfl ⟨G0, (FR.rf (cs := []) (ss := []) (h := h0)), by omega, by omega⟩
  · refine z_iconst (M := M_X4_leastHalves) 18 dX4_leastHalves_18 ?_
    refine z_goto (M := M_X4_leastHalves) 19 dX4_leastHalves_19 23 rfl ?_
    refine z_isubN (M := M_X4_leastHalves) 23 dX4_leastHalves_23 (by omega) (by omega) ?_
    exact z_retI (M := M_X4_leastHalves) 24 dX4_leastHalves_24 rfl ⟨G0, (FR.rf (cs := []) (ss := []) (h := h0)), by omega, by omega⟩
abbrev P_X4_endHalves (h0 : m_H) (L : Nat) (a1 : Int) : Int → m_H → Prop := fun x h' => GI h' ∧ FR [] [] h0 h' ∧ 0 ≤ x ∧ x ≤ 200
set_option maxHeartbeats 4000000 in
set_option maxRecDepth 100000 in
theorem c_X4_endHalves (h0 : m_H) (L : Nat) (a1 : Int) (hL : isL L) (G0 : GI h0) (pa1 : 0 ≤ a1 ∧ a1 ≤ 23) : m_CI M_X4_endHalves [mR L, mI a1] h0 (P_X4_endHalves h0 L a1) := by
  refine m_CI_of ⟨by decide, rfl, by simp [m_arg, m_isL, M_X4_endHalves], ⟨rfl, rfl⟩, rfl, rfl⟩ (ls := [some (mR L), some (mI a1)]) rfl ?_
  refine z_aload_n (M := M_X4_endHalves) 0 dX4_endHalves_0 rfl ?_
  refine z_getR (M := M_X4_endHalves) 1 dX4_endHalves_1 f_X4_27 (oL hL) rfl (rL_5 hL G0) ?_
  refine z_iload_n (M := M_X4_endHalves) 4 dX4_endHalves_4 rfl ?_
  refine z_ialdG (M := M_X4_endHalves) 5 dX4_endHalves_5 (oL_6 hL) (by omega) (by omega) (gL_6 hL G0 (by omega)) (fun x1 ex1 ax1 bx1 => ?_)
  refine z_if_ne (M := M_X4_endHalves) 6 dX4_endHalves_6 18 rfl (fun c2 => ?_) (fun c2 => ?_)
  · refine z_aload_n (M := M_X4_endHalves) 18 dX4_endHalves_18 rfl ?_
    refine z_iload_n (M := M_X4_endHalves) 19 dX4_endHalves_19 rfl ?_
    refine z_vI (M := M_X4_endHalves) 20 dX4_endHalves_20 t_X4_leastHalves l_X4_81 (m_rr_of rfl) (rest := []) (c_X4_leastHalves h0 L a1 hL G0 ⟨by omega, by omega⟩) (oL hL) rfl rfl rfl (Nat.le_of_ble_eq_true rfl) ⟨rfl, rfl⟩ (fun x3 h1 qx3 => ?_)
    obtain ⟨G1, S1, ax3, bx3⟩ := qx3
    have R1 := (FR.rf (cs := []) (ss := []) (h := h0)).call S1 (by decide +kernel)
    refine z_iconst (M := M_X4_endHalves) 23 dX4_endHalves_23 ?_
    refine z_iaddN (M := M_X4_endHalves) 24 dX4_endHalves_24 (by omega) (by omega) ?_
    exact z_retI (M := M_X4_endHalves) 25 dX4_endHalves_25 rfl ⟨G1, R1, by omega, by omega⟩
  · refine z_iconst (M := M_X4_endHalves) 9 dX4_endHalves_9 ?_
    refine z_aload_n (M := M_X4_endHalves) 10 dX4_endHalves_10 rfl ?_
    refine z_getR (M := M_X4_endHalves) 11 dX4_endHalves_11 f_X4_24 (oL hL) rfl (rL_4 hL G0) ?_
    refine z_iload_n (M := M_X4_endHalves) 14 dX4_endHalves_14 rfl ?_
    refine z_ialdG (M := M_X4_endHalves) 15 dX4_endHalves_15 (oL_5 hL) (by omega) (by omega) (gL_5 hL G0 (by omega)) (fun x4 ex4 ax4 bx4 => ?_)
    refine z_imulN (M := M_X4_endHalves) 16 dX4_endHalves_16 (by omega) (by omega) ?_
    exact z_retI (M := M_X4_endHalves) 17 dX4_endHalves_17 rfl ⟨G0, (FR.rf (cs := []) (ss := []) (h := h0)), by omega, by omega⟩
abbrev P_X4_wholeFeet (h0 : m_H) (L : Nat) (a1 a2 : Int) : Int → m_H → Prop := fun x h' => GI h' ∧ FR [] [] h0 h'
set_option maxHeartbeats 4000000 in
set_option maxRecDepth 100000 in
theorem c_X4_wholeFeet (h0 : m_H) (L : Nat) (a1 a2 : Int) (hL : isL L) (G0 : GI h0) (pa1 : 0 ≤ a1 ∧ a1 ≤ 11) (pa2 : 0 ≤ a2 ∧ a2 ≤ 3) : m_CI M_X4_wholeFeet [mR L, mI a1, mI a2] h0 (P_X4_wholeFeet h0 L a1 a2) := by
  refine m_CI_of ⟨by decide, rfl, by simp [m_arg, m_isL, M_X4_wholeFeet], ⟨rfl, rfl⟩, rfl, rfl⟩ (ls := [some (mR L), some (mI a1), some (mI a2)]) rfl ?_
  refine z_aload_n (M := M_X4_wholeFeet) 0 dX4_wholeFeet_0 rfl ?_
  refine z_getR (M := M_X4_wholeFeet) 1 dX4_wholeFeet_1 f_X4_30 (oL hL) rfl (rL_6 hL G0) ?_
  refine z_iload_n (M := M_X4_wholeFeet) 4 dX4_wholeFeet_4 rfl ?_
  refine z_ialdG (M := M_X4_wholeFeet) 5 dX4_wholeFeet_5 (oL_7 hL) (by omega) (by omega) (gL_7 hL G0 (by omega)) (fun x1 ex1 ax1 bx1 => ?_)
  refine z_i2l (M := M_X4_wholeFeet) 6 dX4_wholeFeet_6 ?_
  refine z_aload_n (M := M_X4_wholeFeet) 7 dX4_wholeFeet_7 rfl ?_
  refine z_getR (M := M_X4_wholeFeet) 8 dX4_wholeFeet_8 f_X4_30 (oL hL) rfl (rL_6 hL G0) ?_
  refine z_bipush (M := M_X4_wholeFeet) 11 dX4_wholeFeet_11 ?_
  refine z_iload_n (M := M_X4_wholeFeet) 13 dX4_wholeFeet_13 rfl ?_
  refine z_iaddN (M := M_X4_wholeFeet) 14 dX4_wholeFeet_14 (by omega) (by omega) ?_
  refine z_ialdG (M := M_X4_wholeFeet) 15 dX4_wholeFeet_15 (oL_7 hL) (by omega) (by omega) (gL_7 hL G0 (by omega)) (fun x2 ex2 ax2 bx2 => ?_)
  refine z_i2l (M := M_X4_wholeFeet) 16 dX4_wholeFeet_16 ?_
  refine z_nJ (M := M_X4_wholeFeet) 17 dX4_wholeFeet_17 t_X11_quotient l_X4_84 (m_rr_of rfl) (rest := []) (c_X11_quotient h0 x1 x2 G0) rfl rfl (Nat.le_of_ble_eq_true rfl) ⟨rfl, rfl⟩ (fun x3 h1 qx3 => ?_)
  obtain ⟨G1, S1⟩ := qx3
  have R1 := (FR.rf (cs := []) (ss := []) (h := h0)).call S1 (by decide +kernel)
  refine z_l2i (M := M_X4_wholeFeet) 20 dX4_wholeFeet_20 ?_
  refine z_topm (fun x4 ex4 ox4 => ?_)
  unfold m_32 at ox4
  exact z_retI (M := M_X4_wholeFeet) 21 dX4_wholeFeet_21 rfl ⟨G1, R1⟩
abbrev P_X4_isSoByWorld (h0 : m_H) (L : Nat) (a1 : Int) : Int → m_H → Prop := fun x h' => GI h' ∧ FR [] [] h0 h' ∧ 0 ≤ x ∧ x ≤ 1
set_option maxHeartbeats 4000000 in
set_option maxRecDepth 100000 in
theorem c_X4_isSoByWorld (h0 : m_H) (L : Nat) (a1 : Int) (hL : isL L) (G0 : GI h0) (pa1 : 0 ≤ a1 ∧ a1 ≤ 23) : m_CI M_X4_isSoByWorld [mR L, mI a1] h0 (P_X4_isSoByWorld h0 L a1) := by
  refine m_CI_of ⟨by decide, rfl, by simp [m_arg, m_isL, M_X4_isSoByWorld], ⟨rfl, rfl⟩, rfl, rfl⟩ (ls := [some (mR L), some (mI a1), none, none, none, none, none]) rfl ?_
  refine z_aload_n (M := M_X4_isSoByWorld) 0 dX4_isSoByWorld_0 rfl ?_
  refine z_iload_n (M := M_X4_isSoByWorld) 1 dX4_isSoByWorld_1 rfl ?_
  refine z_vI (M := M_X4_isSoByWorld) 2 dX4_isSoByWorld_2 t_X4_keeperOf l_X4_88 (m_rr_of rfl) (rest := []) (c_X4_keeperOf h0 L a1 hL G0 ⟨by omega, by omega⟩) (oL hL) rfl rfl rfl (Nat.le_of_ble_eq_true rfl) ⟨rfl, rfl⟩ (fun x1 h1 qx1 => ?_)
  obtain ⟨G1, S1, ax1, bx1⟩ := qx1
  have R1 := (FR.rf (cs := []) (ss := []) (h := h0)).call S1 (by decide +kernel)
  refine z_istore_n (M := M_X4_isSoByWorld) 5 dX4_isSoByWorld_5 (ls' := [some (mR L), some (mI a1), some (mI x1), none, none, none, none]) (by decide) rfl ?_
  refine z_iload_n (M := M_X4_isSoByWorld) 6 dX4_isSoByWorld_6 rfl ?_
  refine z_iconst (M := M_X4_isSoByWorld) 7 dX4_isSoByWorld_7 ?_
  refine z_icmp_ne (M := M_X4_isSoByWorld) 8 dX4_isSoByWorld_8 13 rfl (fun c2 => ?_) (fun c2 => ?_)
  · refine z_aload_n (M := M_X4_isSoByWorld) 13 dX4_isSoByWorld_13 rfl ?_
    refine z_getR (M := M_X4_isSoByWorld) 14 dX4_isSoByWorld_14 f_X4_30 (oL hL) rfl (rL_6 hL G1) ?_
    refine z_bipush (M := M_X4_isSoByWorld) 17 dX4_isSoByWorld_17 ?_
    refine z_iload_n (M := M_X4_isSoByWorld) 19 dX4_isSoByWorld_19 rfl ?_
    refine z_iaddN (M := M_X4_isSoByWorld) 20 dX4_isSoByWorld_20 (by omega) (by omega) ?_
    refine z_ialdG (M := M_X4_isSoByWorld) 21 dX4_isSoByWorld_21 (oL_7 hL) (by omega) (by omega) (gL_7 hL G1 (by omega)) (fun x3 ex3 ax3 bx3 => ?_)
    refine z_istore_n (M := M_X4_isSoByWorld) 22 dX4_isSoByWorld_22 (ls' := [some (mR L), some (mI a1), some (mI x1), some (mI x3), none, none, none]) (by decide) rfl ?_
    refine z_iconst (M := M_X4_isSoByWorld) 23 dX4_isSoByWorld_23 ?_
    refine z_aload_n (M := M_X4_isSoByWorld) 24 dX4_isSoByWorld_24 rfl ?_
    refine z_getR (M := M_X4_isSoByWorld) 25 dX4_isSoByWorld_25 f_X4_30 (oL hL) rfl (rL_6 hL G1) ?_
    refine z_aload_n (M := M_X4_isSoByWorld) 28 dX4_isSoByWorld_28 rfl ?_
    refine z_iload_n (M := M_X4_isSoByWorld) 29 dX4_isSoByWorld_29 rfl ?_
    refine z_vI (M := M_X4_isSoByWorld) 30 dX4_isSoByWorld_30 t_X4_lengthOf l_X4_91 (m_rr_of rfl) (rest := [mR (L + 7), mI 2]) (c_X4_lengthOf h1 L a1 hL G1 ⟨by omega, by omega⟩) (oL hL) rfl rfl rfl (Nat.le_of_ble_eq_true rfl) ⟨rfl, rfl⟩ (fun x4 h2 qx4 => ?_)
    obtain ⟨G2, S2, ax4, bx4⟩ := qx4
    have R2 := R1.call S2 (by decide +kernel)
    refine z_ialdG (M := M_X4_isSoByWorld) 33 dX4_isSoByWorld_33 (oL_7 hL) (by omega) (by omega) (gL_7 hL G2 (by omega)) (fun x5 ex5 ax5 bx5 => ?_)
    refine z_imulN (M := M_X4_isSoByWorld) 34 dX4_isSoByWorld_34 (by omega) (by omega) ?_
    refine z_istore (M := M_X4_isSoByWorld) 35 dX4_isSoByWorld_35 (ls' := [some (mR L), some (mI a1), some (mI x1), some (mI x3), some (mI (2 * x5)), none, none]) (by decide) rfl ?_
    refine z_aload_n (M := M_X4_isSoByWorld) 37 dX4_isSoByWorld_37 rfl ?_
    refine z_iload_n (M := M_X4_isSoByWorld) 38 dX4_isSoByWorld_38 rfl ?_
    refine z_vI (M := M_X4_isSoByWorld) 39 dX4_isSoByWorld_39 t_X4_leastHalves l_X4_81 (m_rr_of rfl) (rest := []) (c_X4_leastHalves h2 L a1 hL G2 ⟨by omega, by omega⟩) (oL hL) rfl rfl rfl (Nat.le_of_ble_eq_true rfl) ⟨rfl, rfl⟩ (fun x6 h3 qx6 => ?_)
    obtain ⟨G3, S3, ax6, bx6⟩ := qx6
    have R3 := R2.call S3 (by decide +kernel)
    refine z_iload_n (M := M_X4_isSoByWorld) 42 dX4_isSoByWorld_42 rfl ?_
    refine z_imul (M := M_X4_isSoByWorld) 43 dX4_isSoByWorld_43 ?_
    refine z_topm (fun x7 ex7 ox7 => ?_)
    unfold m_32 at ox7
    refine z_istore (M := M_X4_isSoByWorld) 44 dX4_isSoByWorld_44 (ls' := [some (mR L), some (mI a1), some (mI x1), some (mI x3), some (mI (2 * x5)), some (mI x7), none]) (by decide) rfl ?_
    refine z_aload_n (M := M_X4_isSoByWorld) 46 dX4_isSoByWorld_46 rfl ?_
    refine z_iload_n (M := M_X4_isSoByWorld) 47 dX4_isSoByWorld_47 rfl ?_
    refine z_vI (M := M_X4_isSoByWorld) 48 dX4_isSoByWorld_48 t_X4_endHalves l_X4_94 (m_rr_of rfl) (rest := []) (c_X4_endHalves h3 L a1 hL G3 ⟨by omega, by omega⟩) (oL hL) rfl rfl rfl (Nat.le_of_ble_eq_true rfl) ⟨rfl, rfl⟩ (fun x8 h4 qx8 => ?_)
    obtain ⟨G4, S4, ax8, bx8⟩ := qx8
    have R4 := R3.call S4 (by decide +kernel)
    refine z_iload_n (M := M_X4_isSoByWorld) 51 dX4_isSoByWorld_51 rfl ?_
    refine z_imul (M := M_X4_isSoByWorld) 52 dX4_isSoByWorld_52 ?_
    refine z_topm (fun x9 ex9 ox9 => ?_)
    unfold m_32 at ox9
    refine z_istore (M := M_X4_isSoByWorld) 53 dX4_isSoByWorld_53 (ls' := [some (mR L), some (mI a1), some (mI x1), some (mI x3), some (mI (2 * x5)), some (mI x7), some (mI x9)]) (by decide) rfl ?_
    refine z_aload_n (M := M_X4_isSoByWorld) 55 dX4_isSoByWorld_55 rfl ?_
    refine z_getR (M := M_X4_isSoByWorld) 56 dX4_isSoByWorld_56 f_X4_27 (oL hL) rfl (rL_5 hL G4) ?_
    refine z_iload_n (M := M_X4_isSoByWorld) 59 dX4_isSoByWorld_59 rfl ?_
    refine z_ialdG (M := M_X4_isSoByWorld) 60 dX4_isSoByWorld_60 (oL_6 hL) (by omega) (by omega) (gL_6 hL G4 (by omega)) (fun x10 ex10 ax10 bx10 => ?_)
    refine z_if_ne (M := M_X4_isSoByWorld) 61 dX4_isSoByWorld_61 79 rfl (fun c11 => ?_) (fun c11 => ?_)
    · refine z_iload (M := M_X4_isSoByWorld) 79 dX4_isSoByWorld_79 rfl ?_
      refine z_iload (M := M_X4_isSoByWorld) 81 dX4_isSoByWorld_81 rfl ?_
      refine z_icmp_lt (M := M_X4_isSoByWorld) 83 dX4_isSoByWorld_83 97 rfl (fun c12 => ?_) (fun c12 => ?_)
      · refine z_iconst (M := M_X4_isSoByWorld) 97 dX4_isSoByWorld_97 ?_
        exact z_retZ (M := M_X4_isSoByWorld) 98 dX4_isSoByWorld_98 rfl (by omega) ⟨G4, R4, by omega, by omega⟩
      · refine z_iload (M := M_X4_isSoByWorld) 86 dX4_isSoByWorld_86 rfl ?_
        refine z_iload (M := M_X4_isSoByWorld) 88 dX4_isSoByWorld_88 rfl ?_
        refine z_icmp_ge (M := M_X4_isSoByWorld) 90 dX4_isSoByWorld_90 97 rfl (fun c13 => ?_) (fun c13 => ?_)
        · refine z_iconst (M := M_X4_isSoByWorld) 97 dX4_isSoByWorld_97 ?_
          exact z_retZ (M := M_X4_isSoByWorld) 98 dX4_isSoByWorld_98 rfl (by omega) ⟨G4, R4, by omega, by omega⟩
        · refine z_iconst (M := M_X4_isSoByWorld) 93 dX4_isSoByWorld_93 ?_
          refine z_goto (M := M_X4_isSoByWorld) 94 dX4_isSoByWorld_94 98 rfl ?_
          exact z_retZ (M := M_X4_isSoByWorld) 98 dX4_isSoByWorld_98 rfl (by omega) ⟨G4, R4, by omega, by omega⟩
    · refine z_iload (M := M_X4_isSoByWorld) 64 dX4_isSoByWorld_64 rfl ?_
      refine z_iload (M := M_X4_isSoByWorld) 66 dX4_isSoByWorld_66 rfl ?_
      refine z_icmp_ne (M := M_X4_isSoByWorld) 68 dX4_isSoByWorld_68 75 rfl (fun c14 => ?_) (fun c14 => ?_)
      · refine z_iconst (M := M_X4_isSoByWorld) 75 dX4_isSoByWorld_75 ?_
        refine z_goto (M := M_X4_isSoByWorld) 76 dX4_isSoByWorld_76 98 rfl ?_
        exact z_retZ (M := M_X4_isSoByWorld) 98 dX4_isSoByWorld_98 rfl (by omega) ⟨G4, R4, by omega, by omega⟩
      · refine z_iconst (M := M_X4_isSoByWorld) 71 dX4_isSoByWorld_71 ?_
        refine z_goto (M := M_X4_isSoByWorld) 72 dX4_isSoByWorld_72 98 rfl ?_
        exact z_retZ (M := M_X4_isSoByWorld) 98 dX4_isSoByWorld_98 rfl (by omega) ⟨G4, R4, by omega, by omega⟩
  · refine z_iconst (M := M_X4_isSoByWorld) 11 dX4_isSoByWorld_11 ?_
    exact z_retZ (M := M_X4_isSoByWorld) 12 dX4_isSoByWorld_12 rfl (by omega) ⟨G1, R1, by omega, by omega⟩
abbrev P_X4_hasShortersByWorld (h0 : m_H) (L : Nat) : Int → m_H → Prop := fun x h' => GI h' ∧ FR [] [] h0 h' ∧ 0 ≤ x ∧ x ≤ 1
def q_X4_hasShortersByWorld (h0 : m_H) (L : Nat) (n : Nat) : Prop := (∀ (l1 : Int) (h : m_H), GI h → FR [] [] h0 h → 0 ≤ l1 → l1 ≤ 16 → 2 * (16 - l1) + (1) ≤ (n : Int) → m_Z oF M_X4_hasShortersByWorld 2 [some (mR L), some (mI l1), none, none] [] h (m_QI (P_X4_hasShortersByWorld h0 L)))
set_option maxHeartbeats 4000000 in
set_option maxRecDepth 100000 in
theorem s_X4_hasShortersByWorld_2 (h0 : m_H) (L : Nat) (hL : isL L) (G0 : GI h0) (n : Nat) (ih : q_X4_hasShortersByWorld h0 L n) : ∀ (l1 : Int) (h : m_H), GI h → FR [] [] h0 h → 0 ≤ l1 → l1 ≤ 16 → 2 * (16 - l1) + (1) ≤ ((n + 1 : Nat) : Int) → m_Z oF M_X4_hasShortersByWorld 2 [some (mR L), some (mI l1), none, none] [] h (m_QI (P_X4_hasShortersByWorld h0 L)) := by
  intro l1 h G R v0 v1 hr
  refine z_iload_n (M := M_X4_hasShortersByWorld) 2 dX4_hasShortersByWorld_2 rfl ?_
  refine z_bipush (M := M_X4_hasShortersByWorld) 3 dX4_hasShortersByWorld_3 ?_
  refine z_icmp_ge (M := M_X4_hasShortersByWorld) 5 dX4_hasShortersByWorld_5 56 rfl (fun c1 => ?_) (fun c1 => ?_)
  · refine z_iconst (M := M_X4_hasShortersByWorld) 56 dX4_hasShortersByWorld_56 ?_
    exact z_retZ (M := M_X4_hasShortersByWorld) 57 dX4_hasShortersByWorld_57 rfl (by omega) ⟨G, R, by omega, by omega⟩
  · refine z_aload_n (M := M_X4_hasShortersByWorld) 8 dX4_hasShortersByWorld_8 rfl ?_
    refine z_getR (M := M_X4_hasShortersByWorld) 9 dX4_hasShortersByWorld_9 f_X4_30 (oL hL) rfl (rL_6 hL G) ?_
    refine z_bipush (M := M_X4_hasShortersByWorld) 12 dX4_hasShortersByWorld_12 ?_
    refine z_iload_n (M := M_X4_hasShortersByWorld) 14 dX4_hasShortersByWorld_14 rfl ?_
    refine z_iconst (M := M_X4_hasShortersByWorld) 15 dX4_hasShortersByWorld_15 ?_
    refine z_idivN (M := M_X4_hasShortersByWorld) 16 dX4_hasShortersByWorld_16 (by omega) (by omega) ?_
    refine z_topBI (lo := 0) (hi := 3) ⟨by omega, by omega⟩ (fun x2 ex2 ax2 bx2 => ?_)
    refine z_iaddN (M := M_X4_hasShortersByWorld) 17 dX4_hasShortersByWorld_17 (by omega) (by omega) ?_
    refine z_ialdG (M := M_X4_hasShortersByWorld) 18 dX4_hasShortersByWorld_18 (oL_7 hL) (by omega) (by omega) (gL_7 hL G (by omega)) (fun x3 ex3 ax3 bx3 => ?_)
    refine z_istore_n (M := M_X4_hasShortersByWorld) 19 dX4_hasShortersByWorld_19 (ls' := [some (mR L), some (mI l1), some (mI x3), none]) (by decide) rfl ?_
    refine z_aload_n (M := M_X4_hasShortersByWorld) 20 dX4_hasShortersByWorld_20 rfl ?_
    refine z_getR (M := M_X4_hasShortersByWorld) 21 dX4_hasShortersByWorld_21 f_X4_30 (oL hL) rfl (rL_6 hL G) ?_
    refine z_bipush (M := M_X4_hasShortersByWorld) 24 dX4_hasShortersByWorld_24 ?_
    refine z_iload_n (M := M_X4_hasShortersByWorld) 26 dX4_hasShortersByWorld_26 rfl ?_
    refine z_iconst (M := M_X4_hasShortersByWorld) 27 dX4_hasShortersByWorld_27 ?_
    refine z_iremN (M := M_X4_hasShortersByWorld) 28 dX4_hasShortersByWorld_28 (by omega) (by omega) ?_
    refine z_topBI (lo := 0) (hi := 3) ⟨by omega, by omega⟩ (fun x4 ex4 ax4 bx4 => ?_)
    refine z_iaddN (M := M_X4_hasShortersByWorld) 29 dX4_hasShortersByWorld_29 (by omega) (by omega) ?_
    refine z_ialdG (M := M_X4_hasShortersByWorld) 30 dX4_hasShortersByWorld_30 (oL_7 hL) (by omega) (by omega) (gL_7 hL G (by omega)) (fun x5 ex5 ax5 bx5 => ?_)
    refine z_istore_n (M := M_X4_hasShortersByWorld) 31 dX4_hasShortersByWorld_31 (ls' := [some (mR L), some (mI l1), some (mI x3), some (mI x5)]) (by decide) rfl ?_
    refine z_aload_n (M := M_X4_hasShortersByWorld) 32 dX4_hasShortersByWorld_32 rfl ?_
    refine z_getIV (M := M_X4_hasShortersByWorld) 33 dX4_hasShortersByWorld_33 f_X4_52 (oL hL) (by decide) (fun x6 ex6 => ?_)
    refine z_ok (fun ox6 _ _ => ?_)
    have ox6 := ox6.1; unfold m_ok m_32 at ox6
    refine z_iload_n (M := M_X4_hasShortersByWorld) 36 dX4_hasShortersByWorld_36 rfl ?_
    refine z_nI (M := M_X4_hasShortersByWorld) 37 dX4_hasShortersByWorld_37 t_X11_hasBit l_X4_59 (m_rr_of rfl) (rest := []) (c_X11_hasBit h x6 l1 G) rfl rfl (Nat.le_of_ble_eq_true rfl) ⟨rfl, rfl⟩ (fun x7 h1 qx7 => ?_)
    obtain ⟨rfl, ⟨rfl, cx7⟩ | ⟨rfl, cx7⟩⟩ := qx7
    · refine z_if_eq_F (M := M_X4_hasShortersByWorld) 40 dX4_hasShortersByWorld_40 50 rfl (by omega) ?_
      refine z_iload_n (M := M_X4_hasShortersByWorld) 43 dX4_hasShortersByWorld_43 rfl ?_
      refine z_iload_n (M := M_X4_hasShortersByWorld) 44 dX4_hasShortersByWorld_44 rfl ?_
      refine z_icmp_lt (M := M_X4_hasShortersByWorld) 45 dX4_hasShortersByWorld_45 50 rfl (fun c8 => ?_) (fun c8 => ?_)
      · refine z_iincN (M := M_X4_hasShortersByWorld) 50 dX4_hasShortersByWorld_50 (ls' := [some (mR L), some (mI (l1 + 1)), some (mI x3), some (mI x5)]) (by decide) rfl (by (unfold m_32; decide)) (by omega) (by omega) rfl ?_
        refine z_goto (M := M_X4_hasShortersByWorld) 53 dX4_hasShortersByWorld_53 2 rfl ?_
        exact z_mask [true, true, false, false] rfl (ih (l1 + 1) h G R (by omega) (by omega) (by omega))
      · refine z_iconst (M := M_X4_hasShortersByWorld) 48 dX4_hasShortersByWorld_48 ?_
        exact z_retZ (M := M_X4_hasShortersByWorld) 49 dX4_hasShortersByWorld_49 rfl (by omega) ⟨G, R, by omega, by omega⟩
    · refine z_if_eq_T (M := M_X4_hasShortersByWorld) 40 dX4_hasShortersByWorld_40 50 rfl (by omega) ?_
      refine z_iincN (M := M_X4_hasShortersByWorld) 50 dX4_hasShortersByWorld_50 (ls' := [some (mR L), some (mI (l1 + 1)), some (mI x3), some (mI x5)]) (by decide) rfl (by (unfold m_32; decide)) (by omega) (by omega) rfl ?_
      refine z_goto (M := M_X4_hasShortersByWorld) 53 dX4_hasShortersByWorld_53 2 rfl ?_
      exact z_mask [true, true, false, false] rfl (ih (l1 + 1) h G R (by omega) (by omega) (by omega))
theorem a_X4_hasShortersByWorld (h0 : m_H) (L : Nat) (hL : isL L) (G0 : GI h0) : ∀ n, q_X4_hasShortersByWorld h0 L n := by
  intro n
  induction n with
  | zero => unfold q_X4_hasShortersByWorld; intros; omega
  | succ n ih => exact s_X4_hasShortersByWorld_2 h0 L hL G0 n ih
set_option maxHeartbeats 4000000 in
set_option maxRecDepth 100000 in
theorem c_X4_hasShortersByWorld (h0 : m_H) (L : Nat) (hL : isL L) (G0 : GI h0) : m_CI M_X4_hasShortersByWorld [mR L] h0 (P_X4_hasShortersByWorld h0 L) := by
  refine m_CI_of ⟨by decide, rfl, by simp [m_arg, m_isL, M_X4_hasShortersByWorld], ⟨rfl, rfl⟩, rfl, rfl⟩ (ls := [some (mR L), none, none, none]) rfl ?_
  have ih := a_X4_hasShortersByWorld h0 L hL G0 40
  refine z_iconst (M := M_X4_hasShortersByWorld) 0 dX4_hasShortersByWorld_0 ?_
  refine z_istore_n (M := M_X4_hasShortersByWorld) 1 dX4_hasShortersByWorld_1 (ls' := [some (mR L), some (mI 0), none, none]) (by decide) rfl ?_
  exact z_mask [true, true, false, false] rfl (ih 0 h0 G0 (FR.rf (cs := []) (ss := []) (h := h0)) (by omega) (by omega) (by omega))
abbrev P_X4_hasCutsByWorld (h0 : m_H) (L : Nat) : Int → m_H → Prop := fun x h' => GI h' ∧ FR [] [] h0 h' ∧ 0 ≤ x ∧ x ≤ 1
def q_X4_hasCutsByWorld (h0 : m_H) (L : Nat) (n : Nat) : Prop := (∀ (l1 : Int) (h : m_H), GI h → FR [] [] h0 h → 0 ≤ l1 → l1 ≤ 6 → 2 * (6 - l1) + (1) ≤ (n : Int) → m_Z oF M_X4_hasCutsByWorld 2 [some (mR L), some (mI l1)] [] h (m_QI (P_X4_hasCutsByWorld h0 L)))
set_option maxHeartbeats 4000000 in
set_option maxRecDepth 100000 in
theorem s_X4_hasCutsByWorld_2 (h0 : m_H) (L : Nat) (hL : isL L) (G0 : GI h0) (n : Nat) (ih : q_X4_hasCutsByWorld h0 L n) : ∀ (l1 : Int) (h : m_H), GI h → FR [] [] h0 h → 0 ≤ l1 → l1 ≤ 6 → 2 * (6 - l1) + (1) ≤ ((n + 1 : Nat) : Int) → m_Z oF M_X4_hasCutsByWorld 2 [some (mR L), some (mI l1)] [] h (m_QI (P_X4_hasCutsByWorld h0 L)) := by
  intro l1 h G R v0 v1 hr
  refine z_iload_n (M := M_X4_hasCutsByWorld) 2 dX4_hasCutsByWorld_2 rfl ?_
  refine z_bipush (M := M_X4_hasCutsByWorld) 3 dX4_hasCutsByWorld_3 ?_
  refine z_icmp_ge (M := M_X4_hasCutsByWorld) 5 dX4_hasCutsByWorld_5 44 rfl (fun c1 => ?_) (fun c1 => ?_)
  · refine z_iconst (M := M_X4_hasCutsByWorld) 44 dX4_hasCutsByWorld_44 ?_
    exact z_retZ (M := M_X4_hasCutsByWorld) 45 dX4_hasCutsByWorld_45 rfl (by omega) ⟨G, R, by omega, by omega⟩
  · refine z_aload_n (M := M_X4_hasCutsByWorld) 8 dX4_hasCutsByWorld_8 rfl ?_
    refine z_getR (M := M_X4_hasCutsByWorld) 9 dX4_hasCutsByWorld_9 f_X4_15 (oL hL) rfl (rL_1 hL G) ?_
    refine z_iload_n (M := M_X4_hasCutsByWorld) 12 dX4_hasCutsByWorld_12 rfl ?_
    refine z_ialdG (M := M_X4_hasCutsByWorld) 13 dX4_hasCutsByWorld_13 (oL_2 hL) (by omega) (by omega) (gL_2 hL G (by omega)) (fun x2 ex2 ax2 bx2 => ?_)
    refine z_iconst (M := M_X4_hasCutsByWorld) 14 dX4_hasCutsByWorld_14 ?_
    refine z_icmp_eq (M := M_X4_hasCutsByWorld) 15 dX4_hasCutsByWorld_15 38 rfl (fun c3 => ?_) (fun c3 => ?_)
    · refine z_iincN (M := M_X4_hasCutsByWorld) 38 dX4_hasCutsByWorld_38 (ls' := [some (mR L), some (mI (l1 + 1))]) (by decide) rfl (by (unfold m_32; decide)) (by omega) (by omega) rfl ?_
      refine z_goto (M := M_X4_hasCutsByWorld) 41 dX4_hasCutsByWorld_41 2 rfl ?_
      exact z_mask [true, true] rfl (ih (l1 + 1) h G R (by omega) (by omega) (by omega))
    · refine z_aload_n (M := M_X4_hasCutsByWorld) 18 dX4_hasCutsByWorld_18 rfl ?_
      refine z_getR (M := M_X4_hasCutsByWorld) 19 dX4_hasCutsByWorld_19 f_X4_30 (oL hL) rfl (rL_6 hL G) ?_
      refine z_iload_n (M := M_X4_hasCutsByWorld) 22 dX4_hasCutsByWorld_22 rfl ?_
      refine z_bipush (M := M_X4_hasCutsByWorld) 23 dX4_hasCutsByWorld_23 ?_
      refine z_iaddN (M := M_X4_hasCutsByWorld) 25 dX4_hasCutsByWorld_25 (by omega) (by omega) ?_
      refine z_ialdG (M := M_X4_hasCutsByWorld) 26 dX4_hasCutsByWorld_26 (oL_7 hL) (by omega) (by omega) (gL_7 hL G (by omega)) (fun x4 ex4 ax4 bx4 => ?_)
      refine z_aload_n (M := M_X4_hasCutsByWorld) 27 dX4_hasCutsByWorld_27 rfl ?_
      refine z_getR (M := M_X4_hasCutsByWorld) 28 dX4_hasCutsByWorld_28 f_X4_30 (oL hL) rfl (rL_6 hL G) ?_
      refine z_iload_n (M := M_X4_hasCutsByWorld) 31 dX4_hasCutsByWorld_31 rfl ?_
      refine z_ialdG (M := M_X4_hasCutsByWorld) 32 dX4_hasCutsByWorld_32 (oL_7 hL) (by omega) (by omega) (gL_7 hL G (by omega)) (fun x5 ex5 ax5 bx5 => ?_)
      refine z_icmp_le (M := M_X4_hasCutsByWorld) 33 dX4_hasCutsByWorld_33 38 rfl (fun c6 => ?_) (fun c6 => ?_)
      · refine z_iincN (M := M_X4_hasCutsByWorld) 38 dX4_hasCutsByWorld_38 (ls' := [some (mR L), some (mI (l1 + 1))]) (by decide) rfl (by (unfold m_32; decide)) (by omega) (by omega) rfl ?_
        refine z_goto (M := M_X4_hasCutsByWorld) 41 dX4_hasCutsByWorld_41 2 rfl ?_
        exact z_mask [true, true] rfl (ih (l1 + 1) h G R (by omega) (by omega) (by omega))
      · refine z_iconst (M := M_X4_hasCutsByWorld) 36 dX4_hasCutsByWorld_36 ?_
        exact z_retZ (M := M_X4_hasCutsByWorld) 37 dX4_hasCutsByWorld_37 rfl (by omega) ⟨G, R, by omega, by omega⟩
theorem a_X4_hasCutsByWorld (h0 : m_H) (L : Nat) (hL : isL L) (G0 : GI h0) : ∀ n, q_X4_hasCutsByWorld h0 L n := by
  intro n
  induction n with
  | zero => unfold q_X4_hasCutsByWorld; intros; omega
  | succ n ih => exact s_X4_hasCutsByWorld_2 h0 L hL G0 n ih
set_option maxHeartbeats 4000000 in
set_option maxRecDepth 100000 in
theorem c_X4_hasCutsByWorld (h0 : m_H) (L : Nat) (hL : isL L) (G0 : GI h0) : m_CI M_X4_hasCutsByWorld [mR L] h0 (P_X4_hasCutsByWorld h0 L) := by
  refine m_CI_of ⟨by decide, rfl, by simp [m_arg, m_isL, M_X4_hasCutsByWorld], ⟨rfl, rfl⟩, rfl, rfl⟩ (ls := [some (mR L), none]) rfl ?_
  have ih := a_X4_hasCutsByWorld h0 L hL G0 20
  refine z_iconst (M := M_X4_hasCutsByWorld) 0 dX4_hasCutsByWorld_0 ?_
  refine z_istore_n (M := M_X4_hasCutsByWorld) 1 dX4_hasCutsByWorld_1 (ls' := [some (mR L), some (mI 0)]) (by decide) rfl ?_
  exact z_mask [true, true] rfl (ih 0 h0 G0 (FR.rf (cs := []) (ss := []) (h := h0)) (by omega) (by omega) (by omega))
