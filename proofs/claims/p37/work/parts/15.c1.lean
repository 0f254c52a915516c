abbrev P_X11_within (h0 : m_H) (a0 a1 a2 : Int) : Int → m_H → Prop := fun x h' => h0 = h' ∧ ((x = 1 ∧ (a1 ≤ a0 ∧ a0 ≤ a2)) ∨ (x = 0 ∧ ¬ (a1 ≤ a0 ∧ a0 ≤ a2)))
set_option maxHeartbeats 4000000 in
set_option maxRecDepth 100000 in
theorem c_X11_within (h0 : m_H) (a0 a1 a2 : Int) (G0 : GI h0) : m_CI M_X11_within [mI a0, mI a1, mI a2] h0 (P_X11_within h0 a0 a1 a2) := by
  refine m_CI_of ⟨by decide, rfl, by simp [m_arg, m_isL, M_X11_within], ⟨rfl, rfl⟩, rfl, rfl⟩ (ls := [some (mI a0), some (mI a1), some (mI a2)]) rfl ?_
  refine z_ok (fun _ _ ok => ?_)
  have oa0 : m_32 a0 := ok 0 _ rfl
  unfold m_32 at oa0
  have oa1 : m_32 a1 := ok 1 _ rfl
  unfold m_32 at oa1
  have oa2 : m_32 a2 := ok 2 _ rfl
  unfold m_32 at oa2
  refine z_iload_n (M := M_X11_within) 0 dX11_within_0 rfl ?_
  refine z_iload_n (M := M_X11_within) 1 dX11_within_1 rfl ?_
  refine z_icmp_lt (M := M_X11_within) 2 dX11_within_2 14 rfl (fun c1 => ?_) (fun c1 => ?_)
  · refine z_iconst (M := M_X11_within) 14 dX11_within_14 ?_
    exact z_retZ (M := M_X11_within) 15 dX11_within_15 rfl (by omega) ⟨rfl, by omega⟩
  · refine z_iload_n (M := M_X11_within) 5 dX11_within_5 rfl ?_
    refine z_iload_n (M := M_X11_within) 6 dX11_within_6 rfl ?_
    refine z_icmp_gt (M := M_X11_within) 7 dX11_within_7 14 rfl (fun c2 => ?_) (fun c2 => ?_)
    · refine z_iconst (M := M_X11_within) 14 dX11_within_14 ?_
      exact z_retZ (M := M_X11_within) 15 dX11_within_15 rfl (by omega) ⟨rfl, by omega⟩
    · refine z_iconst (M := M_X11_within) 10 dX11_within_10 ?_
      refine z_goto (M := M_X11_within) 11 dX11_within_11 15 rfl ?_
      exact z_retZ (M := M_X11_within) 15 dX11_within_15 rfl (by omega) ⟨rfl, by omega⟩
abbrev P_X11_hasBit (h0 : m_H) (a0 a1 : Int) : Int → m_H → Prop := fun x h' => h0 = h' ∧ ((x = 1 ∧ m_and (m_shr a0 a1) 1 = 1) ∨ (x = 0 ∧ ¬ m_and (m_shr a0 a1) 1 = 1))
set_option maxHeartbeats 4000000 in
set_option maxRecDepth 100000 in
theorem c_X11_hasBit (h0 : m_H) (a0 a1 : Int) (G0 : GI h0) : m_CI M_X11_hasBit [mI a0, mI a1] h0 (P_X11_hasBit h0 a0 a1) := by
  refine m_CI_of ⟨by decide, rfl, by simp [m_arg, m_isL, M_X11_hasBit], ⟨rfl, rfl⟩, rfl, rfl⟩ (ls := [some (mI a0), some (mI a1)]) rfl ?_
  refine z_ok (fun _ _ ok => ?_)
  have oa0 : m_32 a0 := ok 0 _ rfl
  unfold m_32 at oa0
  have oa1 : m_32 a1 := ok 1 _ rfl
  unfold m_32 at oa1
  refine z_iload_n (M := M_X11_hasBit) 0 dX11_hasBit_0 rfl ?_
  refine z_iload_n (M := M_X11_hasBit) 1 dX11_hasBit_1 rfl ?_
  refine z_ishr (M := M_X11_hasBit) 2 dX11_hasBit_2 ?_
  refine z_topm (fun x1 ex1 ox1 => ?_)
  unfold m_32 at ox1
  refine z_iconst (M := M_X11_hasBit) 3 dX11_hasBit_3 ?_
  refine z_iand (M := M_X11_hasBit) 4 dX11_hasBit_4 ?_
  refine z_topBI (m_and_1 _) (fun x2 ex2 ax2 bx2 => ?_)
  refine z_iconst (M := M_X11_hasBit) 5 dX11_hasBit_5 ?_
  refine z_icmp_ne (M := M_X11_hasBit) 6 dX11_hasBit_6 13 rfl (fun c3 => ?_) (fun c3 => ?_)
  · refine z_iconst (M := M_X11_hasBit) 13 dX11_hasBit_13 ?_
    exact z_retZ (M := M_X11_hasBit) 14 dX11_hasBit_14 rfl (by omega) ⟨rfl, by subst_vars; omega⟩
  · refine z_iconst (M := M_X11_hasBit) 9 dX11_hasBit_9 ?_
    refine z_goto (M := M_X11_hasBit) 10 dX11_hasBit_10 14 rfl ?_
    exact z_retZ (M := M_X11_hasBit) 14 dX11_hasBit_14 rfl (by omega) ⟨rfl, by subst_vars; omega⟩
abbrev P_X11_isThing (h0 : m_H) (a0 : Int) : Int → m_H → Prop := fun x h' => h0 = h' ∧ ((x = 1 ∧ (0 ≤ a0 ∧ a0 ≤ 5)) ∨ (x = 0 ∧ ¬ (0 ≤ a0 ∧ a0 ≤ 5)))
set_option maxHeartbeats 4000000 in
set_option maxRecDepth 100000 in
theorem c_X11_isThing (h0 : m_H) (a0 : Int) (G0 : GI h0) : m_CI M_X11_isThing [mI a0] h0 (P_X11_isThing h0 a0) := by
  refine m_CI_of ⟨by decide, rfl, by simp [m_arg, m_isL, M_X11_isThing], ⟨rfl, rfl⟩, rfl, rfl⟩ (ls := [some (mI a0)]) rfl ?_
  refine z_ok (fun _ _ ok => ?_)
  have oa0 : m_32 a0 := ok 0 _ rfl
  unfold m_32 at oa0
  refine z_iload_n (M := M_X11_isThing) 0 dX11_isThing_0 rfl ?_
  refine z_iconst (M := M_X11_isThing) 1 dX11_isThing_1 ?_
  refine z_iconst (M := M_X11_isThing) 2 dX11_isThing_2 ?_
  refine z_sI (M := M_X11_isThing) 3 dX11_isThing_3 t_X11_within l_X11_112 (m_rr_of rfl) (rest := []) (c_X11_within h0 a0 0 5 G0) rfl rfl (Nat.le_of_ble_eq_true rfl) ⟨rfl, rfl⟩ (fun x1 h1 qx1 => ?_)
  obtain ⟨rfl, ⟨rfl, cx1⟩ | ⟨rfl, cx1⟩⟩ := qx1
  · exact z_retZ (M := M_X11_isThing) 6 dX11_isThing_6 rfl (by omega) ⟨rfl, by omega⟩
  · exact z_retZ (M := M_X11_isThing) 6 dX11_isThing_6 rfl (by omega) ⟨rfl, by omega⟩
abbrev P_X11_isKeeper (h0 : m_H) (a0 : Int) : Int → m_H → Prop := fun x h' => h0 = h' ∧ ((x = 1 ∧ (0 ≤ a0 ∧ a0 ≤ 3)) ∨ (x = 0 ∧ ¬ (0 ≤ a0 ∧ a0 ≤ 3)))
set_option maxHeartbeats 4000000 in
set_option maxRecDepth 100000 in
theorem c_X11_isKeeper (h0 : m_H) (a0 : Int) (G0 : GI h0) : m_CI M_X11_isKeeper [mI a0] h0 (P_X11_isKeeper h0 a0) := by
  refine m_CI_of ⟨by decide, rfl, by simp [m_arg, m_isL, M_X11_isKeeper], ⟨rfl, rfl⟩, rfl, rfl⟩ (ls := [some (mI a0)]) rfl ?_
  refine z_ok (fun _ _ ok => ?_)
  have oa0 : m_32 a0 := ok 0 _ rfl
  unfold m_32 at oa0
  refine z_iload_n (M := M_X11_isKeeper) 0 dX11_isKeeper_0 rfl ?_
  refine z_iconst (M := M_X11_isKeeper) 1 dX11_isKeeper_1 ?_
  refine z_iconst (M := M_X11_isKeeper) 2 dX11_isKeeper_2 ?_
  refine z_sI (M := M_X11_isKeeper) 3 dX11_isKeeper_3 t_X11_within l_X11_112 (m_rr_of rfl) (rest := []) (c_X11_within h0 a0 0 3 G0) rfl rfl (Nat.le_of_ble_eq_true rfl) ⟨rfl, rfl⟩ (fun x1 h1 qx1 => ?_)
  obtain ⟨rfl, ⟨rfl, cx1⟩ | ⟨rfl, cx1⟩⟩ := qx1
  · exact z_retZ (M := M_X11_isKeeper) 6 dX11_isKeeper_6 rfl (by omega) ⟨rfl, by omega⟩
  · exact z_retZ (M := M_X11_isKeeper) 6 dX11_isKeeper_6 rfl (by omega) ⟨rfl, by omega⟩
abbrev P_X11_isWeek (h0 : m_H) (a0 : Int) : Int → m_H → Prop := fun x h' => h0 = h' ∧ ((x = 1 ∧ (0 ≤ a0 ∧ a0 ≤ 31)) ∨ (x = 0 ∧ ¬ (0 ≤ a0 ∧ a0 ≤ 31)))
set_option maxHeartbeats 4000000 in
set_option maxRecDepth 100000 in
theorem c_X11_isWeek (h0 : m_H) (a0 : Int) (G0 : GI h0) : m_CI M_X11_isWeek [mI a0] h0 (P_X11_isWeek h0 a0) := by
  refine m_CI_of ⟨by decide, rfl, by simp [m_arg, m_isL, M_X11_isWeek], ⟨rfl, rfl⟩, rfl, rfl⟩ (ls := [some (mI a0)]) rfl ?_
  refine z_ok (fun _ _ ok => ?_)
  have oa0 : m_32 a0 := ok 0 _ rfl
  unfold m_32 at oa0
  refine z_iload_n (M := M_X11_isWeek) 0 dX11_isWeek_0 rfl ?_
  refine z_iconst (M := M_X11_isWeek) 1 dX11_isWeek_1 ?_
  refine z_bipush (M := M_X11_isWeek) 2 dX11_isWeek_2 ?_
  refine z_sI (M := M_X11_isWeek) 4 dX11_isWeek_4 t_X11_within l_X11_112 (m_rr_of rfl) (rest := []) (c_X11_within h0 a0 0 31 G0) rfl rfl (Nat.le_of_ble_eq_true rfl) ⟨rfl, rfl⟩ (fun x1 h1 qx1 => ?_)
  obtain ⟨rfl, ⟨rfl, cx1⟩ | ⟨rfl, cx1⟩⟩ := qx1
  · exact z_retZ (M := M_X11_isWeek) 7 dX11_isWeek_7 rfl (by omega) ⟨rfl, by omega⟩
  · exact z_retZ (M := M_X11_isWeek) 7 dX11_isWeek_7 rfl (by omega) ⟨rfl, by omega⟩
abbrev P_X11_isNumber (h0 : m_H) (a0 : Int) : Int → m_H → Prop := fun x h' => h0 = h' ∧ ((x = 1 ∧ (1 ≤ a0 ∧ a0 ≤ 99)) ∨ (x = 0 ∧ ¬ (1 ≤ a0 ∧ a0 ≤ 99)))
set_option maxHeartbeats 4000000 in
set_option maxRecDepth 100000 in
theorem c_X11_isNumber (h0 : m_H) (a0 : Int) (G0 : GI h0) : m_CI M_X11_isNumber [mI a0] h0 (P_X11_isNumber h0 a0) := by
  refine m_CI_of ⟨by decide, rfl, by simp [m_arg, m_isL, M_X11_isNumber], ⟨rfl, rfl⟩, rfl, rfl⟩ (ls := [some (mI a0)]) rfl ?_
  refine z_ok (fun _ _ ok => ?_)
  have oa0 : m_32 a0 := ok 0 _ rfl
  unfold m_32 at oa0
  refine z_iload_n (M := M_X11_isNumber) 0 dX11_isNumber_0 rfl ?_
  refine z_iconst (M := M_X11_isNumber) 1 dX11_isNumber_1 ?_
  refine z_bipush (M := M_X11_isNumber) 2 dX11_isNumber_2 ?_
  refine z_sI (M := M_X11_isNumber) 4 dX11_isNumber_4 t_X11_within l_X11_112 (m_rr_of rfl) (rest := []) (c_X11_within h0 a0 1 99 G0) rfl rfl (Nat.le_of_ble_eq_true rfl) ⟨rfl, rfl⟩ (fun x1 h1 qx1 => ?_)
  obtain ⟨rfl, ⟨rfl, cx1⟩ | ⟨rfl, cx1⟩⟩ := qx1
  · exact z_retZ (M := M_X11_isNumber) 7 dX11_isNumber_7 rfl (by omega) ⟨rfl, by omega⟩
  · exact z_retZ (M := M_X11_isNumber) 7 dX11_isNumber_7 rfl (by omega) ⟨rfl, by omega⟩
abbrev P_X11_isKind (h0 : m_H) (a0 : Int) : Int → m_H → Prop := fun x h' => h0 = h' ∧ ((x = 1 ∧ (0 ≤ a0 ∧ a0 ≤ 2)) ∨ (x = 0 ∧ ¬ (0 ≤ a0 ∧ a0 ≤ 2)))
set_option maxHeartbeats 4000000 in
set_option maxRecDepth 100000 in
theorem c_X11_isKind (h0 : m_H) (a0 : Int) (G0 : GI h0) : m_CI M_X11_isKind [mI a0] h0 (P_X11_isKind h0 a0) := by
  refine m_CI_of ⟨by decide, rfl, by simp [m_arg, m_isL, M_X11_isKind], ⟨rfl, rfl⟩, rfl, rfl⟩ (ls := [some (mI a0)]) rfl ?_
  refine z_ok (fun _ _ ok => ?_)
  have oa0 : m_32 a0 := ok 0 _ rfl
  unfold m_32 at oa0
  refine z_iload_n (M := M_X11_isKind) 0 dX11_isKind_0 rfl ?_
  refine z_iconst (M := M_X11_isKind) 1 dX11_isKind_1 ?_
  refine z_iconst (M := M_X11_isKind) 2 dX11_isKind_2 ?_
  refine z_sI (M := M_X11_isKind) 3 dX11_isKind_3 t_X11_within l_X11_112 (m_rr_of rfl) (rest := []) (c_X11_within h0 a0 0 2 G0) rfl rfl (Nat.le_of_ble_eq_true rfl) ⟨rfl, rfl⟩ (fun x1 h1 qx1 => ?_)
  obtain ⟨rfl, ⟨rfl, cx1⟩ | ⟨rfl, cx1⟩⟩ := qx1
  · exact z_retZ (M := M_X11_isKind) 6 dX11_isKind_6 rfl (by omega) ⟨rfl, by omega⟩
  · exact z_retZ (M := M_X11_isKind) 6 dX11_isKind_6 rfl (by omega) ⟨rfl, by omega⟩
abbrev P_X11_isEntry (h0 : m_H) (a0 a1 a2 a3 : Int) : Int → m_H → Prop := fun x h' => h0 = h' ∧ ((x = 1 ∧ ((0 ≤ a0 ∧ a0 ≤ 5) ∧ (0 ≤ a1 ∧ a1 ≤ 31) ∧ (1 ≤ a2 ∧ a2 ≤ 99) ∧ (0 ≤ a3 ∧ a3 ≤ 2))) ∨ (x = 0 ∧ ¬ ((0 ≤ a0 ∧ a0 ≤ 5) ∧ (0 ≤ a1 ∧ a1 ≤ 31) ∧ (1 ≤ a2 ∧ a2 ≤ 99) ∧ (0 ≤ a3 ∧ a3 ≤ 2))))
set_option maxHeartbeats 4000000 in
set_option maxRecDepth 100000 in
theorem c_X11_isEntry (h0 : m_H) (a0 a1 a2 a3 : Int) (G0 : GI h0) : m_CI M_X11_isEntry [mI a0, mI a1, mI a2, mI a3] h0 (P_X11_isEntry h0 a0 a1 a2 a3) := by
  refine m_CI_of ⟨by decide, rfl, by simp [m_arg, m_isL, M_X11_isEntry], ⟨rfl, rfl⟩, rfl, rfl⟩ (ls := [some (mI a0), some (mI a1), some (mI a2), some (mI a3)]) rfl ?_
  refine z_ok (fun _ _ ok => ?_)
  have oa0 : m_32 a0 := ok 0 _ rfl
  unfold m_32 at oa0
  have oa1 : m_32 a1 := ok 1 _ rfl
  unfold m_32 at oa1
  have oa2 : m_32 a2 := ok 2 _ rfl
  unfold m_32 at oa2
  have oa3 : m_32 a3 := ok 3 _ rfl
  unfold m_32 at oa3
  refine z_iload_n (M := M_X11_isEntry) 0 dX11_isEntry_0 rfl ?_
  refine z_sI (M := M_X11_isEntry) 1 dX11_isEntry_1 t_X11_isThing l_X11_126 (m_rr_of rfl) (rest := []) (c_X11_isThing h0 a0 G0) rfl rfl (Nat.le_of_ble_eq_true rfl) ⟨rfl, rfl⟩ (fun x1 h1 qx1 => ?_)
  obtain ⟨rfl, ⟨rfl, cx1⟩ | ⟨rfl, cx1⟩⟩ := qx1
  · refine z_if_eq_F (M := M_X11_isEntry) 4 dX11_isEntry_4 32 rfl (by omega) ?_
    refine z_iload_n (M := M_X11_isEntry) 7 dX11_isEntry_7 rfl ?_
    refine z_sI (M := M_X11_isEntry) 8 dX11_isEntry_8 t_X11_isWeek l_X11_108 (m_rr_of rfl) (rest := []) (c_X11_isWeek h0 a1 G0) rfl rfl (Nat.le_of_ble_eq_true rfl) ⟨rfl, rfl⟩ (fun x2 h2 qx2 => ?_)
    obtain ⟨rfl, ⟨rfl, cx2⟩ | ⟨rfl, cx2⟩⟩ := qx2
    · refine z_if_eq_F (M := M_X11_isEntry) 11 dX11_isEntry_11 32 rfl (by omega) ?_
      refine z_iload_n (M := M_X11_isEntry) 14 dX11_isEntry_14 rfl ?_
      refine z_sI (M := M_X11_isEntry) 15 dX11_isEntry_15 t_X11_isNumber l_X11_298 (m_rr_of rfl) (rest := []) (c_X11_isNumber h0 a2 G0) rfl rfl (Nat.le_of_ble_eq_true rfl) ⟨rfl, rfl⟩ (fun x3 h3 qx3 => ?_)
      obtain ⟨rfl, ⟨rfl, cx3⟩ | ⟨rfl, cx3⟩⟩ := qx3
      · refine z_if_eq_F (M := M_X11_isEntry) 18 dX11_isEntry_18 32 rfl (by omega) ?_
        refine z_iload_n (M := M_X11_isEntry) 21 dX11_isEntry_21 rfl ?_
        refine z_sI (M := M_X11_isEntry) 22 dX11_isEntry_22 t_X11_isKind l_X11_301 (m_rr_of rfl) (rest := []) (c_X11_isKind h0 a3 G0) rfl rfl (Nat.le_of_ble_eq_true rfl) ⟨rfl, rfl⟩ (fun x4 h4 qx4 => ?_)
        obtain ⟨rfl, ⟨rfl, cx4⟩ | ⟨rfl, cx4⟩⟩ := qx4
        · refine z_if_eq_F (M := M_X11_isEntry) 25 dX11_isEntry_25 32 rfl (by omega) ?_
          refine z_iconst (M := M_X11_isEntry) 28 dX11_isEntry_28 ?_
          refine z_goto (M := M_X11_isEntry) 29 dX11_isEntry_29 33 rfl ?_
          exact z_retZ (M := M_X11_isEntry) 33 dX11_isEntry_33 rfl (by omega) ⟨rfl, by omega⟩
        · refine z_if_eq_T (M := M_X11_isEntry) 25 dX11_isEntry_25 32 rfl (by omega) ?_
          refine z_iconst (M := M_X11_isEntry) 32 dX11_isEntry_32 ?_
          exact z_retZ (M := M_X11_isEntry) 33 dX11_isEntry_33 rfl (by omega) ⟨rfl, by omega⟩
      · refine z_if_eq_T (M := M_X11_isEntry) 18 dX11_isEntry_18 32 rfl (by omega) ?_
        refine z_iconst (M := M_X11_isEntry) 32 dX11_isEntry_32 ?_
        exact z_retZ (M := M_X11_isEntry) 33 dX11_isEntry_33 rfl (by omega) ⟨rfl, by omega⟩
    · refine z_if_eq_T (M := M_X11_isEntry) 11 dX11_isEntry_11 32 rfl (by omega) ?_
      refine z_iconst (M := M_X11_isEntry) 32 dX11_isEntry_32 ?_
      exact z_retZ (M := M_X11_isEntry) 33 dX11_isEntry_33 rfl (by omega) ⟨rfl, by omega⟩
  · refine z_if_eq_T (M := M_X11_isEntry) 4 dX11_isEntry_4 32 rfl (by omega) ?_
    refine z_iconst (M := M_X11_isEntry) 32 dX11_isEntry_32 ?_
    exact z_retZ (M := M_X11_isEntry) 33 dX11_isEntry_33 rfl (by omega) ⟨rfl, by omega⟩
abbrev P_J6_bitCount_0f7a4 (h0 : m_H) (a0 : Int) : Int → m_H → Prop := fun x h' => GI h' ∧ FR [] [] h0 h' ∧ 0 ≤ x ∧ x ≤ 63
set_option maxHeartbeats 4000000 in
set_option maxRecDepth 100000 in
theorem c_J6_bitCount_0f7a4 (h0 : m_H) (a0 : Int) (G0 : GI h0) : m_CI M_J6_bitCount_0f7a4 [mI a0] h0 (P_J6_bitCount_0f7a4 h0 a0) := by
  refine m_CI_of ⟨by decide, rfl, by simp [m_arg, m_isL, M_J6_bitCount_0f7a4], ⟨rfl, rfl⟩, rfl, rfl⟩ (ls := [some (mI a0)]) rfl ?_
  refine z_ok (fun _ _ ok => ?_)
  have oa0 : m_32 a0 := ok 0 _ rfl
  unfold m_32 at oa0
  refine z_iload_n (M := M_J6_bitCount_0f7a4) 0 dJ6_bitCount_0f7a4_0 rfl ?_
  refine z_iload_n (M := M_J6_bitCount_0f7a4) 1 dJ6_bitCount_0f7a4_1 rfl ?_
  refine z_iconst (M := M_J6_bitCount_0f7a4) 2 dJ6_bitCount_0f7a4_2 ?_
  refine z_iushr (M := M_J6_bitCount_0f7a4) 3 dJ6_bitCount_0f7a4_3 ?_
  refine z_topm (fun x1 ex1 ox1 => ?_)
  unfold m_32 at ox1
  refine z_ldcw (M := M_J6_bitCount_0f7a4) 4 dJ6_bitCount_0f7a4_4 k_J6_265 ?_
  refine z_iand (M := M_J6_bitCount_0f7a4) 7 dJ6_bitCount_0f7a4_7 ?_
  refine z_topm (fun x2 ex2 ox2 => ?_)
  unfold m_32 at ox2
  refine z_isub (M := M_J6_bitCount_0f7a4) 8 dJ6_bitCount_0f7a4_8 ?_
  refine z_topm (fun x3 ex3 ox3 => ?_)
  unfold m_32 at ox3
  refine z_istore_n (M := M_J6_bitCount_0f7a4) 9 dJ6_bitCount_0f7a4_9 (ls' := [some (mI x3)]) (by decide) rfl ?_
  refine z_iload_n (M := M_J6_bitCount_0f7a4) 10 dJ6_bitCount_0f7a4_10 rfl ?_
  refine z_ldcw (M := M_J6_bitCount_0f7a4) 11 dJ6_bitCount_0f7a4_11 k_J6_266 ?_
  refine z_iand (M := M_J6_bitCount_0f7a4) 14 dJ6_bitCount_0f7a4_14 ?_
  refine z_topm (fun x4 ex4 ox4 => ?_)
  unfold m_32 at ox4
  refine z_iload_n (M := M_J6_bitCount_0f7a4) 15 dJ6_bitCount_0f7a4_15 rfl ?_
  refine z_iconst (M := M_J6_bitCount_0f7a4) 16 dJ6_bitCount_0f7a4_16 ?_
  refine z_iushr (M := M_J6_bitCount_0f7a4) 17 dJ6_bitCount_0f7a4_17 ?_
  refine z_topm (fun x5 ex5 ox5 => ?_)
  unfold m_32 at ox5
  refine z_ldcw (M := M_J6_bitCount_0f7a4) 18 dJ6_bitCount_0f7a4_18 k_J6_266 ?_
  refine z_iand (M := M_J6_bitCount_0f7a4) 21 dJ6_bitCount_0f7a4_21 ?_
  refine z_topm (fun x6 ex6 ox6 => ?_)
  unfold m_32 at ox6
  refine z_iadd (M := M_J6_bitCount_0f7a4) 22 dJ6_bitCount_0f7a4_22 ?_
  refine z_topm (fun x7 ex7 ox7 => ?_)
  unfold m_32 at ox7
  refine z_istore_n (M := M_J6_bitCount_0f7a4) 23 dJ6_bitCount_0f7a4_23 (ls' := [some (mI x7)]) (by decide) rfl ?_
  refine z_iload_n (M := M_J6_bitCount_0f7a4) 24 dJ6_bitCount_0f7a4_24 rfl ?_
  refine z_iload_n (M := M_J6_bitCount_0f7a4) 25 dJ6_bitCount_0f7a4_25 rfl ?_
  refine z_iconst (M := M_J6_bitCount_0f7a4) 26 dJ6_bitCount_0f7a4_26 ?_
  refine z_iushr (M := M_J6_bitCount_0f7a4) 27 dJ6_bitCount_0f7a4_27 ?_
  refine z_topm (fun x8 ex8 ox8 => ?_)
  unfold m_32 at ox8
  refine z_iadd (M := M_J6_bitCount_0f7a4) 28 dJ6_bitCount_0f7a4_28 ?_
  refine z_topm (fun x9 ex9 ox9 => ?_)
  unfold m_32 at ox9
  refine z_ldcw (M := M_J6_bitCount_0f7a4) 29 dJ6_bitCount_0f7a4_29 k_J6_267 ?_
  refine z_iand (M := M_J6_bitCount_0f7a4) 32 dJ6_bitCount_0f7a4_32 ?_
  refine z_topm (fun x10 ex10 ox10 => ?_)
  unfold m_32 at ox10
  refine z_istore_n (M := M_J6_bitCount_0f7a4) 33 dJ6_bitCount_0f7a4_33 (ls' := [some (mI x10)]) (by decide) rfl ?_
  refine z_iload_n (M := M_J6_bitCount_0f7a4) 34 dJ6_bitCount_0f7a4_34 rfl ?_
  refine z_iload_n (M := M_J6_bitCount_0f7a4) 35 dJ6_bitCount_0f7a4_35 rfl ?_
  refine z_bipush (M := M_J6_bitCount_0f7a4) 36 dJ6_bitCount_0f7a4_36 ?_
  refine z_iushr (M := M_J6_bitCount_0f7a4) 38 dJ6_bitCount_0f7a4_38 ?_
  refine z_topm (fun x11 ex11 ox11 => ?_)
  unfold m_32 at ox11
  refine z_iadd (M := M_J6_bitCount_0f7a4) 39 dJ6_bitCount_0f7a4_39 ?_
  refine z_topm (fun x12 ex12 ox12 => ?_)
  unfold m_32 at ox12
  refine z_istore_n (M := M_J6_bitCount_0f7a4) 40 dJ6_bitCount_0f7a4_40 (ls' := [some (mI x12)]) (by decide) rfl ?_
  refine z_iload_n (M := M_J6_bitCount_0f7a4) 41 dJ6_bitCount_0f7a4_41 rfl ?_
  refine z_iload_n (M := M_J6_bitCount_0f7a4) 42 dJ6_bitCount_0f7a4_42 rfl ?_
  refine z_bipush (M := M_J6_bitCount_0f7a4) 43 dJ6_bitCount_0f7a4_43 ?_
  refine z_iushr (M := M_J6_bitCount_0f7a4) 45 dJ6_bitCount_0f7a4_45 ?_
  refine z_topm (fun x13 ex13 ox13 => ?_)
  unfold m_32 at ox13
  refine z_iadd (M := M_J6_bitCount_0f7a4) 46 dJ6_bitCount_0f7a4_46 ?_
  refine z_topm (fun x14 ex14 ox14 => ?_)
  unfold m_32 at ox14
  refine z_istore_n (M := M_J6_bitCount_0f7a4) 47 dJ6_bitCount_0f7a4_47 (ls' := [some (mI x14)]) (by decide) rfl ?_
  refine z_iload_n (M := M_J6_bitCount_0f7a4) 48 dJ6_bitCount_0f7a4_48 rfl ?_
  refine z_bipush (M := M_J6_bitCount_0f7a4) 49 dJ6_bitCount_0f7a4_49 ?_
  refine z_iand (M := M_J6_bitCount_0f7a4) 51 dJ6_bitCount_0f7a4_51 ?_
  refine z_topBI (m_and_63 _) (fun x15 ex15 ax15 bx15 => ?_)
  exact z_retI (M := M_J6_bitCount_0f7a4) 52 dJ6_bitCount_0f7a4_52 rfl ⟨G0, (FR.rf (cs := []) (ss := []) (h := h0)), by omega, by omega⟩
abbrev P_J13_compare_74951 (h0 : m_H) (a0 a1 : Int) : Int → m_H → Prop := fun x h' => GI h' ∧ FR [] [] h0 h' ∧ (-1) ≤ x ∧ x ≤ 1
set_option maxHeartbeats 4000000 in
set_option maxRecDepth 100000 in
theorem c_J13_compare_74951 (h0 : m_H) (a0 a1 : Int) (G0 : GI h0) : m_CI M_J13_compare_74951 [mJ a0, mJ a1] h0 (P_J13_compare_74951 h0 a0 a1) := by
  refine m_CI_of ⟨by decide, rfl, by simp [m_arg, m_isL, M_J13_compare_74951], ⟨rfl, rfl⟩, rfl, rfl⟩ (ls := [some (mJ a0), none, some (mJ a1), none]) rfl ?_
  refine z_lload_n (M := M_J13_compare_74951) 0 dJ13_compare_74951_0 rfl ?_
  refine z_lload_n (M := M_J13_compare_74951) 1 dJ13_compare_74951_1 rfl ?_
  refine z_lcmp (M := M_J13_compare_74951) 2 dJ13_compare_74951_2 ?_
  refine z_if_ge (M := M_J13_compare_74951) 3 dJ13_compare_74951_3 10 rfl (fun c1 => ?_) (fun c1 => ?_)
  · rw [m_cmp_ge] at c1
    refine z_lload_n (M := M_J13_compare_74951) 10 dJ13_compare_74951_10 rfl ?_
    refine z_lload_n (M := M_J13_compare_74951) 11 dJ13_compare_74951_11 rfl ?_
    refine z_lcmp (M := M_J13_compare_74951) 12 dJ13_compare_74951_12 ?_
    refine z_if_ne (M := M_J13_compare_74951) 13 dJ13_compare_74951_13 20 rfl (fun c2 => ?_) (fun c2 => ?_)
    · rw [m_cmp_eq] at c2
      refine z_iconst (M := M_J13_compare_74951) 20 dJ13_compare_74951_20 ?_
      exact z_retI (M := M_J13_compare_74951) 21 dJ13_compare_74951_21 rfl ⟨G0, (FR.rf (cs := []) (ss := []) (h := h0)), by omega, by omega⟩
    · rw [m_cmp_eq] at c2
      refine z_iconst (M := M_J13_compare_74951) 16 dJ13_compare_74951_16 ?_
      refine z_goto (M := M_J13_compare_74951) 17 dJ13_compare_74951_17 21 rfl ?_
      exact z_retI (M := M_J13_compare_74951) 21 dJ13_compare_74951_21 rfl ⟨G0, (FR.rf (cs := []) (ss := []) (h := h0)), by omega, by omega⟩
  · rw [m_cmp_ge] at c1
    refine z_iconst (M := M_J13_compare_74951) 6 dJ13_compare_74951_6 ?_
    refine z_goto (M := M_J13_compare_74951) 7 dJ13_compare_74951_7 21 rfl ?_
    exact z_retI (M := M_J13_compare_74951) 21 dJ13_compare_74951_21 rfl ⟨G0, (FR.rf (cs := []) (ss := []) (h := h0)), by omega, by omega⟩
abbrev P_X11_quotient (h0 : m_H) (a0 a1 : Int) : Int → m_H → Prop := fun x h' => GI h' ∧ FR [] [] h0 h'
set_option maxHeartbeats 4000000 in
set_option maxRecDepth 100000 in
theorem c_X11_quotient (h0 : m_H) (a0 a1 : Int) (G0 : GI h0) : m_CJ M_X11_quotient [mJ a0, mJ a1] h0 (P_X11_quotient h0 a0 a1) := by
  refine m_CJ_of ⟨by decide, rfl, by simp [m_arg, m_isL, M_X11_quotient], ⟨rfl, rfl⟩, rfl, rfl⟩ (ls := [some (mJ a0), none, some (mJ a1), none]) rfl ?_
  refine z_lload_n (M := M_X11_quotient) 0 dX11_quotient_0 rfl ?_
  refine z_lconst (M := M_X11_quotient) 1 dX11_quotient_1 (v := 0) ?_
  refine z_lcmp (M := M_X11_quotient) 2 dX11_quotient_2 ?_
  refine z_if_ne (M := M_X11_quotient) 3 dX11_quotient_3 10 rfl (fun c1 => ?_) (fun c1 => ?_)
  · rw [m_cmp_eq] at c1
    refine z_lload_n (M := M_X11_quotient) 10 dX11_quotient_10 rfl ?_
    refine z_lload_n (M := M_X11_quotient) 11 dX11_quotient_11 rfl ?_
    refine z_ldiv (M := M_X11_quotient) 12 dX11_quotient_12 (by omega) ?_
    refine z_topJ (fun x2 ex2 => ?_)
    exact z_retJ (M := M_X11_quotient) 13 dX11_quotient_13 rfl ⟨G0, (FR.rf (cs := []) (ss := []) (h := h0))⟩
  · rw [m_cmp_eq] at c1
    refine z_lconst (M := M_X11_quotient) 6 dX11_quotient_6 (v := 0) ?_
    refine z_goto (M := M_X11_quotient) 7 dX11_quotient_7 13 rfl ?_
    exact z_retJ (M := M_X11_quotient) 13 dX11_quotient_13 rfl ⟨G0, (FR.rf (cs := []) (ss := []) (h := h0))⟩
abbrev P_X11_remainder (h0 : m_H) (a0 a1 : Int) : Int → m_H → Prop := fun x h' => GI h' ∧ FR [] [] h0 h'
set_option maxHeartbeats 4000000 in
set_option maxRecDepth 100000 in
theorem c_X11_remainder (h0 : m_H) (a0 a1 : Int) (G0 : GI h0) : m_CJ M_X11_remainder [mJ a0, mJ a1] h0 (P_X11_remainder h0 a0 a1) := by
  refine m_CJ_of ⟨by decide, rfl, by simp [m_arg, m_isL, M_X11_remainder], ⟨rfl, rfl⟩, rfl, rfl⟩ (ls := [some (mJ a0), none, some (mJ a1), none]) rfl ?_
  refine z_lload_n (M := M_X11_remainder) 0 dX11_remainder_0 rfl ?_
  refine z_lconst (M := M_X11_remainder) 1 dX11_remainder_1 (v := 0) ?_
  refine z_lcmp (M := M_X11_remainder) 2 dX11_remainder_2 ?_
  refine z_if_ne (M := M_X11_remainder) 3 dX11_remainder_3 10 rfl (fun c1 => ?_) (fun c1 => ?_)
  · rw [m_cmp_eq] at c1
    refine z_lload_n (M := M_X11_remainder) 10 dX11_remainder_10 rfl ?_
    refine z_lload_n (M := M_X11_remainder) 11 dX11_remainder_11 rfl ?_
    refine z_lrem (M := M_X11_remainder) 12 dX11_remainder_12 (by omega) ?_
    refine z_topJ (fun x2 ex2 => ?_)
    exact z_retJ (M := M_X11_remainder) 13 dX11_remainder_13 rfl ⟨G0, (FR.rf (cs := []) (ss := []) (h := h0))⟩
  · rw [m_cmp_eq] at c1
    refine z_lconst (M := M_X11_remainder) 6 dX11_remainder_6 (v := 0) ?_
    refine z_goto (M := M_X11_remainder) 7 dX11_remainder_7 13 rfl ?_
    exact z_retJ (M := M_X11_remainder) 13 dX11_remainder_13 rfl ⟨G0, (FR.rf (cs := []) (ss := []) (h := h0))⟩
abbrev P_X11_commonDivisor (h0 : m_H) (a0 a1 : Int) : Int → m_H → Prop := fun x h' => GI h' ∧ FR [] [] h0 h'
def q_X11_commonDivisor (h0 : m_H) (a0 a1 : Int) (n : Nat) : Prop := (∀ (l4 l6 l8 : Int) (h : m_H), GI h → FR [] [] h0 h → 0 ≤ l8 → l8 ≤ 200 → 2 * (200 - l8) + (1) ≤ (n : Int) → m_Z oF M_X11_commonDivisor 9 [none, none, none, none, some (mJ l4), none, some (mJ l6), none, some (mI l8), none, none] [] h (m_QJ (P_X11_commonDivisor h0 a0 a1)))
set_option maxHeartbeats 4000000 in
set_option maxRecDepth 100000 in
theorem s_X11_commonDivisor_9 (h0 : m_H) (a0 a1 : Int) (G0 : GI h0) (n : Nat) (ih : q_X11_commonDivisor h0 a0 a1 n) : ∀ (l4 l6 l8 : Int) (h : m_H), GI h → FR [] [] h0 h → 0 ≤ l8 → l8 ≤ 200 → 2 * (200 - l8) + (1) ≤ ((n + 1 : Nat) : Int) → m_Z oF M_X11_commonDivisor 9 [none, none, none, none, some (mJ l4), none, some (mJ l6), none, some (mI l8), none, none] [] h (m_QJ (P_X11_commonDivisor h0 a0 a1)) := by
  intro l4 l6 l8 h G R v0 v1 hr
  refine z_iload (M := M_X11_commonDivisor) 9 dX11_commonDivisor_9 rfl ?_
  refine z_sipush (M := M_X11_commonDivisor) 11 dX11_commonDivisor_11 ?_
  refine z_icmp_ge (M := M_X11_commonDivisor) 14 dX11_commonDivisor_14 45 rfl (fun c1 => ?_) (fun c1 => ?_)
  · refine z_lload (M := M_X11_commonDivisor) 45 dX11_commonDivisor_45 rfl ?_
    exact z_retJ (M := M_X11_commonDivisor) 47 dX11_commonDivisor_47 rfl ⟨G, R⟩
  · refine z_lload (M := M_X11_commonDivisor) 17 dX11_commonDivisor_17 rfl ?_
    refine z_lconst (M := M_X11_commonDivisor) 19 dX11_commonDivisor_19 (v := 0) ?_
    refine z_lcmp (M := M_X11_commonDivisor) 20 dX11_commonDivisor_20 ?_
    refine z_if_eq (M := M_X11_commonDivisor) 21 dX11_commonDivisor_21 45 rfl (fun c2 => ?_) (fun c2 => ?_)
    · rw [m_cmp_eq] at c2
      refine z_lload (M := M_X11_commonDivisor) 45 dX11_commonDivisor_45 rfl ?_
      exact z_retJ (M := M_X11_commonDivisor) 47 dX11_commonDivisor_47 rfl ⟨G, R⟩
    · rw [m_cmp_eq] at c2
      refine z_lload (M := M_X11_commonDivisor) 24 dX11_commonDivisor_24 rfl ?_
      refine z_lload (M := M_X11_commonDivisor) 26 dX11_commonDivisor_26 rfl ?_
      refine z_lrem (M := M_X11_commonDivisor) 28 dX11_commonDivisor_28 (by omega) ?_
      refine z_topJ (fun x3 ex3 => ?_)
      refine z_lstore (M := M_X11_commonDivisor) 29 dX11_commonDivisor_29 (ls' := [none, none, none, none, some (mJ l4), none, some (mJ l6), none, some (mI l8), some (mJ x3), none]) (by decide) rfl ?_
      refine z_lload (M := M_X11_commonDivisor) 31 dX11_commonDivisor_31 rfl ?_
      refine z_lstore (M := M_X11_commonDivisor) 33 dX11_commonDivisor_33 (ls' := [none, none, none, none, some (mJ l6), none, some (mJ l6), none, some (mI l8), some (mJ x3), none]) (by decide) rfl ?_
      refine z_lload (M := M_X11_commonDivisor) 35 dX11_commonDivisor_35 rfl ?_
      refine z_lstore (M := M_X11_commonDivisor) 37 dX11_commonDivisor_37 (ls' := [none, none, none, none, some (mJ l6), none, some (mJ x3), none, some (mI l8), some (mJ x3), none]) (by decide) rfl ?_
      refine z_iincN (M := M_X11_commonDivisor) 39 dX11_commonDivisor_39 (ls' := [none, none, none, none, some (mJ l6), none, some (mJ x3), none, some (mI (l8 + 1)), some (mJ x3), none]) (by decide) rfl (by (unfold m_32; decide)) (by omega) (by omega) rfl ?_
      refine z_goto (M := M_X11_commonDivisor) 42 dX11_commonDivisor_42 9 rfl ?_
      exact z_mask [false, false, false, false, true, false, true, false, true, false, false] rfl (ih l6 x3 (l8 + 1) h G R (by omega) (by omega) (by omega))
theorem a_X11_commonDivisor (h0 : m_H) (a0 a1 : Int) (G0 : GI h0) : ∀ n, q_X11_commonDivisor h0 a0 a1 n := by
  intro n
  induction n with
  | zero => unfold q_X11_commonDivisor; intros; omega
  | succ n ih => exact s_X11_commonDivisor_9 h0 a0 a1 G0 n ih
set_option maxHeartbeats 4000000 in
set_option maxRecDepth 100000 in
theorem c_X11_commonDivisor (h0 : m_H) (a0 a1 : Int) (G0 : GI h0) : m_CJ M_X11_commonDivisor [mJ a0, mJ a1] h0 (P_X11_commonDivisor h0 a0 a1) := by
  refine m_CJ_of ⟨by decide, rfl, by simp [m_arg, m_isL, M_X11_commonDivisor], ⟨rfl, rfl⟩, rfl, rfl⟩ (ls := [some (mJ a0), none, some (mJ a1), none, none, none, none, none, none, none, none]) rfl ?_
  have ih := a_X11_commonDivisor h0 a0 a1 G0 408
  refine z_lload_n (M := M_X11_commonDivisor) 0 dX11_commonDivisor_0 rfl ?_
  refine z_lstore (M := M_X11_commonDivisor) 1 dX11_commonDivisor_1 (ls' := [some (mJ a0), none, some (mJ a1), none, some (mJ a0), none, none, none, none, none, none]) (by decide) rfl ?_
  refine z_lload_n (M := M_X11_commonDivisor) 3 dX11_commonDivisor_3 rfl ?_
  refine z_lstore (M := M_X11_commonDivisor) 4 dX11_commonDivisor_4 (ls' := [some (mJ a0), none, some (mJ a1), none, some (mJ a0), none, some (mJ a1), none, none, none, none]) (by decide) rfl ?_
  refine z_iconst (M := M_X11_commonDivisor) 6 dX11_commonDivisor_6 ?_
  refine z_istore (M := M_X11_commonDivisor) 7 dX11_commonDivisor_7 (ls' := [some (mJ a0), none, some (mJ a1), none, some (mJ a0), none, some (mJ a1), none, some (mI 0), none, none]) (by decide) rfl ?_
  exact z_mask [false, false, false, false, true, false, true, false, true, false, false] rfl (ih a0 a1 0 h0 G0 (FR.rf (cs := []) (ss := []) (h := h0)) (by omega) (by omega) (by omega))
abbrev P_X11_compareFractions (h0 : m_H) (a0 a1 a2 a3 : Int) : Int → m_H → Prop := fun x h' => GI h' ∧ FR [] [] h0 h'
def q_X11_compareFractions (h0 : m_H) (a0 a1 a2 a3 : Int) (n : Nat) : Prop := (∀ (l8 l10 l12 l14 l16 l17 : Int) (h : m_H), GI h → FR [] [] h0 h → (-1) ≤ l16 → l16 ≤ 1 → 0 ≤ l17 → l17 ≤ 200 → 2 * (200 - l17) + (1) ≤ (n : Int) → m_Z oF M_X11_compareFractions 20 [none, none, none, none, none, none, none, none, some (mJ l8), none, some (mJ l10), none, some (mJ l12), none, some (mJ l14), none, some (mI l16), some (mI l17), none, none, none, none, none] [] h (m_QI (P_X11_compareFractions h0 a0 a1 a2 a3)))
set_option maxHeartbeats 4000000 in
set_option maxRecDepth 100000 in
theorem s_X11_compareFractions_20 (h0 : m_H) (a0 a1 a2 a3 : Int) (G0 : GI h0) (n : Nat) (ih : q_X11_compareFractions h0 a0 a1 a2 a3 n) : ∀ (l8 l10 l12 l14 l16 l17 : Int) (h : m_H), GI h → FR [] [] h0 h → (-1) ≤ l16 → l16 ≤ 1 → 0 ≤ l17 → l17 ≤ 200 → 2 * (200 - l17) + (1) ≤ ((n + 1 : Nat) : Int) → m_Z oF M_X11_compareFractions 20 [none, none, none, none, none, none, none, none, some (mJ l8), none, some (mJ l10), none, some (mJ l12), none, some (mJ l14), none, some (mI l16), some (mI l17), none, none, none, none, none] [] h (m_QI (P_X11_compareFractions h0 a0 a1 a2 a3)) := by
  intro l8 l10 l12 l14 l16 l17 h G R v0 v1 v2 v3 hr
  refine z_iload (M := M_X11_compareFractions) 20 dX11_compareFractions_20 rfl ?_
  refine z_sipush (M := M_X11_compareFractions) 22 dX11_compareFractions_22 ?_
  refine z_icmp_ge (M := M_X11_compareFractions) 25 dX11_compareFractions_25 134 rfl (fun c1 => ?_) (fun c1 => ?_)
  · refine z_iconst (M := M_X11_compareFractions) 134 dX11_compareFractions_134 ?_
    exact z_retI (M := M_X11_compareFractions) 135 dX11_compareFractions_135 rfl ⟨G, R⟩
  · refine z_lload (M := M_X11_compareFractions) 28 dX11_compareFractions_28 rfl ?_
    refine z_lconst (M := M_X11_compareFractions) 30 dX11_compareFractions_30 (v := 0) ?_
    refine z_lcmp (M := M_X11_compareFractions) 31 dX11_compareFractions_31 ?_
    refine z_if_le (M := M_X11_compareFractions) 32 dX11_compareFractions_32 134 rfl (fun c2 => ?_) (fun c2 => ?_)
    · rw [m_cmp_le] at c2
      refine z_iconst (M := M_X11_compareFractions) 134 dX11_compareFractions_134 ?_
      exact z_retI (M := M_X11_compareFractions) 135 dX11_compareFractions_135 rfl ⟨G, R⟩
    · rw [m_cmp_le] at c2
      refine z_lload (M := M_X11_compareFractions) 35 dX11_compareFractions_35 rfl ?_
      refine z_lconst (M := M_X11_compareFractions) 37 dX11_compareFractions_37 (v := 0) ?_
      refine z_lcmp (M := M_X11_compareFractions) 38 dX11_compareFractions_38 ?_
      refine z_if_le (M := M_X11_compareFractions) 39 dX11_compareFractions_39 134 rfl (fun c3 => ?_) (fun c3 => ?_)
      · rw [m_cmp_le] at c3
        refine z_iconst (M := M_X11_compareFractions) 134 dX11_compareFractions_134 ?_
        exact z_retI (M := M_X11_compareFractions) 135 dX11_compareFractions_135 rfl ⟨G, R⟩
      · rw [m_cmp_le] at c3
        refine z_lload (M := M_X11_compareFractions) 42 dX11_compareFractions_42 rfl ?_
        refine z_lload (M := M_X11_compareFractions) 44 dX11_compareFractions_44 rfl ?_
        refine z_ldiv (M := M_X11_compareFractions) 46 dX11_compareFractions_46 (by omega) ?_
        refine z_topJ (fun x4 ex4 => ?_)
        refine z_lload (M := M_X11_compareFractions) 47 dX11_compareFractions_47 rfl ?_
        refine z_lload (M := M_X11_compareFractions) 49 dX11_compareFractions_49 rfl ?_
        refine z_ldiv (M := M_X11_compareFractions) 51 dX11_compareFractions_51 (by omega) ?_
        refine z_topJ (fun x5 ex5 => ?_)
        refine z_sI (M := M_X11_compareFractions) 52 dX11_compareFractions_52 t_J13_compare_74951 l_X11_443 (m_rr_of rfl) (rest := []) (c_J13_compare_74951 h x4 x5 G) rfl rfl (Nat.le_of_ble_eq_true rfl) ⟨rfl, rfl⟩ (fun x6 h1 qx6 => ?_)
        obtain ⟨G1, S1, ax6, bx6⟩ := qx6
        have R1 := R.call S1 (by decide +kernel)
        refine z_istore (M := M_X11_compareFractions) 55 dX11_compareFractions_55 (ls' := [none, none, none, none, none, none, none, none, some (mJ l8), none, some (mJ l10), none, some (mJ l12), none, some (mJ l14), none, some (mI l16), some (mI l17), some (mI x6), none, none, none, none]) (by decide) rfl ?_
        refine z_lload (M := M_X11_compareFractions) 57 dX11_compareFractions_57 rfl ?_
        refine z_lload (M := M_X11_compareFractions) 59 dX11_compareFractions_59 rfl ?_
        refine z_lrem (M := M_X11_compareFractions) 61 dX11_compareFractions_61 (by omega) ?_
        refine z_topJ (fun x7 ex7 => ?_)
        refine z_lstore (M := M_X11_compareFractions) 62 dX11_compareFractions_62 (ls' := [none, none, none, none, none, none, none, none, some (mJ l8), none, some (mJ l10), none, some (mJ l12), none, some (mJ l14), none, some (mI l16), some (mI l17), some (mI x6), some (mJ x7), none, none, none]) (by decide) rfl ?_
        refine z_lload (M := M_X11_compareFractions) 64 dX11_compareFractions_64 rfl ?_
        refine z_lload (M := M_X11_compareFractions) 66 dX11_compareFractions_66 rfl ?_
        refine z_lrem (M := M_X11_compareFractions) 68 dX11_compareFractions_68 (by omega) ?_
        refine z_topJ (fun x8 ex8 => ?_)
        refine z_lstore (M := M_X11_compareFractions) 69 dX11_compareFractions_69 (ls' := [none, none, none, none, none, none, none, none, some (mJ l8), none, some (mJ l10), none, some (mJ l12), none, some (mJ l14), none, some (mI l16), some (mI l17), some (mI x6), some (mJ x7), none, some (mJ x8), none]) (by decide) rfl ?_
        refine z_iload (M := M_X11_compareFractions) 71 dX11_compareFractions_71 rfl ?_
        refine z_if_eq (M := M_X11_compareFractions) 73 dX11_compareFractions_73 82 rfl (fun c9 => ?_) (fun c9 => ?_)
        · refine z_lload (M := M_X11_compareFractions) 82 dX11_compareFractions_82 rfl ?_
          refine z_lconst (M := M_X11_compareFractions) 84 dX11_compareFractions_84 (v := 0) ?_
          refine z_lcmp (M := M_X11_compareFractions) 85 dX11_compareFractions_85 ?_
          refine z_if_eq (M := M_X11_compareFractions) 86 dX11_compareFractions_86 96 rfl (fun c10 => ?_) (fun c10 => ?_)
          · rw [m_cmp_eq] at c10
            refine z_iload (M := M_X11_compareFractions) 96 dX11_compareFractions_96 rfl ?_
            refine z_lload (M := M_X11_compareFractions) 98 dX11_compareFractions_98 rfl ?_
            refine z_lload (M := M_X11_compareFractions) 100 dX11_compareFractions_100 rfl ?_
            refine z_sI (M := M_X11_compareFractions) 102 dX11_compareFractions_102 t_J13_compare_74951 l_X11_443 (m_rr_of rfl) (rest := [mI l16]) (c_J13_compare_74951 h1 x7 x8 G1) rfl rfl (Nat.le_of_ble_eq_true rfl) ⟨rfl, rfl⟩ (fun x11 h2 qx11 => ?_)
            obtain ⟨G2, S2, ax11, bx11⟩ := qx11
            have R2 := R1.call S2 (by decide +kernel)
            refine z_imul (M := M_X11_compareFractions) 105 dX11_compareFractions_105 ?_
            refine z_topm (fun x12 ex12 ox12 => ?_)
            unfold m_32 at ox12
            exact z_retI (M := M_X11_compareFractions) 106 dX11_compareFractions_106 rfl ⟨G2, R2⟩
          · rw [m_cmp_eq] at c10
            refine z_lload (M := M_X11_compareFractions) 89 dX11_compareFractions_89 rfl ?_
            refine z_lconst (M := M_X11_compareFractions) 91 dX11_compareFractions_91 (v := 0) ?_
            refine z_lcmp (M := M_X11_compareFractions) 92 dX11_compareFractions_92 ?_
            refine z_if_ne (M := M_X11_compareFractions) 93 dX11_compareFractions_93 107 rfl (fun c13 => ?_) (fun c13 => ?_)
            · rw [m_cmp_eq] at c13
              refine z_lload (M := M_X11_compareFractions) 107 dX11_compareFractions_107 rfl ?_
              refine z_lstore (M := M_X11_compareFractions) 109 dX11_compareFractions_109 (ls' := [none, none, none, none, none, none, none, none, some (mJ l10), none, some (mJ l10), none, some (mJ l12), none, some (mJ l14), none, some (mI l16), some (mI l17), some (mI x6), some (mJ x7), none, some (mJ x8), none]) (by decide) rfl ?_
              refine z_lload (M := M_X11_compareFractions) 111 dX11_compareFractions_111 rfl ?_
              refine z_lstore (M := M_X11_compareFractions) 113 dX11_compareFractions_113 (ls' := [none, none, none, none, none, none, none, none, some (mJ l10), none, some (mJ l10), none, some (mJ l14), none, some (mJ l14), none, some (mI l16), some (mI l17), some (mI x6), some (mJ x7), none, some (mJ x8), none]) (by decide) rfl ?_
              refine z_lload (M := M_X11_compareFractions) 115 dX11_compareFractions_115 rfl ?_
              refine z_lstore (M := M_X11_compareFractions) 117 dX11_compareFractions_117 (ls' := [none, none, none, none, none, none, none, none, some (mJ l10), none, some (mJ x7), none, some (mJ l14), none, some (mJ l14), none, some (mI l16), some (mI l17), some (mI x6), some (mJ x7), none, some (mJ x8), none]) (by decide) rfl ?_
              refine z_lload (M := M_X11_compareFractions) 119 dX11_compareFractions_119 rfl ?_
              refine z_lstore (M := M_X11_compareFractions) 121 dX11_compareFractions_121 (ls' := [none, none, none, none, none, none, none, none, some (mJ l10), none, some (mJ x7), none, some (mJ l14), none, some (mJ x8), none, some (mI l16), some (mI l17), some (mI x6), some (mJ x7), none, some (mJ x8), none]) (by decide) rfl ?_
              refine z_iload (M := M_X11_compareFractions) 123 dX11_compareFractions_123 rfl ?_
              refine z_inegN (M := M_X11_compareFractions) 125 dX11_compareFractions_125 (by omega) (by omega) ?_
              refine z_istore (M := M_X11_compareFractions) 126 dX11_compareFractions_126 (ls' := [none, none, none, none, none, none, none, none, some (mJ l10), none, some (mJ x7), none, some (mJ l14), none, some (mJ x8), none, some (mI (-l16)), some (mI l17), some (mI x6), some (mJ x7), none, some (mJ x8), none]) (by decide) rfl ?_
              refine z_iincN (M := M_X11_compareFractions) 128 dX11_compareFractions_128 (ls' := [none, none, none, none, none, none, none, none, some (mJ l10), none, some (mJ x7), none, some (mJ l14), none, some (mJ x8), none, some (mI (-l16)), some (mI (l17 + 1)), some (mI x6), some (mJ x7), none, some (mJ x8), none]) (by decide) rfl (by (unfold m_32; decide)) (by omega) (by omega) rfl ?_
              refine z_goto (M := M_X11_compareFractions) 131 dX11_compareFractions_131 20 rfl ?_
              exact z_mask [false, false, false, false, false, false, false, false, true, false, true, false, true, false, true, false, true, true, false, false, false, false, false] rfl (ih l10 x7 l14 x8 (-l16) (l17 + 1) h1 G1 R1 (by omega) (by omega) (by omega) (by omega) (by omega))
            · rw [m_cmp_eq] at c13
              refine z_iload (M := M_X11_compareFractions) 96 dX11_compareFractions_96 rfl ?_
              refine z_lload (M := M_X11_compareFractions) 98 dX11_compareFractions_98 rfl ?_
              refine z_lload (M := M_X11_compareFractions) 100 dX11_compareFractions_100 rfl ?_
              refine z_sI (M := M_X11_compareFractions) 102 dX11_compareFractions_102 t_J13_compare_74951 l_X11_443 (m_rr_of rfl) (rest := [mI l16]) (c_J13_compare_74951 h1 x7 x8 G1) rfl rfl (Nat.le_of_ble_eq_true rfl) ⟨rfl, rfl⟩ (fun x14 h3 qx14 => ?_)
              obtain ⟨G3, S3, ax14, bx14⟩ := qx14
              have R3 := R1.call S3 (by decide +kernel)
              refine z_imul (M := M_X11_compareFractions) 105 dX11_compareFractions_105 ?_
              refine z_topm (fun x15 ex15 ox15 => ?_)
              unfold m_32 at ox15
              exact z_retI (M := M_X11_compareFractions) 106 dX11_compareFractions_106 rfl ⟨G3, R3⟩
        · refine z_iload (M := M_X11_compareFractions) 76 dX11_compareFractions_76 rfl ?_
          refine z_iload (M := M_X11_compareFractions) 78 dX11_compareFractions_78 rfl ?_
          refine z_imul (M := M_X11_compareFractions) 80 dX11_compareFractions_80 ?_
          refine z_topm (fun x16 ex16 ox16 => ?_)
          unfold m_32 at ox16
          exact z_retI (M := M_X11_compareFractions) 81 dX11_compareFractions_81 rfl ⟨G1, R1⟩
theorem a_X11_compareFractions (h0 : m_H) (a0 a1 a2 a3 : Int) (G0 : GI h0) : ∀ n, q_X11_compareFractions h0 a0 a1 a2 a3 n := by
  intro n
  induction n with
  | zero => unfold q_X11_compareFractions; intros; omega
  | succ n ih => exact s_X11_compareFractions_20 h0 a0 a1 a2 a3 G0 n ih
set_option maxHeartbeats 4000000 in
set_option maxRecDepth 100000 in
theorem c_X11_compareFractions (h0 : m_H) (a0 a1 a2 a3 : Int) (G0 : GI h0) : m_CI M_X11_compareFractions [mJ a0, mJ a1, mJ a2, mJ a3] h0 (P_X11_compareFractions h0 a0 a1 a2 a3) := by
  refine m_CI_of ⟨by decide, rfl, by simp [m_arg, m_isL, M_X11_compareFractions], ⟨rfl, rfl⟩, rfl, rfl⟩ (ls := [some (mJ a0), none, some (mJ a1), none, some (mJ a2), none, some (mJ a3), none, none, none, none, none, none, none, none, none, none, none, none, none, none, none, none]) rfl ?_
  have ih := a_X11_compareFractions h0 a0 a1 a2 a3 G0 408
  refine z_lload_n (M := M_X11_compareFractions) 0 dX11_compareFractions_0 rfl ?_
  refine z_lstore (M := M_X11_compareFractions) 1 dX11_compareFractions_1 (ls' := [some (mJ a0), none, some (mJ a1), none, some (mJ a2), none, some (mJ a3), none, some (mJ a0), none, none, none, none, none, none, none, none, none, none, none, none, none, none]) (by decide) rfl ?_
  refine z_lload_n (M := M_X11_compareFractions) 3 dX11_compareFractions_3 rfl ?_
  refine z_lstore (M := M_X11_compareFractions) 4 dX11_compareFractions_4 (ls' := [some (mJ a0), none, some (mJ a1), none, some (mJ a2), none, some (mJ a3), none, some (mJ a0), none, some (mJ a1), none, none, none, none, none, none, none, none, none, none, none, none]) (by decide) rfl ?_
  refine z_lload (M := M_X11_compareFractions) 6 dX11_compareFractions_6 rfl ?_
  refine z_lstore (M := M_X11_compareFractions) 8 dX11_compareFractions_8 (ls' := [some (mJ a0), none, some (mJ a1), none, some (mJ a2), none, some (mJ a3), none, some (mJ a0), none, some (mJ a1), none, some (mJ a2), none, none, none, none, none, none, none, none, none, none]) (by decide) rfl ?_
  refine z_lload (M := M_X11_compareFractions) 10 dX11_compareFractions_10 rfl ?_
  refine z_lstore (M := M_X11_compareFractions) 12 dX11_compareFractions_12 (ls' := [some (mJ a0), none, some (mJ a1), none, some (mJ a2), none, some (mJ a3), none, some (mJ a0), none, some (mJ a1), none, some (mJ a2), none, some (mJ a3), none, none, none, none, none, none, none, none]) (by decide) rfl ?_
  refine z_iconst (M := M_X11_compareFractions) 14 dX11_compareFractions_14 ?_
  refine z_istore (M := M_X11_compareFractions) 15 dX11_compareFractions_15 (ls' := [some (mJ a0), none, some (mJ a1), none, some (mJ a2), none, some (mJ a3), none, some (mJ a0), none, some (mJ a1), none, some (mJ a2), none, some (mJ a3), none, some (mI 1), none, none, none, none, none, none]) (by decide) rfl ?_
  refine z_iconst (M := M_X11_compareFractions) 17 dX11_compareFractions_17 ?_
  refine z_istore (M := M_X11_compareFractions) 18 dX11_compareFractions_18 (ls' := [some (mJ a0), none, some (mJ a1), none, some (mJ a2), none, some (mJ a3), none, some (mJ a0), none, some (mJ a1), none, some (mJ a2), none, some (mJ a3), none, some (mI 1), some (mI 0), none, none, none, none, none]) (by decide) rfl ?_
  exact z_mask [false, false, false, false, false, false, false, false, true, false, true, false, true, false, true, false, true, true, false, false, false, false, false] rfl (ih a0 a1 a2 a3 1 0 h0 G0 (FR.rf (cs := []) (ss := []) (h := h0)) (by omega) (by omega) (by omega) (by omega) (by omega))
abbrev P_X11_atMost (h0 : m_H) (a0 a1 : Int) : Int → m_H → Prop := fun x h' => GI h' ∧ FR [] [] h0 h'
set_option maxHeartbeats 4000000 in
set_option maxRecDepth 100000 in
theorem c_X11_atMost (h0 : m_H) (a0 a1 : Int) (G0 : GI h0) : m_CI M_X11_atMost [mJ a0, mJ a1] h0 (P_X11_atMost h0 a0 a1) := by
  refine m_CI_of ⟨by decide, rfl, by simp [m_arg, m_isL, M_X11_atMost], ⟨rfl, rfl⟩, rfl, rfl⟩ (ls := [some (mJ a0), none, some (mJ a1), none]) rfl ?_
  refine z_lload_n (M := M_X11_atMost) 0 dX11_atMost_0 rfl ?_
  refine z_lload_n (M := M_X11_atMost) 1 dX11_atMost_1 rfl ?_
  refine z_minJ (M := M_X11_atMost) 2 dX11_atMost_2 ml_X11_438 (rest := []) (Nat.le_of_ble_eq_true rfl) (Nat.le_of_ble_eq_true rfl) ?_
  refine z_topJ (fun x1 ex1 => ?_)
  refine z_l2i (M := M_X11_atMost) 5 dX11_atMost_5 ?_
  refine z_topm (fun x2 ex2 ox2 => ?_)
  unfold m_32 at ox2
  exact z_retI (M := M_X11_atMost) 6 dX11_atMost_6 rfl ⟨G0, (FR.rf (cs := []) (ss := []) (h := h0))⟩
abbrev P_X11_ofWeeks (h0 : m_H) (a0 a1 : Int) : Int → m_H → Prop := fun x h' => GI h' ∧ FR [] [] h0 h' ∧ (-1) ≤ x ∧ x ≤ 63
def q_X11_ofWeeks (h0 : m_H) (a0 a1 : Int) (n : Nat) : Prop := (∀ (l2 l3 : Int) (h : m_H), GI h → FR [] [] h0 h → (-1) ≤ l2 → l2 ≤ 31 → 0 ≤ l3 → l3 ≤ 32 → (-2147483648) ≤ a0 → a0 ≤ 2147483647 → (-2147483648) ≤ a1 → a1 ≤ 2147483647 → 2 * (32 - l3) + (1) ≤ (n : Int) → m_Z oF M_X11_ofWeeks 13 [some (mI a0), some (mI a1), some (mI l2), some (mI l3)] [] h (m_QI (P_X11_ofWeeks h0 a0 a1)))
set_option maxHeartbeats 4000000 in
set_option maxRecDepth 100000 in
theorem s_X11_ofWeeks_13 (h0 : m_H) (a0 a1 : Int) (G0 : GI h0) (n : Nat) (ih : q_X11_ofWeeks h0 a0 a1 n) : ∀ (l2 l3 : Int) (h : m_H), GI h → FR [] [] h0 h → (-1) ≤ l2 → l2 ≤ 31 → 0 ≤ l3 → l3 ≤ 32 → (-2147483648) ≤ a0 → a0 ≤ 2147483647 → (-2147483648) ≤ a1 → a1 ≤ 2147483647 → 2 * (32 - l3) + (1) ≤ ((n + 1 : Nat) : Int) → m_Z oF M_X11_ofWeeks 13 [some (mI a0), some (mI a1), some (mI l2), some (mI l3)] [] h (m_QI (P_X11_ofWeeks h0 a0 a1)) := by
  intro l2 l3 h G R v0 v1 v2 v3 v4 v5 v6 v7 hr
  refine z_iload_n (M := M_X11_ofWeeks) 13 dX11_ofWeeks_13 rfl ?_
  refine z_bipush (M := M_X11_ofWeeks) 14 dX11_ofWeeks_14 ?_
  refine z_icmp_ge (M := M_X11_ofWeeks) 16 dX11_ofWeeks_16 43 rfl (fun c1 => ?_) (fun c1 => ?_)
  · refine z_iload_n (M := M_X11_ofWeeks) 43 dX11_ofWeeks_43 rfl ?_
    exact z_retI (M := M_X11_ofWeeks) 44 dX11_ofWeeks_44 rfl ⟨G, R, by omega, by omega⟩
  · refine z_iload_n (M := M_X11_ofWeeks) 19 dX11_ofWeeks_19 rfl ?_
    refine z_iload_n (M := M_X11_ofWeeks) 20 dX11_ofWeeks_20 rfl ?_
    refine z_sI (M := M_X11_ofWeeks) 21 dX11_ofWeeks_21 t_X11_hasBit l_X11_435 (m_rr_of rfl) (rest := []) (c_X11_hasBit h a0 l3 G) rfl rfl (Nat.le_of_ble_eq_true rfl) ⟨rfl, rfl⟩ (fun x2 h1 qx2 => ?_)
    obtain ⟨rfl, ⟨rfl, cx2⟩ | ⟨rfl, cx2⟩⟩ := qx2
    · refine z_if_eq_F (M := M_X11_ofWeeks) 24 dX11_ofWeeks_24 37 rfl (by omega) ?_
      refine z_iload_n (M := M_X11_ofWeeks) 27 dX11_ofWeeks_27 rfl ?_
      refine z_istore_n (M := M_X11_ofWeeks) 28 dX11_ofWeeks_28 (ls' := [some (mI a0), some (mI a1), some (mI l3), some (mI l3)]) (by decide) rfl ?_
      refine z_iload_n (M := M_X11_ofWeeks) 29 dX11_ofWeeks_29 rfl ?_
      refine z_iconst (M := M_X11_ofWeeks) 30 dX11_ofWeeks_30 ?_
      refine z_icmp_ne (M := M_X11_ofWeeks) 31 dX11_ofWeeks_31 37 rfl (fun c3 => ?_) (fun c3 => ?_)
      · refine z_iincN (M := M_X11_ofWeeks) 37 dX11_ofWeeks_37 (ls' := [some (mI a0), some (mI a1), some (mI l3), some (mI (l3 + 1))]) (by decide) rfl (by (unfold m_32; decide)) (by omega) (by omega) rfl ?_
        refine z_goto (M := M_X11_ofWeeks) 40 dX11_ofWeeks_40 13 rfl ?_
        exact z_mask [true, true, true, true] rfl (ih l3 (l3 + 1) h G R (by omega) (by omega) (by omega) (by omega) (by omega) (by omega) (by omega) (by omega) (by omega))
      · refine z_goto (M := M_X11_ofWeeks) 34 dX11_ofWeeks_34 43 rfl ?_
        refine z_iload_n (M := M_X11_ofWeeks) 43 dX11_ofWeeks_43 rfl ?_
        exact z_retI (M := M_X11_ofWeeks) 44 dX11_ofWeeks_44 rfl ⟨G, R, by omega, by omega⟩
    · refine z_if_eq_T (M := M_X11_ofWeeks) 24 dX11_ofWeeks_24 37 rfl (by omega) ?_
      refine z_iincN (M := M_X11_ofWeeks) 37 dX11_ofWeeks_37 (ls' := [some (mI a0), some (mI a1), some (mI l2), some (mI (l3 + 1))]) (by decide) rfl (by (unfold m_32; decide)) (by omega) (by omega) rfl ?_
      refine z_goto (M := M_X11_ofWeeks) 40 dX11_ofWeeks_40 13 rfl ?_
      exact z_mask [true, true, true, true] rfl (ih l2 (l3 + 1) h G R (by omega) (by omega) (by omega) (by omega) (by omega) (by omega) (by omega) (by omega) (by omega))
theorem a_X11_ofWeeks (h0 : m_H) (a0 a1 : Int) (G0 : GI h0) : ∀ n, q_X11_ofWeeks h0 a0 a1 n := by
  intro n
  induction n with
  | zero => unfold q_X11_ofWeeks; intros; omega
  | succ n ih => exact s_X11_ofWeeks_13 h0 a0 a1 G0 n ih
set_option maxHeartbeats 4000000 in
set_option maxRecDepth 100000 in
theorem c_X11_ofWeeks (h0 : m_H) (a0 a1 : Int) (G0 : GI h0) : m_CI M_X11_ofWeeks [mI a0, mI a1] h0 (P_X11_ofWeeks h0 a0 a1) := by
  refine m_CI_of ⟨by decide, rfl, by simp [m_arg, m_isL, M_X11_ofWeeks], ⟨rfl, rfl⟩, rfl, rfl⟩ (ls := [some (mI a0), some (mI a1), none, none]) rfl ?_
  have ih := a_X11_ofWeeks h0 a0 a1 G0 72
  refine z_ok (fun _ _ ok => ?_)
  have oa0 : m_32 a0 := ok 0 _ rfl
  unfold m_32 at oa0
  have oa1 : m_32 a1 := ok 1 _ rfl
  unfold m_32 at oa1
  refine z_iload_n (M := M_X11_ofWeeks) 0 dX11_ofWeeks_0 rfl ?_
  refine z_if_ne (M := M_X11_ofWeeks) 1 dX11_ofWeeks_1 9 rfl (fun c1 => ?_) (fun c1 => ?_)
  · refine z_iconst (M := M_X11_ofWeeks) 9 dX11_ofWeeks_9 ?_
    refine z_istore_n (M := M_X11_ofWeeks) 10 dX11_ofWeeks_10 (ls' := [some (mI a0), some (mI a1), some (mI (-1)), none]) (by decide) rfl ?_
    refine z_iconst (M := M_X11_ofWeeks) 11 dX11_ofWeeks_11 ?_
    refine z_istore_n (M := M_X11_ofWeeks) 12 dX11_ofWeeks_12 (ls' := [some (mI a0), some (mI a1), some (mI (-1)), some (mI 0)]) (by decide) rfl ?_
    exact z_mask [true, true, true, true] rfl (ih (-1) 0 h0 G0 (FR.rf (cs := []) (ss := []) (h := h0)) (by omega) (by omega) (by omega) (by omega) (by omega) (by omega) (by omega) (by omega) (by omega))
  · refine z_iload_n (M := M_X11_ofWeeks) 4 dX11_ofWeeks_4 rfl ?_
    refine z_sI (M := M_X11_ofWeeks) 5 dX11_ofWeeks_5 t_J6_bitCount_0f7a4 l_X11_415 (m_rr_of rfl) (rest := []) (c_J6_bitCount_0f7a4 h0 a0 G0) rfl rfl (Nat.le_of_ble_eq_true rfl) ⟨rfl, rfl⟩ (fun x2 h1 qx2 => ?_)
    obtain ⟨G1, S1, ax2, bx2⟩ := qx2
    have R1 := (FR.rf (cs := []) (ss := []) (h := h0)).call S1 (by decide +kernel)
    exact z_retI (M := M_X11_ofWeeks) 8 dX11_ofWeeks_8 rfl ⟨G1, R1, by omega, by omega⟩
abbrev P_X2_clear (h0 : m_H) (b : Nat) : m_H → Prop := fun h' => GI h' ∧ FR (csB ++ []) [] h0 h'
set_option maxHeartbeats 4000000 in
set_option maxRecDepth 100000 in
theorem c_X2_clear (h0 : m_H) (b : Nat) (hb : isB b) (G0 : GI h0) : m_CV M_X2_clear [mR b] h0 (P_X2_clear h0 b) := by
  refine m_CV_of ⟨by decide, rfl, by simp [m_arg, m_isL, M_X2_clear], ⟨rfl, rfl⟩, rfl, rfl⟩ (ls := [some (mR b)]) rfl ?_
  refine z_aload_n (M := M_X2_clear) 0 dX2_clear_0 rfl ?_
  refine z_lconst (M := M_X2_clear) 1 dX2_clear_1 (v := 1) ?_
  refine z_putJH (M := M_X2_clear) 2 dX2_clear_2 p_X2_7 (oB hb) rfl (uB0 hb G0) ((FR.rf (cs := (csB ++ [])) (ss := []) (h := h0)).up (frB hb)) (fun h1 E1 G1 R1 => ?_)
  refine z_aload_n (M := M_X2_clear) 5 dX2_clear_5 rfl ?_
  refine z_lconst (M := M_X2_clear) 6 dX2_clear_6 (v := 0) ?_
  refine z_putJH (M := M_X2_clear) 7 dX2_clear_7 p_X2_13 (oB hb) rfl (uB1 hb G1) (R1.up (frB hb)) (fun h2 E2 G2 R2 => ?_)
  refine z_aload_n (M := M_X2_clear) 10 dX2_clear_10 rfl ?_
  refine z_iconst (M := M_X2_clear) 11 dX2_clear_11 ?_
  refine z_putZH (M := M_X2_clear) 12 dX2_clear_12 p_X2_16 (oB hb) rfl (by omega) (uB2 hb G2 (by omega) (by omega)) (R2.up (frB hb)) (fun h3 E3 G3 R3 => ?_)
  exact z_retV (M := M_X2_clear) 15 dX2_clear_15 rfl ⟨G3, R3⟩
abbrev P_X2_put (h0 : m_H) (b : Nat) (a1 a2 a3 : Int) : m_H → Prop := fun h' => GI h' ∧ FR (csB ++ []) [] h0 h'
set_option maxHeartbeats 4000000 in
set_option maxRecDepth 100000 in
theorem c_X2_put (h0 : m_H) (b : Nat) (a1 a2 a3 : Int) (hb : isB b) (G0 : GI h0) (pa3 : 0 ≤ a3 ∧ a3 ≤ 1) : m_CV M_X2_put [mR b, mJ a1, mJ a2, mI a3] h0 (P_X2_put h0 b a1 a2 a3) := by
  refine m_CV_of ⟨by decide, rfl, by simp [m_arg, m_isL, M_X2_put], ⟨rfl, rfl⟩, rfl, rfl⟩ (ls := [some (mR b), some (mJ a1), none, some (mJ a2), none, some (mI a3)]) rfl ?_
  refine z_aload_n (M := M_X2_put) 0 dX2_put_0 rfl ?_
  refine z_lload_n (M := M_X2_put) 1 dX2_put_1 rfl ?_
  refine z_putJH (M := M_X2_put) 2 dX2_put_2 p_X2_7 (oB hb) rfl (uB0 hb G0) ((FR.rf (cs := (csB ++ [])) (ss := []) (h := h0)).up (frB hb)) (fun h1 E1 G1 R1 => ?_)
  refine z_aload_n (M := M_X2_put) 5 dX2_put_5 rfl ?_
  refine z_lload_n (M := M_X2_put) 6 dX2_put_6 rfl ?_
  refine z_putJH (M := M_X2_put) 7 dX2_put_7 p_X2_13 (oB hb) rfl (uB1 hb G1) (R1.up (frB hb)) (fun h2 E2 G2 R2 => ?_)
  refine z_aload_n (M := M_X2_put) 10 dX2_put_10 rfl ?_
  refine z_iload (M := M_X2_put) 11 dX2_put_11 rfl ?_
  refine z_putZH (M := M_X2_put) 13 dX2_put_13 p_X2_16 (oB hb) rfl (by omega) (uB2 hb G2 (by omega) (by omega)) (R2.up (frB hb)) (fun h3 E3 G3 R3 => ?_)
  exact z_retV (M := M_X2_put) 16 dX2_put_16 rfl ⟨G3, R3⟩
abbrev P_X2_lessen (h0 : m_H) (b : Nat) (a1 a2 a3 : Int) : m_H → Prop := fun h' => GI h' ∧ FR (csB ++ []) [] h0 h'
set_option maxHeartbeats 4000000 in
set_option maxRecDepth 100000 in
theorem c_X2_lessen (h0 : m_H) (b : Nat) (a1 a2 a3 : Int) (hb : isB b) (G0 : GI h0) (pa3 : 0 ≤ a3 ∧ a3 ≤ 1) : m_CV M_X2_lessen [mR b, mJ a1, mJ a2, mI a3] h0 (P_X2_lessen h0 b a1 a2 a3) := by
  refine m_CV_of ⟨by decide, rfl, by simp [m_arg, m_isL, M_X2_lessen], ⟨rfl, rfl⟩, rfl, rfl⟩ (ls := [some (mR b), some (mJ a1), none, some (mJ a2), none, some (mI a3), none, none, none, none]) rfl ?_
  refine z_aload_n (M := M_X2_lessen) 0 dX2_lessen_0 rfl ?_
  refine z_getJV (M := M_X2_lessen) 1 dX2_lessen_1 f_X2_7 (oB hb) rfl (fun x1 ex1 => ?_)
  refine z_lload_n (M := M_X2_lessen) 4 dX2_lessen_4 rfl ?_
  refine z_lmul (M := M_X2_lessen) 5 dX2_lessen_5 ?_
  refine z_topJ (fun x2 ex2 => ?_)
  refine z_lstore (M := M_X2_lessen) 6 dX2_lessen_6 (ls' := [some (mR b), some (mJ a1), none, some (mJ a2), none, some (mI a3), some (mJ x2), none, none, none]) (by decide) rfl ?_
  refine z_lload_n (M := M_X2_lessen) 8 dX2_lessen_8 rfl ?_
  refine z_aload_n (M := M_X2_lessen) 9 dX2_lessen_9 rfl ?_
  refine z_getJV (M := M_X2_lessen) 10 dX2_lessen_10 f_X2_13 (oB hb) rfl (fun x3 ex3 => ?_)
  refine z_lmul (M := M_X2_lessen) 13 dX2_lessen_13 ?_
  refine z_topJ (fun x4 ex4 => ?_)
  refine z_lstore (M := M_X2_lessen) 14 dX2_lessen_14 (ls' := [some (mR b), some (mJ a1), none, some (mJ a2), none, some (mI a3), some (mJ x2), none, some (mJ x4), none]) (by decide) rfl ?_
  refine z_lload (M := M_X2_lessen) 16 dX2_lessen_16 rfl ?_
  refine z_lload (M := M_X2_lessen) 18 dX2_lessen_18 rfl ?_
  refine z_lcmp (M := M_X2_lessen) 20 dX2_lessen_20 ?_
  refine z_if_lt (M := M_X2_lessen) 21 dX2_lessen_21 37 rfl (fun c5 => ?_) (fun c5 => ?_)
  · rw [m_cmp_lt] at c5
    refine z_aload_n (M := M_X2_lessen) 37 dX2_lessen_37 rfl ?_
    refine z_lload_n (M := M_X2_lessen) 38 dX2_lessen_38 rfl ?_
    refine z_lload_n (M := M_X2_lessen) 39 dX2_lessen_39 rfl ?_
    refine z_iload (M := M_X2_lessen) 40 dX2_lessen_40 rfl ?_
    refine z_vV (M := M_X2_lessen) 42 dX2_lessen_42 t_X2_put l_X2_20 (m_rr_of rfl) (rest := []) (c_X2_put h0 b a1 a2 a3 hb G0 ⟨by omega, by omega⟩) (oB hb) rfl rfl rfl (Nat.le_of_ble_eq_true rfl) ⟨rfl, rfl⟩ (fun h1 qx6 => ?_)
    obtain ⟨G1, S1⟩ := qx6
    have R1 := (FR.rf (cs := (csB ++ [])) (ss := []) (h := h0)).call S1 (by decide +kernel)
    exact z_retV (M := M_X2_lessen) 45 dX2_lessen_45 rfl ⟨G1, R1⟩
  · rw [m_cmp_lt] at c5
    refine z_lload (M := M_X2_lessen) 24 dX2_lessen_24 rfl ?_
    refine z_lload (M := M_X2_lessen) 26 dX2_lessen_26 rfl ?_
    refine z_lcmp (M := M_X2_lessen) 28 dX2_lessen_28 ?_
    refine z_if_ne (M := M_X2_lessen) 29 dX2_lessen_29 45 rfl (fun c7 => ?_) (fun c7 => ?_)
    · rw [m_cmp_eq] at c7
      exact z_retV (M := M_X2_lessen) 45 dX2_lessen_45 rfl ⟨G0, (FR.rf (cs := (csB ++ [])) (ss := []) (h := h0))⟩
    · rw [m_cmp_eq] at c7
      refine z_iload (M := M_X2_lessen) 32 dX2_lessen_32 rfl ?_
      refine z_if_eq (M := M_X2_lessen) 34 dX2_lessen_34 45 rfl (fun c8 => ?_) (fun c8 => ?_)
      · exact z_retV (M := M_X2_lessen) 45 dX2_lessen_45 rfl ⟨G0, (FR.rf (cs := (csB ++ [])) (ss := []) (h := h0))⟩
      · refine z_aload_n (M := M_X2_lessen) 37 dX2_lessen_37 rfl ?_
        refine z_lload_n (M := M_X2_lessen) 38 dX2_lessen_38 rfl ?_
        refine z_lload_n (M := M_X2_lessen) 39 dX2_lessen_39 rfl ?_
        refine z_iload (M := M_X2_lessen) 40 dX2_lessen_40 rfl ?_
        refine z_vV (M := M_X2_lessen) 42 dX2_lessen_42 t_X2_put l_X2_20 (m_rr_of rfl) (rest := []) (c_X2_put h0 b a1 a2 a3 hb G0 ⟨by omega, by omega⟩) (oB hb) rfl rfl rfl (Nat.le_of_ble_eq_true rfl) ⟨rfl, rfl⟩ (fun h2 qx9 => ?_)
        obtain ⟨G2, S2⟩ := qx9
        have R2 := (FR.rf (cs := (csB ++ [])) (ss := []) (h := h0)).call S2 (by decide +kernel)
        exact z_retV (M := M_X2_lessen) 45 dX2_lessen_45 rfl ⟨G2, R2⟩
abbrev P_X2_isBelowOne (h0 : m_H) (b : Nat) : Int → m_H → Prop := fun x h' => GI h' ∧ FR [] [] h0 h' ∧ 0 ≤ x ∧ x ≤ 1
set_option maxHeartbeats 4000000 in
set_option maxRecDepth 100000 in
theorem c_X2_isBelowOne (h0 : m_H) (b : Nat) (hb : isB b) (G0 : GI h0) : m_CI M_X2_isBelowOne [mR b] h0 (P_X2_isBelowOne h0 b) := by
  refine m_CI_of ⟨by decide, rfl, by simp [m_arg, m_isL, M_X2_isBelowOne], ⟨rfl, rfl⟩, rfl, rfl⟩ (ls := [some (mR b)]) rfl ?_
  refine z_aload_n (M := M_X2_isBelowOne) 0 dX2_isBelowOne_0 rfl ?_
  refine z_getJV (M := M_X2_isBelowOne) 1 dX2_isBelowOne_1 f_X2_13 (oB hb) rfl (fun x1 ex1 => ?_)
  refine z_lconst (M := M_X2_isBelowOne) 4 dX2_isBelowOne_4 (v := 0) ?_
  refine z_lcmp (M := M_X2_isBelowOne) 5 dX2_isBelowOne_5 ?_
  refine z_if_eq (M := M_X2_isBelowOne) 6 dX2_isBelowOne_6 44 rfl (fun c2 => ?_) (fun c2 => ?_)
  · rw [m_cmp_eq] at c2
    refine z_iconst (M := M_X2_isBelowOne) 44 dX2_isBelowOne_44 ?_
    exact z_retZ (M := M_X2_isBelowOne) 45 dX2_isBelowOne_45 rfl (by omega) ⟨G0, (FR.rf (cs := []) (ss := []) (h := h0)), by omega, by omega⟩
  · rw [m_cmp_eq] at c2
    refine z_aload_n (M := M_X2_isBelowOne) 9 dX2_isBelowOne_9 rfl ?_
    refine z_getJV (M := M_X2_isBelowOne) 10 dX2_isBelowOne_10 f_X2_7 (oB hb) rfl (fun x3 ex3 => ?_)
    refine z_aload_n (M := M_X2_isBelowOne) 13 dX2_isBelowOne_13 rfl ?_
    refine z_getJE (M := M_X2_isBelowOne) 14 dX2_isBelowOne_14 f_X2_13 (oB hb) rfl ex1 ?_
    refine z_lcmp (M := M_X2_isBelowOne) 17 dX2_isBelowOne_17 ?_
    refine z_if_lt (M := M_X2_isBelowOne) 18 dX2_isBelowOne_18 40 rfl (fun c4 => ?_) (fun c4 => ?_)
    · rw [m_cmp_lt] at c4
      refine z_iconst (M := M_X2_isBelowOne) 40 dX2_isBelowOne_40 ?_
      refine z_goto (M := M_X2_isBelowOne) 41 dX2_isBelowOne_41 45 rfl ?_
      exact z_retZ (M := M_X2_isBelowOne) 45 dX2_isBelowOne_45 rfl (by omega) ⟨G0, (FR.rf (cs := []) (ss := []) (h := h0)), by omega, by omega⟩
    · rw [m_cmp_lt] at c4
      refine z_aload_n (M := M_X2_isBelowOne) 21 dX2_isBelowOne_21 rfl ?_
      refine z_getJE (M := M_X2_isBelowOne) 22 dX2_isBelowOne_22 f_X2_7 (oB hb) rfl ex3 ?_
      refine z_aload_n (M := M_X2_isBelowOne) 25 dX2_isBelowOne_25 rfl ?_
      refine z_getJE (M := M_X2_isBelowOne) 26 dX2_isBelowOne_26 f_X2_13 (oB hb) rfl ex1 ?_
      refine z_lcmp (M := M_X2_isBelowOne) 29 dX2_isBelowOne_29 ?_
      refine z_if_ne (M := M_X2_isBelowOne) 30 dX2_isBelowOne_30 44 rfl (fun c5 => ?_) (fun c5 => ?_)
      · rw [m_cmp_eq] at c5
        refine z_iconst (M := M_X2_isBelowOne) 44 dX2_isBelowOne_44 ?_
        exact z_retZ (M := M_X2_isBelowOne) 45 dX2_isBelowOne_45 rfl (by omega) ⟨G0, (FR.rf (cs := []) (ss := []) (h := h0)), by omega, by omega⟩
      · rw [m_cmp_eq] at c5
        refine z_aload_n (M := M_X2_isBelowOne) 33 dX2_isBelowOne_33 rfl ?_
        refine z_getIG (M := M_X2_isBelowOne) 34 dX2_isBelowOne_34 f_X2_16 (oB hb) (by decide) (gB hb G0) (fun x6 ex6 ax6 bx6 => ?_)
        refine z_if_eq (M := M_X2_isBelowOne) 37 dX2_isBelowOne_37 44 rfl (fun c7 => ?_) (fun c7 => ?_)
        · refine z_iconst (M := M_X2_isBelowOne) 44 dX2_isBelowOne_44 ?_
          exact z_retZ (M := M_X2_isBelowOne) 45 dX2_isBelowOne_45 rfl (by omega) ⟨G0, (FR.rf (cs := []) (ss := []) (h := h0)), by omega, by omega⟩
        · refine z_iconst (M := M_X2_isBelowOne) 40 dX2_isBelowOne_40 ?_
          refine z_goto (M := M_X2_isBelowOne) 41 dX2_isBelowOne_41 45 rfl ?_
          exact z_retZ (M := M_X2_isBelowOne) 45 dX2_isBelowOne_45 rfl (by omega) ⟨G0, (FR.rf (cs := []) (ss := []) (h := h0)), by omega, by omega⟩
abbrev P_X2_contradicts (h0 : m_H) (b : Nat) (c : Nat) : Int → m_H → Prop := fun x h' => GI h' ∧ FR [] [] h0 h' ∧ 0 ≤ x ∧ x ≤ 1
set_option maxHeartbeats 4000000 in
set_option maxRecDepth 100000 in
theorem c_X2_contradicts (h0 : m_H) (b : Nat) (c : Nat) (hb : isB b) (hc : isB c) (G0 : GI h0) : m_CI M_X2_contradicts [mR b, mR c] h0 (P_X2_contradicts h0 b c) := by
  refine m_CI_of ⟨by decide, rfl, by simp [m_arg, m_isL, M_X2_contradicts], ⟨rfl, rfl⟩, rfl, rfl⟩ (ls := [some (mR b), some (mR c), none, none, none, none]) rfl ?_
  refine z_aload_n (M := M_X2_contradicts) 0 dX2_contradicts_0 rfl ?_
  refine z_getJV (M := M_X2_contradicts) 1 dX2_contradicts_1 f_X2_7 (oB hb) rfl (fun x1 ex1 => ?_)
  refine z_aload_n (M := M_X2_contradicts) 4 dX2_contradicts_4 rfl ?_
  refine z_getJV (M := M_X2_contradicts) 5 dX2_contradicts_5 f_X2_7 (oB hc) rfl (fun x2 ex2 => ?_)
  refine z_lmul (M := M_X2_contradicts) 8 dX2_contradicts_8 ?_
  refine z_topJ (fun x3 ex3 => ?_)
  refine z_lstore_n (M := M_X2_contradicts) 9 dX2_contradicts_9 (ls' := [some (mR b), some (mR c), some (mJ x3), none, none, none]) (by decide) rfl ?_
  refine z_aload_n (M := M_X2_contradicts) 10 dX2_contradicts_10 rfl ?_
  refine z_getJV (M := M_X2_contradicts) 11 dX2_contradicts_11 f_X2_13 (oB hb) rfl (fun x4 ex4 => ?_)
  refine z_aload_n (M := M_X2_contradicts) 14 dX2_contradicts_14 rfl ?_
  refine z_getJV (M := M_X2_contradicts) 15 dX2_contradicts_15 f_X2_13 (oB hc) rfl (fun x5 ex5 => ?_)
  refine z_lmul (M := M_X2_contradicts) 18 dX2_contradicts_18 ?_
  refine z_topJ (fun x6 ex6 => ?_)
  refine z_lstore (M := M_X2_contradicts) 19 dX2_contradicts_19 (ls' := [some (mR b), some (mR c), some (mJ x3), none, some (mJ x6), none]) (by decide) rfl ?_
  refine z_lload_n (M := M_X2_contradicts) 21 dX2_contradicts_21 rfl ?_
  refine z_lload (M := M_X2_contradicts) 22 dX2_contradicts_22 rfl ?_
  refine z_lcmp (M := M_X2_contradicts) 24 dX2_contradicts_24 ?_
  refine z_if_lt (M := M_X2_contradicts) 25 dX2_contradicts_25 49 rfl (fun c7 => ?_) (fun c7 => ?_)
  · rw [m_cmp_lt] at c7
    refine z_iconst (M := M_X2_contradicts) 49 dX2_contradicts_49 ?_
    refine z_goto (M := M_X2_contradicts) 50 dX2_contradicts_50 54 rfl ?_
    exact z_retZ (M := M_X2_contradicts) 54 dX2_contradicts_54 rfl (by omega) ⟨G0, (FR.rf (cs := []) (ss := []) (h := h0)), by omega, by omega⟩
  · rw [m_cmp_lt] at c7
    refine z_lload_n (M := M_X2_contradicts) 28 dX2_contradicts_28 rfl ?_
    refine z_lload (M := M_X2_contradicts) 29 dX2_contradicts_29 rfl ?_
    refine z_lcmp (M := M_X2_contradicts) 31 dX2_contradicts_31 ?_
    refine z_if_ne (M := M_X2_contradicts) 32 dX2_contradicts_32 53 rfl (fun c8 => ?_) (fun c8 => ?_)
    · rw [m_cmp_eq] at c8
      refine z_iconst (M := M_X2_contradicts) 53 dX2_contradicts_53 ?_
      exact z_retZ (M := M_X2_contradicts) 54 dX2_contradicts_54 rfl (by omega) ⟨G0, (FR.rf (cs := []) (ss := []) (h := h0)), by omega, by omega⟩
    · rw [m_cmp_eq] at c8
      refine z_aload_n (M := M_X2_contradicts) 35 dX2_contradicts_35 rfl ?_
      refine z_getIG (M := M_X2_contradicts) 36 dX2_contradicts_36 f_X2_16 (oB hb) (by decide) (gB hb G0) (fun x9 ex9 ax9 bx9 => ?_)
      refine z_if_ne (M := M_X2_contradicts) 39 dX2_contradicts_39 49 rfl (fun c10 => ?_) (fun c10 => ?_)
      · refine z_iconst (M := M_X2_contradicts) 49 dX2_contradicts_49 ?_
        refine z_goto (M := M_X2_contradicts) 50 dX2_contradicts_50 54 rfl ?_
        exact z_retZ (M := M_X2_contradicts) 54 dX2_contradicts_54 rfl (by omega) ⟨G0, (FR.rf (cs := []) (ss := []) (h := h0)), by omega, by omega⟩
      · refine z_aload_n (M := M_X2_contradicts) 42 dX2_contradicts_42 rfl ?_
        refine z_getIG (M := M_X2_contradicts) 43 dX2_contradicts_43 f_X2_16 (oB hc) (by decide) (gB hc G0) (fun x11 ex11 ax11 bx11 => ?_)
        refine z_if_eq (M := M_X2_contradicts) 46 dX2_contradicts_46 53 rfl (fun c12 => ?_) (fun c12 => ?_)
        · refine z_iconst (M := M_X2_contradicts) 53 dX2_contradicts_53 ?_
          exact z_retZ (M := M_X2_contradicts) 54 dX2_contradicts_54 rfl (by omega) ⟨G0, (FR.rf (cs := []) (ss := []) (h := h0)), by omega, by omega⟩
        · refine z_iconst (M := M_X2_contradicts) 49 dX2_contradicts_49 ?_
          refine z_goto (M := M_X2_contradicts) 50 dX2_contradicts_50 54 rfl ?_
          exact z_retZ (M := M_X2_contradicts) 54 dX2_contradicts_54 rfl (by omega) ⟨G0, (FR.rf (cs := []) (ss := []) (h := h0)), by omega, by omega⟩
abbrev P_X4_hasRoom (h0 : m_H) (L : Nat) : Int → m_H → Prop := fun x h' => h0 = h' ∧ ((x = 1 ∧ h0 L 7 ≤ 23) ∨ (x = 0 ∧ ¬ h0 L 7 ≤ 23))
set_option maxHeartbeats 4000000 in
set_option maxRecDepth 100000 in
theorem c_X4_hasRoom (h0 : m_H) (L : Nat) (hL : isL L) (G0 : GI h0) : m_CI M_X4_hasRoom [mR L] h0 (P_X4_hasRoom h0 L) := by
  refine m_CI_of ⟨by decide, rfl, by simp [m_arg, m_isL, M_X4_hasRoom], ⟨rfl, rfl⟩, rfl, rfl⟩ (ls := [some (mR L)]) rfl ?_
  refine z_aload_n (M := M_X4_hasRoom) 0 dX4_hasRoom_0 rfl ?_
  refine z_getIG (M := M_X4_hasRoom) 1 dX4_hasRoom_1 f_X4_45 (oL hL) (by decide) (gL7 hL G0) (fun x1 ex1 ax1 bx1 => ?_)
  refine z_bipush (M := M_X4_hasRoom) 4 dX4_hasRoom_4 ?_
  refine z_icmp_ge (M := M_X4_hasRoom) 6 dX4_hasRoom_6 13 rfl (fun c2 => ?_) (fun c2 => ?_)
  · refine z_iconst (M := M_X4_hasRoom) 13 dX4_hasRoom_13 ?_
    exact z_retZ (M := M_X4_hasRoom) 14 dX4_hasRoom_14 rfl (by omega) ⟨rfl, by omega⟩
  · refine z_iconst (M := M_X4_hasRoom) 9 dX4_hasRoom_9 ?_
    refine z_goto (M := M_X4_hasRoom) 10 dX4_hasRoom_10 14 rfl ?_
    exact z_retZ (M := M_X4_hasRoom) 14 dX4_hasRoom_14 rfl (by omega) ⟨rfl, by omega⟩
abbrev P_X4_copyFrom (h0 : m_H) (L : Nat) (K : Nat) : m_H → Prop := fun h' => GI h' ∧ FR [(L + 1), (L + 2), (L + 3), (L + 4), (L + 5), (L + 6), (L + 7)] [(L, 7), (L, 8), (L, 9)] h0 h'
set_option maxHeartbeats 4000000 in
set_option maxRecDepth 100000 in
theorem c_X4_copyFrom (h0 : m_H) (L : Nat) (K : Nat) (hL : isL L) (hK : isL K) (G0 : GI h0) : m_CV M_X4_copyFrom [mR L, mR K] h0 (P_X4_copyFrom h0 L K) := by
  refine m_CV_of ⟨by decide, rfl, by simp [m_arg, m_isL, M_X4_copyFrom], ⟨rfl, rfl⟩, rfl, rfl⟩ (ls := [some (mR L), some (mR K)]) rfl ?_
  refine z_aload_n (M := M_X4_copyFrom) 0 dX4_copyFrom_0 rfl ?_
  refine z_getR (M := M_X4_copyFrom) 1 dX4_copyFrom_1 f_X4_9 (oL hK) rfl (rL_0 hK G0) ?_
  refine z_iconst (M := M_X4_copyFrom) 4 dX4_copyFrom_4 ?_
  refine z_aload_n (M := M_X4_copyFrom) 5 dX4_copyFrom_5 rfl ?_
  refine z_getR (M := M_X4_copyFrom) 6 dX4_copyFrom_6 f_X4_9 (oL hL) rfl (rL_0 hL G0) ?_
  refine z_iconst (M := M_X4_copyFrom) 9 dX4_copyFrom_9 ?_
  refine z_bipush (M := M_X4_copyFrom) 10 dX4_copyFrom_10 ?_
  refine z_copyH (M := M_X4_copyFrom) 12 dX4_copyFrom_12 ml_X4_39 (rest := []) (oL_1 hK) (oL_1 hL) rfl (by decide) (Nat.le_of_ble_eq_true rfl) (Nat.le_of_ble_eq_true rfl) (cpL_1 hL hK G0) ((FR.rf (cs := [(L + 1), (L + 2), (L + 3), (L + 4), (L + 5), (L + 6), (L + 7)]) (ss := [(L, 7), (L, 8), (L, 9)]) (h := h0)).cp (fun _ => by simp [fr])) (fun h1 E1 G1 R1 => ?_)
  refine z_aload_n (M := M_X4_copyFrom) 15 dX4_copyFrom_15 rfl ?_
  refine z_getR (M := M_X4_copyFrom) 16 dX4_copyFrom_16 f_X4_15 (oL hK) rfl (rL_1 hK G1) ?_
  refine z_iconst (M := M_X4_copyFrom) 19 dX4_copyFrom_19 ?_
  refine z_aload_n (M := M_X4_copyFrom) 20 dX4_copyFrom_20 rfl ?_
  refine z_getR (M := M_X4_copyFrom) 21 dX4_copyFrom_21 f_X4_15 (oL hL) rfl (rL_1 hL G1) ?_
  refine z_iconst (M := M_X4_copyFrom) 24 dX4_copyFrom_24 ?_
  refine z_bipush (M := M_X4_copyFrom) 25 dX4_copyFrom_25 ?_
  refine z_copyH (M := M_X4_copyFrom) 27 dX4_copyFrom_27 ml_X4_39 (rest := []) (oL_2 hK) (oL_2 hL) rfl (by decide) (Nat.le_of_ble_eq_true rfl) (Nat.le_of_ble_eq_true rfl) (cpL_2 hL hK G1) (R1.cp (fun _ => by simp [fr])) (fun h2 E2 G2 R2 => ?_)
  refine z_aload_n (M := M_X4_copyFrom) 30 dX4_copyFrom_30 rfl ?_
  refine z_getR (M := M_X4_copyFrom) 31 dX4_copyFrom_31 f_X4_18 (oL hK) rfl (rL_2 hK G2) ?_
  refine z_iconst (M := M_X4_copyFrom) 34 dX4_copyFrom_34 ?_
  refine z_aload_n (M := M_X4_copyFrom) 35 dX4_copyFrom_35 rfl ?_
  refine z_getR (M := M_X4_copyFrom) 36 dX4_copyFrom_36 f_X4_18 (oL hL) rfl (rL_2 hL G2) ?_
  refine z_iconst (M := M_X4_copyFrom) 39 dX4_copyFrom_39 ?_
  refine z_bipush (M := M_X4_copyFrom) 40 dX4_copyFrom_40 ?_
  refine z_copyH (M := M_X4_copyFrom) 42 dX4_copyFrom_42 ml_X4_39 (rest := []) (oL_3 hK) (oL_3 hL) rfl (by decide) (Nat.le_of_ble_eq_true rfl) (Nat.le_of_ble_eq_true rfl) (cpL_3 hL hK G2) (R2.cp (fun _ => by simp [fr])) (fun h3 E3 G3 R3 => ?_)
  refine z_aload_n (M := M_X4_copyFrom) 45 dX4_copyFrom_45 rfl ?_
  refine z_getR (M := M_X4_copyFrom) 46 dX4_copyFrom_46 f_X4_21 (oL hK) rfl (rL_3 hK G3) ?_
  refine z_iconst (M := M_X4_copyFrom) 49 dX4_copyFrom_49 ?_
  refine z_aload_n (M := M_X4_copyFrom) 50 dX4_copyFrom_50 rfl ?_
  refine z_getR (M := M_X4_copyFrom) 51 dX4_copyFrom_51 f_X4_21 (oL hL) rfl (rL_3 hL G3) ?_
  refine z_iconst (M := M_X4_copyFrom) 54 dX4_copyFrom_54 ?_
  refine z_bipush (M := M_X4_copyFrom) 55 dX4_copyFrom_55 ?_
  refine z_copyH (M := M_X4_copyFrom) 57 dX4_copyFrom_57 ml_X4_39 (rest := []) (oL_4 hK) (oL_4 hL) rfl (by decide) (Nat.le_of_ble_eq_true rfl) (Nat.le_of_ble_eq_true rfl) (cpL_4 hL hK G3) (R3.cp (fun _ => by simp [fr])) (fun h4 E4 G4 R4 => ?_)
  refine z_aload_n (M := M_X4_copyFrom) 60 dX4_copyFrom_60 rfl ?_
  refine z_getR (M := M_X4_copyFrom) 61 dX4_copyFrom_61 f_X4_24 (oL hK) rfl (rL_4 hK G4) ?_
  refine z_iconst (M := M_X4_copyFrom) 64 dX4_copyFrom_64 ?_
  refine z_aload_n (M := M_X4_copyFrom) 65 dX4_copyFrom_65 rfl ?_
  refine z_getR (M := M_X4_copyFrom) 66 dX4_copyFrom_66 f_X4_24 (oL hL) rfl (rL_4 hL G4) ?_
  refine z_iconst (M := M_X4_copyFrom) 69 dX4_copyFrom_69 ?_
  refine z_bipush (M := M_X4_copyFrom) 70 dX4_copyFrom_70 ?_
  refine z_copyH (M := M_X4_copyFrom) 72 dX4_copyFrom_72 ml_X4_39 (rest := []) (oL_5 hK) (oL_5 hL) rfl (by decide) (Nat.le_of_ble_eq_true rfl) (Nat.le_of_ble_eq_true rfl) (cpL_5 hL hK G4) (R4.cp (fun _ => by simp [fr])) (fun h5 E5 G5 R5 => ?_)
  refine z_aload_n (M := M_X4_copyFrom) 75 dX4_copyFrom_75 rfl ?_
  refine z_getR (M := M_X4_copyFrom) 76 dX4_copyFrom_76 f_X4_27 (oL hK) rfl (rL_5 hK G5) ?_
  refine z_iconst (M := M_X4_copyFrom) 79 dX4_copyFrom_79 ?_
  refine z_aload_n (M := M_X4_copyFrom) 80 dX4_copyFrom_80 rfl ?_
  refine z_getR (M := M_X4_copyFrom) 81 dX4_copyFrom_81 f_X4_27 (oL hL) rfl (rL_5 hL G5) ?_
  refine z_iconst (M := M_X4_copyFrom) 84 dX4_copyFrom_84 ?_
  refine z_bipush (M := M_X4_copyFrom) 85 dX4_copyFrom_85 ?_
  refine z_copyH (M := M_X4_copyFrom) 87 dX4_copyFrom_87 ml_X4_39 (rest := []) (oL_6 hK) (oL_6 hL) rfl (by decide) (Nat.le_of_ble_eq_true rfl) (Nat.le_of_ble_eq_true rfl) (cpL_6 hL hK G5) (R5.cp (fun _ => by simp [fr])) (fun h6 E6 G6 R6 => ?_)
  refine z_aload_n (M := M_X4_copyFrom) 90 dX4_copyFrom_90 rfl ?_
  refine z_getR (M := M_X4_copyFrom) 91 dX4_copyFrom_91 f_X4_30 (oL hK) rfl (rL_6 hK G6) ?_
  refine z_iconst (M := M_X4_copyFrom) 94 dX4_copyFrom_94 ?_
  refine z_aload_n (M := M_X4_copyFrom) 95 dX4_copyFrom_95 rfl ?_
  refine z_getR (M := M_X4_copyFrom) 96 dX4_copyFrom_96 f_X4_30 (oL hL) rfl (rL_6 hL G6) ?_
  refine z_iconst (M := M_X4_copyFrom) 99 dX4_copyFrom_99 ?_
  refine z_bipush (M := M_X4_copyFrom) 100 dX4_copyFrom_100 ?_
  refine z_copyH (M := M_X4_copyFrom) 102 dX4_copyFrom_102 ml_X4_39 (rest := []) (oL_7 hK) (oL_7 hL) rfl (by decide) (Nat.le_of_ble_eq_true rfl) (Nat.le_of_ble_eq_true rfl) (cpL_7 hL hK G6) (R6.cp (fun _ => by simp [fr])) (fun h7 E7 G7 R7 => ?_)
  refine z_aload_n (M := M_X4_copyFrom) 105 dX4_copyFrom_105 rfl ?_
  refine z_aload_n (M := M_X4_copyFrom) 106 dX4_copyFrom_106 rfl ?_
  refine z_getIG (M := M_X4_copyFrom) 107 dX4_copyFrom_107 f_X4_45 (oL hK) (by decide) (gL7 hK G7) (fun x1 ex1 ax1 bx1 => ?_)
  refine z_putIH (M := M_X4_copyFrom) 110 dX4_copyFrom_110 p_X4_45 (oL hL) rfl (uL7 hL G7 (by omega) (by omega)) (R7.up (by simp [fr])) (fun h8 E8 G8 R8 => ?_)
  refine z_aload_n (M := M_X4_copyFrom) 113 dX4_copyFrom_113 rfl ?_
  refine z_aload_n (M := M_X4_copyFrom) 114 dX4_copyFrom_114 rfl ?_
  refine z_getIV (M := M_X4_copyFrom) 115 dX4_copyFrom_115 f_X4_49 (oL hK) (by decide) (fun x2 ex2 => ?_)
  refine z_ok (fun ox2 _ _ => ?_)
  have ox2 := ox2.1; unfold m_ok m_32 at ox2
  refine z_putIH (M := M_X4_copyFrom) 118 dX4_copyFrom_118 p_X4_49 (oL hL) rfl (uL8 hL G8) (R8.up (by simp [fr])) (fun h9 E9 G9 R9 => ?_)
  refine z_aload_n (M := M_X4_copyFrom) 121 dX4_copyFrom_121 rfl ?_
  refine z_aload_n (M := M_X4_copyFrom) 122 dX4_copyFrom_122 rfl ?_
  refine z_getIV (M := M_X4_copyFrom) 123 dX4_copyFrom_123 f_X4_52 (oL hK) (by decide) (fun x3 ex3 => ?_)
  refine z_ok (fun ox3 _ _ => ?_)
  have ox3 := ox3.1; unfold m_ok m_32 at ox3
  refine z_putIH (M := M_X4_copyFrom) 126 dX4_copyFrom_126 p_X4_52 (oL hL) rfl (uL9 hL G9) (R9.up (by simp [fr])) (fun h10 E10 G10 R10 => ?_)
  exact z_retV (M := M_X4_copyFrom) 129 dX4_copyFrom_129 rfl ⟨G10, R10⟩
abbrev P_X4_isCounting (h0 : m_H) (L : Nat) (a1 : Int) : Int → m_H → Prop := fun x h' => GI h' ∧ FR [] [] h0 h' ∧ 0 ≤ x ∧ x ≤ 1
set_option maxHeartbeats 4000000 in
set_option maxRecDepth 100000 in
theorem c_X4_isCounting (h0 : m_H) (L : Nat) (a1 : Int) (hL : isL L) (G0 : GI h0) : m_CI M_X4_isCounting [mR L, mI a1] h0 (P_X4_isCounting h0 L a1) := by
  refine m_CI_of ⟨by decide, rfl, by simp [m_arg, m_isL, M_X4_isCounting], ⟨rfl, rfl⟩, rfl, rfl⟩ (ls := [some (mR L), some (mI a1)]) rfl ?_
  refine z_ok (fun _ _ ok => ?_)
  have oa1 : m_32 a1 := ok 1 _ rfl
  unfold m_32 at oa1
  refine z_aload_n (M := M_X4_isCounting) 0 dX4_isCounting_0 rfl ?_
  refine z_getIV (M := M_X4_isCounting) 1 dX4_isCounting_1 f_X4_49 (oL hL) (by decide) (fun x1 ex1 => ?_)
  refine z_ok (fun ox1 _ _ => ?_)
  have ox1 := ox1.1; unfold m_ok m_32 at ox1
  refine z_iload_n (M := M_X4_isCounting) 4 dX4_isCounting_4 rfl ?_
  refine z_nI (M := M_X4_isCounting) 5 dX4_isCounting_5 t_X11_hasBit l_X4_59 (m_rr_of rfl) (rest := []) (c_X11_hasBit h0 x1 a1 G0) rfl rfl (Nat.le_of_ble_eq_true rfl) ⟨rfl, rfl⟩ (fun x2 h1 qx2 => ?_)
  obtain ⟨rfl, ⟨rfl, cx2⟩ | ⟨rfl, cx2⟩⟩ := qx2
  · exact z_retZ (M := M_X4_isCounting) 8 dX4_isCounting_8 rfl (by omega) ⟨G0, (FR.rf (cs := []) (ss := []) (h := h0)), by omega, by omega⟩
  · exact z_retZ (M := M_X4_isCounting) 8 dX4_isCounting_8 rfl (by omega) ⟨G0, (FR.rf (cs := []) (ss := []) (h := h0)), by omega, by omega⟩
abbrev P_X4_setCounting (h0 : m_H) (L : Nat) (a1 a2 : Int) : m_H → Prop := fun h' => GI h' ∧ FR [] [(L, 8)] h0 h'
set_option maxHeartbeats 4000000 in
set_option maxRecDepth 100000 in
theorem c_X4_setCounting (h0 : m_H) (L : Nat) (a1 a2 : Int) (hL : isL L) (G0 : GI h0) (pa2 : 0 ≤ a2 ∧ a2 ≤ 1) : m_CV M_X4_setCounting [mR L, mI a1, mI a2] h0 (P_X4_setCounting h0 L a1 a2) := by
  refine m_CV_of ⟨by decide, rfl, by simp [m_arg, m_isL, M_X4_setCounting], ⟨rfl, rfl⟩, rfl, rfl⟩ (ls := [some (mR L), some (mI a1), some (mI a2), none]) rfl ?_
  refine z_ok (fun _ _ ok => ?_)
  have oa1 : m_32 a1 := ok 1 _ rfl
  unfold m_32 at oa1
  refine z_iconst (M := M_X4_setCounting) 0 dX4_setCounting_0 ?_
  refine z_iload_n (M := M_X4_setCounting) 1 dX4_setCounting_1 rfl ?_
  refine z_ishl (M := M_X4_setCounting) 2 dX4_setCounting_2 ?_
  refine z_topm (fun x1 ex1 ox1 => ?_)
  unfold m_32 at ox1
  refine z_istore_n (M := M_X4_setCounting) 3 dX4_setCounting_3 (ls' := [some (mR L), some (mI a1), some (mI a2), some (mI x1)]) (by decide) rfl ?_
  refine z_aload_n (M := M_X4_setCounting) 4 dX4_setCounting_4 rfl ?_
  refine z_iload_n (M := M_X4_setCounting) 5 dX4_setCounting_5 rfl ?_
  refine z_if_eq (M := M_X4_setCounting) 6 dX4_setCounting_6 18 rfl (fun c2 => ?_) (fun c2 => ?_)
  · refine z_aload_n (M := M_X4_setCounting) 18 dX4_setCounting_18 rfl ?_
    refine z_getIV (M := M_X4_setCounting) 19 dX4_setCounting_19 f_X4_49 (oL hL) (by decide) (fun x3 ex3 => ?_)
    refine z_ok (fun ox3 _ _ => ?_)
    have ox3 := ox3.1; unfold m_ok m_32 at ox3
    refine z_iload_n (M := M_X4_setCounting) 22 dX4_setCounting_22 rfl ?_
    refine z_iconst (M := M_X4_setCounting) 23 dX4_setCounting_23 ?_
    refine z_ixor (M := M_X4_setCounting) 24 dX4_setCounting_24 ?_
    refine z_topm (fun x4 ex4 ox4 => ?_)
    unfold m_32 at ox4
    refine z_iand (M := M_X4_setCounting) 25 dX4_setCounting_25 ?_
    refine z_topm (fun x5 ex5 ox5 => ?_)
    unfold m_32 at ox5
    refine z_putIH (M := M_X4_setCounting) 26 dX4_setCounting_26 p_X4_49 (oL hL) rfl (uL8 hL G0) ((FR.rf (cs := []) (ss := [(L, 8)]) (h := h0)).up (by simp [fr])) (fun h1 E1 G1 R1 => ?_)
    exact z_retV (M := M_X4_setCounting) 29 dX4_setCounting_29 rfl ⟨G1, R1⟩
  · refine z_aload_n (M := M_X4_setCounting) 9 dX4_setCounting_9 rfl ?_
    refine z_getIV (M := M_X4_setCounting) 10 dX4_setCounting_10 f_X4_49 (oL hL) (by decide) (fun x6 ex6 => ?_)
    refine z_ok (fun ox6 _ _ => ?_)
    have ox6 := ox6.1; unfold m_ok m_32 at ox6
    refine z_iload_n (M := M_X4_setCounting) 13 dX4_setCounting_13 rfl ?_
    refine z_ior (M := M_X4_setCounting) 14 dX4_setCounting_14 ?_
    refine z_topm (fun x7 ex7 ox7 => ?_)
    unfold m_32 at ox7
    refine z_goto (M := M_X4_setCounting) 15 dX4_setCounting_15 26 rfl ?_
    refine z_putIH (M := M_X4_setCounting) 26 dX4_setCounting_26 p_X4_49 (oL hL) rfl (uL8 hL G0) ((FR.rf (cs := []) (ss := [(L, 8)]) (h := h0)).up (by simp [fr])) (fun h2 E2 G2 R2 => ?_)
    exact z_retV (M := M_X4_setCounting) 29 dX4_setCounting_29 rfl ⟨G2, R2⟩
abbrev P_X4_isShorter (h0 : m_H) (L : Nat) (a1 a2 : Int) : Int → m_H → Prop := fun x h' => GI h' ∧ FR [] [] h0 h' ∧ 0 ≤ x ∧ x ≤ 1
set_option maxHeartbeats 4000000 in
set_option maxRecDepth 100000 in
theorem c_X4_isShorter (h0 : m_H) (L : Nat) (a1 a2 : Int) (hL : isL L) (G0 : GI h0) : m_CI M_X4_isShorter [mR L, mI a1, mI a2] h0 (P_X4_isShorter h0 L a1 a2) := by
  refine m_CI_of ⟨by decide, rfl, by simp [m_arg, m_isL, M_X4_isShorter], ⟨rfl, rfl⟩, rfl, rfl⟩ (ls := [some (mR L), some (mI a1), some (mI a2)]) rfl ?_
  refine z_ok (fun _ _ ok => ?_)
  have oa1 : m_32 a1 := ok 1 _ rfl
  unfold m_32 at oa1
  have oa2 : m_32 a2 := ok 2 _ rfl
  unfold m_32 at oa2
  refine z_aload_n (M := M_X4_isShorter) 0 dX4_isShorter_0 rfl ?_
  refine z_getIV (M := M_X4_isShorter) 1 dX4_isShorter_1 f_X4_52 (oL hL) (by decide) (fun x1 ex1 => ?_)
  refine z_ok (fun ox1 _ _ => ?_)
  have ox1 := ox1.1; unfold m_ok m_32 at ox1
  refine z_iload_n (M := M_X4_isShorter) 4 dX4_isShorter_4 rfl ?_
  refine z_iconst (M := M_X4_isShorter) 5 dX4_isShorter_5 ?_
  refine z_imul (M := M_X4_isShorter) 6 dX4_isShorter_6 ?_
  refine z_topm (fun x2 ex2 ox2 => ?_)
  unfold m_32 at ox2
  refine z_iload_n (M := M_X4_isShorter) 7 dX4_isShorter_7 rfl ?_
  refine z_iadd (M := M_X4_isShorter) 8 dX4_isShorter_8 ?_
  refine z_topm (fun x3 ex3 ox3 => ?_)
  unfold m_32 at ox3
  refine z_nI (M := M_X4_isShorter) 9 dX4_isShorter_9 t_X11_hasBit l_X4_59 (m_rr_of rfl) (rest := []) (c_X11_hasBit h0 x1 x3 G0) rfl rfl (Nat.le_of_ble_eq_true rfl) ⟨rfl, rfl⟩ (fun x4 h1 qx4 => ?_)
  obtain ⟨rfl, ⟨rfl, cx4⟩ | ⟨rfl, cx4⟩⟩ := qx4
  · exact z_retZ (M := M_X4_isShorter) 12 dX4_isShorter_12 rfl (by omega) ⟨G0, (FR.rf (cs := []) (ss := []) (h := h0)), by omega, by omega⟩
  · exact z_retZ (M := M_X4_isShorter) 12 dX4_isShorter_12 rfl (by omega) ⟨G0, (FR.rf (cs := []) (ss := []) (h := h0)), by omega, by omega⟩
abbrev P_X4_shorters (h0 : m_H) (L : Nat) : Int → m_H → Prop := fun x h' => GI h' ∧ FR [] [] h0 h' ∧ 0 ≤ x ∧ x ≤ 63
set_option maxHeartbeats 4000000 in
set_option maxRecDepth 100000 in
theorem c_X4_shorters (h0 : m_H) (L : Nat) (hL : isL L) (G0 : GI h0) : m_CI M_X4_shorters [mR L] h0 (P_X4_shorters h0 L) := by
  refine m_CI_of ⟨by decide, rfl, by simp [m_arg, m_isL, M_X4_shorters], ⟨rfl, rfl⟩, rfl, rfl⟩ (ls := [some (mR L)]) rfl ?_
  refine z_aload_n (M := M_X4_shorters) 0 dX4_shorters_0 rfl ?_
  refine z_getIV (M := M_X4_shorters) 1 dX4_shorters_1 f_X4_52 (oL hL) (by decide) (fun x1 ex1 => ?_)
  refine z_ok (fun ox1 _ _ => ?_)
  have ox1 := ox1.1; unfold m_ok m_32 at ox1
  refine z_sI (M := M_X4_shorters) 4 dX4_shorters_4 t_J6_bitCount_0f7a4 l_X4_63 (m_rr_of rfl) (rest := []) (c_J6_bitCount_0f7a4 h0 x1 G0) rfl rfl (Nat.le_of_ble_eq_true rfl) ⟨rfl, rfl⟩ (fun x2 h1 qx2 => ?_)
  obtain ⟨G1, S1, ax2, bx2⟩ := qx2
  have R1 := (FR.rf (cs := []) (ss := []) (h := h0)).call S1 (by decide +kernel)
  exact z_retI (M := M_X4_shorters) 7 dX4_shorters_7 rfl ⟨G1, R1, by omega, by omega⟩
abbrev P_X4_hasRoomForShorter (h0 : m_H) (L : Nat) : Int → m_H → Prop := fun x h' => GI h' ∧ FR [] [] h0 h' ∧ 0 ≤ x ∧ x ≤ 1
set_option maxHeartbeats 4000000 in
set_option maxRecDepth 100000 in
theorem c_X4_hasRoomForShorter (h0 : m_H) (L : Nat) (hL : isL L) (G0 : GI h0) : m_CI M_X4_hasRoomForShorter [mR L] h0 (P_X4_hasRoomForShorter h0 L) := by
  refine m_CI_of ⟨by decide, rfl, by simp [m_arg, m_isL, M_X4_hasRoomForShorter], ⟨rfl, rfl⟩, rfl, rfl⟩ (ls := [some (mR L)]) rfl ?_
  refine z_aload_n (M := M_X4_hasRoomForShorter) 0 dX4_hasRoomForShorter_0 rfl ?_
  refine z_vI (M := M_X4_hasRoomForShorter) 1 dX4_hasRoomForShorter_1 t_X4_shorters l_X4_69 (m_rr_of rfl) (rest := []) (c_X4_shorters h0 L hL G0) (oL hL) rfl rfl rfl (Nat.le_of_ble_eq_true rfl) ⟨rfl, rfl⟩ (fun x1 h1 qx1 => ?_)
  obtain ⟨G1, S1, ax1, bx1⟩ := qx1
  have R1 := (FR.rf (cs := []) (ss := []) (h := h0)).call S1 (by decide +kernel)
  refine z_bipush (M := M_X4_hasRoomForShorter) 4 dX4_hasRoomForShorter_4 ?_
  refine z_icmp_ge (M := M_X4_hasRoomForShorter) 6 dX4_hasRoomForShorter_6 13 rfl (fun c2 => ?_) (fun c2 => ?_)
  · refine z_iconst (M := M_X4_hasRoomForShorter) 13 dX4_hasRoomForShorter_13 ?_
    exact z_retZ (M := M_X4_hasRoomForShorter) 14 dX4_hasRoomForShorter_14 rfl (by omega) ⟨G1, R1, by omega, by omega⟩
  · refine z_iconst (M := M_X4_hasRoomForShorter) 9 dX4_hasRoomForShorter_9 ?_
    refine z_goto (M := M_X4_hasRoomForShorter) 10 dX4_hasRoomForShorter_10 14 rfl ?_
    exact z_retZ (M := M_X4_hasRoomForShorter) 14 dX4_hasRoomForShorter_14 rfl (by omega) ⟨G1, R1, by omega, by omega⟩
abbrev P_X4_addShorter (h0 : m_H) (L : Nat) (a1 a2 : Int) : m_H → Prop := fun h' => GI h' ∧ FR [] [(L, 9)] h0 h'
set_option maxHeartbeats 4000000 in
set_option maxRecDepth 100000 in
theorem c_X4_addShorter (h0 : m_H) (L : Nat) (a1 a2 : Int) (hL : isL L) (G0 : GI h0) (pa1 : 0 ≤ a1 ∧ a1 ≤ 3) (pa2 : 0 ≤ a2 ∧ a2 ≤ 3) : m_CV M_X4_addShorter [mR L, mI a1, mI a2] h0 (P_X4_addShorter h0 L a1 a2) := by
  refine m_CV_of ⟨by decide, rfl, by simp [m_arg, m_isL, M_X4_addShorter], ⟨rfl, rfl⟩, rfl, rfl⟩ (ls := [some (mR L), some (mI a1), some (mI a2)]) rfl ?_
  refine z_aload_n (M := M_X4_addShorter) 0 dX4_addShorter_0 rfl ?_
  refine z_dup (M := M_X4_addShorter) 1 dX4_addShorter_1 rfl ?_
  refine z_getIV (M := M_X4_addShorter) 2 dX4_addShorter_2 f_X4_52 (oL hL) (by decide) (fun x1 ex1 => ?_)
  refine z_ok (fun ox1 _ _ => ?_)
  have ox1 := ox1.1; unfold m_ok m_32 at ox1
  refine z_iconst (M := M_X4_addShorter) 5 dX4_addShorter_5 ?_
  refine z_iload_n (M := M_X4_addShorter) 6 dX4_addShorter_6 rfl ?_
  refine z_iconst (M := M_X4_addShorter) 7 dX4_addShorter_7 ?_
  refine z_imulN (M := M_X4_addShorter) 8 dX4_addShorter_8 (by omega) (by omega) ?_
  refine z_iload_n (M := M_X4_addShorter) 9 dX4_addShorter_9 rfl ?_
  refine z_iaddN (M := M_X4_addShorter) 10 dX4_addShorter_10 (by omega) (by omega) ?_
  refine z_ishl (M := M_X4_addShorter) 11 dX4_addShorter_11 ?_
  refine z_topm (fun x2 ex2 ox2 => ?_)
  unfold m_32 at ox2
  refine z_ior (M := M_X4_addShorter) 12 dX4_addShorter_12 ?_
  refine z_topm (fun x3 ex3 ox3 => ?_)
  unfold m_32 at ox3
  refine z_putIH (M := M_X4_addShorter) 13 dX4_addShorter_13 p_X4_52 (oL hL) rfl (uL9 hL G0) ((FR.rf (cs := []) (ss := [(L, 9)]) (h := h0)).up (by simp [fr])) (fun h1 E1 G1 R1 => ?_)
  exact z_retV (M := M_X4_addShorter) 16 dX4_addShorter_16 rfl ⟨G1, R1⟩
abbrev P_X4_isThere (h0 : m_H) (L : Nat) (a1 : Int) : Int → m_H → Prop := fun x h' => h0 = h' ∧ ((x = 1 ∧ (0 ≤ a1 ∧ a1 ≤ 15 ∧ (a1 < 6 ∨ 12 ≤ a1 ∨ h0 (L + 2) (a1 - 6).toNat ≠ -1))) ∨ (x = 0 ∧ ¬ (0 ≤ a1 ∧ a1 ≤ 15 ∧ (a1 < 6 ∨ 12 ≤ a1 ∨ h0 (L + 2) (a1 - 6).toNat ≠ -1))))
set_option maxHeartbeats 4000000 in
set_option maxRecDepth 100000 in
theorem c_X4_isThere (h0 : m_H) (L : Nat) (a1 : Int) (hL : isL L) (G0 : GI h0) : m_CI M_X4_isThere [mR L, mI a1] h0 (P_X4_isThere h0 L a1) := by
  refine m_CI_of ⟨by decide, rfl, by simp [m_arg, m_isL, M_X4_isThere], ⟨rfl, rfl⟩, rfl, rfl⟩ (ls := [some (mR L), some (mI a1), none]) rfl ?_
  refine z_ok (fun _ _ ok => ?_)
  have oa1 : m_32 a1 := ok 1 _ rfl
  unfold m_32 at oa1
  refine z_iload_n (M := M_X4_isThere) 0 dX4_isThere_0 rfl ?_
  refine z_iconst (M := M_X4_isThere) 1 dX4_isThere_1 ?_
  refine z_bipush (M := M_X4_isThere) 2 dX4_isThere_2 ?_
  refine z_nI (M := M_X4_isThere) 4 dX4_isThere_4 t_X11_within l_X4_73 (m_rr_of rfl) (rest := []) (c_X11_within h0 a1 0 15 G0) rfl rfl (Nat.le_of_ble_eq_true rfl) ⟨rfl, rfl⟩ (fun x1 h1 qx1 => ?_)
  obtain ⟨rfl, ⟨rfl, cx1⟩ | ⟨rfl, cx1⟩⟩ := qx1
  · refine z_if_ne_T (M := M_X4_isThere) 7 dX4_isThere_7 12 rfl (by omega) ?_
    refine z_iload_n (M := M_X4_isThere) 12 dX4_isThere_12 rfl ?_
    refine z_bipush (M := M_X4_isThere) 13 dX4_isThere_13 ?_
    refine z_icmp_lt (M := M_X4_isThere) 15 dX4_isThere_15 28 rfl (fun c2 => ?_) (fun c2 => ?_)
    · refine z_iconst (M := M_X4_isThere) 28 dX4_isThere_28 ?_
      refine z_istore_n (M := M_X4_isThere) 29 dX4_isThere_29 (ls' := [some (mR L), some (mI a1), some (mI 0)]) (by decide) rfl ?_
      refine z_iload_n (M := M_X4_isThere) 30 dX4_isThere_30 rfl ?_
      refine z_if_eq_T (M := M_X4_isThere) 31 dX4_isThere_31 47 rfl (by omega) ?_
      refine z_iconst (M := M_X4_isThere) 47 dX4_isThere_47 ?_
      refine z_goto (M := M_X4_isThere) 48 dX4_isThere_48 52 rfl ?_
      exact z_retZ (M := M_X4_isThere) 52 dX4_isThere_52 rfl (by omega) ⟨rfl, by omega⟩
    · refine z_iload_n (M := M_X4_isThere) 18 dX4_isThere_18 rfl ?_
      refine z_bipush (M := M_X4_isThere) 19 dX4_isThere_19 ?_
      refine z_icmp_ge (M := M_X4_isThere) 21 dX4_isThere_21 28 rfl (fun c3 => ?_) (fun c3 => ?_)
      · refine z_iconst (M := M_X4_isThere) 28 dX4_isThere_28 ?_
        refine z_istore_n (M := M_X4_isThere) 29 dX4_isThere_29 (ls' := [some (mR L), some (mI a1), some (mI 0)]) (by decide) rfl ?_
        refine z_iload_n (M := M_X4_isThere) 30 dX4_isThere_30 rfl ?_
        refine z_if_eq_T (M := M_X4_isThere) 31 dX4_isThere_31 47 rfl (by omega) ?_
        refine z_iconst (M := M_X4_isThere) 47 dX4_isThere_47 ?_
        refine z_goto (M := M_X4_isThere) 48 dX4_isThere_48 52 rfl ?_
        exact z_retZ (M := M_X4_isThere) 52 dX4_isThere_52 rfl (by omega) ⟨rfl, by omega⟩
      · refine z_iconst (M := M_X4_isThere) 24 dX4_isThere_24 ?_
        refine z_goto (M := M_X4_isThere) 25 dX4_isThere_25 29 rfl ?_
        refine z_istore_n (M := M_X4_isThere) 29 dX4_isThere_29 (ls' := [some (mR L), some (mI a1), some (mI 1)]) (by decide) rfl ?_
        refine z_iload_n (M := M_X4_isThere) 30 dX4_isThere_30 rfl ?_
        refine z_if_eq_F (M := M_X4_isThere) 31 dX4_isThere_31 47 rfl (by omega) ?_
        refine z_aload_n (M := M_X4_isThere) 34 dX4_isThere_34 rfl ?_
        refine z_getR (M := M_X4_isThere) 35 dX4_isThere_35 f_X4_15 (oL hL) rfl (rL_1 hL G0) ?_
        refine z_iload_n (M := M_X4_isThere) 38 dX4_isThere_38 rfl ?_
        refine z_bipush (M := M_X4_isThere) 39 dX4_isThere_39 ?_
        refine z_isubN (M := M_X4_isThere) 41 dX4_isThere_41 (by omega) (by omega) ?_
        refine z_ialdG (M := M_X4_isThere) 42 dX4_isThere_42 (oL_2 hL) (by omega) (by omega) (gL_2 hL G0 (by omega)) (fun x4 ex4 ax4 bx4 => ?_)
        refine z_iconst (M := M_X4_isThere) 43 dX4_isThere_43 ?_
        refine z_icmp_eq (M := M_X4_isThere) 44 dX4_isThere_44 51 rfl (fun c5 => ?_) (fun c5 => ?_)
        · refine z_iconst (M := M_X4_isThere) 51 dX4_isThere_51 ?_
          exact z_retZ (M := M_X4_isThere) 52 dX4_isThere_52 rfl (by omega) ⟨rfl, by omega⟩
        · refine z_iconst (M := M_X4_isThere) 47 dX4_isThere_47 ?_
          refine z_goto (M := M_X4_isThere) 48 dX4_isThere_48 52 rfl ?_
          exact z_retZ (M := M_X4_isThere) 52 dX4_isThere_52 rfl (by omega) ⟨rfl, by omega⟩
  · refine z_if_ne_F (M := M_X4_isThere) 7 dX4_isThere_7 12 rfl (by omega) ?_
    refine z_iconst (M := M_X4_isThere) 10 dX4_isThere_10 ?_
    exact z_retZ (M := M_X4_isThere) 11 dX4_isThere_11 rfl (by omega) ⟨rfl, by omega⟩
abbrev P_X4_lengthIn (h0 : m_H) (L : Nat) (a1 a2 : Int) : Int → m_H → Prop := fun x h' => GI h' ∧ FR [] [] h0 h' ∧ 0 ≤ x ∧ x ≤ 11
set_option maxHeartbeats 4000000 in
set_option maxRecDepth 100000 in
theorem c_X4_lengthIn (h0 : m_H) (L : Nat) (a1 a2 : Int) (hL : isL L) (G0 : GI h0) (pa1 : 0 ≤ a1 ∧ a1 ≤ 5) : m_CI M_X4_lengthIn [mR L, mI a1, mI a2] h0 (P_X4_lengthIn h0 L a1 a2) := by
  refine m_CI_of ⟨by decide, rfl, by simp [m_arg, m_isL, M_X4_lengthIn], ⟨rfl, rfl⟩, rfl, rfl⟩ (ls := [some (mR L), some (mI a1), some (mI a2), none]) rfl ?_
  refine z_ok (fun _ _ ok => ?_)
  have oa2 : m_32 a2 := ok 2 _ rfl
  unfold m_32 at oa2
  refine z_aload_n (M := M_X4_lengthIn) 0 dX4_lengthIn_0 rfl ?_
  refine z_getR (M := M_X4_lengthIn) 1 dX4_lengthIn_1 f_X4_15 (oL hL) rfl (rL_1 hL G0) ?_
  refine z_iload_n (M := M_X4_lengthIn) 4 dX4_lengthIn_4 rfl ?_
  refine z_ialdG (M := M_X4_lengthIn) 5 dX4_lengthIn_5 (oL_2 hL) (by omega) (by omega) (gL_2 hL G0 (by omega)) (fun x1 ex1 ax1 bx1 => ?_)
  refine z_istore_n (M := M_X4_lengthIn) 6 dX4_lengthIn_6 (ls' := [some (mR L), some (mI a1), some (mI a2), some (mI x1)]) (by decide) rfl ?_
  refine z_iload_n (M := M_X4_lengthIn) 7 dX4_lengthIn_7 rfl ?_
  refine z_iconst (M := M_X4_lengthIn) 8 dX4_lengthIn_8 ?_
  refine z_icmp_eq (M := M_X4_lengthIn) 9 dX4_lengthIn_9 24 rfl (fun c2 => ?_) (fun c2 => ?_)
  · refine z_iload_n (M := M_X4_lengthIn) 24 dX4_lengthIn_24 rfl ?_
    exact z_retI (M := M_X4_lengthIn) 25 dX4_lengthIn_25 rfl ⟨G0, (FR.rf (cs := []) (ss := []) (h := h0)), by omega, by omega⟩
  · refine z_iload_n (M := M_X4_lengthIn) 12 dX4_lengthIn_12 rfl ?_
    refine z_iload_n (M := M_X4_lengthIn) 13 dX4_lengthIn_13 rfl ?_
    refine z_icmp_lt (M := M_X4_lengthIn) 14 dX4_lengthIn_14 24 rfl (fun c3 => ?_) (fun c3 => ?_)
    · refine z_iload_n (M := M_X4_lengthIn) 24 dX4_lengthIn_24 rfl ?_
      exact z_retI (M := M_X4_lengthIn) 25 dX4_lengthIn_25 rfl ⟨G0, (FR.rf (cs := []) (ss := []) (h := h0)), by omega, by omega⟩
    · refine z_iload_n (M := M_X4_lengthIn) 17 dX4_lengthIn_17 rfl ?_
      refine z_bipush (M := M_X4_lengthIn) 18 dX4_lengthIn_18 ?_
      refine z_iaddN (M := M_X4_lengthIn) 20 dX4_lengthIn_20 (by omega) (by omega) ?_
      refine z_goto (M := M_X4_lengthIn) 21 dX4_lengthIn_21 25 rfl ?_
      exact z_retI (M := M_X4_lengthIn) 25 dX4_lengthIn_25 rfl ⟨G0, (FR.rf (cs := []) (ss := []) (h := h0)), by omega, by omega⟩
abbrev P_X4_lengthOf (h0 : m_H) (L : Nat) (a1 : Int) : Int → m_H → Prop := fun x h' => GI h' ∧ FR [] [] h0 h' ∧ 0 ≤ x ∧ x ≤ 11
set_option maxHeartbeats 4000000 in
set_option maxRecDepth 100000 in
theorem c_X4_lengthOf (h0 : m_H) (L : Nat) (a1 : Int) (hL : isL L) (G0 : GI h0) (pa1 : 0 ≤ a1 ∧ a1 ≤ 23) : m_CI M_X4_lengthOf [mR L, mI a1] h0 (P_X4_lengthOf h0 L a1) := by
  refine m_CI_of ⟨by decide, rfl, by simp [m_arg, m_isL, M_X4_lengthOf], ⟨rfl, rfl⟩, rfl, rfl⟩ (ls := [some (mR L), some (mI a1)]) rfl ?_
  refine z_aload_n (M := M_X4_lengthOf) 0 dX4_lengthOf_0 rfl ?_
  refine z_aload_n (M := M_X4_lengthOf) 1 dX4_lengthOf_1 rfl ?_
  refine z_getR (M := M_X4_lengthOf) 2 dX4_lengthOf_2 f_X4_18 (oL hL) rfl (rL_2 hL G0) ?_
  refine z_iload_n (M := M_X4_lengthOf) 5 dX4_lengthOf_5 rfl ?_
  refine z_ialdG (M := M_X4_lengthOf) 6 dX4_lengthOf_6 (oL_3 hL) (by omega) (by omega) (gL_3 hL G0 (by omega)) (fun x1 ex1 ax1 bx1 => ?_)
  refine z_aload_n (M := M_X4_lengthOf) 7 dX4_lengthOf_7 rfl ?_
  refine z_getR (M := M_X4_lengthOf) 8 dX4_lengthOf_8 f_X4_21 (oL hL) rfl (rL_3 hL G0) ?_
  refine z_iload_n (M := M_X4_lengthOf) 11 dX4_lengthOf_11 rfl ?_
  refine z_ialdG (M := M_X4_lengthOf) 12 dX4_lengthOf_12 (oL_4 hL) (by omega) (by omega) (gL_4 hL G0 (by omega)) (fun x2 ex2 ax2 bx2 => ?_)
  refine z_vI (M := M_X4_lengthOf) 13 dX4_lengthOf_13 t_X4_lengthIn l_X4_77 (m_rr_of rfl) (rest := []) (c_X4_lengthIn h0 L x1 x2 hL G0 ⟨by omega, by omega⟩) (oL hL) rfl rfl rfl (Nat.le_of_ble_eq_true rfl) ⟨rfl, rfl⟩ (fun x3 h1 qx3 => ?_)
  obtain ⟨G1, S1, ax3, bx3⟩ := qx3
  have R1 := (FR.rf (cs := []) (ss := []) (h := h0)).call S1 (by decide +kernel)
  exact z_retI (M := M_X4_lengthOf) 16 dX4_lengthOf_16 rfl ⟨G1, R1, by omega, by omega⟩
abbrev P_X4_keeperOf (h0 : m_H) (L : Nat) (a1 : Int) : Int → m_H → Prop := fun x h' => GI h' ∧ FR [] [] h0 h' ∧ (-1) ≤ x ∧ x ≤ 3
set_option maxHeartbeats 4000000 in
set_option maxRecDepth 100000 in
theorem c_X4_keeperOf (h0 : m_H) (L : Nat) (a1 : Int) (hL : isL L) (G0 : GI h0) (pa1 : 0 ≤ a1 ∧ a1 ≤ 23) : m_CI M_X4_keeperOf [mR L, mI a1] h0 (P_X4_keeperOf h0 L a1) := by
  refine m_CI_of ⟨by decide, rfl, by simp [m_arg, m_isL, M_X4_keeperOf], ⟨rfl, rfl⟩, rfl, rfl⟩ (ls := [some (mR L), some (mI a1)]) rfl ?_
  refine z_aload_n (M := M_X4_keeperOf) 0 dX4_keeperOf_0 rfl ?_
  refine z_getR (M := M_X4_keeperOf) 1 dX4_keeperOf_1 f_X4_9 (oL hL) rfl (rL_0 hL G0) ?_
  refine z_aload_n (M := M_X4_keeperOf) 4 dX4_keeperOf_4 rfl ?_
  refine z_getR (M := M_X4_keeperOf) 5 dX4_keeperOf_5 f_X4_21 (oL hL) rfl (rL_3 hL G0) ?_
  refine z_iload_n (M := M_X4_keeperOf) 8 dX4_keeperOf_8 rfl ?_
  refine z_ialdG (M := M_X4_keeperOf) 9 dX4_keeperOf_9 (oL_4 hL) (by omega) (by omega) (gL_4 hL G0 (by omega)) (fun x1 ex1 ax1 bx1 => ?_)
  refine z_ialdG (M := M_X4_keeperOf) 10 dX4_keeperOf_10 (oL_1 hL) (by omega) (by omega) (gL_1 hL G0 (by omega)) (fun x2 ex2 ax2 bx2 => ?_)
  exact z_retI (M := M_X4_keeperOf) 11 dX4_keeperOf_11 rfl ⟨G0, (FR.rf (cs := []) (ss := []) (h := h0)), by omega, by omega⟩
abbrev P_X4_leastHalves (h0 : m_H) (L : Nat) (a1 : Int) : Int → m_H → Prop := fun x h' => GI h' ∧ FR [] [] h0 h' ∧ (-1) ≤ x ∧ x ≤ 198
set_option maxHeartbeats 4000000 in
set_option maxRecDepth 100000 in
theorem c_X4_leastHalves (h0 : m_H) (L : Nat) (a1 : Int) (hL : isL L) (G0 : GI h0) (pa1 : 0 ≤ a1 ∧ a1 ≤ 23) : m_CI M_X4_leastHalves [mR L, mI a1] h0 (P_X4_leastHalves h0 L a1) := by
  refine m_CI_of ⟨by decide, rfl, by simp [m_arg, m_isL, M_X4_leastHalves], ⟨rfl, rfl⟩, rfl, rfl⟩ (ls := [some (mR L), some (mI a1)]) rfl ?_
  refine z_iconst (M := M_X4_leastHalves) 0 dX4_leastHalves_0 ?_
  refine z_aload_n (M := M_X4_leastHalves) 1 dX4_leastHalves_1 rfl ?_
  refine z_getR (M := M_X4_leastHalves) 2 dX4_leastHalves_2 f_X4_24 (oL hL) rfl (rL_4 hL G0) ?_
  refine z_iload_n (M := M_X4_leastHalves) 5 dX4_leastHalves_5 rfl ?_
  refine z_ialdG (M := M_X4_leastHalves) 6 dX4_leastHalves_6 (oL_5 hL) (by omega) (by omega) (gL_5 hL G0 (by omega)) (fun x1 ex1 ax1 bx1 => ?_)
  refine z_imulN (M := M_X4_leastHalves) 7 dX4_leastHalves_7 (by omega) (by omega) ?_
  refine z_aload_n (M := M_X4_leastHalves) 8 dX4_leastHalves_8 rfl ?_
  refine z_getR (M := M_X4_leastHalves) 9 dX4_leastHalves_9 f_X4_27 (oL hL) rfl (rL_5 hL G0) ?_
  refine z_iload_n (M := M_X4_leastHalves) 12 dX4_leastHalves_12 rfl ?_
  refine z_ialdG (M := M_X4_leastHalves) 13 dX4_leastHalves_13 (oL_6 hL) (by omega) (by omega) (gL_6 hL G0 (by omega)) (fun x2 ex2 ax2 bx2 => ?_)
  refine z_iconst (M := M_X4_leastHalves) 14 dX4_leastHalves_14 ?_
  refine z_icmp_ne (M := M_X4_leastHalves) 15 dX4_leastHalves_15 22 rfl (fun c3 => ?_) (fun c3 => ?_)
  · refine z_iconst (M := M_X4_leastHalves) 22 dX4_leastHalves_22 ?_
    refine z_isubN (M := M_X4_leastHalves) 23 dX4_leastHalves_23 (by omega) (by omega) ?_
    exact z_retI (M := M_X4_leastHalves) 24 dX4_leastHalves_24 rfl ⟨G0, (FR.rf (cs := []) (ss := []) (h := h0)), by omega, by omega⟩
  · refine z_iconst (M := M_X4_leastHalves) 18 dX4_leastHalves_18 ?_
    refine z_goto (M := M_X4_leastHalves) 19 dX4_leastHalves_19 23 rfl ?_
    refine z_isubN (M := M_X4_leastHalves) 23 dX4_leastHalves_23 (by omega) (by omega) ?_
    exact z_retI (M := M_X4_leastHalves) 24 dX4_leastHalves_24 rfl ⟨G0, (FR.rf (cs := []) (ss := []) (h := h0)), by omega, by omega⟩
abbrev P_X4_endHalves (h0 : m_H) (L : Nat) (a1 : Int) : Int → m_H → Prop := fun x h' => GI h' ∧ FR [] [] h0 h' ∧ 0 ≤ x ∧ x ≤ 200
set_option maxHeartbeats 4000000 in
set_option maxRecDepth 100000 in
theorem c_X4_endHalves (h0 : m_H) (L : Nat) (a1 : Int) (hL : isL L) (G0 : GI h0) (pa1 : 0 ≤ a1 ∧ a1 ≤ 23) : m_CI M_X4_endHalves [mR L, mI a1] h0 (P_X4_endHalves h0 L a1) := by
  refine m_CI_of ⟨by decide, rfl, by simp [m_arg, m_isL, M_X4_endHalves], ⟨rfl, rfl⟩, rfl, rfl⟩ (ls := [some (mR L), some (mI a1)]) rfl ?_
  refine z_aload_n (M := M_X4_endHalves) 0 dX4_endHalves_0 rfl ?_
  refine z_getR (M := M_X4_endHalves) 1 dX4_endHalves_1 f_X4_27 (oL hL) rfl (rL_5 hL G0) ?_
  refine z_iload_n (M := M_X4_endHalves) 4 dX4_endHalves_4 rfl ?_
  refine z_ialdG (M := M_X4_endHalves) 5 dX4_endHalves_5 (oL_6 hL) (by omega) (by omega) (gL_6 hL G0 (by omega)) (fun x1 ex1 ax1 bx1 => ?_)
  refine z_if_ne (M := M_X4_endHalves) 6 dX4_endHalves_6 18 rfl (fun c2 => ?_) (fun c2 => ?_)
  · refine z_aload_n (M := M_X4_endHalves) 18 dX4_endHalves_18 rfl ?_
    refine z_iload_n (M := M_X4_endHalves) 19 dX4_endHalves_19 rfl ?_
    refine z_vI (M := M_X4_endHalves) 20 dX4_endHalves_20 t_X4_leastHalves l_X4_81 (m_rr_of rfl) (rest := []) (c_X4_leastHalves h0 L a1 hL G0 ⟨by omega, by omega⟩) (oL hL) rfl rfl rfl (Nat.le_of_ble_eq_true rfl) ⟨rfl, rfl⟩ (fun x3 h1 qx3 => ?_)
    obtain ⟨G1, S1, ax3, bx3⟩ := qx3
    have R1 := (FR.rf (cs := []) (ss := []) (h := h0)).call S1 (by decide +kernel)
    refine z_iconst (M := M_X4_endHalves) 23 dX4_endHalves_23 ?_
    refine z_iaddN (M := M_X4_endHalves) 24 dX4_endHalves_24 (by omega) (by omega) ?_
    exact z_retI (M := M_X4_endHalves) 25 dX4_endHalves_25 rfl ⟨G1, R1, by omega, by omega⟩
  · refine z_iconst (M := M_X4_endHalves) 9 dX4_endHalves_9 ?_
    refine z_aload_n (M := M_X4_endHalves) 10 dX4_endHalves_10 rfl ?_
    refine z_getR (M := M_X4_endHalves) 11 dX4_endHalves_11 f_X4_24 (oL hL) rfl (rL_4 hL G0) ?_
    refine z_iload_n (M := M_X4_endHalves) 14 dX4_endHalves_14 rfl ?_
    refine z_ialdG (M := M_X4_endHalves) 15 dX4_endHalves_15 (oL_5 hL) (by omega) (by omega) (gL_5 hL G0 (by omega)) (fun x4 ex4 ax4 bx4 => ?_)
    refine z_imulN (M := M_X4_endHalves) 16 dX4_endHalves_16 (by omega) (by omega) ?_
    exact z_retI (M := M_X4_endHalves) 17 dX4_endHalves_17 rfl ⟨G0, (FR.rf (cs := []) (ss := []) (h := h0)), by omega, by omega⟩
abbrev P_X4_wholeFeet (h0 : m_H) (L : Nat) (a1 a2 : Int) : Int → m_H → Prop := fun x h' => GI h' ∧ FR [] [] h0 h'
set_option maxHeartbeats 4000000 in
set_option maxRecDepth 100000 in
theorem c_X4_wholeFeet (h0 : m_H) (L : Nat) (a1 a2 : Int) (hL : isL L) (G0 : GI h0) (pa1 : 0 ≤ a1 ∧ a1 ≤ 11) (pa2 : 0 ≤ a2 ∧ a2 ≤ 3) : m_CI M_X4_wholeFeet [mR L, mI a1, mI a2] h0 (P_X4_wholeFeet h0 L a1 a2) := by
  refine m_CI_of ⟨by decide, rfl, by simp [m_arg, m_isL, M_X4_wholeFeet], ⟨rfl, rfl⟩, rfl, rfl⟩ (ls := [some (mR L), some (mI a1), some (mI a2)]) rfl ?_
  refine z_aload_n (M := M_X4_wholeFeet) 0 dX4_wholeFeet_0 rfl ?_
  refine z_getR (M := M_X4_wholeFeet) 1 dX4_wholeFeet_1 f_X4_30 (oL hL) rfl (rL_6 hL G0) ?_
  refine z_iload_n (M := M_X4_wholeFeet) 4 dX4_wholeFeet_4 rfl ?_
  refine z_ialdG (M := M_X4_wholeFeet) 5 dX4_wholeFeet_5 (oL_7 hL) (by omega) (by omega) (gL_7 hL G0 (by omega)) (fun x1 ex1 ax1 bx1 => ?_)
  refine z_i2l (M := M_X4_wholeFeet) 6 dX4_wholeFeet_6 ?_
  refine z_aload_n (M := M_X4_wholeFeet) 7 dX4_wholeFeet_7 rfl ?_
  refine z_getR (M := M_X4_wholeFeet) 8 dX4_wholeFeet_8 f_X4_30 (oL hL) rfl (rL_6 hL G0) ?_
  refine z_bipush (M := M_X4_wholeFeet) 11 dX4_wholeFeet_11 ?_
  refine z_iload_n (M := M_X4_wholeFeet) 13 dX4_wholeFeet_13 rfl ?_
  refine z_iaddN (M := M_X4_wholeFeet) 14 dX4_wholeFeet_14 (by omega) (by omega) ?_
  refine z_ialdG (M := M_X4_wholeFeet) 15 dX4_wholeFeet_15 (oL_7 hL) (by omega) (by omega) (gL_7 hL G0 (by omega)) (fun x2 ex2 ax2 bx2 => ?_)
  refine z_i2l (M := M_X4_wholeFeet) 16 dX4_wholeFeet_16 ?_
  refine z_nJ (M := M_X4_wholeFeet) 17 dX4_wholeFeet_17 t_X11_quotient l_X4_84 (m_rr_of rfl) (rest := []) (c_X11_quotient h0 x1 x2 G0) rfl rfl (Nat.le_of_ble_eq_true rfl) ⟨rfl, rfl⟩ (fun x3 h1 qx3 => ?_)
  obtain ⟨G1, S1⟩ := qx3
  have R1 := (FR.rf (cs := []) (ss := []) (h := h0)).call S1 (by decide +kernel)
  refine z_l2i (M := M_X4_wholeFeet) 20 dX4_wholeFeet_20 ?_
  refine z_topm (fun x4 ex4 ox4 => ?_)
  unfold m_32 at ox4
  exact z_retI (M := M_X4_wholeFeet) 21 dX4_wholeFeet_21 rfl ⟨G1, R1⟩
abbrev P_X4_isSoByWorld (h0 : m_H) (L : Nat) (a1 : Int) : Int → m_H → Prop := fun x h' => GI h' ∧ FR [] [] h0 h' ∧ 0 ≤ x ∧ x ≤ 1
set_option maxHeartbeats 4000000 in
set_option maxRecDepth 100000 in
theorem c_X4_isSoByWorld (h0 : m_H) (L : Nat) (a1 : Int) (hL : isL L) (G0 : GI h0) (pa1 : 0 ≤ a1 ∧ a1 ≤ 23) : m_CI M_X4_isSoByWorld [mR L, mI a1] h0 (P_X4_isSoByWorld h0 L a1) := by
  refine m_CI_of ⟨by decide, rfl, by simp [m_arg, m_isL, M_X4_isSoByWorld], ⟨rfl, rfl⟩, rfl, rfl⟩ (ls := [some (mR L), some (mI a1), none, none, none, none, none]) rfl ?_
  refine z_aload_n (M := M_X4_isSoByWorld) 0 dX4_isSoByWorld_0 rfl ?_
  refine z_iload_n (M := M_X4_isSoByWorld) 1 dX4_isSoByWorld_1 rfl ?_
  refine z_vI (M := M_X4_isSoByWorld) 2 dX4_isSoByWorld_2 t_X4_keeperOf l_X4_88 (m_rr_of rfl) (rest := []) (c_X4_keeperOf h0 L a1 hL G0 ⟨by omega, by omega⟩) (oL hL) rfl rfl rfl (Nat.le_of_ble_eq_true rfl) ⟨rfl, rfl⟩ (fun x1 h1 qx1 => ?_)
  obtain ⟨G1, S1, ax1, bx1⟩ := qx1
  have R1 := (FR.rf (cs := []) (ss := []) (h := h0)).call S1 (by decide +kernel)
  refine z_istore_n (M := M_X4_isSoByWorld) 5 dX4_isSoByWorld_5 (ls' := [some (mR L), some (mI a1), some (mI x1), none, none, none, none]) (by decide) rfl ?_
  refine z_iload_n (M := M_X4_isSoByWorld) 6 dX4_isSoByWorld_6 rfl ?_
  refine z_iconst (M := M_X4_isSoByWorld) 7 dX4_isSoByWorld_7 ?_
  refine z_icmp_ne (M := M_X4_isSoByWorld) 8 dX4_isSoByWorld_8 13 rfl (fun c2 => ?_) (fun c2 => ?_)
  · refine z_aload_n (M := M_X4_isSoByWorld) 13 dX4_isSoByWorld_13 rfl ?_
    refine z_getR (M := M_X4_isSoByWorld) 14 dX4_isSoByWorld_14 f_X4_30 (oL hL) rfl (rL_6 hL G1) ?_
    refine z_bipush (M := M_X4_isSoByWorld) 17 dX4_isSoByWorld_17 ?_
    refine z_iload_n (M := M_X4_isSoByWorld) 19 dX4_isSoByWorld_19 rfl ?_
    refine z_iaddN (M := M_X4_isSoByWorld) 20 dX4_isSoByWorld_20 (by omega) (by omega) ?_
    refine z_ialdG (M := M_X4_isSoByWorld) 21 dX4_isSoByWorld_21 (oL_7 hL) (by omega) (by omega) (gL_7 hL G1 (by omega)) (fun x3 ex3 ax3 bx3 => ?_)
    refine z_istore_n (M := M_X4_isSoByWorld) 22 dX4_isSoByWorld_22 (ls' := [some (mR L), some (mI a1), some (mI x1), some (mI x3), none, none, none]) (by decide) rfl ?_
    refine z_iconst (M := M_X4_isSoByWorld) 23 dX4_isSoByWorld_23 ?_
    refine z_aload_n (M := M_X4_isSoByWorld) 24 dX4_isSoByWorld_24 rfl ?_
    refine z_getR (M := M_X4_isSoByWorld) 25 dX4_isSoByWorld_25 f_X4_30 (oL hL) rfl (rL_6 hL G1) ?_
    refine z_aload_n (M := M_X4_isSoByWorld) 28 dX4_isSoByWorld_28 rfl ?_
    refine z_iload_n (M := M_X4_isSoByWorld) 29 dX4_isSoByWorld_29 rfl ?_
    refine z_vI (M := M_X4_isSoByWorld) 30 dX4_isSoByWorld_30 t_X4_lengthOf l_X4_91 (m_rr_of rfl) (rest := [mR (L + 7), mI 2]) (c_X4_lengthOf h1 L a1 hL G1 ⟨by omega, by omega⟩) (oL hL) rfl rfl rfl (Nat.le_of_ble_eq_true rfl) ⟨rfl, rfl⟩ (fun x4 h2 qx4 => ?_)
    obtain ⟨G2, S2, ax4, bx4⟩ := qx4
    have R2 := R1.call S2 (by decide +kernel)
    refine z_ialdG (M := M_X4_isSoByWorld) 33 dX4_isSoByWorld_33 (oL_7 hL) (by omega) (by omega) (gL_7 hL G2 (by omega)) (fun x5 ex5 ax5 bx5 => ?_)
    refine z_imulN (M := M_X4_isSoByWorld) 34 dX4_isSoByWorld_34 (by omega) (by omega) ?_
    refine z_istore (M := M_X4_isSoByWorld) 35 dX4_isSoByWorld_35 (ls' := [some (mR L), some (mI a1), some (mI x1), some (mI x3), some (mI (2 * x5)), none, none]) (by decide) rfl ?_
    refine z_aload_n (M := M_X4_isSoByWorld) 37 dX4_isSoByWorld_37 rfl ?_
    refine z_iload_n (M := M_X4_isSoByWorld) 38 dX4_isSoByWorld_38 rfl ?_
    refine z_vI (M := M_X4_isSoByWorld) 39 dX4_isSoByWorld_39 t_X4_leastHalves l_X4_81 (m_rr_of rfl) (rest := []) (c_X4_leastHalves h2 L a1 hL G2 ⟨by omega, by omega⟩) (oL hL) rfl rfl rfl (Nat.le_of_ble_eq_true rfl) ⟨rfl, rfl⟩ (fun x6 h3 qx6 => ?_)
    obtain ⟨G3, S3, ax6, bx6⟩ := qx6
    have R3 := R2.call S3 (by decide +kernel)
    refine z_iload_n (M := M_X4_isSoByWorld) 42 dX4_isSoByWorld_42 rfl ?_
    refine z_imul (M := M_X4_isSoByWorld) 43 dX4_isSoByWorld_43 ?_
    refine z_topm (fun x7 ex7 ox7 => ?_)
    unfold m_32 at ox7
    refine z_istore (M := M_X4_isSoByWorld) 44 dX4_isSoByWorld_44 (ls' := [some (mR L), some (mI a1), some (mI x1), some (mI x3), some (mI (2 * x5)), some (mI x7), none]) (by decide) rfl ?_
    refine z_aload_n (M := M_X4_isSoByWorld) 46 dX4_isSoByWorld_46 rfl ?_
    refine z_iload_n (M := M_X4_isSoByWorld) 47 dX4_isSoByWorld_47 rfl ?_
    refine z_vI (M := M_X4_isSoByWorld) 48 dX4_isSoByWorld_48 t_X4_endHalves l_X4_94 (m_rr_of rfl) (rest := []) (c_X4_endHalves h3 L a1 hL G3 ⟨by omega, by omega⟩) (oL hL) rfl rfl rfl (Nat.le_of_ble_eq_true rfl) ⟨rfl, rfl⟩ (fun x8 h4 qx8 => ?_)
    obtain ⟨G4, S4, ax8, bx8⟩ := qx8
    have R4 := R3.call S4 (by decide +kernel)
    refine z_iload_n (M := M_X4_isSoByWorld) 51 dX4_isSoByWorld_51 rfl ?_
    refine z_imul (M := M_X4_isSoByWorld) 52 dX4_isSoByWorld_52 ?_
    refine z_topm (fun x9 ex9 ox9 => ?_)
    unfold m_32 at ox9
    refine z_istore (M := M_X4_isSoByWorld) 53 dX4_isSoByWorld_53 (ls' := [some (mR L), some (mI a1), some (mI x1), some (mI x3), some (mI (2 * x5)), some (mI x7), some (mI x9)]) (by decide) rfl ?_
    refine z_aload_n (M := M_X4_isSoByWorld) 55 dX4_isSoByWorld_55 rfl ?_
    refine z_getR (M := M_X4_isSoByWorld) 56 dX4_isSoByWorld_56 f_X4_27 (oL hL) rfl (rL_5 hL G4) ?_
    refine z_iload_n (M := M_X4_isSoByWorld) 59 dX4_isSoByWorld_59 rfl ?_
    refine z_ialdG (M := M_X4_isSoByWorld) 60 dX4_isSoByWorld_60 (oL_6 hL) (by omega) (by omega) (gL_6 hL G4 (by omega)) (fun x10 ex10 ax10 bx10 => ?_)
    refine z_if_ne (M := M_X4_isSoByWorld) 61 dX4_isSoByWorld_61 79 rfl (fun c11 => ?_) (fun c11 => ?_)
    · refine z_iload (M := M_X4_isSoByWorld) 79 dX4_isSoByWorld_79 rfl ?_
      refine z_iload (M := M_X4_isSoByWorld) 81 dX4_isSoByWorld_81 rfl ?_
      refine z_icmp_lt (M := M_X4_isSoByWorld) 83 dX4_isSoByWorld_83 97 rfl (fun c12 => ?_) (fun c12 => ?_)
      · refine z_iconst (M := M_X4_isSoByWorld) 97 dX4_isSoByWorld_97 ?_
        exact z_retZ (M := M_X4_isSoByWorld) 98 dX4_isSoByWorld_98 rfl (by omega) ⟨G4, R4, by omega, by omega⟩
      · refine z_iload (M := M_X4_isSoByWorld) 86 dX4_isSoByWorld_86 rfl ?_
        refine z_iload (M := M_X4_isSoByWorld) 88 dX4_isSoByWorld_88 rfl ?_
        refine z_icmp_ge (M := M_X4_isSoByWorld) 90 dX4_isSoByWorld_90 97 rfl (fun c13 => ?_) (fun c13 => ?_)
        · refine z_iconst (M := M_X4_isSoByWorld) 97 dX4_isSoByWorld_97 ?_
          exact z_retZ (M := M_X4_isSoByWorld) 98 dX4_isSoByWorld_98 rfl (by omega) ⟨G4, R4, by omega, by omega⟩
        · refine z_iconst (M := M_X4_isSoByWorld) 93 dX4_isSoByWorld_93 ?_
          refine z_goto (M := M_X4_isSoByWorld) 94 dX4_isSoByWorld_94 98 rfl ?_
          exact z_retZ (M := M_X4_isSoByWorld) 98 dX4_isSoByWorld_98 rfl (by omega) ⟨G4, R4, by omega, by omega⟩
    · refine z_iload (M := M_X4_isSoByWorld) 64 dX4_isSoByWorld_64 rfl ?_
      refine z_iload (M := M_X4_isSoByWorld) 66 dX4_isSoByWorld_66 rfl ?_
      refine z_icmp_ne (M := M_X4_isSoByWorld) 68 dX4_isSoByWorld_68 75 rfl (fun c14 => ?_) (fun c14 => ?_)
      · refine z_iconst (M := M_X4_isSoByWorld) 75 dX4_isSoByWorld_75 ?_
        refine z_goto (M := M_X4_isSoByWorld) 76 dX4_isSoByWorld_76 98 rfl ?_
        exact z_retZ (M := M_X4_isSoByWorld) 98 dX4_isSoByWorld_98 rfl (by omega) ⟨G4, R4, by omega, by omega⟩
      · refine z_iconst (M := M_X4_isSoByWorld) 71 dX4_isSoByWorld_71 ?_
        refine z_goto (M := M_X4_isSoByWorld) 72 dX4_isSoByWorld_72 98 rfl ?_
        exact z_retZ (M := M_X4_isSoByWorld) 98 dX4_isSoByWorld_98 rfl (by omega) ⟨G4, R4, by omega, by omega⟩
  · refine z_iconst (M := M_X4_isSoByWorld) 11 dX4_isSoByWorld_11 ?_
    exact z_retZ (M := M_X4_isSoByWorld) 12 dX4_isSoByWorld_12 rfl (by omega) ⟨G1, R1, by omega, by omega⟩
abbrev P_X4_hasShortersByWorld (h0 : m_H) (L : Nat) : Int → m_H → Prop := fun x h' => GI h' ∧ FR [] [] h0 h' ∧ 0 ≤ x ∧ x ≤ 1
def q_X4_hasShortersByWorld (h0 : m_H) (L : Nat) (n : Nat) : Prop := (∀ (l1 : Int) (h : m_H), GI h → FR [] [] h0 h → 0 ≤ l1 → l1 ≤ 16 → 2 * (16 - l1) + (1) ≤ (n : Int) → m_Z oF M_X4_hasShortersByWorld 2 [some (mR L), some (mI l1), none, none] [] h (m_QI (P_X4_hasShortersByWorld h0 L)))
set_option maxHeartbeats 4000000 in
set_option maxRecDepth 100000 in
theorem s_X4_hasShortersByWorld_2 (h0 : m_H) (L : Nat) (hL : isL L) (G0 : GI h0) (n : Nat) (ih : q_X4_hasShortersByWorld h0 L n) : ∀ (l1 : Int) (h : m_H), GI h → FR [] [] h0 h → 0 ≤ l1 → l1 ≤ 16 → 2 * (16 - l1) + (1) ≤ ((n + 1 : Nat) : Int) → m_Z oF M_X4_hasShortersByWorld 2 [some (mR L), some (mI l1), none, none] [] h (m_QI (P_X4_hasShortersByWorld h0 L)) := by
  intro l1 h G R v0 v1 hr
  refine z_iload_n (M := M_X4_hasShortersByWorld) 2 dX4_hasShortersByWorld_2 rfl ?_
  refine z_bipush (M := M_X4_hasShortersByWorld) 3 dX4_hasShortersByWorld_3 ?_
  refine z_icmp_ge (M := M_X4_hasShortersByWorld) 5 dX4_hasShortersByWorld_5 56 rfl (fun c1 => ?_) (fun c1 => ?_)
  · refine z_iconst (M := M_X4_hasShortersByWorld) 56 dX4_hasShortersByWorld_56 ?_
    exact z_retZ (M := M_X4_hasShortersByWorld) 57 dX4_hasShortersByWorld_57 rfl (by omega) ⟨G, R, by omega, by omega⟩
  · refine z_aload_n (M := M_X4_hasShortersByWorld) 8 dX4_hasShortersByWorld_8 rfl ?_
    refine z_getR (M := M_X4_hasShortersByWorld) 9 dX4_hasShortersByWorld_9 f_X4_30 (oL hL) rfl (rL_6 hL G) ?_
    refine z_bipush (M := M_X4_hasShortersByWorld) 12 dX4_hasShortersByWorld_12 ?_
    refine z_iload_n (M := M_X4_hasShortersByWorld) 14 dX4_hasShortersByWorld_14 rfl ?_
    refine z_iconst (M := M_X4_hasShortersByWorld) 15 dX4_hasShortersByWorld_15 ?_
    refine z_idivN (M := M_X4_hasShortersByWorld) 16 dX4_hasShortersByWorld_16 (by omega) (by omega) ?_
    refine z_topBI (lo := 0) (hi := 3) ⟨by omega, by omega⟩ (fun x2 ex2 ax2 bx2 => ?_)
    refine z_iaddN (M := M_X4_hasShortersByWorld) 17 dX4_hasShortersByWorld_17 (by omega) (by omega) ?_
    refine z_ialdG (M := M_X4_hasShortersByWorld) 18 dX4_hasShortersByWorld_18 (oL_7 hL) (by omega) (by omega) (gL_7 hL G (by omega)) (fun x3 ex3 ax3 bx3 => ?_)
    refine z_istore_n (M := M_X4_hasShortersByWorld) 19 dX4_hasShortersByWorld_19 (ls' := [some (mR L), some (mI l1), some (mI x3), none]) (by decide) rfl ?_
    refine z_aload_n (M := M_X4_hasShortersByWorld) 20 dX4_hasShortersByWorld_20 rfl ?_
    refine z_getR (M := M_X4_hasShortersByWorld) 21 dX4_hasShortersByWorld_21 f_X4_30 (oL hL) rfl (rL_6 hL G) ?_
    refine z_bipush (M := M_X4_hasShortersByWorld) 24 dX4_hasShortersByWorld_24 ?_
    refine z_iload_n (M := M_X4_hasShortersByWorld) 26 dX4_hasShortersByWorld_26 rfl ?_
    refine z_iconst (M := M_X4_hasShortersByWorld) 27 dX4_hasShortersByWorld_27 ?_
    refine z_iremN (M := M_X4_hasShortersByWorld) 28 dX4_hasShortersByWorld_28 (by omega) (by omega) ?_
    refine z_topBI (lo := 0) (hi := 3) ⟨by omega, by omega⟩ (fun x4 ex4 ax4 bx4 => ?_)
    refine z_iaddN (M := M_X4_hasShortersByWorld) 29 dX4_hasShortersByWorld_29 (by omega) (by omega) ?_
    refine z_ialdG (M := M_X4_hasShortersByWorld) 30 dX4_hasShortersByWorld_30 (oL_7 hL) (by omega) (by omega) (gL_7 hL G (by omega)) (fun x5 ex5 ax5 bx5 => ?_)
    refine z_istore_n (M := M_X4_hasShortersByWorld) 31 dX4_hasShortersByWorld_31 (ls' := [some (mR L), some (mI l1), some (mI x3), some (mI x5)]) (by decide) rfl ?_
    refine z_aload_n (M := M_X4_hasShortersByWorld) 32 dX4_hasShortersByWorld_32 rfl ?_
    refine z_getIV (M := M_X4_hasShortersByWorld) 33 dX4_hasShortersByWorld_33 f_X4_52 (oL hL) (by decide) (fun x6 ex6 => ?_)
    refine z_ok (fun ox6 _ _ => ?_)
    have ox6 := ox6.1; unfold m_ok m_32 at ox6
    refine z_iload_n (M := M_X4_hasShortersByWorld) 36 dX4_hasShortersByWorld_36 rfl ?_
    refine z_nI (M := M_X4_hasShortersByWorld) 37 dX4_hasShortersByWorld_37 t_X11_hasBit l_X4_59 (m_rr_of rfl) (rest := []) (c_X11_hasBit h x6 l1 G) rfl rfl (Nat.le_of_ble_eq_true rfl) ⟨rfl, rfl⟩ (fun x7 h1 qx7 => ?_)
    obtain ⟨rfl, ⟨rfl, cx7⟩ | ⟨rfl, cx7⟩⟩ := qx7
    · refine z_if_eq_F (M := M_X4_hasShortersByWorld) 40 dX4_hasShortersByWorld_40 50 rfl (by omega) ?_
      refine z_iload_n (M := M_X4_hasShortersByWorld) 43 dX4_hasShortersByWorld_43 rfl ?_
      refine z_iload_n (M := M_X4_hasShortersByWorld) 44 dX4_hasShortersByWorld_44 rfl ?_
      refine z_icmp_lt (M := M_X4_hasShortersByWorld) 45 dX4_hasShortersByWorld_45 50 rfl (fun c8 => ?_) (fun c8 => ?_)
      · refine z_iincN (M := M_X4_hasShortersByWorld) 50 dX4_hasShortersByWorld_50 (ls' := [some (mR L), some (mI (l1 + 1)), some (mI x3), some (mI x5)]) (by decide) rfl (by (unfold m_32; decide)) (by omega) (by omega) rfl ?_
        refine z_goto (M := M_X4_hasShortersByWorld) 53 dX4_hasShortersByWorld_53 2 rfl ?_
        exact z_mask [true, true, false, false] rfl (ih (l1 + 1) h G R (by omega) (by omega) (by omega))
      · refine z_iconst (M := M_X4_hasShortersByWorld) 48 dX4_hasShortersByWorld_48 ?_
        exact z_retZ (M := M_X4_hasShortersByWorld) 49 dX4_hasShortersByWorld_49 rfl (by omega) ⟨G, R, by omega, by omega⟩
    · refine z_if_eq_T (M := M_X4_hasShortersByWorld) 40 dX4_hasShortersByWorld_40 50 rfl (by omega) ?_
      refine z_iincN (M := M_X4_hasShortersByWorld) 50 dX4_hasShortersByWorld_50 (ls' := [some (mR L), some (mI (l1 + 1)), some (mI x3), some (mI x5)]) (by decide) rfl (by (unfold m_32; decide)) (by omega) (by omega) rfl ?_
      refine z_goto (M := M_X4_hasShortersByWorld) 53 dX4_hasShortersByWorld_53 2 rfl ?_
      exact z_mask [true, true, false, false] rfl (ih (l1 + 1) h G R (by omega) (by omega) (by omega))
theorem a_X4_hasShortersByWorld (h0 : m_H) (L : Nat) (hL : isL L) (G0 : GI h0) : ∀ n, q_X4_hasShortersByWorld h0 L n := by
  intro n
  induction n with
  | zero => unfold q_X4_hasShortersByWorld; intros; omega
  | succ n ih => exact s_X4_hasShortersByWorld_2 h0 L hL G0 n ih
set_option maxHeartbeats 4000000 in
set_option maxRecDepth 100000 in
theorem c_X4_hasShortersByWorld (h0 : m_H) (L : Nat) (hL : isL L) (G0 : GI h0) : m_CI M_X4_hasShortersByWorld [mR L] h0 (P_X4_hasShortersByWorld h0 L) := by
  refine m_CI_of ⟨by decide, rfl, by simp [m_arg, m_isL, M_X4_hasShortersByWorld], ⟨rfl, rfl⟩, rfl, rfl⟩ (ls := [some (mR L), none, none, none]) rfl ?_
  have ih := a_X4_hasShortersByWorld h0 L hL G0 40
  refine z_iconst (M := M_X4_hasShortersByWorld) 0 dX4_hasShortersByWorld_0 ?_
  refine z_istore_n (M := M_X4_hasShortersByWorld) 1 dX4_hasShortersByWorld_1 (ls' := [some (mR L), some (mI 0), none, none]) (by decide) rfl ?_
  exact z_mask [true, true, false, false] rfl (ih 0 h0 G0 (FR.rf (cs := []) (ss := []) (h := h0)) (by omega) (by omega) (by omega))
abbrev P_X4_hasCutsByWorld (h0 : m_H) (L : Nat) : Int → m_H → Prop := fun x h' => GI h' ∧ FR [] [] h0 h' ∧ 0 ≤ x ∧ x ≤ 1
def q_X4_hasCutsByWorld (h0 : m_H) (L : Nat) (n : Nat) : Prop := (∀ (l1 : Int) (h : m_H), GI h → FR [] [] h0 h → 0 ≤ l1 → l1 ≤ 6 → 2 * (6 - l1) + (1) ≤ (n : Int) → m_Z oF M_X4_hasCutsByWorld 2 [some (mR L), some (mI l1)] [] h (m_QI (P_X4_hasCutsByWorld h0 L)))
set_option maxHeartbeats 4000000 in
set_option maxRecDepth 100000 in
theorem s_X4_hasCutsByWorld_2 (h0 : m_H) (L : Nat) (hL : isL L) (G0 : GI h0) (n : Nat) (ih : q_X4_hasCutsByWorld h0 L n) : ∀ (l1 : Int) (h : m_H), GI h → FR [] [] h0 h → 0 ≤ l1 → l1 ≤ 6 → 2 * (6 - l1) + (1) ≤ ((n + 1 : Nat) : Int) → m_Z oF M_X4_hasCutsByWorld 2 [some (mR L), some (mI l1)] [] h (m_QI (P_X4_hasCutsByWorld h0 L)) := by
  intro l1 h G R v0 v1 hr
  refine z_iload_n (M := M_X4_hasCutsByWorld) 2 dX4_hasCutsByWorld_2 rfl ?_
  refine z_bipush (M := M_X4_hasCutsByWorld) 3 dX4_hasCutsByWorld_3 ?_
  refine z_icmp_ge (M := M_X4_hasCutsByWorld) 5 dX4_hasCutsByWorld_5 44 rfl (fun c1 => ?_) (fun c1 => ?_)
  · refine z_iconst (M := M_X4_hasCutsByWorld) 44 dX4_hasCutsByWorld_44 ?_
    exact z_retZ (M := M_X4_hasCutsByWorld) 45 dX4_hasCutsByWorld_45 rfl (by omega) ⟨G, R, by omega, by omega⟩
  · refine z_aload_n (M := M_X4_hasCutsByWorld) 8 dX4_hasCutsByWorld_8 rfl ?_
    refine z_getR (M := M_X4_hasCutsByWorld) 9 dX4_hasCutsByWorld_9 f_X4_15 (oL hL) rfl (rL_1 hL G) ?_
    refine z_iload_n (M := M_X4_hasCutsByWorld) 12 dX4_hasCutsByWorld_12 rfl ?_
    refine z_ialdG (M := M_X4_hasCutsByWorld) 13 dX4_hasCutsByWorld_13 (oL_2 hL) (by omega) (by omega) (gL_2 hL G (by omega)) (fun x2 ex2 ax2 bx2 => ?_)
    refine z_iconst (M := M_X4_hasCutsByWorld) 14 dX4_hasCutsByWorld_14 ?_
    refine z_icmp_eq (M := M_X4_hasCutsByWorld) 15 dX4_hasCutsByWorld_15 38 rfl (fun c3 => ?_) (fun c3 => ?_)
    · refine z_iincN (M := M_X4_hasCutsByWorld) 38 dX4_hasCutsByWorld_38 (ls' := [some (mR L), some (mI (l1 + 1))]) (by decide) rfl (by (unfold m_32; decide)) (by omega) (by omega) rfl ?_
      refine z_goto (M := M_X4_hasCutsByWorld) 41 dX4_hasCutsByWorld_41 2 rfl ?_
      exact z_mask [true, true] rfl (ih (l1 + 1) h G R (by omega) (by omega) (by omega))
    · refine z_aload_n (M := M_X4_hasCutsByWorld) 18 dX4_hasCutsByWorld_18 rfl ?_
      refine z_getR (M := M_X4_hasCutsByWorld) 19 dX4_hasCutsByWorld_19 f_X4_30 (oL hL) rfl (rL_6 hL G) ?_
      refine z_iload_n (M := M_X4_hasCutsByWorld) 22 dX4_hasCutsByWorld_22 rfl ?_
      refine z_bipush (M := M_X4_hasCutsByWorld) 23 dX4_hasCutsByWorld_23 ?_
      refine z_iaddN (M := M_X4_hasCutsByWorld) 25 dX4_hasCutsByWorld_25 (by omega) (by omega) ?_
      refine z_ialdG (M := M_X4_hasCutsByWorld) 26 dX4_hasCutsByWorld_26 (oL_7 hL) (by omega) (by omega) (gL_7 hL G (by omega)) (fun x4 ex4 ax4 bx4 => ?_)
      refine z_aload_n (M := M_X4_hasCutsByWorld) 27 dX4_hasCutsByWorld_27 rfl ?_
      refine z_getR (M := M_X4_hasCutsByWorld) 28 dX4_hasCutsByWorld_28 f_X4_30 (oL hL) rfl (rL_6 hL G) ?_
      refine z_iload_n (M := M_X4_hasCutsByWorld) 31 dX4_hasCutsByWorld_31 rfl ?_
      refine z_ialdG (M := M_X4_hasCutsByWorld) 32 dX4_hasCutsByWorld_32 (oL_7 hL) (by omega) (by omega) (gL_7 hL G (by omega)) (fun x5 ex5 ax5 bx5 => ?_)
      refine z_icmp_le (M := M_X4_hasCutsByWorld) 33 dX4_hasCutsByWorld_33 38 rfl (fun c6 => ?_) (fun c6 => ?_)
      · refine z_iincN (M := M_X4_hasCutsByWorld) 38 dX4_hasCutsByWorld_38 (ls' := [some (mR L), some (mI (l1 + 1))]) (by decide) rfl (by (unfold m_32; decide)) (by omega) (by omega) rfl ?_
        refine z_goto (M := M_X4_hasCutsByWorld) 41 dX4_hasCutsByWorld_41 2 rfl ?_
        exact z_mask [true, true] rfl (ih (l1 + 1) h G R (by omega) (by omega) (by omega))
      · refine z_iconst (M := M_X4_hasCutsByWorld) 36 dX4_hasCutsByWorld_36 ?_
        exact z_retZ (M := M_X4_hasCutsByWorld) 37 dX4_hasCutsByWorld_37 rfl (by omega) ⟨G, R, by omega, by omega⟩
theorem a_X4_hasCutsByWorld (h0 : m_H) (L : Nat) (hL : isL L) (G0 : GI h0) : ∀ n, q_X4_hasCutsByWorld h0 L n := by
  intro n
  induction n with
  | zero => unfold q_X4_hasCutsByWorld; intros; omega
  | succ n ih => exact s_X4_hasCutsByWorld_2 h0 L hL G0 n ih
set_option maxHeartbeats 4000000 in
set_option maxRecDepth 100000 in
theorem c_X4_hasCutsByWorld (h0 : m_H) (L : Nat) (hL : isL L) (G0 : GI h0) : m_CI M_X4_hasCutsByWorld [mR L] h0 (P_X4_hasCutsByWorld h0 L) := by
  refine m_CI_of ⟨by decide, rfl, by simp [m_arg, m_isL, M_X4_hasCutsByWorld], ⟨rfl, rfl⟩, rfl, rfl⟩ (ls := [some (mR L), none]) rfl ?_
  have ih := a_X4_hasCutsByWorld h0 L hL G0 20
  refine z_iconst (M := M_X4_hasCutsByWorld) 0 dX4_hasCutsByWorld_0 ?_
  refine z_istore_n (M := M_X4_hasCutsByWorld) 1 dX4_hasCutsByWorld_1 (ls' := [some (mR L), some (mI 0)]) (by decide) rfl ?_
  exact z_mask [true, true] rfl (ih 0 h0 G0 (FR.rf (cs := []) (ss := []) (h := h0)) (by omega) (by omega) (by omega))
abbrev P_X4_addEntry (h0 : m_H) (L : Nat) (a1 a2 a3 a4 : Int) : m_H → Prop := fun h' => GI h' ∧ FR [(L + 3), (L + 4), (L + 5), (L + 6)] [(L, 7), (L, 8)] h0 h'
set_option maxHeartbeats 4000000 in
set_option maxRecDepth 100000 in
theorem c_X4_addEntry (h0 : m_H) (L : Nat) (a1 a2 a3 a4 : Int) (hL : isL L) (G0 : GI h0) (pa1 : 0 ≤ a1 ∧ a1 ≤ 5) (pa2 : 0 ≤ a2 ∧ a2 ≤ 31) (pa3 : 1 ≤ a3 ∧ a3 ≤ 99) (pa4 : 0 ≤ a4 ∧ a4 ≤ 2) : m_CV M_X4_addEntry [mR L, mI a1, mI a2, mI a3, mI a4] h0 (P_X4_addEntry h0 L a1 a2 a3 a4) := by
  refine m_CV_of ⟨by decide, rfl, by simp [m_arg, m_isL, M_X4_addEntry], ⟨rfl, rfl⟩, rfl, rfl⟩ (ls := [some (mR L), some (mI a1), some (mI a2), some (mI a3), some (mI a4)]) rfl ?_
  refine z_aload_n (M := M_X4_addEntry) 0 dX4_addEntry_0 rfl ?_
  refine z_vI (M := M_X4_addEntry) 1 dX4_addEntry_1 t_X4_hasRoom l_X4_55 (m_rr_of rfl) (rest := []) (c_X4_hasRoom h0 L hL G0) (oL hL) rfl rfl rfl (Nat.le_of_ble_eq_true rfl) ⟨rfl, rfl⟩ (fun x1 h1 qx1 => ?_)
  obtain ⟨rfl, ⟨rfl, cx1⟩ | ⟨rfl, cx1⟩⟩ := qx1
  · refine z_if_ne_T (M := M_X4_addEntry) 4 dX4_addEntry_4 8 rfl (by omega) ?_
    refine z_aload_n (M := M_X4_addEntry) 8 dX4_addEntry_8 rfl ?_
    refine z_getR (M := M_X4_addEntry) 9 dX4_addEntry_9 f_X4_18 (oL hL) rfl (rL_2 hL G0) ?_
    refine z_aload_n (M := M_X4_addEntry) 12 dX4_addEntry_12 rfl ?_
    refine z_getIG (M := M_X4_addEntry) 13 dX4_addEntry_13 f_X4_45 (oL hL) (by decide) (gL7 hL G0) (fun x2 ex2 ax2 bx2 => ?_)
    refine z_iload_n (M := M_X4_addEntry) 16 dX4_addEntry_16 rfl ?_
    refine z_iastH (M := M_X4_addEntry) 17 dX4_addEntry_17 (oL_3 hL) (by omega) (by omega) (uL_3 hL G0 (by omega) (by omega)) ((FR.rf (cs := [(L + 3), (L + 4), (L + 5), (L + 6)]) (ss := [(L, 7), (L, 8)]) (h := h0)).up (by simp [fr])) (fun h2 E2 G2 R2 => ?_)
    refine z_aload_n (M := M_X4_addEntry) 18 dX4_addEntry_18 rfl ?_
    refine z_getR (M := M_X4_addEntry) 19 dX4_addEntry_19 f_X4_21 (oL hL) rfl (rL_3 hL G2) ?_
    refine z_aload_n (M := M_X4_addEntry) 22 dX4_addEntry_22 rfl ?_
    refine z_getIE (M := M_X4_addEntry) 23 dX4_addEntry_23 f_X4_45 (oL hL) (by decide) ((upN E2 (fun q => absurd q.1 (by omega))).trans ex2) ?_
    refine z_iload_n (M := M_X4_addEntry) 26 dX4_addEntry_26 rfl ?_
    refine z_iastH (M := M_X4_addEntry) 27 dX4_addEntry_27 (oL_4 hL) (by omega) (by omega) (uL_4 hL G2 (by omega) (by omega)) (R2.up (by simp [fr])) (fun h3 E3 G3 R3 => ?_)
    refine z_aload_n (M := M_X4_addEntry) 28 dX4_addEntry_28 rfl ?_
    refine z_getR (M := M_X4_addEntry) 29 dX4_addEntry_29 f_X4_24 (oL hL) rfl (rL_4 hL G3) ?_
    refine z_aload_n (M := M_X4_addEntry) 32 dX4_addEntry_32 rfl ?_
    refine z_getIE (M := M_X4_addEntry) 33 dX4_addEntry_33 f_X4_45 (oL hL) (by decide) ((upN E3 (fun q => absurd q.1 (by omega))).trans ((upN E2 (fun q => absurd q.1 (by omega))).trans ex2)) ?_
    refine z_iload_n (M := M_X4_addEntry) 36 dX4_addEntry_36 rfl ?_
    refine z_iastH (M := M_X4_addEntry) 37 dX4_addEntry_37 (oL_5 hL) (by omega) (by omega) (uL_5 hL G3 (by omega) (by omega)) (R3.up (by simp [fr])) (fun h4 E4 G4 R4 => ?_)
    refine z_aload_n (M := M_X4_addEntry) 38 dX4_addEntry_38 rfl ?_
    refine z_getR (M := M_X4_addEntry) 39 dX4_addEntry_39 f_X4_27 (oL hL) rfl (rL_5 hL G4) ?_
    refine z_aload_n (M := M_X4_addEntry) 42 dX4_addEntry_42 rfl ?_
    refine z_getIE (M := M_X4_addEntry) 43 dX4_addEntry_43 f_X4_45 (oL hL) (by decide) ((upN E4 (fun q => absurd q.1 (by omega))).trans ((upN E3 (fun q => absurd q.1 (by omega))).trans ((upN E2 (fun q => absurd q.1 (by omega))).trans ex2))) ?_
    refine z_iload (M := M_X4_addEntry) 46 dX4_addEntry_46 rfl ?_
    refine z_iastH (M := M_X4_addEntry) 48 dX4_addEntry_48 (oL_6 hL) (by omega) (by omega) (uL_6 hL G4 (by omega) (by omega)) (R4.up (by simp [fr])) (fun h5 E5 G5 R5 => ?_)
    refine z_aload_n (M := M_X4_addEntry) 49 dX4_addEntry_49 rfl ?_
    refine z_dup (M := M_X4_addEntry) 50 dX4_addEntry_50 rfl ?_
    refine z_getIV (M := M_X4_addEntry) 51 dX4_addEntry_51 f_X4_49 (oL hL) (by decide) (fun x3 ex3 => ?_)
    refine z_ok (fun ox3 _ _ => ?_)
    have ox3 := ox3.1; unfold m_ok m_32 at ox3
    refine z_iconst (M := M_X4_addEntry) 54 dX4_addEntry_54 ?_
    refine z_aload_n (M := M_X4_addEntry) 55 dX4_addEntry_55 rfl ?_
    refine z_getIE (M := M_X4_addEntry) 56 dX4_addEntry_56 f_X4_45 (oL hL) (by decide) ((upN E5 (fun q => absurd q.1 (by omega))).trans ((upN E4 (fun q => absurd q.1 (by omega))).trans ((upN E3 (fun q => absurd q.1 (by omega))).trans ((upN E2 (fun q => absurd q.1 (by omega))).trans ex2)))) ?_
    refine z_ishl (M := M_X4_addEntry) 59 dX4_addEntry_59 ?_
    refine z_topm (fun x4 ex4 ox4 => ?_)
    unfold m_32 at ox4
    refine z_ior (M := M_X4_addEntry) 60 dX4_addEntry_60 ?_
    refine z_topm (fun x5 ex5 ox5 => ?_)
    unfold m_32 at ox5
    refine z_putIH (M := M_X4_addEntry) 61 dX4_addEntry_61 p_X4_49 (oL hL) rfl (uL8 hL G5) (R5.up (by simp [fr])) (fun h6 E6 G6 R6 => ?_)
    refine z_aload_n (M := M_X4_addEntry) 64 dX4_addEntry_64 rfl ?_
    refine z_dup (M := M_X4_addEntry) 65 dX4_addEntry_65 rfl ?_
    refine z_getIE (M := M_X4_addEntry) 66 dX4_addEntry_66 f_X4_45 (oL hL) (by decide) ((upN E6 (fun q => absurd q.2 (by decide))).trans ((upN E5 (fun q => absurd q.1 (by omega))).trans ((upN E4 (fun q => absurd q.1 (by omega))).trans ((upN E3 (fun q => absurd q.1 (by omega))).trans ((upN E2 (fun q => absurd q.1 (by omega))).trans ex2))))) ?_
    refine z_iconst (M := M_X4_addEntry) 69 dX4_addEntry_69 ?_
    refine z_iaddN (M := M_X4_addEntry) 70 dX4_addEntry_70 (by omega) (by omega) ?_
    refine z_putIH (M := M_X4_addEntry) 71 dX4_addEntry_71 p_X4_45 (oL hL) rfl (uL7 hL G6 (by omega) (by omega)) (R6.up (by simp [fr])) (fun h7 E7 G7 R7 => ?_)
    exact z_retV (M := M_X4_addEntry) 74 dX4_addEntry_74 rfl ⟨G7, R7⟩
  · refine z_if_ne_F (M := M_X4_addEntry) 4 dX4_addEntry_4 8 rfl (by omega) ?_
    exact z_retV (M := M_X4_addEntry) 7 dX4_addEntry_7 rfl ⟨G0, (FR.rf (cs := [(L + 3), (L + 4), (L + 5), (L + 6)]) (ss := [(L, 7), (L, 8)]) (h := h0))⟩
abbrev P_X11_manyKnown_2 (h0 : m_H) : Int → m_H → Prop := fun x h' => GI h' ∧ FR [] [] h0 h'
def q_X11_manyKnown_2 (h0 : m_H) (n : Nat) : Prop := (∀ (l1 l2 : Int) (h : m_H), GI h → FR [] [] h0 h → 0 ≤ l2 → l2 ≤ 32 → 2 * (32 - l2) + (1) ≤ (n : Int) → m_Z oF M_X11_manyKnown 4 [some (mR 2), some (mI l1), some (mI l2)] [] h (m_QI (P_X11_manyKnown_2 h0)))
set_option maxHeartbeats 4000000 in
set_option maxRecDepth 100000 in
theorem s_X11_manyKnown_2_4 (h0 : m_H) (G0 : GI h0) (n : Nat) (ih : q_X11_manyKnown_2 h0 n) : ∀ (l1 l2 : Int) (h : m_H), GI h → FR [] [] h0 h → 0 ≤ l2 → l2 ≤ 32 → 2 * (32 - l2) + (1) ≤ ((n + 1 : Nat) : Int) → m_Z oF M_X11_manyKnown 4 [some (mR 2), some (mI l1), some (mI l2)] [] h (m_QI (P_X11_manyKnown_2 h0)) := by
  intro l1 l2 h G R v0 v1 hr
  refine z_ok (fun ostk _ olocs => ?_)
  have ol1 : m_32 l1 := olocs 1 _ rfl
  unfold m_32 at ol1
  refine z_iload_n (M := M_X11_manyKnown) 4 dX11_manyKnown_4 rfl ?_
  refine z_aload_n (M := M_X11_manyKnown) 5 dX11_manyKnown_5 rfl ?_
  refine z_alen (M := M_X11_manyKnown) 6 dX11_manyKnown_6 o_2 (by decide) (by decide) ?_
  refine z_icmp_ge (M := M_X11_manyKnown) 7 dX11_manyKnown_7 26 rfl (fun c1 => ?_) (fun c1 => ?_)
  · refine z_iload_n (M := M_X11_manyKnown) 26 dX11_manyKnown_26 rfl ?_
    exact z_retI (M := M_X11_manyKnown) 27 dX11_manyKnown_27 rfl ⟨G, R⟩
  · refine z_aload_n (M := M_X11_manyKnown) 10 dX11_manyKnown_10 rfl ?_
    refine z_iload_n (M := M_X11_manyKnown) 11 dX11_manyKnown_11 rfl ?_
    refine z_ialdG (M := M_X11_manyKnown) 12 dX11_manyKnown_12 o_2 (by omega) (by omega) (g_2 G (by omega)) (fun x2 ex2 ax2 bx2 => ?_)
    refine z_iconst (M := M_X11_manyKnown) 13 dX11_manyKnown_13 ?_
    refine z_icmp_eq (M := M_X11_manyKnown) 14 dX11_manyKnown_14 20 rfl (fun c3 => ?_) (fun c3 => ?_)
    · refine z_iincN (M := M_X11_manyKnown) 20 dX11_manyKnown_20 (ls' := [some (mR 2), some (mI l1), some (mI (l2 + 1))]) (by decide) rfl (by (unfold m_32; decide)) (by omega) (by omega) rfl ?_
      refine z_goto (M := M_X11_manyKnown) 23 dX11_manyKnown_23 4 rfl ?_
      exact z_mask [true, true, true] rfl (ih l1 (l2 + 1) h G R (by omega) (by omega) (by omega))
    · refine z_iincW (M := M_X11_manyKnown) 17 dX11_manyKnown_17 (by decide) rfl (by (unfold m_32; decide)) (fun x4 ox4 => ?_)
      unfold m_32 at ox4
      refine z_ls (ls' := [some (mR 2), some (mI x4), some (mI l2)]) rfl ?_
      refine z_iincN (M := M_X11_manyKnown) 20 dX11_manyKnown_20 (ls' := [some (mR 2), some (mI x4), some (mI (l2 + 1))]) (by decide) rfl (by (unfold m_32; decide)) (by omega) (by omega) rfl ?_
      refine z_goto (M := M_X11_manyKnown) 23 dX11_manyKnown_23 4 rfl ?_
      exact z_mask [true, true, true] rfl (ih x4 (l2 + 1) h G R (by omega) (by omega) (by omega))
theorem a_X11_manyKnown_2 (h0 : m_H) (G0 : GI h0) : ∀ n, q_X11_manyKnown_2 h0 n := by
  intro n
  induction n with
  | zero => unfold q_X11_manyKnown_2; intros; omega
  | succ n ih => exact s_X11_manyKnown_2_4 h0 G0 n ih
set_option maxHeartbeats 4000000 in
set_option maxRecDepth 100000 in
theorem c_X11_manyKnown_2 (h0 : m_H) (G0 : GI h0) : m_CI M_X11_manyKnown [mR 2] h0 (P_X11_manyKnown_2 h0) := by
  refine m_CI_of ⟨by decide, rfl, by simp [m_arg, m_isL, M_X11_manyKnown], ⟨rfl, rfl⟩, rfl, rfl⟩ (ls := [some (mR 2), none, none]) rfl ?_
  have ih := a_X11_manyKnown_2 h0 G0 72
  refine z_iconst (M := M_X11_manyKnown) 0 dX11_manyKnown_0 ?_
  refine z_istore_n (M := M_X11_manyKnown) 1 dX11_manyKnown_1 (ls' := [some (mR 2), some (mI 0), none]) (by decide) rfl ?_
  refine z_iconst (M := M_X11_manyKnown) 2 dX11_manyKnown_2 ?_
  refine z_istore_n (M := M_X11_manyKnown) 3 dX11_manyKnown_3 (ls' := [some (mR 2), some (mI 0), some (mI 0)]) (by decide) rfl ?_
  exact z_mask [true, true, true] rfl (ih 0 0 h0 G0 (FR.rf (cs := []) (ss := []) (h := h0)) (by omega) (by omega) (by omega))
abbrev P_X11_manyKnown_3 (h0 : m_H) : Int → m_H → Prop := fun x h' => GI h' ∧ FR [] [] h0 h'
def q_X11_manyKnown_3 (h0 : m_H) (n : Nat) : Prop := (∀ (l1 l2 : Int) (h : m_H), GI h → FR [] [] h0 h → 0 ≤ l2 → l2 ≤ 6 → 2 * (6 - l2) + (1) ≤ (n : Int) → m_Z oF M_X11_manyKnown 4 [some (mR 3), some (mI l1), some (mI l2)] [] h (m_QI (P_X11_manyKnown_3 h0)))
set_option maxHeartbeats 4000000 in
set_option maxRecDepth 100000 in
theorem s_X11_manyKnown_3_4 (h0 : m_H) (G0 : GI h0) (n : Nat) (ih : q_X11_manyKnown_3 h0 n) : ∀ (l1 l2 : Int) (h : m_H), GI h → FR [] [] h0 h → 0 ≤ l2 → l2 ≤ 6 → 2 * (6 - l2) + (1) ≤ ((n + 1 : Nat) : Int) → m_Z oF M_X11_manyKnown 4 [some (mR 3), some (mI l1), some (mI l2)] [] h (m_QI (P_X11_manyKnown_3 h0)) := by
  intro l1 l2 h G R v0 v1 hr
  refine z_ok (fun ostk _ olocs => ?_)
  have ol1 : m_32 l1 := olocs 1 _ rfl
  unfold m_32 at ol1
  refine z_iload_n (M := M_X11_manyKnown) 4 dX11_manyKnown_4 rfl ?_
  refine z_aload_n (M := M_X11_manyKnown) 5 dX11_manyKnown_5 rfl ?_
  refine z_alen (M := M_X11_manyKnown) 6 dX11_manyKnown_6 o_3 (by decide) (by decide) ?_
  refine z_icmp_ge (M := M_X11_manyKnown) 7 dX11_manyKnown_7 26 rfl (fun c1 => ?_) (fun c1 => ?_)
  · refine z_iload_n (M := M_X11_manyKnown) 26 dX11_manyKnown_26 rfl ?_
    exact z_retI (M := M_X11_manyKnown) 27 dX11_manyKnown_27 rfl ⟨G, R⟩
  · refine z_aload_n (M := M_X11_manyKnown) 10 dX11_manyKnown_10 rfl ?_
    refine z_iload_n (M := M_X11_manyKnown) 11 dX11_manyKnown_11 rfl ?_
    refine z_ialdG (M := M_X11_manyKnown) 12 dX11_manyKnown_12 o_3 (by omega) (by omega) (g_3 G (by omega)) (fun x2 ex2 ax2 bx2 => ?_)
    refine z_iconst (M := M_X11_manyKnown) 13 dX11_manyKnown_13 ?_
    refine z_icmp_eq (M := M_X11_manyKnown) 14 dX11_manyKnown_14 20 rfl (fun c3 => ?_) (fun c3 => ?_)
    · refine z_iincN (M := M_X11_manyKnown) 20 dX11_manyKnown_20 (ls' := [some (mR 3), some (mI l1), some (mI (l2 + 1))]) (by decide) rfl (by (unfold m_32; decide)) (by omega) (by omega) rfl ?_
      refine z_goto (M := M_X11_manyKnown) 23 dX11_manyKnown_23 4 rfl ?_
      exact z_mask [true, true, true] rfl (ih l1 (l2 + 1) h G R (by omega) (by omega) (by omega))
    · refine z_iincW (M := M_X11_manyKnown) 17 dX11_manyKnown_17 (by decide) rfl (by (unfold m_32; decide)) (fun x4 ox4 => ?_)
      unfold m_32 at ox4
      refine z_ls (ls' := [some (mR 3), some (mI x4), some (mI l2)]) rfl ?_
      refine z_iincN (M := M_X11_manyKnown) 20 dX11_manyKnown_20 (ls' := [some (mR 3), some (mI x4), some (mI (l2 + 1))]) (by decide) rfl (by (unfold m_32; decide)) (by omega) (by omega) rfl ?_
      refine z_goto (M := M_X11_manyKnown) 23 dX11_manyKnown_23 4 rfl ?_
      exact z_mask [true, true, true] rfl (ih x4 (l2 + 1) h G R (by omega) (by omega) (by omega))
theorem a_X11_manyKnown_3 (h0 : m_H) (G0 : GI h0) : ∀ n, q_X11_manyKnown_3 h0 n := by
  intro n
  induction n with
  | zero => unfold q_X11_manyKnown_3; intros; omega
  | succ n ih => exact s_X11_manyKnown_3_4 h0 G0 n ih
set_option maxHeartbeats 4000000 in
set_option maxRecDepth 100000 in
theorem c_X11_manyKnown_3 (h0 : m_H) (G0 : GI h0) : m_CI M_X11_manyKnown [mR 3] h0 (P_X11_manyKnown_3 h0) := by
  refine m_CI_of ⟨by decide, rfl, by simp [m_arg, m_isL, M_X11_manyKnown], ⟨rfl, rfl⟩, rfl, rfl⟩ (ls := [some (mR 3), none, none]) rfl ?_
  have ih := a_X11_manyKnown_3 h0 G0 20
  refine z_iconst (M := M_X11_manyKnown) 0 dX11_manyKnown_0 ?_
  refine z_istore_n (M := M_X11_manyKnown) 1 dX11_manyKnown_1 (ls' := [some (mR 3), some (mI 0), none]) (by decide) rfl ?_
  refine z_iconst (M := M_X11_manyKnown) 2 dX11_manyKnown_2 ?_
  refine z_istore_n (M := M_X11_manyKnown) 3 dX11_manyKnown_3 (ls' := [some (mR 3), some (mI 0), some (mI 0)]) (by decide) rfl ?_
  exact z_mask [true, true, true] rfl (ih 0 0 h0 G0 (FR.rf (cs := []) (ss := []) (h := h0)) (by omega) (by omega) (by omega))
abbrev P_J7_fill_39 (h0 : m_H) (a1 : Int) : m_H → Prop := fun h' => GI h' ∧ FR [39] [] h0 h'
def q_J7_fill_39 (h0 : m_H) (a1 : Int) (n : Nat) : Prop := (∀ (l2 : Int) (h : m_H), GI h → FR [39] [] h0 h → 0 ≤ l2 → l2 ≤ 48 → (-2147483648) ≤ a1 → a1 ≤ 2147483647 → 2 * (48 - l2) + (1) ≤ (n : Int) → m_Z oF M_J7_fill_53178 5 [some (mR 39), some (mI a1), some (mI l2), some (mI ((48 : Nat) : Int))] [] h (m_QV (P_J7_fill_39 h0 a1)))
set_option maxHeartbeats 4000000 in
set_option maxRecDepth 100000 in
theorem s_J7_fill_39_5 (h0 : m_H) (a1 : Int) (G0 : GI h0) (n : Nat) (ih : q_J7_fill_39 h0 a1 n) : ∀ (l2 : Int) (h : m_H), GI h → FR [39] [] h0 h → 0 ≤ l2 → l2 ≤ 48 → (-2147483648) ≤ a1 → a1 ≤ 2147483647 → 2 * (48 - l2) + (1) ≤ ((n + 1 : Nat) : Int) → m_Z oF M_J7_fill_53178 5 [some (mR 39), some (mI a1), some (mI l2), some (mI ((48 : Nat) : Int))] [] h (m_QV (P_J7_fill_39 h0 a1)) := by
  intro l2 h G R v0 v1 v2 v3 hr
  refine z_iload_n (M := M_J7_fill_53178) 5 dJ7_fill_53178_5 rfl ?_
  refine z_iload_n (M := M_J7_fill_53178) 6 dJ7_fill_53178_6 rfl ?_
  refine z_icmp_ge (M := M_J7_fill_53178) 7 dJ7_fill_53178_7 20 rfl (fun c1 => ?_) (fun c1 => ?_)
  · exact z_retV (M := M_J7_fill_53178) 20 dJ7_fill_53178_20 rfl ⟨G, R⟩
  · refine z_aload_n (M := M_J7_fill_53178) 10 dJ7_fill_53178_10 rfl ?_
    refine z_iload_n (M := M_J7_fill_53178) 11 dJ7_fill_53178_11 rfl ?_
    refine z_iload_n (M := M_J7_fill_53178) 12 dJ7_fill_53178_12 rfl ?_
    refine z_iastH (M := M_J7_fill_53178) 13 dJ7_fill_53178_13 o_39 (by omega) (by omega) (u_39 G) (R.up rfl) (fun h1 E1 G1 R1 => ?_)
    refine z_iincN (M := M_J7_fill_53178) 14 dJ7_fill_53178_14 (ls' := [some (mR 39), some (mI a1), some (mI (l2 + 1)), some (mI ((48 : Nat) : Int))]) (by decide) rfl (by (unfold m_32; decide)) (by omega) (by omega) rfl ?_
    refine z_goto (M := M_J7_fill_53178) 17 dJ7_fill_53178_17 5 rfl ?_
    exact z_mask [true, true, true, true] rfl (ih (l2 + 1) h1 G1 R1 (by omega) (by omega) (by omega) (by omega) (by omega))
theorem a_J7_fill_39 (h0 : m_H) (a1 : Int) (G0 : GI h0) : ∀ n, q_J7_fill_39 h0 a1 n := by
  intro n
  induction n with
  | zero => unfold q_J7_fill_39; intros; omega
  | succ n ih => exact s_J7_fill_39_5 h0 a1 G0 n ih
set_option maxHeartbeats 4000000 in
set_option maxRecDepth 100000 in
theorem c_J7_fill_39 (h0 : m_H) (a1 : Int) (G0 : GI h0) : m_CV M_J7_fill_53178 [mR 39, mI a1] h0 (P_J7_fill_39 h0 a1) := by
  refine m_CV_of ⟨by decide, rfl, by simp [m_arg, m_isL, M_J7_fill_53178], ⟨rfl, rfl⟩, rfl, rfl⟩ (ls := [some (mR 39), some (mI a1), none, none]) rfl ?_
  have ih := a_J7_fill_39 h0 a1 G0 104
  refine z_ok (fun _ _ ok => ?_)
  have oa1 : m_32 a1 := ok 1 _ rfl
  unfold m_32 at oa1
  refine z_iconst (M := M_J7_fill_53178) 0 dJ7_fill_53178_0 ?_
  refine z_istore_n (M := M_J7_fill_53178) 1 dJ7_fill_53178_1 (ls' := [some (mR 39), some (mI a1), some (mI 0), none]) (by decide) rfl ?_
  refine z_aload_n (M := M_J7_fill_53178) 2 dJ7_fill_53178_2 rfl ?_
  refine z_alen (M := M_J7_fill_53178) 3 dJ7_fill_53178_3 o_39 (by decide) (by decide) ?_
  refine z_istore_n (M := M_J7_fill_53178) 4 dJ7_fill_53178_4 (ls' := [some (mR 39), some (mI a1), some (mI 0), some (mI ((48 : Nat) : Int))]) (by decide) rfl ?_
  exact z_mask [true, true, true, true] rfl (ih 0 h0 G0 (FR.rf (cs := [39]) (ss := []) (h := h0)) (by omega) (by omega) (by omega) (by omega) (by omega))
abbrev P_J7_fill_41 (h0 : m_H) (a1 : Int) : m_H → Prop := fun h' => GI h' ∧ FR [41] [] h0 h'
def q_J7_fill_41 (h0 : m_H) (a1 : Int) (n : Nat) : Prop := (∀ (l2 : Int) (h : m_H), GI h → FR [41] [] h0 h → 0 ≤ l2 → l2 ≤ 48 → (-2147483648) ≤ a1 → a1 ≤ 2147483647 → 2 * (48 - l2) + (1) ≤ (n : Int) → m_Z oF M_J7_fill_53178 5 [some (mR 41), some (mI a1), some (mI l2), some (mI ((48 : Nat) : Int))] [] h (m_QV (P_J7_fill_41 h0 a1)))
set_option maxHeartbeats 4000000 in
set_option maxRecDepth 100000 in
theorem s_J7_fill_41_5 (h0 : m_H) (a1 : Int) (G0 : GI h0) (n : Nat) (ih : q_J7_fill_41 h0 a1 n) : ∀ (l2 : Int) (h : m_H), GI h → FR [41] [] h0 h → 0 ≤ l2 → l2 ≤ 48 → (-2147483648) ≤ a1 → a1 ≤ 2147483647 → 2 * (48 - l2) + (1) ≤ ((n + 1 : Nat) : Int) → m_Z oF M_J7_fill_53178 5 [some (mR 41), some (mI a1), some (mI l2), some (mI ((48 : Nat) : Int))] [] h (m_QV (P_J7_fill_41 h0 a1)) := by
  intro l2 h G R v0 v1 v2 v3 hr
  refine z_iload_n (M := M_J7_fill_53178) 5 dJ7_fill_53178_5 rfl ?_
  refine z_iload_n (M := M_J7_fill_53178) 6 dJ7_fill_53178_6 rfl ?_
  refine z_icmp_ge (M := M_J7_fill_53178) 7 dJ7_fill_53178_7 20 rfl (fun c1 => ?_) (fun c1 => ?_)
  · exact z_retV (M := M_J7_fill_53178) 20 dJ7_fill_53178_20 rfl ⟨G, R⟩
  · refine z_aload_n (M := M_J7_fill_53178) 10 dJ7_fill_53178_10 rfl ?_
    refine z_iload_n (M := M_J7_fill_53178) 11 dJ7_fill_53178_11 rfl ?_
    refine z_iload_n (M := M_J7_fill_53178) 12 dJ7_fill_53178_12 rfl ?_
    refine z_iastH (M := M_J7_fill_53178) 13 dJ7_fill_53178_13 o_41 (by omega) (by omega) (u_41 G) (R.up rfl) (fun h1 E1 G1 R1 => ?_)
    refine z_iincN (M := M_J7_fill_53178) 14 dJ7_fill_53178_14 (ls' := [some (mR 41), some (mI a1), some (mI (l2 + 1)), some (mI ((48 : Nat) : Int))]) (by decide) rfl (by (unfold m_32; decide)) (by omega) (by omega) rfl ?_
    refine z_goto (M := M_J7_fill_53178) 17 dJ7_fill_53178_17 5 rfl ?_
    exact z_mask [true, true, true, true] rfl (ih (l2 + 1) h1 G1 R1 (by omega) (by omega) (by omega) (by omega) (by omega))
theorem a_J7_fill_41 (h0 : m_H) (a1 : Int) (G0 : GI h0) : ∀ n, q_J7_fill_41 h0 a1 n := by
  intro n
  induction n with
  | zero => unfold q_J7_fill_41; intros; omega
  | succ n ih => exact s_J7_fill_41_5 h0 a1 G0 n ih
set_option maxHeartbeats 4000000 in
set_option maxRecDepth 100000 in
theorem c_J7_fill_41 (h0 : m_H) (a1 : Int) (G0 : GI h0) : m_CV M_J7_fill_53178 [mR 41, mI a1] h0 (P_J7_fill_41 h0 a1) := by
  refine m_CV_of ⟨by decide, rfl, by simp [m_arg, m_isL, M_J7_fill_53178], ⟨rfl, rfl⟩, rfl, rfl⟩ (ls := [some (mR 41), some (mI a1), none, none]) rfl ?_
  have ih := a_J7_fill_41 h0 a1 G0 104
  refine z_ok (fun _ _ ok => ?_)
  have oa1 : m_32 a1 := ok 1 _ rfl
  unfold m_32 at oa1
  refine z_iconst (M := M_J7_fill_53178) 0 dJ7_fill_53178_0 ?_
  refine z_istore_n (M := M_J7_fill_53178) 1 dJ7_fill_53178_1 (ls' := [some (mR 41), some (mI a1), some (mI 0), none]) (by decide) rfl ?_
  refine z_aload_n (M := M_J7_fill_53178) 2 dJ7_fill_53178_2 rfl ?_
  refine z_alen (M := M_J7_fill_53178) 3 dJ7_fill_53178_3 o_41 (by decide) (by decide) ?_
  refine z_istore_n (M := M_J7_fill_53178) 4 dJ7_fill_53178_4 (ls' := [some (mR 41), some (mI a1), some (mI 0), some (mI ((48 : Nat) : Int))]) (by decide) rfl ?_
  exact z_mask [true, true, true, true] rfl (ih 0 h0 G0 (FR.rf (cs := [41]) (ss := []) (h := h0)) (by omega) (by omega) (by omega) (by omega) (by omega))
abbrev P_J7_fill_104 (h0 : m_H) (a1 : Int) : m_H → Prop := fun h' => GI h' ∧ FR [104] [] h0 h'
def q_J7_fill_104 (h0 : m_H) (a1 : Int) (n : Nat) : Prop := (∀ (l2 : Int) (h : m_H), GI h → FR [104] [] h0 h → 0 ≤ l2 → l2 ≤ 12 → (-2147483648) ≤ a1 → a1 ≤ 2147483647 → 2 * (12 - l2) + (1) ≤ (n : Int) → m_Z oF M_J7_fill_53178 5 [some (mR 104), some (mI a1), some (mI l2), some (mI ((12 : Nat) : Int))] [] h (m_QV (P_J7_fill_104 h0 a1)))
set_option maxHeartbeats 4000000 in
set_option maxRecDepth 100000 in
theorem s_J7_fill_104_5 (h0 : m_H) (a1 : Int) (G0 : GI h0) (n : Nat) (ih : q_J7_fill_104 h0 a1 n) : ∀ (l2 : Int) (h : m_H), GI h → FR [104] [] h0 h → 0 ≤ l2 → l2 ≤ 12 → (-2147483648) ≤ a1 → a1 ≤ 2147483647 → 2 * (12 - l2) + (1) ≤ ((n + 1 : Nat) : Int) → m_Z oF M_J7_fill_53178 5 [some (mR 104), some (mI a1), some (mI l2), some (mI ((12 : Nat) : Int))] [] h (m_QV (P_J7_fill_104 h0 a1)) := by
  intro l2 h G R v0 v1 v2 v3 hr
  refine z_iload_n (M := M_J7_fill_53178) 5 dJ7_fill_53178_5 rfl ?_
  refine z_iload_n (M := M_J7_fill_53178) 6 dJ7_fill_53178_6 rfl ?_
  refine z_icmp_ge (M := M_J7_fill_53178) 7 dJ7_fill_53178_7 20 rfl (fun c1 => ?_) (fun c1 => ?_)
  · exact z_retV (M := M_J7_fill_53178) 20 dJ7_fill_53178_20 rfl ⟨G, R⟩
  · refine z_aload_n (M := M_J7_fill_53178) 10 dJ7_fill_53178_10 rfl ?_
    refine z_iload_n (M := M_J7_fill_53178) 11 dJ7_fill_53178_11 rfl ?_
    refine z_iload_n (M := M_J7_fill_53178) 12 dJ7_fill_53178_12 rfl ?_
    refine z_iastH (M := M_J7_fill_53178) 13 dJ7_fill_53178_13 o_104 (by omega) (by omega) (u_104 G) (R.up rfl) (fun h1 E1 G1 R1 => ?_)
    refine z_iincN (M := M_J7_fill_53178) 14 dJ7_fill_53178_14 (ls' := [some (mR 104), some (mI a1), some (mI (l2 + 1)), some (mI ((12 : Nat) : Int))]) (by decide) rfl (by (unfold m_32; decide)) (by omega) (by omega) rfl ?_
    refine z_goto (M := M_J7_fill_53178) 17 dJ7_fill_53178_17 5 rfl ?_
    exact z_mask [true, true, true, true] rfl (ih (l2 + 1) h1 G1 R1 (by omega) (by omega) (by omega) (by omega) (by omega))
theorem a_J7_fill_104 (h0 : m_H) (a1 : Int) (G0 : GI h0) : ∀ n, q_J7_fill_104 h0 a1 n := by
  intro n
  induction n with
  | zero => unfold q_J7_fill_104; intros; omega
  | succ n ih => exact s_J7_fill_104_5 h0 a1 G0 n ih
set_option maxHeartbeats 4000000 in
set_option maxRecDepth 100000 in
theorem c_J7_fill_104 (h0 : m_H) (a1 : Int) (G0 : GI h0) : m_CV M_J7_fill_53178 [mR 104, mI a1] h0 (P_J7_fill_104 h0 a1) := by
  refine m_CV_of ⟨by decide, rfl, by simp [m_arg, m_isL, M_J7_fill_53178], ⟨rfl, rfl⟩, rfl, rfl⟩ (ls := [some (mR 104), some (mI a1), none, none]) rfl ?_
  have ih := a_J7_fill_104 h0 a1 G0 32
  refine z_ok (fun _ _ ok => ?_)
  have oa1 : m_32 a1 := ok 1 _ rfl
  unfold m_32 at oa1
  refine z_iconst (M := M_J7_fill_53178) 0 dJ7_fill_53178_0 ?_
  refine z_istore_n (M := M_J7_fill_53178) 1 dJ7_fill_53178_1 (ls' := [some (mR 104), some (mI a1), some (mI 0), none]) (by decide) rfl ?_
  refine z_aload_n (M := M_J7_fill_53178) 2 dJ7_fill_53178_2 rfl ?_
  refine z_alen (M := M_J7_fill_53178) 3 dJ7_fill_53178_3 o_104 (by decide) (by decide) ?_
  refine z_istore_n (M := M_J7_fill_53178) 4 dJ7_fill_53178_4 (ls' := [some (mR 104), some (mI a1), some (mI 0), some (mI ((12 : Nat) : Int))]) (by decide) rfl ?_
  exact z_mask [true, true, true, true] rfl (ih 0 h0 G0 (FR.rf (cs := [104]) (ss := []) (h := h0)) (by omega) (by omega) (by omega) (by omega) (by omega))
abbrev P_X11_refuse (h0 : m_H) (a1 : Int) : Int → m_H → Prop := fun x h' => GI h' ∧ FR [107] [(0, 14)] h0 h' ∧ a1 = x
set_option maxHeartbeats 4000000 in
set_option maxRecDepth 100000 in
theorem c_X11_refuse (h0 : m_H) (a1 : Int) (G0 : GI h0) (pa1 : (-6) ≤ a1 ∧ a1 ≤ (-1)) : m_CI M_X11_refuse [mR 0, mI a1] h0 (P_X11_refuse h0 a1) := by
  refine m_CI_of ⟨by decide, rfl, by simp [m_arg, m_isL, M_X11_refuse], ⟨rfl, rfl⟩, rfl, rfl⟩ (ls := [some (mR 0), some (mI a1), none]) rfl ?_
  refine z_aload_n (M := M_X11_refuse) 0 dX11_refuse_0 rfl ?_
  refine z_iload_n (M := M_X11_refuse) 1 dX11_refuse_1 rfl ?_
  refine z_putIH (M := M_X11_refuse) 2 dX11_refuse_2 p_X11_98 o_0 rfl (u_0_14 G0) ((FR.rf (cs := [107]) (ss := [(0, 14)]) (h := h0)).up rfl) (fun h1 E1 G1 R1 => ?_)
  refine z_iload_n (M := M_X11_refuse) 5 dX11_refuse_5 rfl ?_
  refine z_bipush (M := M_X11_refuse) 6 dX11_refuse_6 ?_
  refine z_icmp_le (M := M_X11_refuse) 8 dX11_refuse_8 18 rfl (fun c1 => ?_) (fun c1 => ?_)
  · refine z_iload_n (M := M_X11_refuse) 18 dX11_refuse_18 rfl ?_
    refine z_inegN (M := M_X11_refuse) 19 dX11_refuse_19 (by omega) (by omega) ?_
    refine z_iconst (M := M_X11_refuse) 20 dX11_refuse_20 ?_
    refine z_isubN (M := M_X11_refuse) 21 dX11_refuse_21 (by omega) (by omega) ?_
    refine z_istore_n (M := M_X11_refuse) 22 dX11_refuse_22 (ls' := [some (mR 0), some (mI a1), some (mI ((-a1) - 2))]) (by decide) rfl ?_
    refine z_iload_n (M := M_X11_refuse) 23 dX11_refuse_23 rfl ?_
    refine z_iconst (M := M_X11_refuse) 24 dX11_refuse_24 ?_
    refine z_iconst (M := M_X11_refuse) 25 dX11_refuse_25 ?_
    refine z_sI (M := M_X11_refuse) 26 dX11_refuse_26 t_X11_within l_X11_112 (m_rr_of rfl) (rest := []) (c_X11_within h1 ((-a1) - 2) 0 4 G1) rfl rfl (Nat.le_of_ble_eq_true rfl) ⟨rfl, rfl⟩ (fun x2 h2 qx2 => ?_)
    obtain ⟨rfl, ⟨rfl, cx2⟩ | ⟨rfl, cx2⟩⟩ := qx2
    · refine z_if_eq_F (M := M_X11_refuse) 29 dX11_refuse_29 42 rfl (by omega) ?_
      refine z_aload_n (M := M_X11_refuse) 32 dX11_refuse_32 rfl ?_
      refine z_getR (M := M_X11_refuse) 33 dX11_refuse_33 f_X11_94 o_0 rfl (g_0_13 G1) ?_
      refine z_iload_n (M := M_X11_refuse) 36 dX11_refuse_36 rfl ?_
      refine z_dup2 (M := M_X11_refuse) 37 dX11_refuse_37 rfl rfl ?_
      refine z_ialdV (M := M_X11_refuse) 38 dX11_refuse_38 o_107 (by omega) (by omega) (fun x3 ex3 => ?_)
      refine z_ok (fun ox3 _ _ => ?_)
      have ox3 := ox3.1; unfold m_ok m_32 at ox3
      refine z_iconst (M := M_X11_refuse) 39 dX11_refuse_39 ?_
      refine z_iadd (M := M_X11_refuse) 40 dX11_refuse_40 ?_
      refine z_topm (fun x4 ex4 ox4 => ?_)
      unfold m_32 at ox4
      refine z_iastH (M := M_X11_refuse) 41 dX11_refuse_41 o_107 (by omega) (by omega) (u_107 G1) (R1.up rfl) (fun h3 E3 G3 R3 => ?_)
      refine z_iload_n (M := M_X11_refuse) 42 dX11_refuse_42 rfl ?_
      exact z_retI (M := M_X11_refuse) 43 dX11_refuse_43 rfl ⟨G3, R3, rfl⟩
    · refine z_if_eq_T (M := M_X11_refuse) 29 dX11_refuse_29 42 rfl (by omega) ?_
      refine z_iload_n (M := M_X11_refuse) 42 dX11_refuse_42 rfl ?_
      exact z_retI (M := M_X11_refuse) 43 dX11_refuse_43 rfl ⟨G1, R1, rfl⟩
  · refine z_iload_n (M := M_X11_refuse) 11 dX11_refuse_11 rfl ?_
    refine z_inegN (M := M_X11_refuse) 12 dX11_refuse_12 (by omega) (by omega) ?_
    refine z_iconst (M := M_X11_refuse) 13 dX11_refuse_13 ?_
    refine z_isubN (M := M_X11_refuse) 14 dX11_refuse_14 (by omega) (by omega) ?_
    refine z_goto (M := M_X11_refuse) 15 dX11_refuse_15 22 rfl ?_
    refine z_istore_n (M := M_X11_refuse) 22 dX11_refuse_22 (ls' := [some (mR 0), some (mI a1), some (mI ((-a1) - 1))]) (by decide) rfl ?_
    refine z_iload_n (M := M_X11_refuse) 23 dX11_refuse_23 rfl ?_
    refine z_iconst (M := M_X11_refuse) 24 dX11_refuse_24 ?_
    refine z_iconst (M := M_X11_refuse) 25 dX11_refuse_25 ?_
    refine z_sI (M := M_X11_refuse) 26 dX11_refuse_26 t_X11_within l_X11_112 (m_rr_of rfl) (rest := []) (c_X11_within h1 ((-a1) - 1) 0 4 G1) rfl rfl (Nat.le_of_ble_eq_true rfl) ⟨rfl, rfl⟩ (fun x5 h4 qx5 => ?_)
    obtain ⟨rfl, ⟨rfl, cx5⟩ | ⟨rfl, cx5⟩⟩ := qx5
    · refine z_if_eq_F (M := M_X11_refuse) 29 dX11_refuse_29 42 rfl (by omega) ?_
      refine z_aload_n (M := M_X11_refuse) 32 dX11_refuse_32 rfl ?_
      refine z_getR (M := M_X11_refuse) 33 dX11_refuse_33 f_X11_94 o_0 rfl (g_0_13 G1) ?_
      refine z_iload_n (M := M_X11_refuse) 36 dX11_refuse_36 rfl ?_
      refine z_dup2 (M := M_X11_refuse) 37 dX11_refuse_37 rfl rfl ?_
      refine z_ialdV (M := M_X11_refuse) 38 dX11_refuse_38 o_107 (by omega) (by omega) (fun x6 ex6 => ?_)
      refine z_ok (fun ox6 _ _ => ?_)
      have ox6 := ox6.1; unfold m_ok m_32 at ox6
      refine z_iconst (M := M_X11_refuse) 39 dX11_refuse_39 ?_
      refine z_iadd (M := M_X11_refuse) 40 dX11_refuse_40 ?_
      refine z_topm (fun x7 ex7 ox7 => ?_)
      unfold m_32 at ox7
      refine z_iastH (M := M_X11_refuse) 41 dX11_refuse_41 o_107 (by omega) (by omega) (u_107 G1) (R1.up rfl) (fun h5 E5 G5 R5 => ?_)
      refine z_iload_n (M := M_X11_refuse) 42 dX11_refuse_42 rfl ?_
      exact z_retI (M := M_X11_refuse) 43 dX11_refuse_43 rfl ⟨G5, R5, rfl⟩
    · refine z_if_eq_T (M := M_X11_refuse) 29 dX11_refuse_29 42 rfl (by omega) ?_
      refine z_iload_n (M := M_X11_refuse) 42 dX11_refuse_42 rfl ?_
      exact z_retI (M := M_X11_refuse) 43 dX11_refuse_43 rfl ⟨G1, R1, rfl⟩
abbrev P_X11_accept (h0 : m_H) (a1 : Int) : Int → m_H → Prop := fun x h' => GI h' ∧ FR [] [(0, 14)] h0 h' ∧ a1 = x
set_option maxHeartbeats 4000000 in
set_option maxRecDepth 100000 in
theorem c_X11_accept (h0 : m_H) (a1 : Int) (G0 : GI h0) : m_CI M_X11_accept [mR 0, mI a1] h0 (P_X11_accept h0 a1) := by
  refine m_CI_of ⟨by decide, rfl, by simp [m_arg, m_isL, M_X11_accept], ⟨rfl, rfl⟩, rfl, rfl⟩ (ls := [some (mR 0), some (mI a1)]) rfl ?_
  refine z_ok (fun _ _ ok => ?_)
  have oa1 : m_32 a1 := ok 1 _ rfl
  unfold m_32 at oa1
  refine z_aload_n (M := M_X11_accept) 0 dX11_accept_0 rfl ?_
  refine z_iconst (M := M_X11_accept) 1 dX11_accept_1 ?_
  refine z_putIH (M := M_X11_accept) 2 dX11_accept_2 p_X11_98 o_0 rfl (u_0_14 G0) ((FR.rf (cs := []) (ss := [(0, 14)]) (h := h0)).up rfl) (fun h1 E1 G1 R1 => ?_)
  refine z_iload_n (M := M_X11_accept) 5 dX11_accept_5 rfl ?_
  exact z_retI (M := M_X11_accept) 6 dX11_accept_6 rfl ⟨G1, R1, rfl⟩
abbrev P_X11_week (h0 : m_H) (a1 a2 : Int) : Int → m_H → Prop := fun x h' => GI h' ∧ FR [2, 107] [(0, 14)] h0 h' ∧ (-1) ≤ x ∧ x ≤ 3
set_option maxHeartbeats 4000000 in
set_option maxRecDepth 100000 in
theorem c_X11_week (h0 : m_H) (a1 a2 : Int) (G0 : GI h0) : m_CI M_X11_week [mR 0, mI a1, mI a2] h0 (P_X11_week h0 a1 a2) := by
  refine m_CI_of ⟨by decide, rfl, by simp [m_arg, m_isL, M_X11_week], ⟨rfl, rfl⟩, rfl, rfl⟩ (ls := [some (mR 0), some (mI a1), some (mI a2), none]) rfl ?_
  refine z_ok (fun _ _ ok => ?_)
  have oa1 : m_32 a1 := ok 1 _ rfl
  unfold m_32 at oa1
  have oa2 : m_32 a2 := ok 2 _ rfl
  unfold m_32 at oa2
  refine z_iload_n (M := M_X11_week) 0 dX11_week_0 rfl ?_
  refine z_sI (M := M_X11_week) 1 dX11_week_1 t_X11_isWeek l_X11_108 (m_rr_of rfl) (rest := []) (c_X11_isWeek h0 a1 G0) rfl rfl (Nat.le_of_ble_eq_true rfl) ⟨rfl, rfl⟩ (fun x1 h1 qx1 => ?_)
  obtain ⟨rfl, ⟨rfl, cx1⟩ | ⟨rfl, cx1⟩⟩ := qx1
  · refine z_if_eq_F (M := M_X11_week) 4 dX11_week_4 16 rfl (by omega) ?_
    refine z_iload_n (M := M_X11_week) 7 dX11_week_7 rfl ?_
    refine z_iconst (M := M_X11_week) 8 dX11_week_8 ?_
    refine z_iconst (M := M_X11_week) 9 dX11_week_9 ?_
    refine z_sI (M := M_X11_week) 10 dX11_week_10 t_X11_within l_X11_112 (m_rr_of rfl) (rest := []) (c_X11_within h0 a2 (-1) 3 G0) rfl rfl (Nat.le_of_ble_eq_true rfl) ⟨rfl, rfl⟩ (fun x2 h2 qx2 => ?_)
    obtain ⟨rfl, ⟨rfl, cx2⟩ | ⟨rfl, cx2⟩⟩ := qx2
    · refine z_if_ne_T (M := M_X11_week) 13 dX11_week_13 22 rfl (by omega) ?_
      refine z_aload_n (M := M_X11_week) 22 dX11_week_22 rfl ?_
      refine z_getR (M := M_X11_week) 23 dX11_week_23 f_X11_12 o_0 rfl (g_0_0 G0) ?_
      refine z_getR (M := M_X11_week) 26 dX11_week_26 f_X11_120 o_1 rfl (g_1_0 G0) ?_
      refine z_iload_n (M := M_X11_week) 29 dX11_week_29 rfl ?_
      refine z_ialdG (M := M_X11_week) 30 dX11_week_30 o_2 (by omega) (by omega) (g_2 G0 (by omega)) (fun x3 ex3 ax3 bx3 => ?_)
      refine z_istore_n (M := M_X11_week) 31 dX11_week_31 (ls' := [some (mR 0), some (mI a1), some (mI a2), some (mI x3)]) (by decide) rfl ?_
      refine z_aload_n (M := M_X11_week) 32 dX11_week_32 rfl ?_
      refine z_getR (M := M_X11_week) 33 dX11_week_33 f_X11_12 o_0 rfl (g_0_0 G0) ?_
      refine z_getR (M := M_X11_week) 36 dX11_week_36 f_X11_120 o_1 rfl (g_1_0 G0) ?_
      refine z_iload_n (M := M_X11_week) 39 dX11_week_39 rfl ?_
      refine z_iload_n (M := M_X11_week) 40 dX11_week_40 rfl ?_
      refine z_iastH (M := M_X11_week) 41 dX11_week_41 o_2 (by omega) (by omega) (u_2 G0 (by omega) (by omega)) ((FR.rf (cs := [2, 107]) (ss := [(0, 14)]) (h := h0)).up rfl) (fun h3 E3 G3 R3 => ?_)
      refine z_aload_n (M := M_X11_week) 42 dX11_week_42 rfl ?_
      refine z_iload_n (M := M_X11_week) 43 dX11_week_43 rfl ?_
      refine z_vI (M := M_X11_week) 44 dX11_week_44 t_X11_accept l_X11_123 (m_rr_of rfl) (rest := []) (c_X11_accept h3 x3 G3) o_0 rfl rfl rfl (Nat.le_of_ble_eq_true rfl) ⟨rfl, rfl⟩ (fun x4 h4 qx4 => ?_)
      obtain ⟨G4, S4, rfl⟩ := qx4
      have R4 := R3.call S4 (by decide +kernel)
      exact z_retI (M := M_X11_week) 47 dX11_week_47 rfl ⟨G4, R4, by omega, by omega⟩
    · refine z_if_ne_F (M := M_X11_week) 13 dX11_week_13 22 rfl (by omega) ?_
      refine z_aload_n (M := M_X11_week) 16 dX11_week_16 rfl ?_
      refine z_iconst (M := M_X11_week) 17 dX11_week_17 ?_
      refine z_vI (M := M_X11_week) 18 dX11_week_18 t_X11_refuse l_X11_116 (m_rr_of rfl) (rest := []) (c_X11_refuse h0 (-1) G0 ⟨by omega, by omega⟩) o_0 rfl rfl rfl (Nat.le_of_ble_eq_true rfl) ⟨rfl, rfl⟩ (fun x5 h5 qx5 => ?_)
      obtain ⟨G5, S5, rfl⟩ := qx5
      have R5 := (FR.rf (cs := [2, 107]) (ss := [(0, 14)]) (h := h0)).call S5 (by decide +kernel)
      exact z_retI (M := M_X11_week) 21 dX11_week_21 rfl ⟨G5, R5, by omega, by omega⟩
  · refine z_if_eq_T (M := M_X11_week) 4 dX11_week_4 16 rfl (by omega) ?_
    refine z_aload_n (M := M_X11_week) 16 dX11_week_16 rfl ?_
    refine z_iconst (M := M_X11_week) 17 dX11_week_17 ?_
    refine z_vI (M := M_X11_week) 18 dX11_week_18 t_X11_refuse l_X11_116 (m_rr_of rfl) (rest := []) (c_X11_refuse h0 (-1) G0 ⟨by omega, by omega⟩) o_0 rfl rfl rfl (Nat.le_of_ble_eq_true rfl) ⟨rfl, rfl⟩ (fun x6 h6 qx6 => ?_)
    obtain ⟨G6, S6, rfl⟩ := qx6
    have R6 := (FR.rf (cs := [2, 107]) (ss := [(0, 14)]) (h := h0)).call S6 (by decide +kernel)
    exact z_retI (M := M_X11_week) 21 dX11_week_21 rfl ⟨G6, R6, by omega, by omega⟩
abbrev P_X11_cut (h0 : m_H) (a1 a2 : Int) : Int → m_H → Prop := fun x h' => GI h' ∧ FR [3, 107] [(0, 14)] h0 h' ∧ (-1) ≤ x ∧ x ≤ 31
set_option maxHeartbeats 4000000 in
set_option maxRecDepth 100000 in
theorem c_X11_cut (h0 : m_H) (a1 a2 : Int) (G0 : GI h0) : m_CI M_X11_cut [mR 0, mI a1, mI a2] h0 (P_X11_cut h0 a1 a2) := by
  refine m_CI_of ⟨by decide, rfl, by simp [m_arg, m_isL, M_X11_cut], ⟨rfl, rfl⟩, rfl, rfl⟩ (ls := [some (mR 0), some (mI a1), some (mI a2), none]) rfl ?_
  refine z_ok (fun _ _ ok => ?_)
  have oa1 : m_32 a1 := ok 1 _ rfl
  unfold m_32 at oa1
  have oa2 : m_32 a2 := ok 2 _ rfl
  unfold m_32 at oa2
  refine z_iload_n (M := M_X11_cut) 0 dX11_cut_0 rfl ?_
  refine z_sI (M := M_X11_cut) 1 dX11_cut_1 t_X11_isThing l_X11_126 (m_rr_of rfl) (rest := []) (c_X11_isThing h0 a1 G0) rfl rfl (Nat.le_of_ble_eq_true rfl) ⟨rfl, rfl⟩ (fun x1 h1 qx1 => ?_)
  obtain ⟨rfl, ⟨rfl, cx1⟩ | ⟨rfl, cx1⟩⟩ := qx1
  · refine z_if_eq_F (M := M_X11_cut) 4 dX11_cut_4 22 rfl (by omega) ?_
    refine z_iload_n (M := M_X11_cut) 7 dX11_cut_7 rfl ?_
    refine z_iconst (M := M_X11_cut) 8 dX11_cut_8 ?_
    refine z_icmp_eq (M := M_X11_cut) 9 dX11_cut_9 28 rfl (fun c2 => ?_) (fun c2 => ?_)
    · refine z_aload_n (M := M_X11_cut) 28 dX11_cut_28 rfl ?_
      refine z_getR (M := M_X11_cut) 29 dX11_cut_29 f_X11_12 o_0 rfl (g_0_0 G0) ?_
      refine z_getR (M := M_X11_cut) 32 dX11_cut_32 f_X11_129 o_1 rfl (g_1_1 G0) ?_
      refine z_iload_n (M := M_X11_cut) 35 dX11_cut_35 rfl ?_
      refine z_ialdG (M := M_X11_cut) 36 dX11_cut_36 o_3 (by omega) (by omega) (g_3 G0 (by omega)) (fun x3 ex3 ax3 bx3 => ?_)
      refine z_istore_n (M := M_X11_cut) 37 dX11_cut_37 (ls' := [some (mR 0), some (mI a1), some (mI a2), some (mI x3)]) (by decide) rfl ?_
      refine z_aload_n (M := M_X11_cut) 38 dX11_cut_38 rfl ?_
      refine z_getR (M := M_X11_cut) 39 dX11_cut_39 f_X11_12 o_0 rfl (g_0_0 G0) ?_
      refine z_getR (M := M_X11_cut) 42 dX11_cut_42 f_X11_129 o_1 rfl (g_1_1 G0) ?_
      refine z_iload_n (M := M_X11_cut) 45 dX11_cut_45 rfl ?_
      refine z_iload_n (M := M_X11_cut) 46 dX11_cut_46 rfl ?_
      refine z_iastH (M := M_X11_cut) 47 dX11_cut_47 o_3 (by omega) (by omega) (u_3 G0 (by omega) (by omega)) ((FR.rf (cs := [3, 107]) (ss := [(0, 14)]) (h := h0)).up rfl) (fun h2 E2 G2 R2 => ?_)
      refine z_aload_n (M := M_X11_cut) 48 dX11_cut_48 rfl ?_
      refine z_iload_n (M := M_X11_cut) 49 dX11_cut_49 rfl ?_
      refine z_vI (M := M_X11_cut) 50 dX11_cut_50 t_X11_accept l_X11_123 (m_rr_of rfl) (rest := []) (c_X11_accept h2 x3 G2) o_0 rfl rfl rfl (Nat.le_of_ble_eq_true rfl) ⟨rfl, rfl⟩ (fun x4 h3 qx4 => ?_)
      obtain ⟨G3, S3, rfl⟩ := qx4
      have R3 := R2.call S3 (by decide +kernel)
      exact z_retI (M := M_X11_cut) 53 dX11_cut_53 rfl ⟨G3, R3, by omega, by omega⟩
    · refine z_iload_n (M := M_X11_cut) 12 dX11_cut_12 rfl ?_
      refine z_iconst (M := M_X11_cut) 13 dX11_cut_13 ?_
      refine z_bipush (M := M_X11_cut) 14 dX11_cut_14 ?_
      refine z_sI (M := M_X11_cut) 16 dX11_cut_16 t_X11_within l_X11_112 (m_rr_of rfl) (rest := []) (c_X11_within h0 a2 1 31 G0) rfl rfl (Nat.le_of_ble_eq_true rfl) ⟨rfl, rfl⟩ (fun x5 h4 qx5 => ?_)
      obtain ⟨rfl, ⟨rfl, cx5⟩ | ⟨rfl, cx5⟩⟩ := qx5
      · refine z_if_ne_T (M := M_X11_cut) 19 dX11_cut_19 28 rfl (by omega) ?_
        refine z_aload_n (M := M_X11_cut) 28 dX11_cut_28 rfl ?_
        refine z_getR (M := M_X11_cut) 29 dX11_cut_29 f_X11_12 o_0 rfl (g_0_0 G0) ?_
        refine z_getR (M := M_X11_cut) 32 dX11_cut_32 f_X11_129 o_1 rfl (g_1_1 G0) ?_
        refine z_iload_n (M := M_X11_cut) 35 dX11_cut_35 rfl ?_
        refine z_ialdG (M := M_X11_cut) 36 dX11_cut_36 o_3 (by omega) (by omega) (g_3 G0 (by omega)) (fun x6 ex6 ax6 bx6 => ?_)
        refine z_istore_n (M := M_X11_cut) 37 dX11_cut_37 (ls' := [some (mR 0), some (mI a1), some (mI a2), some (mI x6)]) (by decide) rfl ?_
        refine z_aload_n (M := M_X11_cut) 38 dX11_cut_38 rfl ?_
        refine z_getR (M := M_X11_cut) 39 dX11_cut_39 f_X11_12 o_0 rfl (g_0_0 G0) ?_
        refine z_getR (M := M_X11_cut) 42 dX11_cut_42 f_X11_129 o_1 rfl (g_1_1 G0) ?_
        refine z_iload_n (M := M_X11_cut) 45 dX11_cut_45 rfl ?_
        refine z_iload_n (M := M_X11_cut) 46 dX11_cut_46 rfl ?_
        refine z_iastH (M := M_X11_cut) 47 dX11_cut_47 o_3 (by omega) (by omega) (u_3 G0 (by omega) (by omega)) ((FR.rf (cs := [3, 107]) (ss := [(0, 14)]) (h := h0)).up rfl) (fun h5 E5 G5 R5 => ?_)
        refine z_aload_n (M := M_X11_cut) 48 dX11_cut_48 rfl ?_
        refine z_iload_n (M := M_X11_cut) 49 dX11_cut_49 rfl ?_
        refine z_vI (M := M_X11_cut) 50 dX11_cut_50 t_X11_accept l_X11_123 (m_rr_of rfl) (rest := []) (c_X11_accept h5 x6 G5) o_0 rfl rfl rfl (Nat.le_of_ble_eq_true rfl) ⟨rfl, rfl⟩ (fun x7 h6 qx7 => ?_)
        obtain ⟨G6, S6, rfl⟩ := qx7
        have R6 := R5.call S6 (by decide +kernel)
        exact z_retI (M := M_X11_cut) 53 dX11_cut_53 rfl ⟨G6, R6, by omega, by omega⟩
      · refine z_if_ne_F (M := M_X11_cut) 19 dX11_cut_19 28 rfl (by omega) ?_
        refine z_aload_n (M := M_X11_cut) 22 dX11_cut_22 rfl ?_
        refine z_iconst (M := M_X11_cut) 23 dX11_cut_23 ?_
        refine z_vI (M := M_X11_cut) 24 dX11_cut_24 t_X11_refuse l_X11_116 (m_rr_of rfl) (rest := []) (c_X11_refuse h0 (-1) G0 ⟨by omega, by omega⟩) o_0 rfl rfl rfl (Nat.le_of_ble_eq_true rfl) ⟨rfl, rfl⟩ (fun x8 h7 qx8 => ?_)
        obtain ⟨G7, S7, rfl⟩ := qx8
        have R7 := (FR.rf (cs := [3, 107]) (ss := [(0, 14)]) (h := h0)).call S7 (by decide +kernel)
        exact z_retI (M := M_X11_cut) 27 dX11_cut_27 rfl ⟨G7, R7, by omega, by omega⟩
  · refine z_if_eq_T (M := M_X11_cut) 4 dX11_cut_4 22 rfl (by omega) ?_
    refine z_aload_n (M := M_X11_cut) 22 dX11_cut_22 rfl ?_
    refine z_iconst (M := M_X11_cut) 23 dX11_cut_23 ?_
    refine z_vI (M := M_X11_cut) 24 dX11_cut_24 t_X11_refuse l_X11_116 (m_rr_of rfl) (rest := []) (c_X11_refuse h0 (-1) G0 ⟨by omega, by omega⟩) o_0 rfl rfl rfl (Nat.le_of_ble_eq_true rfl) ⟨rfl, rfl⟩ (fun x9 h8 qx9 => ?_)
    obtain ⟨G8, S8, rfl⟩ := qx9
    have R8 := (FR.rf (cs := [3, 107]) (ss := [(0, 14)]) (h := h0)).call S8 (by decide +kernel)
    exact z_retI (M := M_X11_cut) 27 dX11_cut_27 rfl ⟨G8, R8, by omega, by omega⟩
abbrev P_X11_shorter (h0 : m_H) (a1 a2 : Int) : Int → m_H → Prop := fun x h' => GI h' ∧ FR [107] [(0, 14), (1, 9)] h0 h' ∧ (-5) ≤ x ∧ x ≤ 63
set_option maxHeartbeats 4000000 in
set_option maxRecDepth 100000 in
theorem c_X11_shorter (h0 : m_H) (a1 a2 : Int) (G0 : GI h0) : m_CI M_X11_shorter [mR 0, mI a1, mI a2] h0 (P_X11_shorter h0 a1 a2) := by
  refine m_CI_of ⟨by decide, rfl, by simp [m_arg, m_isL, M_X11_shorter], ⟨rfl, rfl⟩, rfl, rfl⟩ (ls := [some (mR 0), some (mI a1), some (mI a2)]) rfl ?_
  refine z_ok (fun _ _ ok => ?_)
  have oa1 : m_32 a1 := ok 1 _ rfl
  unfold m_32 at oa1
  have oa2 : m_32 a2 := ok 2 _ rfl
  unfold m_32 at oa2
  refine z_iload_n (M := M_X11_shorter) 0 dX11_shorter_0 rfl ?_
  refine z_sI (M := M_X11_shorter) 1 dX11_shorter_1 t_X11_isKeeper l_X11_132 (m_rr_of rfl) (rest := []) (c_X11_isKeeper h0 a1 G0) rfl rfl (Nat.le_of_ble_eq_true rfl) ⟨rfl, rfl⟩ (fun x1 h1 qx1 => ?_)
  obtain ⟨rfl, ⟨rfl, cx1⟩ | ⟨rfl, cx1⟩⟩ := qx1
  · refine z_if_eq_F (M := M_X11_shorter) 4 dX11_shorter_4 19 rfl (by omega) ?_
    refine z_iload_n (M := M_X11_shorter) 7 dX11_shorter_7 rfl ?_
    refine z_sI (M := M_X11_shorter) 8 dX11_shorter_8 t_X11_isKeeper l_X11_132 (m_rr_of rfl) (rest := []) (c_X11_isKeeper h0 a2 G0) rfl rfl (Nat.le_of_ble_eq_true rfl) ⟨rfl, rfl⟩ (fun x2 h2 qx2 => ?_)
    obtain ⟨rfl, ⟨rfl, cx2⟩ | ⟨rfl, cx2⟩⟩ := qx2
    · refine z_if_eq_F (M := M_X11_shorter) 11 dX11_shorter_11 19 rfl (by omega) ?_
      refine z_iload_n (M := M_X11_shorter) 14 dX11_shorter_14 rfl ?_
      refine z_iload_n (M := M_X11_shorter) 15 dX11_shorter_15 rfl ?_
      refine z_icmp_ne (M := M_X11_shorter) 16 dX11_shorter_16 25 rfl (fun c3 => ?_) (fun c3 => ?_)
      · refine z_aload_n (M := M_X11_shorter) 25 dX11_shorter_25 rfl ?_
        refine z_getR (M := M_X11_shorter) 26 dX11_shorter_26 f_X11_12 o_0 rfl (g_0_0 G0) ?_
        refine z_iload_n (M := M_X11_shorter) 29 dX11_shorter_29 rfl ?_
        refine z_iload_n (M := M_X11_shorter) 30 dX11_shorter_30 rfl ?_
        refine z_vI (M := M_X11_shorter) 31 dX11_shorter_31 t_X4_isShorter l_X11_135 (m_rr_of rfl) (rest := []) (c_X4_isShorter h0 1 a1 a2 (Or.inl rfl) G0) o_1 rfl rfl rfl (Nat.le_of_ble_eq_true rfl) ⟨rfl, rfl⟩ (fun x4 h3 qx4 => ?_)
        obtain ⟨G3, S3, ax4, bx4⟩ := qx4
        have R3 := (FR.rf (cs := [107]) (ss := [(0, 14), (1, 9)]) (h := h0)).call S3 (by decide +kernel)
        refine z_if_eq (M := M_X11_shorter) 34 dX11_shorter_34 44 rfl (fun c5 => ?_) (fun c5 => ?_)
        · refine z_aload_n (M := M_X11_shorter) 44 dX11_shorter_44 rfl ?_
          refine z_getR (M := M_X11_shorter) 45 dX11_shorter_45 f_X11_12 o_0 rfl (g_0_0 G3) ?_
          refine z_vI (M := M_X11_shorter) 48 dX11_shorter_48 t_X4_hasRoomForShorter l_X11_139 (m_rr_of rfl) (rest := []) (c_X4_hasRoomForShorter h3 1 (Or.inl rfl) G3) o_1 rfl rfl rfl (Nat.le_of_ble_eq_true rfl) ⟨rfl, rfl⟩ (fun x6 h4 qx6 => ?_)
          obtain ⟨G4, S4, ax6, bx6⟩ := qx6
          have R4 := R3.call S4 (by decide +kernel)
          refine z_if_ne (M := M_X11_shorter) 51 dX11_shorter_51 61 rfl (fun c7 => ?_) (fun c7 => ?_)
          · refine z_aload_n (M := M_X11_shorter) 61 dX11_shorter_61 rfl ?_
            refine z_getR (M := M_X11_shorter) 62 dX11_shorter_62 f_X11_12 o_0 rfl (g_0_0 G4) ?_
            refine z_iload_n (M := M_X11_shorter) 65 dX11_shorter_65 rfl ?_
            refine z_iload_n (M := M_X11_shorter) 66 dX11_shorter_66 rfl ?_
            refine z_vV (M := M_X11_shorter) 67 dX11_shorter_67 t_X4_addShorter l_X11_143 (m_rr_of rfl) (rest := []) (c_X4_addShorter h4 1 a1 a2 (Or.inl rfl) G4 ⟨by omega, by omega⟩ ⟨by omega, by omega⟩) o_1 rfl rfl rfl (Nat.le_of_ble_eq_true rfl) ⟨rfl, rfl⟩ (fun h5 qx8 => ?_)
            obtain ⟨G5, S5⟩ := qx8
            have R5 := R4.call S5 (by decide +kernel)
            refine z_aload_n (M := M_X11_shorter) 70 dX11_shorter_70 rfl ?_
            refine z_aload_n (M := M_X11_shorter) 71 dX11_shorter_71 rfl ?_
            refine z_getR (M := M_X11_shorter) 72 dX11_shorter_72 f_X11_12 o_0 rfl (g_0_0 G5) ?_
            refine z_vI (M := M_X11_shorter) 75 dX11_shorter_75 t_X4_shorters l_X11_147 (m_rr_of rfl) (rest := [mR 0]) (c_X4_shorters h5 1 (Or.inl rfl) G5) o_1 rfl rfl rfl (Nat.le_of_ble_eq_true rfl) ⟨rfl, rfl⟩ (fun x9 h6 qx9 => ?_)
            obtain ⟨G6, S6, ax9, bx9⟩ := qx9
            have R6 := R5.call S6 (by decide +kernel)
            refine z_vI (M := M_X11_shorter) 78 dX11_shorter_78 t_X11_accept l_X11_123 (m_rr_of rfl) (rest := []) (c_X11_accept h6 x9 G6) o_0 rfl rfl rfl (Nat.le_of_ble_eq_true rfl) ⟨rfl, rfl⟩ (fun x10 h7 qx10 => ?_)
            obtain ⟨G7, S7, rfl⟩ := qx10
            have R7 := R6.call S7 (by decide +kernel)
            exact z_retI (M := M_X11_shorter) 81 dX11_shorter_81 rfl ⟨G7, R7, by omega, by omega⟩
          · refine z_aload_n (M := M_X11_shorter) 54 dX11_shorter_54 rfl ?_
            refine z_bipush (M := M_X11_shorter) 55 dX11_shorter_55 ?_
            refine z_vI (M := M_X11_shorter) 57 dX11_shorter_57 t_X11_refuse l_X11_116 (m_rr_of rfl) (rest := []) (c_X11_refuse h4 (-5) G4 ⟨by omega, by omega⟩) o_0 rfl rfl rfl (Nat.le_of_ble_eq_true rfl) ⟨rfl, rfl⟩ (fun x11 h8 qx11 => ?_)
            obtain ⟨G8, S8, rfl⟩ := qx11
            have R8 := R4.call S8 (by decide +kernel)
            exact z_retI (M := M_X11_shorter) 60 dX11_shorter_60 rfl ⟨G8, R8, by omega, by omega⟩
        · refine z_aload_n (M := M_X11_shorter) 37 dX11_shorter_37 rfl ?_
          refine z_bipush (M := M_X11_shorter) 38 dX11_shorter_38 ?_
          refine z_vI (M := M_X11_shorter) 40 dX11_shorter_40 t_X11_refuse l_X11_116 (m_rr_of rfl) (rest := []) (c_X11_refuse h3 (-3) G3 ⟨by omega, by omega⟩) o_0 rfl rfl rfl (Nat.le_of_ble_eq_true rfl) ⟨rfl, rfl⟩ (fun x12 h9 qx12 => ?_)
          obtain ⟨G9, S9, rfl⟩ := qx12
          have R9 := R3.call S9 (by decide +kernel)
          exact z_retI (M := M_X11_shorter) 43 dX11_shorter_43 rfl ⟨G9, R9, by omega, by omega⟩
      · refine z_aload_n (M := M_X11_shorter) 19 dX11_shorter_19 rfl ?_
        refine z_iconst (M := M_X11_shorter) 20 dX11_shorter_20 ?_
        refine z_vI (M := M_X11_shorter) 21 dX11_shorter_21 t_X11_refuse l_X11_116 (m_rr_of rfl) (rest := []) (c_X11_refuse h0 (-1) G0 ⟨by omega, by omega⟩) o_0 rfl rfl rfl (Nat.le_of_ble_eq_true rfl) ⟨rfl, rfl⟩ (fun x13 h10 qx13 => ?_)
        obtain ⟨G10, S10, rfl⟩ := qx13
        have R10 := (FR.rf (cs := [107]) (ss := [(0, 14), (1, 9)]) (h := h0)).call S10 (by decide +kernel)
        exact z_retI (M := M_X11_shorter) 24 dX11_shorter_24 rfl ⟨G10, R10, by omega, by omega⟩
    · refine z_if_eq_T (M := M_X11_shorter) 11 dX11_shorter_11 19 rfl (by omega) ?_
      refine z_aload_n (M := M_X11_shorter) 19 dX11_shorter_19 rfl ?_
      refine z_iconst (M := M_X11_shorter) 20 dX11_shorter_20 ?_
      refine z_vI (M := M_X11_shorter) 21 dX11_shorter_21 t_X11_refuse l_X11_116 (m_rr_of rfl) (rest := []) (c_X11_refuse h0 (-1) G0 ⟨by omega, by omega⟩) o_0 rfl rfl rfl (Nat.le_of_ble_eq_true rfl) ⟨rfl, rfl⟩ (fun x14 h11 qx14 => ?_)
      obtain ⟨G11, S11, rfl⟩ := qx14
      have R11 := (FR.rf (cs := [107]) (ss := [(0, 14), (1, 9)]) (h := h0)).call S11 (by decide +kernel)
      exact z_retI (M := M_X11_shorter) 24 dX11_shorter_24 rfl ⟨G11, R11, by omega, by omega⟩
  · refine z_if_eq_T (M := M_X11_shorter) 4 dX11_shorter_4 19 rfl (by omega) ?_
    refine z_aload_n (M := M_X11_shorter) 19 dX11_shorter_19 rfl ?_
    refine z_iconst (M := M_X11_shorter) 20 dX11_shorter_20 ?_
    refine z_vI (M := M_X11_shorter) 21 dX11_shorter_21 t_X11_refuse l_X11_116 (m_rr_of rfl) (rest := []) (c_X11_refuse h0 (-1) G0 ⟨by omega, by omega⟩) o_0 rfl rfl rfl (Nat.le_of_ble_eq_true rfl) ⟨rfl, rfl⟩ (fun x15 h12 qx15 => ?_)
    obtain ⟨G12, S12, rfl⟩ := qx15
    have R12 := (FR.rf (cs := [107]) (ss := [(0, 14), (1, 9)]) (h := h0)).call S12 (by decide +kernel)
    exact z_retI (M := M_X11_shorter) 24 dX11_shorter_24 rfl ⟨G12, R12, by omega, by omega⟩
abbrev P_X11_entry (h0 : m_H) (a1 a2 a3 a4 : Int) : Int → m_H → Prop := fun x h' => GI h' ∧ FR [4, 5, 6, 7, 107] [(0, 14), (1, 7), (1, 8)] h0 h' ∧ (-5) ≤ x ∧ x ≤ 23
set_option maxHeartbeats 4000000 in
set_option maxRecDepth 100000 in
theorem c_X11_entry (h0 : m_H) (a1 a2 a3 a4 : Int) (G0 : GI h0) : m_CI M_X11_entry [mR 0, mI a1, mI a2, mI a3, mI a4] h0 (P_X11_entry h0 a1 a2 a3 a4) := by
  refine m_CI_of ⟨by decide, rfl, by simp [m_arg, m_isL, M_X11_entry], ⟨rfl, rfl⟩, rfl, rfl⟩ (ls := [some (mR 0), some (mI a1), some (mI a2), some (mI a3), some (mI a4)]) rfl ?_
  refine z_ok (fun _ _ ok => ?_)
  have oa1 : m_32 a1 := ok 1 _ rfl
  unfold m_32 at oa1
  have oa2 : m_32 a2 := ok 2 _ rfl
  unfold m_32 at oa2
  have oa3 : m_32 a3 := ok 3 _ rfl
  unfold m_32 at oa3
  have oa4 : m_32 a4 := ok 4 _ rfl
  unfold m_32 at oa4
  refine z_iload_n (M := M_X11_entry) 0 dX11_entry_0 rfl ?_
  refine z_iload_n (M := M_X11_entry) 1 dX11_entry_1 rfl ?_
  refine z_iload_n (M := M_X11_entry) 2 dX11_entry_2 rfl ?_
  refine z_iload (M := M_X11_entry) 3 dX11_entry_3 rfl ?_
  refine z_sI (M := M_X11_entry) 5 dX11_entry_5 t_X11_isEntry l_X11_151 (m_rr_of rfl) (rest := []) (c_X11_isEntry h0 a1 a2 a3 a4 G0) rfl rfl (Nat.le_of_ble_eq_true rfl) ⟨rfl, rfl⟩ (fun x1 h1 qx1 => ?_)
  obtain ⟨rfl, ⟨rfl, cx1⟩ | ⟨rfl, cx1⟩⟩ := qx1
  · refine z_if_ne_T (M := M_X11_entry) 8 dX11_entry_8 17 rfl (by omega) ?_
    refine z_aload_n (M := M_X11_entry) 17 dX11_entry_17 rfl ?_
    refine z_getR (M := M_X11_entry) 18 dX11_entry_18 f_X11_12 o_0 rfl (g_0_0 G0) ?_
    refine z_vI (M := M_X11_entry) 21 dX11_entry_21 t_X4_hasRoom l_X11_155 (m_rr_of rfl) (rest := []) (c_X4_hasRoom h0 1 (Or.inl rfl) G0) o_1 rfl rfl rfl (Nat.le_of_ble_eq_true rfl) ⟨rfl, rfl⟩ (fun x2 h2 qx2 => ?_)
    obtain ⟨rfl, ⟨rfl, cx2⟩ | ⟨rfl, cx2⟩⟩ := qx2
    · refine z_if_ne_T (M := M_X11_entry) 24 dX11_entry_24 34 rfl (by omega) ?_
      refine z_aload_n (M := M_X11_entry) 34 dX11_entry_34 rfl ?_
      refine z_getR (M := M_X11_entry) 35 dX11_entry_35 f_X11_12 o_0 rfl (g_0_0 G0) ?_
      refine z_iload_n (M := M_X11_entry) 38 dX11_entry_38 rfl ?_
      refine z_iload_n (M := M_X11_entry) 39 dX11_entry_39 rfl ?_
      refine z_iload_n (M := M_X11_entry) 40 dX11_entry_40 rfl ?_
      refine z_iload (M := M_X11_entry) 41 dX11_entry_41 rfl ?_
      refine z_vV (M := M_X11_entry) 43 dX11_entry_43 t_X4_addEntry l_X11_158 (m_rr_of rfl) (rest := []) (c_X4_addEntry h0 1 a1 a2 a3 a4 (Or.inl rfl) G0 ⟨by omega, by omega⟩ ⟨by omega, by omega⟩ ⟨by omega, by omega⟩ ⟨by omega, by omega⟩) o_1 rfl rfl rfl (Nat.le_of_ble_eq_true rfl) ⟨rfl, rfl⟩ (fun h3 qx3 => ?_)
      obtain ⟨G3, S3⟩ := qx3
      have R3 := (FR.rf (cs := [4, 5, 6, 7, 107]) (ss := [(0, 14), (1, 7), (1, 8)]) (h := h0)).call S3 (by decide +kernel)
      refine z_aload_n (M := M_X11_entry) 46 dX11_entry_46 rfl ?_
      refine z_aload_n (M := M_X11_entry) 47 dX11_entry_47 rfl ?_
      refine z_getR (M := M_X11_entry) 48 dX11_entry_48 f_X11_12 o_0 rfl (g_0_0 G3) ?_
      refine z_getIG (M := M_X11_entry) 51 dX11_entry_51 f_X11_162 o_1 (by decide) (g_1_7 G3) (fun x4 ex4 ax4 bx4 => ?_)
      refine z_iconst (M := M_X11_entry) 54 dX11_entry_54 ?_
      refine z_isubN (M := M_X11_entry) 55 dX11_entry_55 (by omega) (by omega) ?_
      refine z_vI (M := M_X11_entry) 56 dX11_entry_56 t_X11_accept l_X11_123 (m_rr_of rfl) (rest := []) (c_X11_accept h3 (x4 - 1) G3) o_0 rfl rfl rfl (Nat.le_of_ble_eq_true rfl) ⟨rfl, rfl⟩ (fun x5 h4 qx5 => ?_)
      obtain ⟨G4, S4, rfl⟩ := qx5
      have R4 := R3.call S4 (by decide +kernel)
      exact z_retI (M := M_X11_entry) 59 dX11_entry_59 rfl ⟨G4, R4, by omega, by omega⟩
    · refine z_if_ne_F (M := M_X11_entry) 24 dX11_entry_24 34 rfl (by omega) ?_
      refine z_aload_n (M := M_X11_entry) 27 dX11_entry_27 rfl ?_
      refine z_bipush (M := M_X11_entry) 28 dX11_entry_28 ?_
      refine z_vI (M := M_X11_entry) 30 dX11_entry_30 t_X11_refuse l_X11_116 (m_rr_of rfl) (rest := []) (c_X11_refuse h0 (-5) G0 ⟨by omega, by omega⟩) o_0 rfl rfl rfl (Nat.le_of_ble_eq_true rfl) ⟨rfl, rfl⟩ (fun x6 h5 qx6 => ?_)
      obtain ⟨G5, S5, rfl⟩ := qx6
      have R5 := (FR.rf (cs := [4, 5, 6, 7, 107]) (ss := [(0, 14), (1, 7), (1, 8)]) (h := h0)).call S5 (by decide +kernel)
      exact z_retI (M := M_X11_entry) 33 dX11_entry_33 rfl ⟨G5, R5, by omega, by omega⟩
  · refine z_if_ne_F (M := M_X11_entry) 8 dX11_entry_8 17 rfl (by omega) ?_
    refine z_aload_n (M := M_X11_entry) 11 dX11_entry_11 rfl ?_
    refine z_iconst (M := M_X11_entry) 12 dX11_entry_12 ?_
    refine z_vI (M := M_X11_entry) 13 dX11_entry_13 t_X11_refuse l_X11_116 (m_rr_of rfl) (rest := []) (c_X11_refuse h0 (-1) G0 ⟨by omega, by omega⟩) o_0 rfl rfl rfl (Nat.le_of_ble_eq_true rfl) ⟨rfl, rfl⟩ (fun x7 h6 qx7 => ?_)
    obtain ⟨G6, S6, rfl⟩ := qx7
    have R6 := (FR.rf (cs := [4, 5, 6, 7, 107]) (ss := [(0, 14), (1, 7), (1, 8)]) (h := h0)).call S6 (by decide +kernel)
    exact z_retI (M := M_X11_entry) 16 dX11_entry_16 rfl ⟨G6, R6, by omega, by omega⟩
abbrev P_X11_counts (h0 : m_H) (a1 a2 : Int) : Int → m_H → Prop := fun x h' => GI h' ∧ FR [107] [(0, 14), (1, 8)] h0 h' ∧ (-2) ≤ x ∧ x ≤ 1
set_option maxHeartbeats 4000000 in
set_option maxRecDepth 100000 in
theorem c_X11_counts (h0 : m_H) (a1 a2 : Int) (G0 : GI h0) : m_CI M_X11_counts [mR 0, mI a1, mI a2] h0 (P_X11_counts h0 a1 a2) := by
  refine m_CI_of ⟨by decide, rfl, by simp [m_arg, m_isL, M_X11_counts], ⟨rfl, rfl⟩, rfl, rfl⟩ (ls := [some (mR 0), some (mI a1), some (mI a2), none]) rfl ?_
  refine z_ok (fun _ _ ok => ?_)
  have oa1 : m_32 a1 := ok 1 _ rfl
  unfold m_32 at oa1
  have oa2 : m_32 a2 := ok 2 _ rfl
  unfold m_32 at oa2
  refine z_iload_n (M := M_X11_counts) 0 dX11_counts_0 rfl ?_
  refine z_iconst (M := M_X11_counts) 1 dX11_counts_1 ?_
  refine z_bipush (M := M_X11_counts) 2 dX11_counts_2 ?_
  refine z_sI (M := M_X11_counts) 4 dX11_counts_4 t_X11_within l_X11_112 (m_rr_of rfl) (rest := []) (c_X11_within h0 a1 0 23 G0) rfl rfl (Nat.le_of_ble_eq_true rfl) ⟨rfl, rfl⟩ (fun x1 h1 qx1 => ?_)
  obtain ⟨rfl, ⟨rfl, cx1⟩ | ⟨rfl, cx1⟩⟩ := qx1
  · refine z_if_eq_F (M := M_X11_counts) 7 dX11_counts_7 19 rfl (by omega) ?_
    refine z_iload_n (M := M_X11_counts) 10 dX11_counts_10 rfl ?_
    refine z_iconst (M := M_X11_counts) 11 dX11_counts_11 ?_
    refine z_iconst (M := M_X11_counts) 12 dX11_counts_12 ?_
    refine z_sI (M := M_X11_counts) 13 dX11_counts_13 t_X11_within l_X11_112 (m_rr_of rfl) (rest := []) (c_X11_within h0 a2 0 1 G0) rfl rfl (Nat.le_of_ble_eq_true rfl) ⟨rfl, rfl⟩ (fun x2 h2 qx2 => ?_)
    obtain ⟨rfl, ⟨rfl, cx2⟩ | ⟨rfl, cx2⟩⟩ := qx2
    · refine z_if_ne_T (M := M_X11_counts) 16 dX11_counts_16 25 rfl (by omega) ?_
      refine z_iload_n (M := M_X11_counts) 25 dX11_counts_25 rfl ?_
      refine z_aload_n (M := M_X11_counts) 26 dX11_counts_26 rfl ?_
      refine z_getR (M := M_X11_counts) 27 dX11_counts_27 f_X11_12 o_0 rfl (g_0_0 G0) ?_
      refine z_getIG (M := M_X11_counts) 30 dX11_counts_30 f_X11_162 o_1 (by decide) (g_1_7 G0) (fun x3 ex3 ax3 bx3 => ?_)
      refine z_icmp_lt (M := M_X11_counts) 33 dX11_counts_33 43 rfl (fun c4 => ?_) (fun c4 => ?_)
      · refine z_aload_n (M := M_X11_counts) 43 dX11_counts_43 rfl ?_
        refine z_getR (M := M_X11_counts) 44 dX11_counts_44 f_X11_12 o_0 rfl (g_0_0 G0) ?_
        refine z_iload_n (M := M_X11_counts) 47 dX11_counts_47 rfl ?_
        refine z_vI (M := M_X11_counts) 48 dX11_counts_48 t_X4_isCounting l_X11_165 (m_rr_of rfl) (rest := []) (c_X4_isCounting h0 1 a1 (Or.inl rfl) G0) o_1 rfl rfl rfl (Nat.le_of_ble_eq_true rfl) ⟨rfl, rfl⟩ (fun x5 h3 qx5 => ?_)
        obtain ⟨G3, S3, ax5, bx5⟩ := qx5
        have R3 := (FR.rf (cs := [107]) (ss := [(0, 14), (1, 8)]) (h := h0)).call S3 (by decide +kernel)
        refine z_if_eq (M := M_X11_counts) 51 dX11_counts_51 58 rfl (fun c6 => ?_) (fun c6 => ?_)
        · refine z_iconst (M := M_X11_counts) 58 dX11_counts_58 ?_
          refine z_istore_n (M := M_X11_counts) 59 dX11_counts_59 (ls' := [some (mR 0), some (mI a1), some (mI a2), some (mI 0)]) (by decide) rfl ?_
          refine z_aload_n (M := M_X11_counts) 60 dX11_counts_60 rfl ?_
          refine z_getR (M := M_X11_counts) 61 dX11_counts_61 f_X11_12 o_0 rfl (g_0_0 G3) ?_
          refine z_iload_n (M := M_X11_counts) 64 dX11_counts_64 rfl ?_
          refine z_iload_n (M := M_X11_counts) 65 dX11_counts_65 rfl ?_
          refine z_iconst (M := M_X11_counts) 66 dX11_counts_66 ?_
          refine z_icmp_ne (M := M_X11_counts) 67 dX11_counts_67 74 rfl (fun c7 => ?_) (fun c7 => ?_)
          · refine z_iconst (M := M_X11_counts) 74 dX11_counts_74 ?_
            refine z_vV (M := M_X11_counts) 75 dX11_counts_75 t_X4_setCounting l_X11_168 (m_rr_of rfl) (rest := []) (c_X4_setCounting h3 1 a1 0 (Or.inl rfl) G3 ⟨by omega, by omega⟩) o_1 rfl rfl rfl (Nat.le_of_ble_eq_true rfl) ⟨rfl, rfl⟩ (fun h4 qx8 => ?_)
            obtain ⟨G4, S4⟩ := qx8
            have R4 := R3.call S4 (by decide +kernel)
            refine z_aload_n (M := M_X11_counts) 78 dX11_counts_78 rfl ?_
            refine z_iload_n (M := M_X11_counts) 79 dX11_counts_79 rfl ?_
            refine z_vI (M := M_X11_counts) 80 dX11_counts_80 t_X11_accept l_X11_123 (m_rr_of rfl) (rest := []) (c_X11_accept h4 0 G4) o_0 rfl rfl rfl (Nat.le_of_ble_eq_true rfl) ⟨rfl, rfl⟩ (fun x9 h5 qx9 => ?_)
            obtain ⟨G5, S5, rfl⟩ := qx9
            have R5 := R4.call S5 (by decide +kernel)
            exact z_retI (M := M_X11_counts) 83 dX11_counts_83 rfl ⟨G5, R5, by omega, by omega⟩
          · refine z_iconst (M := M_X11_counts) 70 dX11_counts_70 ?_
            refine z_goto (M := M_X11_counts) 71 dX11_counts_71 75 rfl ?_
            refine z_vV (M := M_X11_counts) 75 dX11_counts_75 t_X4_setCounting l_X11_168 (m_rr_of rfl) (rest := []) (c_X4_setCounting h3 1 a1 1 (Or.inl rfl) G3 ⟨by omega, by omega⟩) o_1 rfl rfl rfl (Nat.le_of_ble_eq_true rfl) ⟨rfl, rfl⟩ (fun h6 qx10 => ?_)
            obtain ⟨G6, S6⟩ := qx10
            have R6 := R3.call S6 (by decide +kernel)
            refine z_aload_n (M := M_X11_counts) 78 dX11_counts_78 rfl ?_
            refine z_iload_n (M := M_X11_counts) 79 dX11_counts_79 rfl ?_
            refine z_vI (M := M_X11_counts) 80 dX11_counts_80 t_X11_accept l_X11_123 (m_rr_of rfl) (rest := []) (c_X11_accept h6 0 G6) o_0 rfl rfl rfl (Nat.le_of_ble_eq_true rfl) ⟨rfl, rfl⟩ (fun x11 h7 qx11 => ?_)
            obtain ⟨G7, S7, rfl⟩ := qx11
            have R7 := R6.call S7 (by decide +kernel)
            exact z_retI (M := M_X11_counts) 83 dX11_counts_83 rfl ⟨G7, R7, by omega, by omega⟩
        · refine z_iconst (M := M_X11_counts) 54 dX11_counts_54 ?_
          refine z_goto (M := M_X11_counts) 55 dX11_counts_55 59 rfl ?_
          refine z_istore_n (M := M_X11_counts) 59 dX11_counts_59 (ls' := [some (mR 0), some (mI a1), some (mI a2), some (mI 1)]) (by decide) rfl ?_
          refine z_aload_n (M := M_X11_counts) 60 dX11_counts_60 rfl ?_
          refine z_getR (M := M_X11_counts) 61 dX11_counts_61 f_X11_12 o_0 rfl (g_0_0 G3) ?_
          refine z_iload_n (M := M_X11_counts) 64 dX11_counts_64 rfl ?_
          refine z_iload_n (M := M_X11_counts) 65 dX11_counts_65 rfl ?_
          refine z_iconst (M := M_X11_counts) 66 dX11_counts_66 ?_
          refine z_icmp_ne (M := M_X11_counts) 67 dX11_counts_67 74 rfl (fun c12 => ?_) (fun c12 => ?_)
          · refine z_iconst (M := M_X11_counts) 74 dX11_counts_74 ?_
            refine z_vV (M := M_X11_counts) 75 dX11_counts_75 t_X4_setCounting l_X11_168 (m_rr_of rfl) (rest := []) (c_X4_setCounting h3 1 a1 0 (Or.inl rfl) G3 ⟨by omega, by omega⟩) o_1 rfl rfl rfl (Nat.le_of_ble_eq_true rfl) ⟨rfl, rfl⟩ (fun h8 qx13 => ?_)
            obtain ⟨G8, S8⟩ := qx13
            have R8 := R3.call S8 (by decide +kernel)
            refine z_aload_n (M := M_X11_counts) 78 dX11_counts_78 rfl ?_
            refine z_iload_n (M := M_X11_counts) 79 dX11_counts_79 rfl ?_
            refine z_vI (M := M_X11_counts) 80 dX11_counts_80 t_X11_accept l_X11_123 (m_rr_of rfl) (rest := []) (c_X11_accept h8 1 G8) o_0 rfl rfl rfl (Nat.le_of_ble_eq_true rfl) ⟨rfl, rfl⟩ (fun x14 h9 qx14 => ?_)
            obtain ⟨G9, S9, rfl⟩ := qx14
            have R9 := R8.call S9 (by decide +kernel)
            exact z_retI (M := M_X11_counts) 83 dX11_counts_83 rfl ⟨G9, R9, by omega, by omega⟩
          · refine z_iconst (M := M_X11_counts) 70 dX11_counts_70 ?_
            refine z_goto (M := M_X11_counts) 71 dX11_counts_71 75 rfl ?_
            refine z_vV (M := M_X11_counts) 75 dX11_counts_75 t_X4_setCounting l_X11_168 (m_rr_of rfl) (rest := []) (c_X4_setCounting h3 1 a1 1 (Or.inl rfl) G3 ⟨by omega, by omega⟩) o_1 rfl rfl rfl (Nat.le_of_ble_eq_true rfl) ⟨rfl, rfl⟩ (fun h10 qx15 => ?_)
            obtain ⟨G10, S10⟩ := qx15
            have R10 := R3.call S10 (by decide +kernel)
            refine z_aload_n (M := M_X11_counts) 78 dX11_counts_78 rfl ?_
            refine z_iload_n (M := M_X11_counts) 79 dX11_counts_79 rfl ?_
            refine z_vI (M := M_X11_counts) 80 dX11_counts_80 t_X11_accept l_X11_123 (m_rr_of rfl) (rest := []) (c_X11_accept h10 1 G10) o_0 rfl rfl rfl (Nat.le_of_ble_eq_true rfl) ⟨rfl, rfl⟩ (fun x16 h11 qx16 => ?_)
            obtain ⟨G11, S11, rfl⟩ := qx16
            have R11 := R10.call S11 (by decide +kernel)
            exact z_retI (M := M_X11_counts) 83 dX11_counts_83 rfl ⟨G11, R11, by omega, by omega⟩
      · refine z_aload_n (M := M_X11_counts) 36 dX11_counts_36 rfl ?_
        refine z_bipush (M := M_X11_counts) 37 dX11_counts_37 ?_
        refine z_vI (M := M_X11_counts) 39 dX11_counts_39 t_X11_refuse l_X11_116 (m_rr_of rfl) (rest := []) (c_X11_refuse h0 (-2) G0 ⟨by omega, by omega⟩) o_0 rfl rfl rfl (Nat.le_of_ble_eq_true rfl) ⟨rfl, rfl⟩ (fun x17 h12 qx17 => ?_)
        obtain ⟨G12, S12, rfl⟩ := qx17
        have R12 := (FR.rf (cs := [107]) (ss := [(0, 14), (1, 8)]) (h := h0)).call S12 (by decide +kernel)
        exact z_retI (M := M_X11_counts) 42 dX11_counts_42 rfl ⟨G12, R12, by omega, by omega⟩
    · refine z_if_ne_F (M := M_X11_counts) 16 dX11_counts_16 25 rfl (by omega) ?_
      refine z_aload_n (M := M_X11_counts) 19 dX11_counts_19 rfl ?_
      refine z_iconst (M := M_X11_counts) 20 dX11_counts_20 ?_
      refine z_vI (M := M_X11_counts) 21 dX11_counts_21 t_X11_refuse l_X11_116 (m_rr_of rfl) (rest := []) (c_X11_refuse h0 (-1) G0 ⟨by omega, by omega⟩) o_0 rfl rfl rfl (Nat.le_of_ble_eq_true rfl) ⟨rfl, rfl⟩ (fun x18 h13 qx18 => ?_)
      obtain ⟨G13, S13, rfl⟩ := qx18
      have R13 := (FR.rf (cs := [107]) (ss := [(0, 14), (1, 8)]) (h := h0)).call S13 (by decide +kernel)
      exact z_retI (M := M_X11_counts) 24 dX11_counts_24 rfl ⟨G13, R13, by omega, by omega⟩
  · refine z_if_eq_T (M := M_X11_counts) 7 dX11_counts_7 19 rfl (by omega) ?_
    refine z_aload_n (M := M_X11_counts) 19 dX11_counts_19 rfl ?_
    refine z_iconst (M := M_X11_counts) 20 dX11_counts_20 ?_
    refine z_vI (M := M_X11_counts) 21 dX11_counts_21 t_X11_refuse l_X11_116 (m_rr_of rfl) (rest := []) (c_X11_refuse h0 (-1) G0 ⟨by omega, by omega⟩) o_0 rfl rfl rfl (Nat.le_of_ble_eq_true rfl) ⟨rfl, rfl⟩ (fun x19 h14 qx19 => ?_)
    obtain ⟨G14, S14, rfl⟩ := qx19
    have R14 := (FR.rf (cs := [107]) (ss := [(0, 14), (1, 8)]) (h := h0)).call S14 (by decide +kernel)
    exact z_retI (M := M_X11_counts) 24 dX11_counts_24 rfl ⟨G14, R14, by omega, by omega⟩
abbrev P_X11_of (h0 : m_H) (a1 a2 : Int) : Int → m_H → Prop := fun x h' => GI h' ∧ FR [] [] h0 h' ∧ (-1) ≤ x ∧ x ≤ 99
set_option maxHeartbeats 4000000 in
set_option maxRecDepth 100000 in
theorem c_X11_of (h0 : m_H) (a1 a2 : Int) (G0 : GI h0) : m_CI M_X11_of [mR 0, mI a1, mI a2] h0 (P_X11_of h0 a1 a2) := by
  refine m_CI_of ⟨by decide, rfl, by simp [m_arg, m_isL, M_X11_of], ⟨rfl, rfl⟩, rfl, rfl⟩ (ls := [some (mR 0), some (mI a1), some (mI a2)]) rfl ?_
  refine z_ok (fun _ _ ok => ?_)
  have oa1 : m_32 a1 := ok 1 _ rfl
  unfold m_32 at oa1
  have oa2 : m_32 a2 := ok 2 _ rfl
  unfold m_32 at oa2
  refine z_iload_n (M := M_X11_of) 0 dX11_of_0 rfl ?_
  refine z_iconst (M := M_X11_of) 1 dX11_of_1 ?_
  refine z_aload_n (M := M_X11_of) 2 dX11_of_2 rfl ?_
  refine z_getR (M := M_X11_of) 3 dX11_of_3 f_X11_12 o_0 rfl (g_0_0 G0) ?_
  refine z_getIG (M := M_X11_of) 6 dX11_of_6 f_X11_162 o_1 (by decide) (g_1_7 G0) (fun x1 ex1 ax1 bx1 => ?_)
  refine z_iconst (M := M_X11_of) 9 dX11_of_9 ?_
  refine z_isubN (M := M_X11_of) 10 dX11_of_10 (by omega) (by omega) ?_
  refine z_sI (M := M_X11_of) 11 dX11_of_11 t_X11_within l_X11_112 (m_rr_of rfl) (rest := []) (c_X11_within h0 a1 0 (x1 - 1) G0) rfl rfl (Nat.le_of_ble_eq_true rfl) ⟨rfl, rfl⟩ (fun x2 h1 qx2 => ?_)
  obtain ⟨rfl, ⟨rfl, cx2⟩ | ⟨rfl, cx2⟩⟩ := qx2
  · refine z_if_ne_T (M := M_X11_of) 14 dX11_of_14 19 rfl (by omega) ?_
    refine z_iload_n (M := M_X11_of) 19 dX11_of_19 rfl ?_
    by_cases c3 : a2 = 0 ∨ a2 = 1 ∨ a2 = 2 ∨ a2 = 3 ∨ a2 = 4 ∨ a2 = 5
    · rcases c3 with c3_0 | c3_1 | c3_2 | c3_3 | c3_4 | c3_5
      · refine z_tabIn (M := M_X11_of) 20 dX11_of_20 (off := 40) 60 (by omega) (by omega) (by rw [c3_0]; rfl) rfl ?_
        refine z_aload_n (M := M_X11_of) 60 dX11_of_60 rfl ?_
        refine z_getR (M := M_X11_of) 61 dX11_of_61 f_X11_12 o_0 rfl (g_0_0 G0) ?_
        refine z_getR (M := M_X11_of) 64 dX11_of_64 f_X11_172 o_1 rfl (g_1_2 G0) ?_
        refine z_iload_n (M := M_X11_of) 67 dX11_of_67 rfl ?_
        refine z_ialdG (M := M_X11_of) 68 dX11_of_68 o_4 (by omega) (by omega) (g_4 G0 (by omega)) (fun x4 ex4 ax4 bx4 => ?_)
        exact z_retI (M := M_X11_of) 69 dX11_of_69 rfl ⟨G0, (FR.rf (cs := []) (ss := []) (h := h0)), by omega, by omega⟩
      · refine z_tabIn (M := M_X11_of) 20 dX11_of_20 (off := 50) 70 (by omega) (by omega) (by rw [c3_1]; rfl) rfl ?_
        refine z_aload_n (M := M_X11_of) 70 dX11_of_70 rfl ?_
        refine z_getR (M := M_X11_of) 71 dX11_of_71 f_X11_12 o_0 rfl (g_0_0 G0) ?_
        refine z_getR (M := M_X11_of) 74 dX11_of_74 f_X11_175 o_1 rfl (g_1_3 G0) ?_
        refine z_iload_n (M := M_X11_of) 77 dX11_of_77 rfl ?_
        refine z_ialdG (M := M_X11_of) 78 dX11_of_78 o_5 (by omega) (by omega) (g_5 G0 (by omega)) (fun x5 ex5 ax5 bx5 => ?_)
        exact z_retI (M := M_X11_of) 79 dX11_of_79 rfl ⟨G0, (FR.rf (cs := []) (ss := []) (h := h0)), by omega, by omega⟩
      · refine z_tabIn (M := M_X11_of) 20 dX11_of_20 (off := 60) 80 (by omega) (by omega) (by rw [c3_2]; rfl) rfl ?_
        refine z_aload_n (M := M_X11_of) 80 dX11_of_80 rfl ?_
        refine z_getR (M := M_X11_of) 81 dX11_of_81 f_X11_12 o_0 rfl (g_0_0 G0) ?_
        refine z_getR (M := M_X11_of) 84 dX11_of_84 f_X11_178 o_1 rfl (g_1_4 G0) ?_
        refine z_iload_n (M := M_X11_of) 87 dX11_of_87 rfl ?_
        refine z_ialdG (M := M_X11_of) 88 dX11_of_88 o_6 (by omega) (by omega) (g_6 G0 (by omega)) (fun x6 ex6 ax6 bx6 => ?_)
        exact z_retI (M := M_X11_of) 89 dX11_of_89 rfl ⟨G0, (FR.rf (cs := []) (ss := []) (h := h0)), by omega, by omega⟩
      · refine z_tabIn (M := M_X11_of) 20 dX11_of_20 (off := 70) 90 (by omega) (by omega) (by rw [c3_3]; rfl) rfl ?_
        refine z_aload_n (M := M_X11_of) 90 dX11_of_90 rfl ?_
        refine z_getR (M := M_X11_of) 91 dX11_of_91 f_X11_12 o_0 rfl (g_0_0 G0) ?_
        refine z_getR (M := M_X11_of) 94 dX11_of_94 f_X11_181 o_1 rfl (g_1_5 G0) ?_
        refine z_iload_n (M := M_X11_of) 97 dX11_of_97 rfl ?_
        refine z_ialdG (M := M_X11_of) 98 dX11_of_98 o_7 (by omega) (by omega) (g_7 G0 (by omega)) (fun x7 ex7 ax7 bx7 => ?_)
        exact z_retI (M := M_X11_of) 99 dX11_of_99 rfl ⟨G0, (FR.rf (cs := []) (ss := []) (h := h0)), by omega, by omega⟩
      · refine z_tabIn (M := M_X11_of) 20 dX11_of_20 (off := 80) 100 (by omega) (by omega) (by rw [c3_4]; rfl) rfl ?_
        refine z_aload_n (M := M_X11_of) 100 dX11_of_100 rfl ?_
        refine z_getR (M := M_X11_of) 101 dX11_of_101 f_X11_12 o_0 rfl (g_0_0 G0) ?_
        refine z_iload_n (M := M_X11_of) 104 dX11_of_104 rfl ?_
        refine z_vI (M := M_X11_of) 105 dX11_of_105 t_X4_isCounting l_X11_165 (m_rr_of rfl) (rest := []) (c_X4_isCounting h0 1 a1 (Or.inl rfl) G0) o_1 rfl rfl rfl (Nat.le_of_ble_eq_true rfl) ⟨rfl, rfl⟩ (fun x8 h2 qx8 => ?_)
        obtain ⟨G2, S2, ax8, bx8⟩ := qx8
        have R2 := (FR.rf (cs := []) (ss := []) (h := h0)).call S2 (by decide +kernel)
        refine z_if_eq (M := M_X11_of) 108 dX11_of_108 115 rfl (fun c9 => ?_) (fun c9 => ?_)
        · refine z_iconst (M := M_X11_of) 115 dX11_of_115 ?_
          exact z_retI (M := M_X11_of) 116 dX11_of_116 rfl ⟨G2, R2, by omega, by omega⟩
        · refine z_iconst (M := M_X11_of) 111 dX11_of_111 ?_
          refine z_goto (M := M_X11_of) 112 dX11_of_112 116 rfl ?_
          exact z_retI (M := M_X11_of) 116 dX11_of_116 rfl ⟨G2, R2, by omega, by omega⟩
      · refine z_tabIn (M := M_X11_of) 20 dX11_of_20 (off := 97) 117 (by omega) (by omega) (by rw [c3_5]; rfl) rfl ?_
        refine z_aload_n (M := M_X11_of) 117 dX11_of_117 rfl ?_
        refine z_getR (M := M_X11_of) 118 dX11_of_118 f_X11_12 o_0 rfl (g_0_0 G0) ?_
        refine z_iload_n (M := M_X11_of) 121 dX11_of_121 rfl ?_
        refine z_vI (M := M_X11_of) 122 dX11_of_122 t_X4_lengthOf l_X11_184 (m_rr_of rfl) (rest := []) (c_X4_lengthOf h0 1 a1 (Or.inl rfl) G0 ⟨by omega, by omega⟩) o_1 rfl rfl rfl (Nat.le_of_ble_eq_true rfl) ⟨rfl, rfl⟩ (fun x10 h3 qx10 => ?_)
        obtain ⟨G3, S3, ax10, bx10⟩ := qx10
        have R3 := (FR.rf (cs := []) (ss := []) (h := h0)).call S3 (by decide +kernel)
        exact z_retI (M := M_X11_of) 125 dX11_of_125 rfl ⟨G3, R3, by omega, by omega⟩
    · refine z_tabOut (M := M_X11_of) 20 dX11_of_20 126 (by omega) rfl ?_
      refine z_iconst (M := M_X11_of) 126 dX11_of_126 ?_
      exact z_retI (M := M_X11_of) 127 dX11_of_127 rfl ⟨G0, (FR.rf (cs := []) (ss := []) (h := h0)), by omega, by omega⟩
  · refine z_if_ne_F (M := M_X11_of) 14 dX11_of_14 19 rfl (by omega) ?_
    refine z_iconst (M := M_X11_of) 17 dX11_of_17 ?_
    exact z_retI (M := M_X11_of) 18 dX11_of_18 rfl ⟨G0, (FR.rf (cs := []) (ss := []) (h := h0)), by omega, by omega⟩
abbrev P_X11_blurred (h0 : m_H) : Int → m_H → Prop := fun x h' => GI h' ∧ FR [] [] h0 h'
set_option maxHeartbeats 4000000 in
set_option maxRecDepth 100000 in
theorem c_X11_blurred (h0 : m_H) (G0 : GI h0) : m_CI M_X11_blurred [mR 0] h0 (P_X11_blurred h0) := by
  refine m_CI_of ⟨by decide, rfl, by simp [m_arg, m_isL, M_X11_blurred], ⟨rfl, rfl⟩, rfl, rfl⟩ (ls := [some (mR 0)]) rfl ?_
  refine z_aload_n (M := M_X11_blurred) 0 dX11_blurred_0 rfl ?_
  refine z_getIV (M := M_X11_blurred) 1 dX11_blurred_1 f_X11_102 o_0 (by decide) (fun x1 ex1 => ?_)
  refine z_ok (fun ox1 _ _ => ?_)
  have ox1 := ox1.1; unfold m_ok m_32 at ox1
  exact z_retI (M := M_X11_blurred) 4 dX11_blurred_4 rfl ⟨G0, (FR.rf (cs := []) (ss := []) (h := h0))⟩
abbrev P_X11_fault (h0 : m_H) : Int → m_H → Prop := fun x h' => GI h' ∧ FR [] [] h0 h'
set_option maxHeartbeats 4000000 in
set_option maxRecDepth 100000 in
theorem c_X11_fault (h0 : m_H) (G0 : GI h0) : m_CI M_X11_fault [mR 0] h0 (P_X11_fault h0) := by
  refine m_CI_of ⟨by decide, rfl, by simp [m_arg, m_isL, M_X11_fault], ⟨rfl, rfl⟩, rfl, rfl⟩ (ls := [some (mR 0)]) rfl ?_
  refine z_aload_n (M := M_X11_fault) 0 dX11_fault_0 rfl ?_
  refine z_getIV (M := M_X11_fault) 1 dX11_fault_1 f_X11_105 o_0 (by decide) (fun x1 ex1 => ?_)
  refine z_ok (fun ox1 _ _ => ?_)
  have ox1 := ox1.1; unfold m_ok m_32 at ox1
  exact z_retI (M := M_X11_fault) 4 dX11_fault_4 rfl ⟨G0, (FR.rf (cs := []) (ss := []) (h := h0))⟩
abbrev P_X11_status (h0 : m_H) : Int → m_H → Prop := fun x h' => GI h' ∧ FR [] [] h0 h'
set_option maxHeartbeats 4000000 in
set_option maxRecDepth 100000 in
theorem c_X11_status (h0 : m_H) (G0 : GI h0) : m_CI M_X11_status [mR 0] h0 (P_X11_status h0) := by
  refine m_CI_of ⟨by decide, rfl, by simp [m_arg, m_isL, M_X11_status], ⟨rfl, rfl⟩, rfl, rfl⟩ (ls := [some (mR 0)]) rfl ?_
  refine z_aload_n (M := M_X11_status) 0 dX11_status_0 rfl ?_
  refine z_getIV (M := M_X11_status) 1 dX11_status_1 f_X11_98 o_0 (by decide) (fun x1 ex1 => ?_)
  refine z_ok (fun ox1 _ _ => ?_)
  have ox1 := ox1.1; unfold m_ok m_32 at ox1
  exact z_retI (M := M_X11_status) 4 dX11_status_4 rfl ⟨G0, (FR.rf (cs := []) (ss := []) (h := h0))⟩
abbrev P_X11_tell (h0 : m_H) (a1 a2 : Int) : Int → m_H → Prop := fun x h' => GI h' ∧ FR [8, 107] [(0, 14)] h0 h' ∧ (-1) ≤ x ∧ x ≤ 9999
set_option maxHeartbeats 4000000 in
set_option maxRecDepth 100000 in
theorem c_X11_tell (h0 : m_H) (a1 a2 : Int) (G0 : GI h0) : m_CI M_X11_tell [mR 0, mI a1, mI a2] h0 (P_X11_tell h0 a1 a2) := by
  refine m_CI_of ⟨by decide, rfl, by simp [m_arg, m_isL, M_X11_tell], ⟨rfl, rfl⟩, rfl, rfl⟩ (ls := [some (mR 0), some (mI a1), some (mI a2), none]) rfl ?_
  refine z_ok (fun _ _ ok => ?_)
  have oa1 : m_32 a1 := ok 1 _ rfl
  unfold m_32 at oa1
  have oa2 : m_32 a2 := ok 2 _ rfl
  unfold m_32 at oa2
  refine z_iload_n (M := M_X11_tell) 0 dX11_tell_0 rfl ?_
  refine z_iconst (M := M_X11_tell) 1 dX11_tell_1 ?_
  refine z_bipush (M := M_X11_tell) 2 dX11_tell_2 ?_
  refine z_sI (M := M_X11_tell) 4 dX11_tell_4 t_X11_within l_X11_112 (m_rr_of rfl) (rest := []) (c_X11_within h0 a1 0 15 G0) rfl rfl (Nat.le_of_ble_eq_true rfl) ⟨rfl, rfl⟩ (fun x1 h1 qx1 => ?_)
  obtain ⟨rfl, ⟨rfl, cx1⟩ | ⟨rfl, cx1⟩⟩ := qx1
  · refine z_if_eq_F (M := M_X11_tell) 7 dX11_tell_7 21 rfl (by omega) ?_
    refine z_iload_n (M := M_X11_tell) 10 dX11_tell_10 rfl ?_
    refine z_iconst (M := M_X11_tell) 11 dX11_tell_11 ?_
    refine z_sipush (M := M_X11_tell) 12 dX11_tell_12 ?_
    refine z_sI (M := M_X11_tell) 15 dX11_tell_15 t_X11_within l_X11_112 (m_rr_of rfl) (rest := []) (c_X11_within h0 a2 1 9999 G0) rfl rfl (Nat.le_of_ble_eq_true rfl) ⟨rfl, rfl⟩ (fun x2 h2 qx2 => ?_)
    obtain ⟨rfl, ⟨rfl, cx2⟩ | ⟨rfl, cx2⟩⟩ := qx2
    · refine z_if_ne_T (M := M_X11_tell) 18 dX11_tell_18 27 rfl (by omega) ?_
      refine z_aload_n (M := M_X11_tell) 27 dX11_tell_27 rfl ?_
      refine z_getR (M := M_X11_tell) 28 dX11_tell_28 f_X11_12 o_0 rfl (g_0_0 G0) ?_
      refine z_getR (M := M_X11_tell) 31 dX11_tell_31 f_X11_376 o_1 rfl (g_1_6 G0) ?_
      refine z_iload_n (M := M_X11_tell) 34 dX11_tell_34 rfl ?_
      refine z_ialdG (M := M_X11_tell) 35 dX11_tell_35 o_8 (by omega) (by omega) (g_8 G0 (by omega)) (fun x3 ex3 ax3 bx3 => ?_)
      refine z_istore_n (M := M_X11_tell) 36 dX11_tell_36 (ls' := [some (mR 0), some (mI a1), some (mI a2), some (mI x3)]) (by decide) rfl ?_
      refine z_aload_n (M := M_X11_tell) 37 dX11_tell_37 rfl ?_
      refine z_getR (M := M_X11_tell) 38 dX11_tell_38 f_X11_12 o_0 rfl (g_0_0 G0) ?_
      refine z_getR (M := M_X11_tell) 41 dX11_tell_41 f_X11_376 o_1 rfl (g_1_6 G0) ?_
      refine z_iload_n (M := M_X11_tell) 44 dX11_tell_44 rfl ?_
      refine z_iload_n (M := M_X11_tell) 45 dX11_tell_45 rfl ?_
      refine z_iastH (M := M_X11_tell) 46 dX11_tell_46 o_8 (by omega) (by omega) (u_8 G0 (by omega) (by omega)) ((FR.rf (cs := [8, 107]) (ss := [(0, 14)]) (h := h0)).up rfl) (fun h3 E3 G3 R3 => ?_)
      refine z_aload_n (M := M_X11_tell) 47 dX11_tell_47 rfl ?_
      refine z_iload_n (M := M_X11_tell) 48 dX11_tell_48 rfl ?_
      refine z_vI (M := M_X11_tell) 49 dX11_tell_49 t_X11_accept l_X11_123 (m_rr_of rfl) (rest := []) (c_X11_accept h3 x3 G3) o_0 rfl rfl rfl (Nat.le_of_ble_eq_true rfl) ⟨rfl, rfl⟩ (fun x4 h4 qx4 => ?_)
      obtain ⟨G4, S4, rfl⟩ := qx4
      have R4 := R3.call S4 (by decide +kernel)
      exact z_retI (M := M_X11_tell) 52 dX11_tell_52 rfl ⟨G4, R4, by omega, by omega⟩
    · refine z_if_ne_F (M := M_X11_tell) 18 dX11_tell_18 27 rfl (by omega) ?_
      refine z_aload_n (M := M_X11_tell) 21 dX11_tell_21 rfl ?_
      refine z_iconst (M := M_X11_tell) 22 dX11_tell_22 ?_
      refine z_vI (M := M_X11_tell) 23 dX11_tell_23 t_X11_refuse l_X11_116 (m_rr_of rfl) (rest := []) (c_X11_refuse h0 (-1) G0 ⟨by omega, by omega⟩) o_0 rfl rfl rfl (Nat.le_of_ble_eq_true rfl) ⟨rfl, rfl⟩ (fun x5 h5 qx5 => ?_)
      obtain ⟨G5, S5, rfl⟩ := qx5
      have R5 := (FR.rf (cs := [8, 107]) (ss := [(0, 14)]) (h := h0)).call S5 (by decide +kernel)
      exact z_retI (M := M_X11_tell) 26 dX11_tell_26 rfl ⟨G5, R5, by omega, by omega⟩
  · refine z_if_eq_T (M := M_X11_tell) 7 dX11_tell_7 21 rfl (by omega) ?_
    refine z_aload_n (M := M_X11_tell) 21 dX11_tell_21 rfl ?_
    refine z_iconst (M := M_X11_tell) 22 dX11_tell_22 ?_
    refine z_vI (M := M_X11_tell) 23 dX11_tell_23 t_X11_refuse l_X11_116 (m_rr_of rfl) (rest := []) (c_X11_refuse h0 (-1) G0 ⟨by omega, by omega⟩) o_0 rfl rfl rfl (Nat.le_of_ble_eq_true rfl) ⟨rfl, rfl⟩ (fun x6 h6 qx6 => ?_)
    obtain ⟨G6, S6, rfl⟩ := qx6
    have R6 := (FR.rf (cs := [8, 107]) (ss := [(0, 14)]) (h := h0)).call S6 (by decide +kernel)
    exact z_retI (M := M_X11_tell) 26 dX11_tell_26 rfl ⟨G6, R6, by omega, by omega⟩
abbrev P_X11_says (h0 : m_H) (a1 a2 a3 : Int) : Int → m_H → Prop := fun x h' => GI h' ∧ FR [] [] h0 h'
set_option maxHeartbeats 4000000 in
set_option maxRecDepth 100000 in
theorem c_X11_says (h0 : m_H) (a1 a2 a3 : Int) (G0 : GI h0) : m_CI M_X11_says [mR 0, mI a1, mI a2, mI a3] h0 (P_X11_says h0 a1 a2 a3) := by
  refine m_CI_of ⟨by decide, rfl, by simp [m_arg, m_isL, M_X11_says], ⟨rfl, rfl⟩, rfl, rfl⟩ (ls := [some (mR 0), some (mI a1), some (mI a2), some (mI a3), none, none]) rfl ?_
  refine z_ok (fun _ _ ok => ?_)
  have oa1 : m_32 a1 := ok 1 _ rfl
  unfold m_32 at oa1
  have oa2 : m_32 a2 := ok 2 _ rfl
  unfold m_32 at oa2
  have oa3 : m_32 a3 := ok 3 _ rfl
  unfold m_32 at oa3
  refine z_iload_n (M := M_X11_says) 0 dX11_says_0 rfl ?_
  refine z_iconst (M := M_X11_says) 1 dX11_says_1 ?_
  refine z_bipush (M := M_X11_says) 2 dX11_says_2 ?_
  refine z_sI (M := M_X11_says) 4 dX11_says_4 t_X11_within l_X11_112 (m_rr_of rfl) (rest := []) (c_X11_within h0 a1 0 11 G0) rfl rfl (Nat.le_of_ble_eq_true rfl) ⟨rfl, rfl⟩ (fun x1 h1 qx1 => ?_)
  obtain ⟨rfl, ⟨rfl, cx1⟩ | ⟨rfl, cx1⟩⟩ := qx1
  · refine z_if_eq_F (M := M_X11_says) 7 dX11_says_7 24 rfl (by omega) ?_
    refine z_iload_n (M := M_X11_says) 10 dX11_says_10 rfl ?_
    refine z_sI (M := M_X11_says) 11 dX11_says_11 t_X11_isKeeper l_X11_132 (m_rr_of rfl) (rest := []) (c_X11_isKeeper h0 a2 G0) rfl rfl (Nat.le_of_ble_eq_true rfl) ⟨rfl, rfl⟩ (fun x2 h2 qx2 => ?_)
    obtain ⟨rfl, ⟨rfl, cx2⟩ | ⟨rfl, cx2⟩⟩ := qx2
    · refine z_if_eq_F (M := M_X11_says) 14 dX11_says_14 24 rfl (by omega) ?_
      refine z_iload_n (M := M_X11_says) 17 dX11_says_17 rfl ?_
      refine z_sI (M := M_X11_says) 18 dX11_says_18 t_X11_isKind l_X11_301 (m_rr_of rfl) (rest := []) (c_X11_isKind h0 a3 G0) rfl rfl (Nat.le_of_ble_eq_true rfl) ⟨rfl, rfl⟩ (fun x3 h3 qx3 => ?_)
      obtain ⟨rfl, ⟨rfl, cx3⟩ | ⟨rfl, cx3⟩⟩ := qx3
      · refine z_if_ne_T (M := M_X11_says) 21 dX11_says_21 26 rfl (by omega) ?_
        refine z_aload_n (M := M_X11_says) 26 dX11_says_26 rfl ?_
        refine z_getR (M := M_X11_says) 27 dX11_says_27 f_X11_12 o_0 rfl (g_0_0 G0) ?_
        refine z_getR (M := M_X11_says) 30 dX11_says_30 f_X11_376 o_1 rfl (g_1_6 G0) ?_
        refine z_bipush (M := M_X11_says) 33 dX11_says_33 ?_
        refine z_iload_n (M := M_X11_says) 35 dX11_says_35 rfl ?_
        refine z_iaddN (M := M_X11_says) 36 dX11_says_36 (by omega) (by omega) ?_
        refine z_ialdG (M := M_X11_says) 37 dX11_says_37 o_8 (by omega) (by omega) (g_8 G0 (by omega)) (fun x4 ex4 ax4 bx4 => ?_)
        refine z_istore (M := M_X11_says) 38 dX11_says_38 (ls' := [some (mR 0), some (mI a1), some (mI a2), some (mI a3), some (mI x4), none]) (by decide) rfl ?_
        refine z_aload_n (M := M_X11_says) 40 dX11_says_40 rfl ?_
        refine z_getR (M := M_X11_says) 41 dX11_says_41 f_X11_12 o_0 rfl (g_0_0 G0) ?_
        refine z_getR (M := M_X11_says) 44 dX11_says_44 f_X11_376 o_1 rfl (g_1_6 G0) ?_
        refine z_iload_n (M := M_X11_says) 47 dX11_says_47 rfl ?_
        refine z_ialdG (M := M_X11_says) 48 dX11_says_48 o_8 (by omega) (by omega) (g_8 G0 (by omega)) (fun x5 ex5 ax5 bx5 => ?_)
        refine z_istore (M := M_X11_says) 49 dX11_says_49 (ls' := [some (mR 0), some (mI a1), some (mI a2), some (mI a3), some (mI x4), some (mI x5)]) (by decide) rfl ?_
        refine z_iload_n (M := M_X11_says) 51 dX11_says_51 rfl ?_
        by_cases c6 : a3 = 0 ∨ a3 = 1
        · rcases c6 with c6_0 | c6_1
          · refine z_lookup (M := M_X11_says) 52 dX11_says_52 (off := 28) 80 (by decide) (by rw [c6_0]; rfl) rfl ?_
            refine z_ldc2 (M := M_X11_says) 80 dX11_says_80 k_X11_379 ?_
            refine z_iload (M := M_X11_says) 83 dX11_says_83 rfl ?_
            refine z_i2l (M := M_X11_says) 85 dX11_says_85 ?_
            refine z_lmulN (M := M_X11_says) 86 dX11_says_86 (by omega) (by omega) ?_
            refine z_iload (M := M_X11_says) 87 dX11_says_87 rfl ?_
            refine z_i2l (M := M_X11_says) 89 dX11_says_89 ?_
            refine z_sJ (M := M_X11_says) 90 dX11_says_90 t_X11_quotient l_X11_275 (m_rr_of rfl) (rest := []) (c_X11_quotient h0 (100 * x5) x4 G0) rfl rfl (Nat.le_of_ble_eq_true rfl) ⟨rfl, rfl⟩ (fun x7 h4 qx7 => ?_)
            obtain ⟨G4, S4⟩ := qx7
            have R4 := (FR.rf (cs := []) (ss := []) (h := h0)).call S4 (by decide +kernel)
            refine z_l2i (M := M_X11_says) 93 dX11_says_93 ?_
            refine z_topm (fun x8 ex8 ox8 => ?_)
            unfold m_32 at ox8
            exact z_retI (M := M_X11_says) 94 dX11_says_94 rfl ⟨G4, R4⟩
          · refine z_lookup (M := M_X11_says) 52 dX11_says_52 (off := 43) 95 (by decide) (by rw [c6_1]; rfl) rfl ?_
            refine z_iload (M := M_X11_says) 95 dX11_says_95 rfl ?_
            refine z_i2l (M := M_X11_says) 97 dX11_says_97 ?_
            refine z_iload (M := M_X11_says) 98 dX11_says_98 rfl ?_
            refine z_i2l (M := M_X11_says) 100 dX11_says_100 ?_
            refine z_sJ (M := M_X11_says) 101 dX11_says_101 t_X11_quotient l_X11_275 (m_rr_of rfl) (rest := []) (c_X11_quotient h0 x5 x4 G0) rfl rfl (Nat.le_of_ble_eq_true rfl) ⟨rfl, rfl⟩ (fun x9 h5 qx9 => ?_)
            obtain ⟨G5, S5⟩ := qx9
            have R5 := (FR.rf (cs := []) (ss := []) (h := h0)).call S5 (by decide +kernel)
            refine z_l2i (M := M_X11_says) 104 dX11_says_104 ?_
            refine z_topm (fun x10 ex10 ox10 => ?_)
            unfold m_32 at ox10
            exact z_retI (M := M_X11_says) 105 dX11_says_105 rfl ⟨G5, R5⟩
        · refine z_lookup (M := M_X11_says) 52 dX11_says_52 (off := 54) 106 (by decide) (by simp only [Op.lookupswitch.offset]; split <;> (try omega) <;> (split <;> omega)) rfl ?_
          refine z_ldc2 (M := M_X11_says) 106 dX11_says_106 k_X11_381 ?_
          refine z_iload (M := M_X11_says) 109 dX11_says_109 rfl ?_
          refine z_i2l (M := M_X11_says) 111 dX11_says_111 ?_
          refine z_lmulN (M := M_X11_says) 112 dX11_says_112 (by omega) (by omega) ?_
          refine z_iload (M := M_X11_says) 113 dX11_says_113 rfl ?_
          refine z_i2l (M := M_X11_says) 115 dX11_says_115 ?_
          refine z_laddN (M := M_X11_says) 116 dX11_says_116 (by omega) (by omega) ?_
          refine z_ldc2 (M := M_X11_says) 117 dX11_says_117 k_X11_381 ?_
          refine z_iload (M := M_X11_says) 120 dX11_says_120 rfl ?_
          refine z_i2l (M := M_X11_says) 122 dX11_says_122 ?_
          refine z_lmulN (M := M_X11_says) 123 dX11_says_123 (by omega) (by omega) ?_
          refine z_sJ (M := M_X11_says) 124 dX11_says_124 t_X11_quotient l_X11_275 (m_rr_of rfl) (rest := []) (c_X11_quotient h0 ((2 * x5) + x4) (2 * x4) G0) rfl rfl (Nat.le_of_ble_eq_true rfl) ⟨rfl, rfl⟩ (fun x11 h6 qx11 => ?_)
          obtain ⟨G6, S6⟩ := qx11
          have R6 := (FR.rf (cs := []) (ss := []) (h := h0)).call S6 (by decide +kernel)
          refine z_l2i (M := M_X11_says) 127 dX11_says_127 ?_
          refine z_topm (fun x12 ex12 ox12 => ?_)
          unfold m_32 at ox12
          exact z_retI (M := M_X11_says) 128 dX11_says_128 rfl ⟨G6, R6⟩
      · refine z_if_ne_F (M := M_X11_says) 21 dX11_says_21 26 rfl (by omega) ?_
        refine z_iconst (M := M_X11_says) 24 dX11_says_24 ?_
        exact z_retI (M := M_X11_says) 25 dX11_says_25 rfl ⟨G0, (FR.rf (cs := []) (ss := []) (h := h0))⟩
    · refine z_if_eq_T (M := M_X11_says) 14 dX11_says_14 24 rfl (by omega) ?_
      refine z_iconst (M := M_X11_says) 24 dX11_says_24 ?_
      exact z_retI (M := M_X11_says) 25 dX11_says_25 rfl ⟨G0, (FR.rf (cs := []) (ss := []) (h := h0))⟩
  · refine z_if_eq_T (M := M_X11_says) 7 dX11_says_7 24 rfl (by omega) ?_
    refine z_iconst (M := M_X11_says) 24 dX11_says_24 ?_
    exact z_retI (M := M_X11_says) 25 dX11_says_25 rfl ⟨G0, (FR.rf (cs := []) (ss := []) (h := h0))⟩
abbrev P_X11_judge (h0 : m_H) (a1 : Int) : Int → m_H → Prop := fun x h' => GI h' ∧ FR [] [] h0 h'
def q_X11_judge (h0 : m_H) (a1 : Int) (n : Nat) : Prop := (∀ (l2 l3 l4 : Int) (h : m_H), GI h → FR [] [] h0 h → (-1) ≤ l2 → l2 ≤ 23 → (-1) ≤ l4 → l4 ≤ 23 → 0 ≤ a1 → a1 ≤ 2 → 2 * (l4 - (-1)) + (1) ≤ (n : Int) → m_Z oF M_X11_judge 26 [some (mR 0), some (mI a1), some (mI l2), some (mI l3), some (mI l4)] [] h (m_QI (P_X11_judge h0 a1)))
set_option maxHeartbeats 4000000 in
set_option maxRecDepth 100000 in
theorem s_X11_judge_26 (h0 : m_H) (a1 : Int) (G0 : GI h0) (n : Nat) (ih : q_X11_judge h0 a1 n) : ∀ (l2 l3 l4 : Int) (h : m_H), GI h → FR [] [] h0 h → (-1) ≤ l2 → l2 ≤ 23 → (-1) ≤ l4 → l4 ≤ 23 → 0 ≤ a1 → a1 ≤ 2 → 2 * (l4 - (-1)) + (1) ≤ ((n + 1 : Nat) : Int) → m_Z oF M_X11_judge 26 [some (mR 0), some (mI a1), some (mI l2), some (mI l3), some (mI l4)] [] h (m_QI (P_X11_judge h0 a1)) := by
  intro l2 l3 l4 h G R v0 v1 v2 v3 v4 v5 hr
  refine z_ok (fun ostk _ olocs => ?_)
  have ol3 : m_32 l3 := olocs 3 _ rfl
  unfold m_32 at ol3
  refine z_iload (M := M_X11_judge) 26 dX11_judge_26 rfl ?_
  refine z_if_lt (M := M_X11_judge) 28 dX11_judge_28 67 rfl (fun c1 => ?_) (fun c1 => ?_)
  · refine z_iload_n (M := M_X11_judge) 67 dX11_judge_67 rfl ?_
    refine z_iconst (M := M_X11_judge) 68 dX11_judge_68 ?_
    refine z_icmp_ne (M := M_X11_judge) 69 dX11_judge_69 102 rfl (fun c2 => ?_) (fun c2 => ?_)
    · refine z_iload_n (M := M_X11_judge) 102 dX11_judge_102 rfl ?_
      refine z_if_ne (M := M_X11_judge) 103 dX11_judge_103 110 rfl (fun c3 => ?_) (fun c3 => ?_)
      · refine z_iload_n (M := M_X11_judge) 110 dX11_judge_110 rfl ?_
        exact z_retI (M := M_X11_judge) 111 dX11_judge_111 rfl ⟨G, R⟩
      · refine z_iload_n (M := M_X11_judge) 106 dX11_judge_106 rfl ?_
        refine z_goto (M := M_X11_judge) 107 dX11_judge_107 111 rfl ?_
        exact z_retI (M := M_X11_judge) 111 dX11_judge_111 rfl ⟨G, R⟩
    · refine z_iload_n (M := M_X11_judge) 72 dX11_judge_72 rfl ?_
      refine z_if_ne (M := M_X11_judge) 73 dX11_judge_73 100 rfl (fun c4 => ?_) (fun c4 => ?_)
      · refine z_iconst (M := M_X11_judge) 100 dX11_judge_100 ?_
        exact z_retI (M := M_X11_judge) 101 dX11_judge_101 rfl ⟨G, R⟩
      · refine z_aload_n (M := M_X11_judge) 76 dX11_judge_76 rfl ?_
        refine z_getR (M := M_X11_judge) 77 dX11_judge_77 f_X11_12 o_0 rfl (g_0_0 G) ?_
        refine z_vI (M := M_X11_judge) 80 dX11_judge_80 t_X4_hasShortersByWorld l_X11_386 (m_rr_of rfl) (rest := []) (c_X4_hasShortersByWorld h 1 (Or.inl rfl) G) o_1 rfl rfl rfl (Nat.le_of_ble_eq_true rfl) ⟨rfl, rfl⟩ (fun x5 h1 qx5 => ?_)
        obtain ⟨G1, S1, ax5, bx5⟩ := qx5
        have R1 := R.call S1 (by decide +kernel)
        refine z_if_eq (M := M_X11_judge) 83 dX11_judge_83 100 rfl (fun c6 => ?_) (fun c6 => ?_)
        · refine z_iconst (M := M_X11_judge) 100 dX11_judge_100 ?_
          exact z_retI (M := M_X11_judge) 101 dX11_judge_101 rfl ⟨G1, R1⟩
        · refine z_aload_n (M := M_X11_judge) 86 dX11_judge_86 rfl ?_
          refine z_getR (M := M_X11_judge) 87 dX11_judge_87 f_X11_12 o_0 rfl (g_0_0 G1) ?_
          refine z_vI (M := M_X11_judge) 90 dX11_judge_90 t_X4_hasCutsByWorld l_X11_389 (m_rr_of rfl) (rest := []) (c_X4_hasCutsByWorld h1 1 (Or.inl rfl) G1) o_1 rfl rfl rfl (Nat.le_of_ble_eq_true rfl) ⟨rfl, rfl⟩ (fun x7 h2 qx7 => ?_)
          obtain ⟨G2, S2, ax7, bx7⟩ := qx7
          have R2 := R1.call S2 (by decide +kernel)
          refine z_if_eq (M := M_X11_judge) 93 dX11_judge_93 100 rfl (fun c8 => ?_) (fun c8 => ?_)
          · refine z_iconst (M := M_X11_judge) 100 dX11_judge_100 ?_
            exact z_retI (M := M_X11_judge) 101 dX11_judge_101 rfl ⟨G2, R2⟩
          · refine z_iconst (M := M_X11_judge) 96 dX11_judge_96 ?_
            refine z_goto (M := M_X11_judge) 97 dX11_judge_97 101 rfl ?_
            exact z_retI (M := M_X11_judge) 101 dX11_judge_101 rfl ⟨G2, R2⟩
  · refine z_aload_n (M := M_X11_judge) 31 dX11_judge_31 rfl ?_
    refine z_getR (M := M_X11_judge) 32 dX11_judge_32 f_X11_12 o_0 rfl (g_0_0 G) ?_
    refine z_iload (M := M_X11_judge) 35 dX11_judge_35 rfl ?_
    refine z_vI (M := M_X11_judge) 37 dX11_judge_37 t_X4_isCounting l_X11_165 (m_rr_of rfl) (rest := []) (c_X4_isCounting h 1 l4 (Or.inl rfl) G) o_1 rfl rfl rfl (Nat.le_of_ble_eq_true rfl) ⟨rfl, rfl⟩ (fun x9 h3 qx9 => ?_)
    obtain ⟨G3, S3, ax9, bx9⟩ := qx9
    have R3 := R.call S3 (by decide +kernel)
    refine z_if_eq (M := M_X11_judge) 40 dX11_judge_40 61 rfl (fun c10 => ?_) (fun c10 => ?_)
    · refine z_iincN (M := M_X11_judge) 61 dX11_judge_61 (ls' := [some (mR 0), some (mI a1), some (mI l2), some (mI l3), some (mI (l4 + (-1)))]) (by decide) rfl (by (unfold m_32; decide)) (by omega) (by omega) rfl ?_
      refine z_goto (M := M_X11_judge) 64 dX11_judge_64 26 rfl ?_
      exact z_mask [true, true, true, true, true] rfl (ih l2 l3 (l4 + (-1)) h3 G3 R3 (by omega) (by omega) (by omega) (by omega) (by omega) (by omega) (by omega))
    · refine z_aload_n (M := M_X11_judge) 43 dX11_judge_43 rfl ?_
      refine z_getR (M := M_X11_judge) 44 dX11_judge_44 f_X11_12 o_0 rfl (g_0_0 G3) ?_
      refine z_iload (M := M_X11_judge) 47 dX11_judge_47 rfl ?_
      refine z_vI (M := M_X11_judge) 49 dX11_judge_49 t_X4_isSoByWorld l_X11_383 (m_rr_of rfl) (rest := []) (c_X4_isSoByWorld h3 1 l4 (Or.inl rfl) G3 ⟨by omega, by omega⟩) o_1 rfl rfl rfl (Nat.le_of_ble_eq_true rfl) ⟨rfl, rfl⟩ (fun x11 h4 qx11 => ?_)
      obtain ⟨G4, S4, ax11, bx11⟩ := qx11
      have R4 := R3.call S4 (by decide +kernel)
      refine z_if_ne (M := M_X11_judge) 52 dX11_judge_52 61 rfl (fun c12 => ?_) (fun c12 => ?_)
      · refine z_iincN (M := M_X11_judge) 61 dX11_judge_61 (ls' := [some (mR 0), some (mI a1), some (mI l2), some (mI l3), some (mI (l4 + (-1)))]) (by decide) rfl (by (unfold m_32; decide)) (by omega) (by omega) rfl ?_
        refine z_goto (M := M_X11_judge) 64 dX11_judge_64 26 rfl ?_
        exact z_mask [true, true, true, true, true] rfl (ih l2 l3 (l4 + (-1)) h4 G4 R4 (by omega) (by omega) (by omega) (by omega) (by omega) (by omega) (by omega))
      · refine z_iload (M := M_X11_judge) 55 dX11_judge_55 rfl ?_
        refine z_istore_n (M := M_X11_judge) 57 dX11_judge_57 (ls' := [some (mR 0), some (mI a1), some (mI l4), some (mI l3), some (mI l4)]) (by decide) rfl ?_
        refine z_iincW (M := M_X11_judge) 58 dX11_judge_58 (by decide) rfl (by (unfold m_32; decide)) (fun x13 ox13 => ?_)
        unfold m_32 at ox13
        refine z_ls (ls' := [some (mR 0), some (mI a1), some (mI l4), some (mI x13), some (mI l4)]) rfl ?_
        refine z_iincN (M := M_X11_judge) 61 dX11_judge_61 (ls' := [some (mR 0), some (mI a1), some (mI l4), some (mI x13), some (mI (l4 + (-1)))]) (by decide) rfl (by (unfold m_32; decide)) (by omega) (by omega) rfl ?_
        refine z_goto (M := M_X11_judge) 64 dX11_judge_64 26 rfl ?_
        exact z_mask [true, true, true, true, true] rfl (ih l4 x13 (l4 + (-1)) h4 G4 R4 (by omega) (by omega) (by omega) (by omega) (by omega) (by omega) (by omega))
theorem a_X11_judge (h0 : m_H) (a1 : Int) (G0 : GI h0) : ∀ n, q_X11_judge h0 a1 n := by
  intro n
  induction n with
  | zero => unfold q_X11_judge; intros; omega
  | succ n ih => exact s_X11_judge_26 h0 a1 G0 n ih
set_option maxHeartbeats 4000000 in
set_option maxRecDepth 100000 in
theorem c_X11_judge (h0 : m_H) (a1 : Int) (G0 : GI h0) : m_CI M_X11_judge [mR 0, mI a1] h0 (P_X11_judge h0 a1) := by
  refine m_CI_of ⟨by decide, rfl, by simp [m_arg, m_isL, M_X11_judge], ⟨rfl, rfl⟩, rfl, rfl⟩ (ls := [some (mR 0), some (mI a1), none, none, none]) rfl ?_
  have ih := a_X11_judge h0 a1 G0 56
  refine z_ok (fun _ _ ok => ?_)
  have oa1 : m_32 a1 := ok 1 _ rfl
  unfold m_32 at oa1
  refine z_iload_n (M := M_X11_judge) 0 dX11_judge_0 rfl ?_
  refine z_iconst (M := M_X11_judge) 1 dX11_judge_1 ?_
  refine z_iconst (M := M_X11_judge) 2 dX11_judge_2 ?_
  refine z_sI (M := M_X11_judge) 3 dX11_judge_3 t_X11_within l_X11_112 (m_rr_of rfl) (rest := []) (c_X11_within h0 a1 0 2 G0) rfl rfl (Nat.le_of_ble_eq_true rfl) ⟨rfl, rfl⟩ (fun x1 h1 qx1 => ?_)
  obtain ⟨rfl, ⟨rfl, cx1⟩ | ⟨rfl, cx1⟩⟩ := qx1
  · refine z_if_ne_T (M := M_X11_judge) 6 dX11_judge_6 11 rfl (by omega) ?_
    refine z_iconst (M := M_X11_judge) 11 dX11_judge_11 ?_
    refine z_istore_n (M := M_X11_judge) 12 dX11_judge_12 (ls' := [some (mR 0), some (mI a1), some (mI (-1)), none, none]) (by decide) rfl ?_
    refine z_iconst (M := M_X11_judge) 13 dX11_judge_13 ?_
    refine z_istore_n (M := M_X11_judge) 14 dX11_judge_14 (ls' := [some (mR 0), some (mI a1), some (mI (-1)), some (mI 0), none]) (by decide) rfl ?_
    refine z_aload_n (M := M_X11_judge) 15 dX11_judge_15 rfl ?_
    refine z_getR (M := M_X11_judge) 16 dX11_judge_16 f_X11_12 o_0 rfl (g_0_0 G0) ?_
    refine z_getIG (M := M_X11_judge) 19 dX11_judge_19 f_X11_162 o_1 (by decide) (g_1_7 G0) (fun x2 ex2 ax2 bx2 => ?_)
    refine z_iconst (M := M_X11_judge) 22 dX11_judge_22 ?_
    refine z_isubN (M := M_X11_judge) 23 dX11_judge_23 (by omega) (by omega) ?_
    refine z_istore (M := M_X11_judge) 24 dX11_judge_24 (ls' := [some (mR 0), some (mI a1), some (mI (-1)), some (mI 0), some (mI (x2 - 1))]) (by decide) rfl ?_
    exact z_mask [true, true, true, true, true] rfl (ih (-1) 0 (x2 - 1) h0 G0 (FR.rf (cs := []) (ss := []) (h := h0)) (by omega) (by omega) (by omega) (by omega) (by omega) (by omega) (by omega))
  · refine z_if_ne_F (M := M_X11_judge) 6 dX11_judge_6 11 rfl (by omega) ?_
    refine z_iconst (M := M_X11_judge) 9 dX11_judge_9 ?_
    exact z_retI (M := M_X11_judge) 10 dX11_judge_10 rfl ⟨G0, (FR.rf (cs := []) (ss := []) (h := h0))⟩
abbrev P_X11_trade (h0 : m_H) (a1 : Int) : Int → m_H → Prop := fun x h' => GI h' ∧ FR [] [] h0 h'
set_option maxHeartbeats 4000000 in
set_option maxRecDepth 100000 in
theorem c_X11_trade (h0 : m_H) (a1 : Int) (G0 : GI h0) : m_CI M_X11_trade [mR 0, mI a1] h0 (P_X11_trade h0 a1) := by
  refine m_CI_of ⟨by decide, rfl, by simp [m_arg, m_isL, M_X11_trade], ⟨rfl, rfl⟩, rfl, rfl⟩ (ls := [some (mR 0), some (mI a1)]) rfl ?_
  refine z_ok (fun _ _ ok => ?_)
  have oa1 : m_32 a1 := ok 1 _ rfl
  unfold m_32 at oa1
  refine z_aload_n (M := M_X11_trade) 0 dX11_trade_0 rfl ?_
  refine z_getR (M := M_X11_trade) 1 dX11_trade_1 f_X11_90 o_0 rfl (g_0_12 G0) ?_
  refine z_getIG (M := M_X11_trade) 4 dX11_trade_4 f_X11_399 o_105 (by decide) (g_105_1 G0) (fun x1 ex1 ax1 bx1 => ?_)
  refine z_if_ne (M := M_X11_trade) 7 dX11_trade_7 12 rfl (fun c2 => ?_) (fun c2 => ?_)
  · refine z_iload_n (M := M_X11_trade) 12 dX11_trade_12 rfl ?_
    refine z_if_ne (M := M_X11_trade) 13 dX11_trade_13 24 rfl (fun c3 => ?_) (fun c3 => ?_)
    · refine z_iload_n (M := M_X11_trade) 24 dX11_trade_24 rfl ?_
      refine z_iconst (M := M_X11_trade) 25 dX11_trade_25 ?_
      refine z_icmp_ne (M := M_X11_trade) 26 dX11_trade_26 37 rfl (fun c4 => ?_) (fun c4 => ?_)
      · refine z_iload_n (M := M_X11_trade) 37 dX11_trade_37 rfl ?_
        refine z_iconst (M := M_X11_trade) 38 dX11_trade_38 ?_
        refine z_bipush (M := M_X11_trade) 39 dX11_trade_39 ?_
        refine z_sI (M := M_X11_trade) 41 dX11_trade_41 t_X11_within l_X11_112 (m_rr_of rfl) (rest := []) (c_X11_within h0 a1 2 33 G0) rfl rfl (Nat.le_of_ble_eq_true rfl) ⟨rfl, rfl⟩ (fun x5 h1 qx5 => ?_)
        obtain ⟨rfl, ⟨rfl, cx5⟩ | ⟨rfl, cx5⟩⟩ := qx5
        · refine z_if_eq_F (M := M_X11_trade) 44 dX11_trade_44 61 rfl (by omega) ?_
          refine z_aload_n (M := M_X11_trade) 47 dX11_trade_47 rfl ?_
          refine z_getR (M := M_X11_trade) 48 dX11_trade_48 f_X11_90 o_0 rfl (g_0_12 G0) ?_
          refine z_getR (M := M_X11_trade) 51 dX11_trade_51 f_X11_408 o_105 rfl (g_105_0 G0) ?_
          refine z_iload_n (M := M_X11_trade) 54 dX11_trade_54 rfl ?_
          refine z_iconst (M := M_X11_trade) 55 dX11_trade_55 ?_
          refine z_isubN (M := M_X11_trade) 56 dX11_trade_56 (by omega) (by omega) ?_
          refine z_ialdG (M := M_X11_trade) 57 dX11_trade_57 o_106 (by omega) (by omega) (g_106 G0 (by omega)) (fun x6 ex6 ax6 bx6 => ?_)
          refine z_goto (M := M_X11_trade) 58 dX11_trade_58 62 rfl ?_
          exact z_retI (M := M_X11_trade) 62 dX11_trade_62 rfl ⟨G0, (FR.rf (cs := []) (ss := []) (h := h0))⟩
        · refine z_if_eq_T (M := M_X11_trade) 44 dX11_trade_44 61 rfl (by omega) ?_
          refine z_iconst (M := M_X11_trade) 61 dX11_trade_61 ?_
          exact z_retI (M := M_X11_trade) 62 dX11_trade_62 rfl ⟨G0, (FR.rf (cs := []) (ss := []) (h := h0))⟩
      · refine z_aload_n (M := M_X11_trade) 29 dX11_trade_29 rfl ?_
        refine z_getR (M := M_X11_trade) 30 dX11_trade_30 f_X11_90 o_0 rfl (g_0_12 G0) ?_
        refine z_getIV (M := M_X11_trade) 33 dX11_trade_33 f_X11_405 o_105 (by decide) (fun x7 ex7 => ?_)
        refine z_ok (fun ox7 _ _ => ?_)
        have ox7 := ox7.1; unfold m_ok m_32 at ox7
        exact z_retI (M := M_X11_trade) 36 dX11_trade_36 rfl ⟨G0, (FR.rf (cs := []) (ss := []) (h := h0))⟩
    · refine z_aload_n (M := M_X11_trade) 16 dX11_trade_16 rfl ?_
      refine z_getR (M := M_X11_trade) 17 dX11_trade_17 f_X11_90 o_0 rfl (g_0_12 G0) ?_
      refine z_getIV (M := M_X11_trade) 20 dX11_trade_20 f_X11_402 o_105 (by decide) (fun x8 ex8 => ?_)
      refine z_ok (fun ox8 _ _ => ?_)
      have ox8 := ox8.1; unfold m_ok m_32 at ox8
      exact z_retI (M := M_X11_trade) 23 dX11_trade_23 rfl ⟨G0, (FR.rf (cs := []) (ss := []) (h := h0))⟩
  · refine z_iconst (M := M_X11_trade) 10 dX11_trade_10 ?_
    exact z_retI (M := M_X11_trade) 11 dX11_trade_11 rfl ⟨G0, (FR.rf (cs := []) (ss := []) (h := h0))⟩
abbrev P_X11_told (h0 : m_H) (a1 : Int) : Int → m_H → Prop := fun x h' => GI h' ∧ FR [] [] h0 h'
def q_X11_told (h0 : m_H) (a1 : Int) (n : Nat) : Prop := (∀ (l2 l3 : Int) (h : m_H), GI h → FR [] [] h0 h → 0 ≤ l3 → l3 ≤ 32 → 0 ≤ a1 → a1 ≤ 5 → 2 * (32 - l3) + (1) ≤ (n : Int) → m_Z oF M_X11_told 23 [some (mR 0), some (mI a1), some (mI l2), some (mI l3)] [] h (m_QI (P_X11_told h0 a1)))
set_option maxHeartbeats 4000000 in
set_option maxRecDepth 100000 in
theorem s_X11_told_23 (h0 : m_H) (a1 : Int) (G0 : GI h0) (n : Nat) (ih : q_X11_told h0 a1 n) : ∀ (l2 l3 : Int) (h : m_H), GI h → FR [] [] h0 h → 0 ≤ l3 → l3 ≤ 32 → 0 ≤ a1 → a1 ≤ 5 → 2 * (32 - l3) + (1) ≤ ((n + 1 : Nat) : Int) → m_Z oF M_X11_told 23 [some (mR 0), some (mI a1), some (mI l2), some (mI l3)] [] h (m_QI (P_X11_told h0 a1)) := by
  intro l2 l3 h G R v0 v1 v2 v3 hr
  refine z_ok (fun ostk _ olocs => ?_)
  have ol2 : m_32 l2 := olocs 2 _ rfl
  unfold m_32 at ol2
  refine z_iload_n (M := M_X11_told) 23 dX11_told_23 rfl ?_
  refine z_bipush (M := M_X11_told) 24 dX11_told_24 ?_
  refine z_icmp_ge (M := M_X11_told) 26 dX11_told_26 63 rfl (fun c1 => ?_) (fun c1 => ?_)
  · refine z_iload_n (M := M_X11_told) 63 dX11_told_63 rfl ?_
    exact z_retI (M := M_X11_told) 64 dX11_told_64 rfl ⟨G, R⟩
  · refine z_iload_n (M := M_X11_told) 29 dX11_told_29 rfl ?_
    refine z_aload_n (M := M_X11_told) 30 dX11_told_30 rfl ?_
    refine z_getR (M := M_X11_told) 31 dX11_told_31 f_X11_12 o_0 rfl (g_0_0 G) ?_
    refine z_aload_n (M := M_X11_told) 34 dX11_told_34 rfl ?_
    refine z_getR (M := M_X11_told) 35 dX11_told_35 f_X11_12 o_0 rfl (g_0_0 G) ?_
    refine z_iload_n (M := M_X11_told) 38 dX11_told_38 rfl ?_
    refine z_iload_n (M := M_X11_told) 39 dX11_told_39 rfl ?_
    refine z_vI (M := M_X11_told) 40 dX11_told_40 t_X4_lengthIn l_X11_409 (m_rr_of rfl) (rest := [mR 1, mI l2]) (c_X4_lengthIn h 1 a1 l3 (Or.inl rfl) G ⟨by omega, by omega⟩) o_1 rfl rfl rfl (Nat.le_of_ble_eq_true rfl) ⟨rfl, rfl⟩ (fun x2 h1 qx2 => ?_)
    obtain ⟨G1, S1, ax2, bx2⟩ := qx2
    have R1 := R.call S1 (by decide +kernel)
    refine z_aload_n (M := M_X11_told) 43 dX11_told_43 rfl ?_
    refine z_getR (M := M_X11_told) 44 dX11_told_44 f_X11_90 o_0 rfl (g_0_12 G1) ?_
    refine z_getR (M := M_X11_told) 47 dX11_told_47 f_X11_408 o_105 rfl (g_105_0 G1) ?_
    refine z_iload_n (M := M_X11_told) 50 dX11_told_50 rfl ?_
    refine z_ialdG (M := M_X11_told) 51 dX11_told_51 o_106 (by omega) (by omega) (g_106 G1 (by omega)) (fun x3 ex3 ax3 bx3 => ?_)
    refine z_vI (M := M_X11_told) 52 dX11_told_52 t_X4_wholeFeet l_X11_412 (m_rr_of rfl) (rest := [mI l2]) (c_X4_wholeFeet h1 1 x2 x3 (Or.inl rfl) G1 ⟨by omega, by omega⟩ ⟨by omega, by omega⟩) o_1 rfl rfl rfl (Nat.le_of_ble_eq_true rfl) ⟨rfl, rfl⟩ (fun x4 h2 qx4 => ?_)
    obtain ⟨G2, S2⟩ := qx4
    have R2 := R1.call S2 (by decide +kernel)
    refine z_ok (fun ox4 _ _ => ?_)
    have ox4 := ox4.1; unfold m_ok m_32 at ox4
    refine z_iadd (M := M_X11_told) 55 dX11_told_55 ?_
    refine z_topm (fun x5 ex5 ox5 => ?_)
    unfold m_32 at ox5
    refine z_istore_n (M := M_X11_told) 56 dX11_told_56 (ls' := [some (mR 0), some (mI a1), some (mI x5), some (mI l3)]) (by decide) rfl ?_
    refine z_iincN (M := M_X11_told) 57 dX11_told_57 (ls' := [some (mR 0), some (mI a1), some (mI x5), some (mI (l3 + 1))]) (by decide) rfl (by (unfold m_32; decide)) (by omega) (by omega) rfl ?_
    refine z_goto (M := M_X11_told) 60 dX11_told_60 23 rfl ?_
    exact z_mask [true, true, true, true] rfl (ih x5 (l3 + 1) h2 G2 R2 (by omega) (by omega) (by omega) (by omega) (by omega))
theorem a_X11_told (h0 : m_H) (a1 : Int) (G0 : GI h0) : ∀ n, q_X11_told h0 a1 n := by
  intro n
  induction n with
  | zero => unfold q_X11_told; intros; omega
  | succ n ih => exact s_X11_told_23 h0 a1 G0 n ih
set_option maxHeartbeats 4000000 in
set_option maxRecDepth 100000 in
theorem c_X11_told (h0 : m_H) (a1 : Int) (G0 : GI h0) : m_CI M_X11_told [mR 0, mI a1] h0 (P_X11_told h0 a1) := by
  refine m_CI_of ⟨by decide, rfl, by simp [m_arg, m_isL, M_X11_told], ⟨rfl, rfl⟩, rfl, rfl⟩ (ls := [some (mR 0), some (mI a1), none, none]) rfl ?_
  have ih := a_X11_told h0 a1 G0 72
  refine z_ok (fun _ _ ok => ?_)
  have oa1 : m_32 a1 := ok 1 _ rfl
  unfold m_32 at oa1
  refine z_aload_n (M := M_X11_told) 0 dX11_told_0 rfl ?_
  refine z_getR (M := M_X11_told) 1 dX11_told_1 f_X11_90 o_0 rfl (g_0_12 G0) ?_
  refine z_getIG (M := M_X11_told) 4 dX11_told_4 f_X11_399 o_105 (by decide) (g_105_1 G0) (fun x1 ex1 ax1 bx1 => ?_)
  refine z_if_eq (M := M_X11_told) 7 dX11_told_7 17 rfl (fun c2 => ?_) (fun c2 => ?_)
  · refine z_iconst (M := M_X11_told) 17 dX11_told_17 ?_
    exact z_retI (M := M_X11_told) 18 dX11_told_18 rfl ⟨G0, (FR.rf (cs := []) (ss := []) (h := h0))⟩
  · refine z_iload_n (M := M_X11_told) 10 dX11_told_10 rfl ?_
    refine z_sI (M := M_X11_told) 11 dX11_told_11 t_X11_isThing l_X11_126 (m_rr_of rfl) (rest := []) (c_X11_isThing h0 a1 G0) rfl rfl (Nat.le_of_ble_eq_true rfl) ⟨rfl, rfl⟩ (fun x3 h1 qx3 => ?_)
    obtain ⟨rfl, ⟨rfl, cx3⟩ | ⟨rfl, cx3⟩⟩ := qx3
    · refine z_if_ne_T (M := M_X11_told) 14 dX11_told_14 19 rfl (by omega) ?_
      refine z_iconst (M := M_X11_told) 19 dX11_told_19 ?_
      refine z_istore_n (M := M_X11_told) 20 dX11_told_20 (ls' := [some (mR 0), some (mI a1), some (mI 0), none]) (by decide) rfl ?_
      refine z_iconst (M := M_X11_told) 21 dX11_told_21 ?_
      refine z_istore_n (M := M_X11_told) 22 dX11_told_22 (ls' := [some (mR 0), some (mI a1), some (mI 0), some (mI 0)]) (by decide) rfl ?_
      exact z_mask [true, true, true, true] rfl (ih 0 0 h0 G0 (FR.rf (cs := []) (ss := []) (h := h0)) (by omega) (by omega) (by omega) (by omega) (by omega))
    · refine z_if_ne_F (M := M_X11_told) 14 dX11_told_14 19 rfl (by omega) ?_
      refine z_iconst (M := M_X11_told) 17 dX11_told_17 ?_
      exact z_retI (M := M_X11_told) 18 dX11_told_18 rfl ⟨G0, (FR.rf (cs := []) (ss := []) (h := h0))⟩
abbrev P_X11_count (h0 : m_H) (a1 : Int) : Int → m_H → Prop := fun x h' => GI h' ∧ FR [] [] h0 h'
set_option maxHeartbeats 4000000 in
set_option maxRecDepth 100000 in
theorem c_X11_count (h0 : m_H) (a1 : Int) (G0 : GI h0) : m_CI M_X11_count [mR 0, mI a1] h0 (P_X11_count h0 a1) := by
  refine m_CI_of ⟨by decide, rfl, by simp [m_arg, m_isL, M_X11_count], ⟨rfl, rfl⟩, rfl, rfl⟩ (ls := [some (mR 0), some (mI a1)]) rfl ?_
  refine z_ok (fun _ _ ok => ?_)
  have oa1 : m_32 a1 := ok 1 _ rfl
  unfold m_32 at oa1
  refine z_iload_n (M := M_X11_count) 0 dX11_count_0 rfl ?_
  by_cases c1 : a1 = 0 ∨ a1 = 1 ∨ a1 = 2 ∨ a1 = 3 ∨ a1 = 4 ∨ a1 = 5
  · rcases c1 with c1_0 | c1_1 | c1_2 | c1_3 | c1_4 | c1_5
    · refine z_tabIn (M := M_X11_count) 1 dX11_count_1 (off := 39) 40 (by omega) (by omega) (by rw [c1_0]; rfl) rfl ?_
      refine z_aload_n (M := M_X11_count) 40 dX11_count_40 rfl ?_
      refine z_getR (M := M_X11_count) 41 dX11_count_41 f_X11_12 o_0 rfl (g_0_0 G0) ?_
      refine z_getIG (M := M_X11_count) 44 dX11_count_44 f_X11_162 o_1 (by decide) (g_1_7 G0) (fun x2 ex2 ax2 bx2 => ?_)
      exact z_retI (M := M_X11_count) 47 dX11_count_47 rfl ⟨G0, (FR.rf (cs := []) (ss := []) (h := h0))⟩
    · refine z_tabIn (M := M_X11_count) 1 dX11_count_1 (off := 47) 48 (by omega) (by omega) (by rw [c1_1]; rfl) rfl ?_
      refine z_aload_n (M := M_X11_count) 48 dX11_count_48 rfl ?_
      refine z_getR (M := M_X11_count) 49 dX11_count_49 f_X11_12 o_0 rfl (g_0_0 G0) ?_
      refine z_getIV (M := M_X11_count) 52 dX11_count_52 f_X11_346 o_1 (by decide) (fun x3 ex3 => ?_)
      refine z_ok (fun ox3 _ _ => ?_)
      have ox3 := ox3.1; unfold m_ok m_32 at ox3
      refine z_sI (M := M_X11_count) 55 dX11_count_55 t_J6_bitCount_0f7a4 l_X11_415 (m_rr_of rfl) (rest := []) (c_J6_bitCount_0f7a4 h0 x3 G0) rfl rfl (Nat.le_of_ble_eq_true rfl) ⟨rfl, rfl⟩ (fun x4 h1 qx4 => ?_)
      obtain ⟨G1, S1, ax4, bx4⟩ := qx4
      have R1 := (FR.rf (cs := []) (ss := []) (h := h0)).call S1 (by decide +kernel)
      exact z_retI (M := M_X11_count) 58 dX11_count_58 rfl ⟨G1, R1⟩
    · refine z_tabIn (M := M_X11_count) 1 dX11_count_1 (off := 58) 59 (by omega) (by omega) (by rw [c1_2]; rfl) rfl ?_
      refine z_aload_n (M := M_X11_count) 59 dX11_count_59 rfl ?_
      refine z_getR (M := M_X11_count) 60 dX11_count_60 f_X11_12 o_0 rfl (g_0_0 G0) ?_
      refine z_vI (M := M_X11_count) 63 dX11_count_63 t_X4_shorters l_X11_147 (m_rr_of rfl) (rest := []) (c_X4_shorters h0 1 (Or.inl rfl) G0) o_1 rfl rfl rfl (Nat.le_of_ble_eq_true rfl) ⟨rfl, rfl⟩ (fun x5 h2 qx5 => ?_)
      obtain ⟨G2, S2, ax5, bx5⟩ := qx5
      have R2 := (FR.rf (cs := []) (ss := []) (h := h0)).call S2 (by decide +kernel)
      exact z_retI (M := M_X11_count) 66 dX11_count_66 rfl ⟨G2, R2⟩
    · refine z_tabIn (M := M_X11_count) 1 dX11_count_1 (off := 66) 67 (by omega) (by omega) (by rw [c1_3]; rfl) rfl ?_
      refine z_aload_n (M := M_X11_count) 67 dX11_count_67 rfl ?_
      refine z_getR (M := M_X11_count) 68 dX11_count_68 f_X11_12 o_0 rfl (g_0_0 G0) ?_
      refine z_getR (M := M_X11_count) 71 dX11_count_71 f_X11_120 o_1 rfl (g_1_0 G0) ?_
      refine z_sI (M := M_X11_count) 74 dX11_count_74 t_X11_manyKnown l_X11_420 (m_rr_of rfl) (rest := []) (c_X11_manyKnown_2 h0 G0) rfl rfl (Nat.le_of_ble_eq_true rfl) ⟨rfl, rfl⟩ (fun x6 h3 qx6 => ?_)
      obtain ⟨G3, S3⟩ := qx6
      have R3 := (FR.rf (cs := []) (ss := []) (h := h0)).call S3 (by decide +kernel)
      refine z_ok (fun ox6 _ _ => ?_)
      have ox6 := ox6.1; unfold m_ok m_32 at ox6
      exact z_retI (M := M_X11_count) 77 dX11_count_77 rfl ⟨G3, R3⟩
    · refine z_tabIn (M := M_X11_count) 1 dX11_count_1 (off := 77) 78 (by omega) (by omega) (by rw [c1_4]; rfl) rfl ?_
      refine z_aload_n (M := M_X11_count) 78 dX11_count_78 rfl ?_
      refine z_getR (M := M_X11_count) 79 dX11_count_79 f_X11_12 o_0 rfl (g_0_0 G0) ?_
      refine z_getR (M := M_X11_count) 82 dX11_count_82 f_X11_129 o_1 rfl (g_1_1 G0) ?_
      refine z_sI (M := M_X11_count) 85 dX11_count_85 t_X11_manyKnown l_X11_420 (m_rr_of rfl) (rest := []) (c_X11_manyKnown_3 h0 G0) rfl rfl (Nat.le_of_ble_eq_true rfl) ⟨rfl, rfl⟩ (fun x7 h4 qx7 => ?_)
      obtain ⟨G4, S4⟩ := qx7
      have R4 := (FR.rf (cs := []) (ss := []) (h := h0)).call S4 (by decide +kernel)
      refine z_ok (fun ox7 _ _ => ?_)
      have ox7 := ox7.1; unfold m_ok m_32 at ox7
      exact z_retI (M := M_X11_count) 88 dX11_count_88 rfl ⟨G4, R4⟩
    · refine z_tabIn (M := M_X11_count) 1 dX11_count_1 (off := 88) 89 (by omega) (by omega) (by rw [c1_5]; rfl) rfl ?_
      refine z_aload_n (M := M_X11_count) 89 dX11_count_89 rfl ?_
      refine z_getR (M := M_X11_count) 90 dX11_count_90 f_X11_30 o_0 rfl (g_0_4 G0) ?_
      refine z_getIG (M := M_X11_count) 93 dX11_count_93 f_X11_187 o_35 (by decide) (g_35_1 G0) (fun x8 ex8 ax8 bx8 => ?_)
      exact z_retI (M := M_X11_count) 96 dX11_count_96 rfl ⟨G0, (FR.rf (cs := []) (ss := []) (h := h0))⟩
  · refine z_tabOut (M := M_X11_count) 1 dX11_count_1 97 (by omega) rfl ?_
    refine z_iload_n (M := M_X11_count) 97 dX11_count_97 rfl ?_
    refine z_bipush (M := M_X11_count) 98 dX11_count_98 ?_
    refine z_bipush (M := M_X11_count) 100 dX11_count_100 ?_
    refine z_sI (M := M_X11_count) 102 dX11_count_102 t_X11_within l_X11_112 (m_rr_of rfl) (rest := []) (c_X11_within h0 a1 6 10 G0) rfl rfl (Nat.le_of_ble_eq_true rfl) ⟨rfl, rfl⟩ (fun x9 h5 qx9 => ?_)
    obtain ⟨rfl, ⟨rfl, cx9⟩ | ⟨rfl, cx9⟩⟩ := qx9
    · refine z_if_eq_F (M := M_X11_count) 105 dX11_count_105 120 rfl (by omega) ?_
      refine z_aload_n (M := M_X11_count) 108 dX11_count_108 rfl ?_
      refine z_getR (M := M_X11_count) 109 dX11_count_109 f_X11_94 o_0 rfl (g_0_13 G0) ?_
      refine z_iload_n (M := M_X11_count) 112 dX11_count_112 rfl ?_
      refine z_bipush (M := M_X11_count) 113 dX11_count_113 ?_
      refine z_isubN (M := M_X11_count) 115 dX11_count_115 (by omega) (by omega) ?_
      refine z_ialdV (M := M_X11_count) 116 dX11_count_116 o_107 (by omega) (by omega) (fun x10 ex10 => ?_)
      refine z_ok (fun ox10 _ _ => ?_)
      have ox10 := ox10.1; unfold m_ok m_32 at ox10
      refine z_goto (M := M_X11_count) 117 dX11_count_117 121 rfl ?_
      exact z_retI (M := M_X11_count) 121 dX11_count_121 rfl ⟨G0, (FR.rf (cs := []) (ss := []) (h := h0))⟩
    · refine z_if_eq_T (M := M_X11_count) 105 dX11_count_105 120 rfl (by omega) ?_
      refine z_iconst (M := M_X11_count) 120 dX11_count_120 ?_
      exact z_retI (M := M_X11_count) 121 dX11_count_121 rfl ⟨G0, (FR.rf (cs := []) (ss := []) (h := h0))⟩
abbrev P_X5_draw (h0 : m_H) (a1 : Int) : m_H → Prop := fun h' => GI h' ∧ FR [106] [(105, 1)] h0 h'
def q_X5_draw (h0 : m_H) (a1 : Int) (n : Nat) : Prop := (∀ (l2 l3 : Int) (h : m_H), GI h → FR [106] [(105, 1)] h0 h → 0 ≤ l2 → l2 ≤ 1000002 → 0 ≤ l3 → l3 ≤ 32 → 2 * (32 - l3) + (1) ≤ (n : Int) → m_Z oF M_X5_draw 4 [some (mR 105), none, some (mI l2), some (mI l3)] [] h (m_QV (P_X5_draw h0 a1)))
set_option maxHeartbeats 4000000 in
set_option maxRecDepth 100000 in
theorem s_X5_draw_4 (h0 : m_H) (a1 : Int) (G0 : GI h0) (pa1 : 0 ≤ a1 ∧ a1 ≤ 1000000) (n : Nat) (ih : q_X5_draw h0 a1 n) : ∀ (l2 l3 : Int) (h : m_H), GI h → FR [106] [(105, 1)] h0 h → 0 ≤ l2 → l2 ≤ 1000002 → 0 ≤ l3 → l3 ≤ 32 → 2 * (32 - l3) + (1) ≤ ((n + 1 : Nat) : Int) → m_Z oF M_X5_draw 4 [some (mR 105), none, some (mI l2), some (mI l3)] [] h (m_QV (P_X5_draw h0 a1)) := by
  intro l2 l3 h G R v0 v1 v2 v3 hr
  refine z_iload_n (M := M_X5_draw) 4 dX5_draw_4 rfl ?_
  refine z_bipush (M := M_X5_draw) 5 dX5_draw_5 ?_
  refine z_icmp_ge (M := M_X5_draw) 7 dX5_draw_7 38 rfl (fun c1 => ?_) (fun c1 => ?_)
  · refine z_aload_n (M := M_X5_draw) 38 dX5_draw_38 rfl ?_
    refine z_iconst (M := M_X5_draw) 39 dX5_draw_39 ?_
    refine z_putZH (M := M_X5_draw) 40 dX5_draw_40 p_X5_16 o_105 rfl (by omega) (u_105_1 G (by omega) (by omega)) (R.up rfl) (fun h1 E1 G1 R1 => ?_)
    exact z_retV (M := M_X5_draw) 43 dX5_draw_43 rfl ⟨G1, R1⟩
  · refine z_iload_n (M := M_X5_draw) 10 dX5_draw_10 rfl ?_
    refine z_sipush (M := M_X5_draw) 11 dX5_draw_11 ?_
    refine z_imulN (M := M_X5_draw) 14 dX5_draw_14 (by omega) (by omega) ?_
    refine z_sipush (M := M_X5_draw) 15 dX5_draw_15 ?_
    refine z_iaddN (M := M_X5_draw) 18 dX5_draw_18 (by omega) (by omega) ?_
    refine z_ldc (M := M_X5_draw) 19 dX5_draw_19 k_X5_15 ?_
    refine z_iremN (M := M_X5_draw) 21 dX5_draw_21 (by omega) (by omega) ?_
    refine z_topBI (lo := 0) (hi := 1000002) ⟨by omega, by omega⟩ (fun x2 ex2 ax2 bx2 => ?_)
    refine z_istore_n (M := M_X5_draw) 22 dX5_draw_22 (ls' := [some (mR 105), none, some (mI x2), some (mI l3)]) (by decide) rfl ?_
    refine z_aload_n (M := M_X5_draw) 23 dX5_draw_23 rfl ?_
    refine z_getR (M := M_X5_draw) 24 dX5_draw_24 f_X5_9 o_105 rfl (g_105_0 G) ?_
    refine z_iload_n (M := M_X5_draw) 27 dX5_draw_27 rfl ?_
    refine z_iload_n (M := M_X5_draw) 28 dX5_draw_28 rfl ?_
    refine z_iconst (M := M_X5_draw) 29 dX5_draw_29 ?_
    refine z_iremN (M := M_X5_draw) 30 dX5_draw_30 (by omega) (by omega) ?_
    refine z_topBI (lo := 0) (hi := 3) ⟨by omega, by omega⟩ (fun x3 ex3 ax3 bx3 => ?_)
    refine z_iastH (M := M_X5_draw) 31 dX5_draw_31 o_106 (by omega) (by omega) (u_106 G (by omega) (by omega)) (R.up rfl) (fun h2 E2 G2 R2 => ?_)
    refine z_iincN (M := M_X5_draw) 32 dX5_draw_32 (ls' := [some (mR 105), none, some (mI x2), some (mI (l3 + 1))]) (by decide) rfl (by (unfold m_32; decide)) (by omega) (by omega) rfl ?_
    refine z_goto (M := M_X5_draw) 35 dX5_draw_35 4 rfl ?_
    exact z_mask [true, false, true, true] rfl (ih x2 (l3 + 1) h2 G2 R2 (by omega) (by omega) (by omega) (by omega) (by omega))
theorem a_X5_draw (h0 : m_H) (a1 : Int) (G0 : GI h0) (pa1 : 0 ≤ a1 ∧ a1 ≤ 1000000) : ∀ n, q_X5_draw h0 a1 n := by
  intro n
  induction n with
  | zero => unfold q_X5_draw; intros; omega
  | succ n ih => exact s_X5_draw_4 h0 a1 G0 pa1 n ih
set_option maxHeartbeats 4000000 in
set_option maxRecDepth 100000 in
theorem c_X5_draw (h0 : m_H) (a1 : Int) (G0 : GI h0) (pa1 : 0 ≤ a1 ∧ a1 ≤ 1000000) : m_CV M_X5_draw [mR 105, mI a1] h0 (P_X5_draw h0 a1) := by
  refine m_CV_of ⟨by decide, rfl, by simp [m_arg, m_isL, M_X5_draw], ⟨rfl, rfl⟩, rfl, rfl⟩ (ls := [some (mR 105), some (mI a1), none, none]) rfl ?_
  have ih := a_X5_draw h0 a1 G0 pa1 72
  refine z_iload_n (M := M_X5_draw) 0 dX5_draw_0 rfl ?_
  refine z_istore_n (M := M_X5_draw) 1 dX5_draw_1 (ls' := [some (mR 105), some (mI a1), some (mI a1), none]) (by decide) rfl ?_
  refine z_iconst (M := M_X5_draw) 2 dX5_draw_2 ?_
  refine z_istore_n (M := M_X5_draw) 3 dX5_draw_3 (ls' := [some (mR 105), some (mI a1), some (mI a1), some (mI 0)]) (by decide) rfl ?_
  exact z_mask [true, false, true, true] rfl (ih a1 0 h0 G0 (FR.rf (cs := [106]) (ss := [(105, 1)]) (h := h0)) (by omega) (by omega) (by omega) (by omega) (by omega))
abbrev P_X5_bestTrade (h0 : m_H) (L : Nat) (a2 : Int) : Int → m_H → Prop := fun x h' => GI h' ∧ FR [] [(105, 2), (105, 3)] h0 h' ∧ 0 ≤ x ∧ x ≤ 2147483647
def q_X5_bestTrade (h0 : m_H) (L : Nat) (a2 : Int) (n : Nat) : Prop := (∀ (l3 l4 : Int) (h : m_H), GI h → FR [] [(105, 2), (105, 3)] h0 h → 0 ≤ l3 → l3 ≤ 2147483647 → 0 ≤ l4 → l4 ≤ 32 → 67 * (32 - l4) + (66) ≤ (n : Int) → m_Z oF M_X5_bestTrade 15 [some (mR 105), some (mR L), some (mI a2), some (mI l3), some (mI l4), none, none, none] [] h (m_QI (P_X5_bestTrade h0 L a2))) ∧ (∀ (l3 l4 l5 l6 : Int) (h : m_H), GI h → FR [] [(105, 2), (105, 3)] h0 h → 0 ≤ l3 → l3 ≤ 2147483647 → 0 ≤ l4 → l4 ≤ 31 → 1 ≤ l6 → l6 ≤ 32 → 67 * (32 - l4) + 2 * (32 - l6) + (1) ≤ (n : Int) → m_Z oF M_X5_bestTrade 42 [some (mR 105), some (mR L), some (mI a2), some (mI l3), some (mI l4), some (mI l5), some (mI l6), none] [] h (m_QI (P_X5_bestTrade h0 L a2)))
set_option maxHeartbeats 4000000 in
set_option maxRecDepth 100000 in
theorem s_X5_bestTrade_15 (h0 : m_H) (L : Nat) (a2 : Int) (hL : isL L) (G0 : GI h0) (pa2 : 0 ≤ a2 ∧ a2 ≤ 5) (n : Nat) (ih : q_X5_bestTrade h0 L a2 n) : ∀ (l3 l4 : Int) (h : m_H), GI h → FR [] [(105, 2), (105, 3)] h0 h → 0 ≤ l3 → l3 ≤ 2147483647 → 0 ≤ l4 → l4 ≤ 32 → 67 * (32 - l4) + (66) ≤ ((n + 1 : Nat) : Int) → m_Z oF M_X5_bestTrade 15 [some (mR 105), some (mR L), some (mI a2), some (mI l3), some (mI l4), none, none, none] [] h (m_QI (P_X5_bestTrade h0 L a2)) := by
  intro l3 l4 h G R v0 v1 v2 v3 hr
  refine z_iload (M := M_X5_bestTrade) 15 dX5_bestTrade_15 rfl ?_
  refine z_bipush (M := M_X5_bestTrade) 17 dX5_bestTrade_17 ?_
  refine z_icmp_ge (M := M_X5_bestTrade) 19 dX5_bestTrade_19 99 rfl (fun c1 => ?_) (fun c1 => ?_)
  · refine z_iload_n (M := M_X5_bestTrade) 99 dX5_bestTrade_99 rfl ?_
    exact z_retI (M := M_X5_bestTrade) 100 dX5_bestTrade_100 rfl ⟨G, R, by omega, by omega⟩
  · refine z_aload_n (M := M_X5_bestTrade) 22 dX5_bestTrade_22 rfl ?_
    refine z_iload_n (M := M_X5_bestTrade) 23 dX5_bestTrade_23 rfl ?_
    refine z_aload_n (M := M_X5_bestTrade) 24 dX5_bestTrade_24 rfl ?_
    refine z_getR (M := M_X5_bestTrade) 25 dX5_bestTrade_25 f_X5_9 o_105 rfl (g_105_0 G) ?_
    refine z_iload (M := M_X5_bestTrade) 28 dX5_bestTrade_28 rfl ?_
    refine z_ialdG (M := M_X5_bestTrade) 30 dX5_bestTrade_30 o_106 (by omega) (by omega) (g_106 G (by omega)) (fun x2 ex2 ax2 bx2 => ?_)
    refine z_vI (M := M_X5_bestTrade) 31 dX5_bestTrade_31 t_X4_wholeFeet l_X5_27 (m_rr_of rfl) (rest := []) (c_X4_wholeFeet h L a2 x2 hL G ⟨by omega, by omega⟩ ⟨by omega, by omega⟩) (oL hL) rfl rfl rfl (Nat.le_of_ble_eq_true rfl) ⟨rfl, rfl⟩ (fun x3 h1 qx3 => ?_)
    obtain ⟨G1, S1⟩ := qx3
    have R1 := R.call S1 (by decide +kernel)
    refine z_ok (fun ox3 _ _ => ?_)
    have ox3 := ox3.1; unfold m_ok m_32 at ox3
    refine z_istore (M := M_X5_bestTrade) 34 dX5_bestTrade_34 (ls' := [some (mR 105), some (mR L), some (mI a2), some (mI l3), some (mI l4), some (mI x3), none, none]) (by decide) rfl ?_
    refine z_iload (M := M_X5_bestTrade) 36 dX5_bestTrade_36 rfl ?_
    refine z_iconst (M := M_X5_bestTrade) 38 dX5_bestTrade_38 ?_
    refine z_iaddN (M := M_X5_bestTrade) 39 dX5_bestTrade_39 (by omega) (by omega) ?_
    refine z_istore (M := M_X5_bestTrade) 40 dX5_bestTrade_40 (ls' := [some (mR 105), some (mR L), some (mI a2), some (mI l3), some (mI l4), some (mI x3), some (mI (l4 + 1)), none]) (by decide) rfl ?_
    exact z_mask [true, true, true, true, true, true, true, false] rfl (ih.2 l3 l4 x3 (l4 + 1) h1 G1 R1 (by omega) (by omega) (by omega) (by omega) (by omega) (by omega) (by omega))
set_option maxHeartbeats 4000000 in
set_option maxRecDepth 100000 in
theorem s_X5_bestTrade_42 (h0 : m_H) (L : Nat) (a2 : Int) (hL : isL L) (G0 : GI h0) (pa2 : 0 ≤ a2 ∧ a2 ≤ 5) (n : Nat) (ih : q_X5_bestTrade h0 L a2 n) : ∀ (l3 l4 l5 l6 : Int) (h : m_H), GI h → FR [] [(105, 2), (105, 3)] h0 h → 0 ≤ l3 → l3 ≤ 2147483647 → 0 ≤ l4 → l4 ≤ 31 → 1 ≤ l6 → l6 ≤ 32 → 67 * (32 - l4) + 2 * (32 - l6) + (1) ≤ ((n + 1 : Nat) : Int) → m_Z oF M_X5_bestTrade 42 [some (mR 105), some (mR L), some (mI a2), some (mI l3), some (mI l4), some (mI l5), some (mI l6), none] [] h (m_QI (P_X5_bestTrade h0 L a2)) := by
  intro l3 l4 l5 l6 h G R v0 v1 v2 v3 v4 v5 hr
  refine z_ok (fun ostk _ olocs => ?_)
  have ol5 : m_32 l5 := olocs 5 _ rfl
  unfold m_32 at ol5
  refine z_iload (M := M_X5_bestTrade) 42 dX5_bestTrade_42 rfl ?_
  refine z_bipush (M := M_X5_bestTrade) 44 dX5_bestTrade_44 ?_
  refine z_icmp_ge (M := M_X5_bestTrade) 46 dX5_bestTrade_46 93 rfl (fun c1 => ?_) (fun c1 => ?_)
  · refine z_iincN (M := M_X5_bestTrade) 93 dX5_bestTrade_93 (ls' := [some (mR 105), some (mR L), some (mI a2), some (mI l3), some (mI (l4 + 1)), some (mI l5), some (mI l6), none]) (by decide) rfl (by (unfold m_32; decide)) (by omega) (by omega) rfl ?_
    refine z_goto (M := M_X5_bestTrade) 96 dX5_bestTrade_96 15 rfl ?_
    exact z_mask [true, true, true, true, true, false, false, false] rfl (ih.1 l3 (l4 + 1) h G R (by omega) (by omega) (by omega) (by omega) (by omega))
  · refine z_aload_n (M := M_X5_bestTrade) 49 dX5_bestTrade_49 rfl ?_
    refine z_iload_n (M := M_X5_bestTrade) 50 dX5_bestTrade_50 rfl ?_
    refine z_aload_n (M := M_X5_bestTrade) 51 dX5_bestTrade_51 rfl ?_
    refine z_getR (M := M_X5_bestTrade) 52 dX5_bestTrade_52 f_X5_9 o_105 rfl (g_105_0 G) ?_
    refine z_iload (M := M_X5_bestTrade) 55 dX5_bestTrade_55 rfl ?_
    refine z_ialdG (M := M_X5_bestTrade) 57 dX5_bestTrade_57 o_106 (by omega) (by omega) (g_106 G (by omega)) (fun x2 ex2 ax2 bx2 => ?_)
    refine z_vI (M := M_X5_bestTrade) 58 dX5_bestTrade_58 t_X4_wholeFeet l_X5_27 (m_rr_of rfl) (rest := []) (c_X4_wholeFeet h L a2 x2 hL G ⟨by omega, by omega⟩ ⟨by omega, by omega⟩) (oL hL) rfl rfl rfl (Nat.le_of_ble_eq_true rfl) ⟨rfl, rfl⟩ (fun x3 h1 qx3 => ?_)
    obtain ⟨G1, S1⟩ := qx3
    have R1 := R.call S1 (by decide +kernel)
    refine z_ok (fun ox3 _ _ => ?_)
    have ox3 := ox3.1; unfold m_ok m_32 at ox3
    refine z_iload (M := M_X5_bestTrade) 61 dX5_bestTrade_61 rfl ?_
    refine z_isub (M := M_X5_bestTrade) 63 dX5_bestTrade_63 ?_
    refine z_topm (fun x4 ex4 ox4 => ?_)
    unfold m_32 at ox4
    refine z_istore (M := M_X5_bestTrade) 64 dX5_bestTrade_64 (ls' := [some (mR 105), some (mR L), some (mI a2), some (mI l3), some (mI l4), some (mI l5), some (mI l6), some (mI x4)]) (by decide) rfl ?_
    refine z_iload (M := M_X5_bestTrade) 66 dX5_bestTrade_66 rfl ?_
    refine z_iload_n (M := M_X5_bestTrade) 68 dX5_bestTrade_68 rfl ?_
    refine z_icmp_le (M := M_X5_bestTrade) 69 dX5_bestTrade_69 87 rfl (fun c5 => ?_) (fun c5 => ?_)
    · refine z_iincN (M := M_X5_bestTrade) 87 dX5_bestTrade_87 (ls' := [some (mR 105), some (mR L), some (mI a2), some (mI l3), some (mI l4), some (mI l5), some (mI (l6 + 1)), some (mI x4)]) (by decide) rfl (by (unfold m_32; decide)) (by omega) (by omega) rfl ?_
      refine z_goto (M := M_X5_bestTrade) 90 dX5_bestTrade_90 42 rfl ?_
      exact z_mask [true, true, true, true, true, true, true, false] rfl (ih.2 l3 l4 l5 (l6 + 1) h1 G1 R1 (by omega) (by omega) (by omega) (by omega) (by omega) (by omega) (by omega))
    · refine z_iload (M := M_X5_bestTrade) 72 dX5_bestTrade_72 rfl ?_
      refine z_istore_n (M := M_X5_bestTrade) 74 dX5_bestTrade_74 (ls' := [some (mR 105), some (mR L), some (mI a2), some (mI x4), some (mI l4), some (mI l5), some (mI l6), some (mI x4)]) (by decide) rfl ?_
      refine z_aload_n (M := M_X5_bestTrade) 75 dX5_bestTrade_75 rfl ?_
      refine z_iload (M := M_X5_bestTrade) 76 dX5_bestTrade_76 rfl ?_
      refine z_putIH (M := M_X5_bestTrade) 78 dX5_bestTrade_78 p_X5_20 o_105 rfl (u_105_2 G1) (R1.up rfl) (fun h2 E2 G2 R2 => ?_)
      refine z_aload_n (M := M_X5_bestTrade) 81 dX5_bestTrade_81 rfl ?_
      refine z_iload (M := M_X5_bestTrade) 82 dX5_bestTrade_82 rfl ?_
      refine z_putIH (M := M_X5_bestTrade) 84 dX5_bestTrade_84 p_X5_24 o_105 rfl (u_105_3 G2) (R2.up rfl) (fun h3 E3 G3 R3 => ?_)
      refine z_iincN (M := M_X5_bestTrade) 87 dX5_bestTrade_87 (ls' := [some (mR 105), some (mR L), some (mI a2), some (mI x4), some (mI l4), some (mI l5), some (mI (l6 + 1)), some (mI x4)]) (by decide) rfl (by (unfold m_32; decide)) (by omega) (by omega) rfl ?_
      refine z_goto (M := M_X5_bestTrade) 90 dX5_bestTrade_90 42 rfl ?_
      exact z_mask [true, true, true, true, true, true, true, false] rfl (ih.2 x4 l4 l5 (l6 + 1) h3 G3 R3 (by omega) (by omega) (by omega) (by omega) (by omega) (by omega) (by omega))
theorem a_X5_bestTrade (h0 : m_H) (L : Nat) (a2 : Int) (hL : isL L) (G0 : GI h0) (pa2 : 0 ≤ a2 ∧ a2 ≤ 5) : ∀ n, q_X5_bestTrade h0 L a2 n := by
  intro n
  induction n with
  | zero => unfold q_X5_bestTrade; refine ⟨?_, ?_⟩ <;> (intros; omega)
  | succ n ih => exact ⟨s_X5_bestTrade_15 h0 L a2 hL G0 pa2 n ih, s_X5_bestTrade_42 h0 L a2 hL G0 pa2 n ih⟩
set_option maxHeartbeats 4000000 in
set_option maxRecDepth 100000 in
theorem c_X5_bestTrade (h0 : m_H) (L : Nat) (a2 : Int) (hL : isL L) (G0 : GI h0) (pa2 : 0 ≤ a2 ∧ a2 ≤ 5) : m_CI M_X5_bestTrade [mR 105, mR L, mI a2] h0 (P_X5_bestTrade h0 L a2) := by
  refine m_CI_of ⟨by decide, rfl, by simp [m_arg, m_isL, M_X5_bestTrade], ⟨rfl, rfl⟩, rfl, rfl⟩ (ls := [some (mR 105), some (mR L), some (mI a2), none, none, none, none, none]) rfl ?_
  have ih := a_X5_bestTrade h0 L a2 hL G0 pa2 2217
  refine z_iconst (M := M_X5_bestTrade) 0 dX5_bestTrade_0 ?_
  refine z_istore_n (M := M_X5_bestTrade) 1 dX5_bestTrade_1 (ls' := [some (mR 105), some (mR L), some (mI a2), some (mI 0), none, none, none, none]) (by decide) rfl ?_
  refine z_aload_n (M := M_X5_bestTrade) 2 dX5_bestTrade_2 rfl ?_
  refine z_iconst (M := M_X5_bestTrade) 3 dX5_bestTrade_3 ?_
  refine z_putIH (M := M_X5_bestTrade) 4 dX5_bestTrade_4 p_X5_20 o_105 rfl (u_105_2 G0) ((FR.rf (cs := []) (ss := [(105, 2), (105, 3)]) (h := h0)).up rfl) (fun h1 E1 G1 R1 => ?_)
  refine z_aload_n (M := M_X5_bestTrade) 7 dX5_bestTrade_7 rfl ?_
  refine z_iconst (M := M_X5_bestTrade) 8 dX5_bestTrade_8 ?_
  refine z_putIH (M := M_X5_bestTrade) 9 dX5_bestTrade_9 p_X5_24 o_105 rfl (u_105_3 G1) (R1.up rfl) (fun h2 E2 G2 R2 => ?_)
  refine z_iconst (M := M_X5_bestTrade) 12 dX5_bestTrade_12 ?_
  refine z_istore (M := M_X5_bestTrade) 13 dX5_bestTrade_13 (ls' := [some (mR 105), some (mR L), some (mI a2), some (mI 0), some (mI 0), none, none, none]) (by decide) rfl ?_
  exact z_mask [true, true, true, true, true, false, false, false] rfl (ih.1 0 0 h2 G2 R2 (by omega) (by omega) (by omega) (by omega) (by omega))
abbrev P_X11_year (h0 : m_H) (a1 a2 a3 : Int) : Int → m_H → Prop := fun x h' => GI h' ∧ FR [106, 107] [(0, 14), (105, 1), (105, 2), (105, 3)] h0 h'
set_option maxHeartbeats 4000000 in
set_option maxRecDepth 100000 in
theorem c_X11_year (h0 : m_H) (a1 a2 a3 : Int) (G0 : GI h0) : m_CI M_X11_year [mR 0, mI a1, mI a2, mI a3] h0 (P_X11_year h0 a1 a2 a3) := by
  refine m_CI_of ⟨by decide, rfl, by simp [m_arg, m_isL, M_X11_year], ⟨rfl, rfl⟩, rfl, rfl⟩ (ls := [some (mR 0), some (mI a1), some (mI a2), some (mI a3)]) rfl ?_
  refine z_ok (fun _ _ ok => ?_)
  have oa1 : m_32 a1 := ok 1 _ rfl
  unfold m_32 at oa1
  have oa2 : m_32 a2 := ok 2 _ rfl
  unfold m_32 at oa2
  have oa3 : m_32 a3 := ok 3 _ rfl
  unfold m_32 at oa3
  refine z_iload_n (M := M_X11_year) 0 dX11_year_0 rfl ?_
  refine z_iconst (M := M_X11_year) 1 dX11_year_1 ?_
  refine z_ldcw (M := M_X11_year) 2 dX11_year_2 k_X11_392 ?_
  refine z_sI (M := M_X11_year) 5 dX11_year_5 t_X11_within l_X11_112 (m_rr_of rfl) (rest := []) (c_X11_within h0 a1 0 1000000 G0) rfl rfl (Nat.le_of_ble_eq_true rfl) ⟨rfl, rfl⟩ (fun x1 h1 qx1 => ?_)
  obtain ⟨rfl, ⟨rfl, cx1⟩ | ⟨rfl, cx1⟩⟩ := qx1
  · refine z_if_eq_F (M := M_X11_year) 8 dX11_year_8 28 rfl (by omega) ?_
    refine z_iload_n (M := M_X11_year) 11 dX11_year_11 rfl ?_
    refine z_sI (M := M_X11_year) 12 dX11_year_12 t_X11_isThing l_X11_126 (m_rr_of rfl) (rest := []) (c_X11_isThing h0 a2 G0) rfl rfl (Nat.le_of_ble_eq_true rfl) ⟨rfl, rfl⟩ (fun x2 h2 qx2 => ?_)
    obtain ⟨rfl, ⟨rfl, cx2⟩ | ⟨rfl, cx2⟩⟩ := qx2
    · refine z_if_eq_F (M := M_X11_year) 15 dX11_year_15 28 rfl (by omega) ?_
      refine z_iload_n (M := M_X11_year) 18 dX11_year_18 rfl ?_
      refine z_iconst (M := M_X11_year) 19 dX11_year_19 ?_
      refine z_bipush (M := M_X11_year) 20 dX11_year_20 ?_
      refine z_sI (M := M_X11_year) 22 dX11_year_22 t_X11_within l_X11_112 (m_rr_of rfl) (rest := []) (c_X11_within h0 a3 1 99 G0) rfl rfl (Nat.le_of_ble_eq_true rfl) ⟨rfl, rfl⟩ (fun x3 h3 qx3 => ?_)
      obtain ⟨rfl, ⟨rfl, cx3⟩ | ⟨rfl, cx3⟩⟩ := qx3
      · refine z_if_ne_T (M := M_X11_year) 25 dX11_year_25 34 rfl (by omega) ?_
        refine z_aload_n (M := M_X11_year) 34 dX11_year_34 rfl ?_
        refine z_getR (M := M_X11_year) 35 dX11_year_35 f_X11_90 o_0 rfl (g_0_12 G0) ?_
        refine z_iload_n (M := M_X11_year) 38 dX11_year_38 rfl ?_
        refine z_vV (M := M_X11_year) 39 dX11_year_39 t_X5_draw l_X11_393 (m_rr_of rfl) (rest := []) (c_X5_draw h0 a1 G0 ⟨by omega, by omega⟩) o_105 rfl rfl rfl (Nat.le_of_ble_eq_true rfl) ⟨rfl, rfl⟩ (fun h4 qx4 => ?_)
        obtain ⟨G4, S4⟩ := qx4
        have R4 := (FR.rf (cs := [106, 107]) (ss := [(0, 14), (105, 1), (105, 2), (105, 3)]) (h := h0)).call S4 (by decide +kernel)
        refine z_aload_n (M := M_X11_year) 42 dX11_year_42 rfl ?_
        refine z_iload_n (M := M_X11_year) 43 dX11_year_43 rfl ?_
        refine z_aload_n (M := M_X11_year) 44 dX11_year_44 rfl ?_
        refine z_getR (M := M_X11_year) 45 dX11_year_45 f_X11_90 o_0 rfl (g_0_12 G4) ?_
        refine z_aload_n (M := M_X11_year) 48 dX11_year_48 rfl ?_
        refine z_getR (M := M_X11_year) 49 dX11_year_49 f_X11_12 o_0 rfl (g_0_0 G4) ?_
        refine z_iload_n (M := M_X11_year) 52 dX11_year_52 rfl ?_
        refine z_vI (M := M_X11_year) 53 dX11_year_53 t_X5_bestTrade l_X11_396 (m_rr_of rfl) (rest := [mI a3, mR 0]) (c_X5_bestTrade h4 1 a2 (Or.inl rfl) G4 ⟨by omega, by omega⟩) o_105 rfl rfl rfl (Nat.le_of_ble_eq_true rfl) ⟨rfl, rfl⟩ (fun x5 h5 qx5 => ?_)
        obtain ⟨G5, S5, ax5, bx5⟩ := qx5
        have R5 := R4.call S5 (by decide +kernel)
        refine z_imul (M := M_X11_year) 56 dX11_year_56 ?_
        refine z_topm (fun x6 ex6 ox6 => ?_)
        unfold m_32 at ox6
        refine z_vI (M := M_X11_year) 57 dX11_year_57 t_X11_accept l_X11_123 (m_rr_of rfl) (rest := []) (c_X11_accept h5 x6 G5) o_0 rfl rfl rfl (Nat.le_of_ble_eq_true rfl) ⟨rfl, rfl⟩ (fun x7 h6 qx7 => ?_)
        obtain ⟨G6, S6, rfl⟩ := qx7
        have R6 := R5.call S6 (by decide +kernel)
        exact z_retI (M := M_X11_year) 60 dX11_year_60 rfl ⟨G6, R6⟩
      · refine z_if_ne_F (M := M_X11_year) 25 dX11_year_25 34 rfl (by omega) ?_
        refine z_aload_n (M := M_X11_year) 28 dX11_year_28 rfl ?_
        refine z_iconst (M := M_X11_year) 29 dX11_year_29 ?_
        refine z_vI (M := M_X11_year) 30 dX11_year_30 t_X11_refuse l_X11_116 (m_rr_of rfl) (rest := []) (c_X11_refuse h0 (-1) G0 ⟨by omega, by omega⟩) o_0 rfl rfl rfl (Nat.le_of_ble_eq_true rfl) ⟨rfl, rfl⟩ (fun x8 h7 qx8 => ?_)
        obtain ⟨G7, S7, rfl⟩ := qx8
        have R7 := (FR.rf (cs := [106, 107]) (ss := [(0, 14), (105, 1), (105, 2), (105, 3)]) (h := h0)).call S7 (by decide +kernel)
        exact z_retI (M := M_X11_year) 33 dX11_year_33 rfl ⟨G7, R7⟩
    · refine z_if_eq_T (M := M_X11_year) 15 dX11_year_15 28 rfl (by omega) ?_
      refine z_aload_n (M := M_X11_year) 28 dX11_year_28 rfl ?_
      refine z_iconst (M := M_X11_year) 29 dX11_year_29 ?_
      refine z_vI (M := M_X11_year) 30 dX11_year_30 t_X11_refuse l_X11_116 (m_rr_of rfl) (rest := []) (c_X11_refuse h0 (-1) G0 ⟨by omega, by omega⟩) o_0 rfl rfl rfl (Nat.le_of_ble_eq_true rfl) ⟨rfl, rfl⟩ (fun x9 h8 qx9 => ?_)
      obtain ⟨G8, S8, rfl⟩ := qx9
      have R8 := (FR.rf (cs := [106, 107]) (ss := [(0, 14), (105, 1), (105, 2), (105, 3)]) (h := h0)).call S8 (by decide +kernel)
      exact z_retI (M := M_X11_year) 33 dX11_year_33 rfl ⟨G8, R8⟩
  · refine z_if_eq_T (M := M_X11_year) 8 dX11_year_8 28 rfl (by omega) ?_
    refine z_aload_n (M := M_X11_year) 28 dX11_year_28 rfl ?_
    refine z_iconst (M := M_X11_year) 29 dX11_year_29 ?_
    refine z_vI (M := M_X11_year) 30 dX11_year_30 t_X11_refuse l_X11_116 (m_rr_of rfl) (rest := []) (c_X11_refuse h0 (-1) G0 ⟨by omega, by omega⟩) o_0 rfl rfl rfl (Nat.le_of_ble_eq_true rfl) ⟨rfl, rfl⟩ (fun x10 h9 qx10 => ?_)
    obtain ⟨G9, S9, rfl⟩ := qx10
    have R9 := (FR.rf (cs := [106, 107]) (ss := [(0, 14), (105, 1), (105, 2), (105, 3)]) (h := h0)).call S9 (by decide +kernel)
    exact z_retI (M := M_X11_year) 33 dX11_year_33 rfl ⟨G9, R9⟩
abbrev P_X0_unite (h0 : m_H) (a1 a2 : Int) : m_H → Prop := fun h' => GI h' ∧ FR [100] [] h0 h'
def q_X0_unite (h0 : m_H) (a1 a2 : Int) (n : Nat) : Prop := (∀ (l3 l4 l5 : Int) (h : m_H), GI h → FR [100] [] h0 h → 0 ≤ l5 → l5 ≤ 16 → 2 * (16 - l5) + (1) ≤ (n : Int) → m_Z oF M_X0_unite 36 [some (mR 99), none, none, some (mI l3), some (mI l4), some (mI l5)] [] h (m_QV (P_X0_unite h0 a1 a2)))
set_option maxHeartbeats 4000000 in
set_option maxRecDepth 100000 in
theorem s_X0_unite_36 (h0 : m_H) (a1 a2 : Int) (G0 : GI h0) (pa1 : 0 ≤ a1 ∧ a1 ≤ 15) (pa2 : 0 ≤ a2 ∧ a2 ≤ 15) (n : Nat) (ih : q_X0_unite h0 a1 a2 n) : ∀ (l3 l4 l5 : Int) (h : m_H), GI h → FR [100] [] h0 h → 0 ≤ l5 → l5 ≤ 16 → 2 * (16 - l5) + (1) ≤ ((n + 1 : Nat) : Int) → m_Z oF M_X0_unite 36 [some (mR 99), none, none, some (mI l3), some (mI l4), some (mI l5)] [] h (m_QV (P_X0_unite h0 a1 a2)) := by
  intro l3 l4 l5 h G R v0 v1 hr
  refine z_ok (fun ostk _ olocs => ?_)
  have ol3 : m_32 l3 := olocs 3 _ rfl
  unfold m_32 at ol3
  have ol4 : m_32 l4 := olocs 4 _ rfl
  unfold m_32 at ol4
  refine z_iload (M := M_X0_unite) 36 dX0_unite_36 rfl ?_
  refine z_bipush (M := M_X0_unite) 38 dX0_unite_38 ?_
  refine z_icmp_ge (M := M_X0_unite) 40 dX0_unite_40 69 rfl (fun c1 => ?_) (fun c1 => ?_)
  · exact z_retV (M := M_X0_unite) 69 dX0_unite_69 rfl ⟨G, R⟩
  · refine z_aload_n (M := M_X0_unite) 43 dX0_unite_43 rfl ?_
    refine z_getR (M := M_X0_unite) 44 dX0_unite_44 f_X0_9 o_99 rfl (g_99_0 G) ?_
    refine z_iload (M := M_X0_unite) 47 dX0_unite_47 rfl ?_
    refine z_ialdV (M := M_X0_unite) 49 dX0_unite_49 o_100 (by omega) (by omega) (fun x2 ex2 => ?_)
    refine z_ok (fun ox2 _ _ => ?_)
    have ox2 := ox2.1; unfold m_ok m_32 at ox2
    refine z_iload (M := M_X0_unite) 50 dX0_unite_50 rfl ?_
    refine z_icmp_ne (M := M_X0_unite) 52 dX0_unite_52 63 rfl (fun c3 => ?_) (fun c3 => ?_)
    · refine z_iincN (M := M_X0_unite) 63 dX0_unite_63 (ls' := [some (mR 99), none, none, some (mI l3), some (mI l4), some (mI (l5 + 1))]) (by decide) rfl (by (unfold m_32; decide)) (by omega) (by omega) rfl ?_
      refine z_goto (M := M_X0_unite) 66 dX0_unite_66 36 rfl ?_
      exact z_mask [true, false, false, true, true, true] rfl (ih l3 l4 (l5 + 1) h G R (by omega) (by omega) (by omega))
    · refine z_aload_n (M := M_X0_unite) 55 dX0_unite_55 rfl ?_
      refine z_getR (M := M_X0_unite) 56 dX0_unite_56 f_X0_9 o_99 rfl (g_99_0 G) ?_
      refine z_iload (M := M_X0_unite) 59 dX0_unite_59 rfl ?_
      refine z_iload_n (M := M_X0_unite) 61 dX0_unite_61 rfl ?_
      refine z_iastH (M := M_X0_unite) 62 dX0_unite_62 o_100 (by omega) (by omega) (u_100 G) (R.up rfl) (fun h1 E1 G1 R1 => ?_)
      refine z_iincN (M := M_X0_unite) 63 dX0_unite_63 (ls' := [some (mR 99), none, none, some (mI l3), some (mI l4), some (mI (l5 + 1))]) (by decide) rfl (by (unfold m_32; decide)) (by omega) (by omega) rfl ?_
      refine z_goto (M := M_X0_unite) 66 dX0_unite_66 36 rfl ?_
      exact z_mask [true, false, false, true, true, true] rfl (ih l3 l4 (l5 + 1) h1 G1 R1 (by omega) (by omega) (by omega))
theorem a_X0_unite (h0 : m_H) (a1 a2 : Int) (G0 : GI h0) (pa1 : 0 ≤ a1 ∧ a1 ≤ 15) (pa2 : 0 ≤ a2 ∧ a2 ≤ 15) : ∀ n, q_X0_unite h0 a1 a2 n := by
  intro n
  induction n with
  | zero => unfold q_X0_unite; intros; omega
  | succ n ih => exact s_X0_unite_36 h0 a1 a2 G0 pa1 pa2 n ih
set_option maxHeartbeats 4000000 in
set_option maxRecDepth 100000 in
theorem c_X0_unite (h0 : m_H) (a1 a2 : Int) (G0 : GI h0) (pa1 : 0 ≤ a1 ∧ a1 ≤ 15) (pa2 : 0 ≤ a2 ∧ a2 ≤ 15) : m_CV M_X0_unite [mR 99, mI a1, mI a2] h0 (P_X0_unite h0 a1 a2) := by
  refine m_CV_of ⟨by decide, rfl, by simp [m_arg, m_isL, M_X0_unite], ⟨rfl, rfl⟩, rfl, rfl⟩ (ls := [some (mR 99), some (mI a1), some (mI a2), none, none, none]) rfl ?_
  have ih := a_X0_unite h0 a1 a2 G0 pa1 pa2 40
  refine z_aload_n (M := M_X0_unite) 0 dX0_unite_0 rfl ?_
  refine z_getR (M := M_X0_unite) 1 dX0_unite_1 f_X0_9 o_99 rfl (g_99_0 G0) ?_
  refine z_iload_n (M := M_X0_unite) 4 dX0_unite_4 rfl ?_
  refine z_ialdV (M := M_X0_unite) 5 dX0_unite_5 o_100 (by omega) (by omega) (fun x1 ex1 => ?_)
  refine z_ok (fun ox1 _ _ => ?_)
  have ox1 := ox1.1; unfold m_ok m_32 at ox1
  refine z_aload_n (M := M_X0_unite) 6 dX0_unite_6 rfl ?_
  refine z_getR (M := M_X0_unite) 7 dX0_unite_7 f_X0_9 o_99 rfl (g_99_0 G0) ?_
  refine z_iload_n (M := M_X0_unite) 10 dX0_unite_10 rfl ?_
  refine z_ialdV (M := M_X0_unite) 11 dX0_unite_11 o_100 (by omega) (by omega) (fun x2 ex2 => ?_)
  refine z_ok (fun ox2 _ _ => ?_)
  have ox2 := ox2.1; unfold m_ok m_32 at ox2
  refine z_minI (M := M_X0_unite) 12 dX0_unite_12 ml_X0_42 (rest := []) (Nat.le_of_ble_eq_true rfl) (Nat.le_of_ble_eq_true rfl) ?_
  refine z_topBI (lo := (-2147483648)) (hi := 2147483647) ⟨by split <;> omega, by split <;> omega⟩ (fun x3 ex3 ax3 bx3 => ?_)
  refine z_istore_n (M := M_X0_unite) 15 dX0_unite_15 (ls' := [some (mR 99), some (mI a1), some (mI a2), some (mI x3), none, none]) (by decide) rfl ?_
  refine z_aload_n (M := M_X0_unite) 16 dX0_unite_16 rfl ?_
  refine z_getR (M := M_X0_unite) 17 dX0_unite_17 f_X0_9 o_99 rfl (g_99_0 G0) ?_
  refine z_iload_n (M := M_X0_unite) 20 dX0_unite_20 rfl ?_
  refine z_ialdE (M := M_X0_unite) 21 dX0_unite_21 o_100 (by omega) (by omega) ex1 ?_
  refine z_aload_n (M := M_X0_unite) 22 dX0_unite_22 rfl ?_
  refine z_getR (M := M_X0_unite) 23 dX0_unite_23 f_X0_9 o_99 rfl (g_99_0 G0) ?_
  refine z_iload_n (M := M_X0_unite) 26 dX0_unite_26 rfl ?_
  refine z_ialdE (M := M_X0_unite) 27 dX0_unite_27 o_100 (by omega) (by omega) ex2 ?_
  refine z_maxI (M := M_X0_unite) 28 dX0_unite_28 ml_X0_48 (rest := []) (Nat.le_of_ble_eq_true rfl) (Nat.le_of_ble_eq_true rfl) ?_
  refine z_topBI (lo := (-2147483648)) (hi := 2147483647) ⟨by split <;> omega, by split <;> omega⟩ (fun x4 ex4 ax4 bx4 => ?_)
  refine z_istore (M := M_X0_unite) 31 dX0_unite_31 (ls' := [some (mR 99), some (mI a1), some (mI a2), some (mI x3), some (mI x4), none]) (by decide) rfl ?_
  refine z_iconst (M := M_X0_unite) 33 dX0_unite_33 ?_
  refine z_istore (M := M_X0_unite) 34 dX0_unite_34 (ls' := [some (mR 99), some (mI a1), some (mI a2), some (mI x3), some (mI x4), some (mI 0)]) (by decide) rfl ?_
  exact z_mask [true, false, false, true, true, true] rfl (ih x3 x4 0 h0 G0 (FR.rf (cs := [100]) (ss := []) (h := h0)) (by omega) (by omega) (by omega))
abbrev P_X0_bind (h0 : m_H) (L : Nat) : m_H → Prop := fun h' => GI h' ∧ FR [100] [] h0 h'
def q_X0_bind (h0 : m_H) (L : Nat) (n : Nat) : Prop := (∀ (l2 : Int) (h : m_H), GI h → FR [100] [] h0 h → 0 ≤ l2 → l2 ≤ 16 → 2 * (16 - l2) + (102) ≤ (n : Int) → m_Z oF M_X0_bind 2 [some (mR 99), some (mR L), some (mI l2), none] [] h (m_QV (P_X0_bind h0 L))) ∧ (∀ (l2 : Int) (h : m_H), GI h → FR [100] [] h0 h → 0 ≤ l2 → l2 ≤ 24 → 2 * (24 - l2) + (51) ≤ (n : Int) → m_Z oF M_X0_bind 23 [some (mR 99), some (mR L), some (mI l2), none] [] h (m_QV (P_X0_bind h0 L))) ∧ (∀ (l2 : Int) (h : m_H), GI h → FR [100] [] h0 h → 0 ≤ l2 → l2 ≤ 16 → 2 * (16 - l2) + (16) ≤ (n : Int) → m_Z oF M_X0_bind 63 [some (mR 99), some (mR L), some (mI l2), none] [] h (m_QV (P_X0_bind h0 L))) ∧ (∀ (l2 : Int) (h : m_H), GI h → FR [100] [] h0 h → 0 ≤ l2 → l2 ≤ 6 → 2 * (6 - l2) + (1) ≤ (n : Int) → m_Z oF M_X0_bind 104 [some (mR 99), some (mR L), some (mI l2), none] [] h (m_QV (P_X0_bind h0 L)))
set_option maxHeartbeats 4000000 in
set_option maxRecDepth 100000 in
theorem s_X0_bind_2 (h0 : m_H) (L : Nat) (hL : isL L) (G0 : GI h0) (n : Nat) (ih : q_X0_bind h0 L n) : ∀ (l2 : Int) (h : m_H), GI h → FR [100] [] h0 h → 0 ≤ l2 → l2 ≤ 16 → 2 * (16 - l2) + (102) ≤ ((n + 1 : Nat) : Int) → m_Z oF M_X0_bind 2 [some (mR 99), some (mR L), some (mI l2), none] [] h (m_QV (P_X0_bind h0 L)) := by
  intro l2 h G R v0 v1 hr
  refine z_iload_n (M := M_X0_bind) 2 dX0_bind_2 rfl ?_
  refine z_bipush (M := M_X0_bind) 3 dX0_bind_3 ?_
  refine z_icmp_ge (M := M_X0_bind) 5 dX0_bind_5 21 rfl (fun c1 => ?_) (fun c1 => ?_)
  · refine z_iconst (M := M_X0_bind) 21 dX0_bind_21 ?_
    refine z_istore_n (M := M_X0_bind) 22 dX0_bind_22 (ls' := [some (mR 99), some (mR L), some (mI 0), none]) (by decide) rfl ?_
    exact z_mask [true, true, true, false] rfl (ih.2.1 0 h G R (by omega) (by omega) (by omega))
  · refine z_aload_n (M := M_X0_bind) 8 dX0_bind_8 rfl ?_
    refine z_getR (M := M_X0_bind) 9 dX0_bind_9 f_X0_9 o_99 rfl (g_99_0 G) ?_
    refine z_iload_n (M := M_X0_bind) 12 dX0_bind_12 rfl ?_
    refine z_iload_n (M := M_X0_bind) 13 dX0_bind_13 rfl ?_
    refine z_iastH (M := M_X0_bind) 14 dX0_bind_14 o_100 (by omega) (by omega) (u_100 G) (R.up rfl) (fun h1 E1 G1 R1 => ?_)
    refine z_iincN (M := M_X0_bind) 15 dX0_bind_15 (ls' := [some (mR 99), some (mR L), some (mI (l2 + 1)), none]) (by decide) rfl (by (unfold m_32; decide)) (by omega) (by omega) rfl ?_
    refine z_goto (M := M_X0_bind) 18 dX0_bind_18 2 rfl ?_
    exact z_mask [true, true, true, false] rfl (ih.1 (l2 + 1) h1 G1 R1 (by omega) (by omega) (by omega))
set_option maxHeartbeats 4000000 in
set_option maxRecDepth 100000 in
theorem s_X0_bind_23 (h0 : m_H) (L : Nat) (hL : isL L) (G0 : GI h0) (n : Nat) (ih : q_X0_bind h0 L n) : ∀ (l2 : Int) (h : m_H), GI h → FR [100] [] h0 h → 0 ≤ l2 → l2 ≤ 24 → 2 * (24 - l2) + (51) ≤ ((n + 1 : Nat) : Int) → m_Z oF M_X0_bind 23 [some (mR 99), some (mR L), some (mI l2), none] [] h (m_QV (P_X0_bind h0 L)) := by
  intro l2 h G R v0 v1 hr
  refine z_iload_n (M := M_X0_bind) 23 dX0_bind_23 rfl ?_
  refine z_aload_n (M := M_X0_bind) 24 dX0_bind_24 rfl ?_
  refine z_getIG (M := M_X0_bind) 25 dX0_bind_25 f_X0_15 (oL hL) (by decide) (gL7 hL G) (fun x1 ex1 ax1 bx1 => ?_)
  refine z_icmp_ge (M := M_X0_bind) 28 dX0_bind_28 61 rfl (fun c2 => ?_) (fun c2 => ?_)
  · refine z_iconst (M := M_X0_bind) 61 dX0_bind_61 ?_
    refine z_istore_n (M := M_X0_bind) 62 dX0_bind_62 (ls' := [some (mR 99), some (mR L), some (mI 0), none]) (by decide) rfl ?_
    exact z_mask [true, true, true, false] rfl (ih.2.2.1 0 h G R (by omega) (by omega) (by omega))
  · refine z_aload_n (M := M_X0_bind) 31 dX0_bind_31 rfl ?_
    refine z_iload_n (M := M_X0_bind) 32 dX0_bind_32 rfl ?_
    refine z_vI (M := M_X0_bind) 33 dX0_bind_33 t_X4_keeperOf l_X0_21 (m_rr_of rfl) (rest := []) (c_X4_keeperOf h L l2 hL G ⟨by omega, by omega⟩) (oL hL) rfl rfl rfl (Nat.le_of_ble_eq_true rfl) ⟨rfl, rfl⟩ (fun x3 h1 qx3 => ?_)
    obtain ⟨G1, S1, ax3, bx3⟩ := qx3
    have R1 := R.call S1 (by decide +kernel)
    refine z_istore_n (M := M_X0_bind) 36 dX0_bind_36 (ls' := [some (mR 99), some (mR L), some (mI l2), some (mI x3)]) (by decide) rfl ?_
    refine z_iload_n (M := M_X0_bind) 37 dX0_bind_37 rfl ?_
    refine z_iconst (M := M_X0_bind) 38 dX0_bind_38 ?_
    refine z_icmp_eq (M := M_X0_bind) 39 dX0_bind_39 55 rfl (fun c4 => ?_) (fun c4 => ?_)
    · refine z_iincN (M := M_X0_bind) 55 dX0_bind_55 (ls' := [some (mR 99), some (mR L), some (mI (l2 + 1)), some (mI x3)]) (by decide) rfl (by (unfold m_32; decide)) (by omega) (by omega) rfl ?_
      refine z_goto (M := M_X0_bind) 58 dX0_bind_58 23 rfl ?_
      exact z_mask [true, true, true, false] rfl (ih.2.1 (l2 + 1) h1 G1 R1 (by omega) (by omega) (by omega))
    · refine z_aload_n (M := M_X0_bind) 42 dX0_bind_42 rfl ?_
      refine z_aload_n (M := M_X0_bind) 43 dX0_bind_43 rfl ?_
      refine z_iload_n (M := M_X0_bind) 44 dX0_bind_44 rfl ?_
      refine z_vI (M := M_X0_bind) 45 dX0_bind_45 t_X4_lengthOf l_X0_25 (m_rr_of rfl) (rest := [mR 99]) (c_X4_lengthOf h1 L l2 hL G1 ⟨by omega, by omega⟩) (oL hL) rfl rfl rfl (Nat.le_of_ble_eq_true rfl) ⟨rfl, rfl⟩ (fun x5 h2 qx5 => ?_)
      obtain ⟨G2, S2, ax5, bx5⟩ := qx5
      have R2 := R1.call S2 (by decide +kernel)
      refine z_bipush (M := M_X0_bind) 48 dX0_bind_48 ?_
      refine z_iload_n (M := M_X0_bind) 50 dX0_bind_50 rfl ?_
      refine z_iaddN (M := M_X0_bind) 51 dX0_bind_51 (by omega) (by omega) ?_
      refine z_vV (M := M_X0_bind) 52 dX0_bind_52 t_X0_unite l_X0_28 (m_rr_of rfl) (rest := []) (c_X0_unite h2 x5 (12 + x3) G2 ⟨by omega, by omega⟩ ⟨by omega, by omega⟩) o_99 rfl rfl rfl (Nat.le_of_ble_eq_true rfl) ⟨rfl, rfl⟩ (fun h3 qx6 => ?_)
      obtain ⟨G3, S3⟩ := qx6
      have R3 := R2.call S3 (by decide +kernel)
      refine z_iincN (M := M_X0_bind) 55 dX0_bind_55 (ls' := [some (mR 99), some (mR L), some (mI (l2 + 1)), some (mI x3)]) (by decide) rfl (by (unfold m_32; decide)) (by omega) (by omega) rfl ?_
      refine z_goto (M := M_X0_bind) 58 dX0_bind_58 23 rfl ?_
      exact z_mask [true, true, true, false] rfl (ih.2.1 (l2 + 1) h3 G3 R3 (by omega) (by omega) (by omega))
set_option maxHeartbeats 4000000 in
set_option maxRecDepth 100000 in
theorem s_X0_bind_63 (h0 : m_H) (L : Nat) (hL : isL L) (G0 : GI h0) (n : Nat) (ih : q_X0_bind h0 L n) : ∀ (l2 : Int) (h : m_H), GI h → FR [100] [] h0 h → 0 ≤ l2 → l2 ≤ 16 → 2 * (16 - l2) + (16) ≤ ((n + 1 : Nat) : Int) → m_Z oF M_X0_bind 63 [some (mR 99), some (mR L), some (mI l2), none] [] h (m_QV (P_X0_bind h0 L)) := by
  intro l2 h G R v0 v1 hr
  refine z_iload_n (M := M_X0_bind) 63 dX0_bind_63 rfl ?_
  refine z_bipush (M := M_X0_bind) 64 dX0_bind_64 ?_
  refine z_icmp_ge (M := M_X0_bind) 66 dX0_bind_66 102 rfl (fun c1 => ?_) (fun c1 => ?_)
  · refine z_iconst (M := M_X0_bind) 102 dX0_bind_102 ?_
    refine z_istore_n (M := M_X0_bind) 103 dX0_bind_103 (ls' := [some (mR 99), some (mR L), some (mI 0), none]) (by decide) rfl ?_
    exact z_mask [true, true, true, false] rfl (ih.2.2.2 0 h G R (by omega) (by omega) (by omega))
  · refine z_aload_n (M := M_X0_bind) 69 dX0_bind_69 rfl ?_
    refine z_getIV (M := M_X0_bind) 70 dX0_bind_70 f_X0_32 (oL hL) (by decide) (fun x2 ex2 => ?_)
    refine z_ok (fun ox2 _ _ => ?_)
    have ox2 := ox2.1; unfold m_ok m_32 at ox2
    refine z_iload_n (M := M_X0_bind) 73 dX0_bind_73 rfl ?_
    refine z_nI (M := M_X0_bind) 74 dX0_bind_74 t_X11_hasBit l_X0_35 (m_rr_of rfl) (rest := []) (c_X11_hasBit h x2 l2 G) rfl rfl (Nat.le_of_ble_eq_true rfl) ⟨rfl, rfl⟩ (fun x3 h1 qx3 => ?_)
    obtain ⟨rfl, ⟨rfl, cx3⟩ | ⟨rfl, cx3⟩⟩ := qx3
    · refine z_if_eq_F (M := M_X0_bind) 77 dX0_bind_77 96 rfl (by omega) ?_
      refine z_aload_n (M := M_X0_bind) 80 dX0_bind_80 rfl ?_
      refine z_bipush (M := M_X0_bind) 81 dX0_bind_81 ?_
      refine z_iload_n (M := M_X0_bind) 83 dX0_bind_83 rfl ?_
      refine z_iconst (M := M_X0_bind) 84 dX0_bind_84 ?_
      refine z_idivN (M := M_X0_bind) 85 dX0_bind_85 (by omega) (by omega) ?_
      refine z_topBI (lo := 0) (hi := 3) ⟨by omega, by omega⟩ (fun x4 ex4 ax4 bx4 => ?_)
      refine z_iaddN (M := M_X0_bind) 86 dX0_bind_86 (by omega) (by omega) ?_
      refine z_bipush (M := M_X0_bind) 87 dX0_bind_87 ?_
      refine z_iload_n (M := M_X0_bind) 89 dX0_bind_89 rfl ?_
      refine z_iconst (M := M_X0_bind) 90 dX0_bind_90 ?_
      refine z_iremN (M := M_X0_bind) 91 dX0_bind_91 (by omega) (by omega) ?_
      refine z_topBI (lo := 0) (hi := 3) ⟨by omega, by omega⟩ (fun x5 ex5 ax5 bx5 => ?_)
      refine z_iaddN (M := M_X0_bind) 92 dX0_bind_92 (by omega) (by omega) ?_
      refine z_vV (M := M_X0_bind) 93 dX0_bind_93 t_X0_unite l_X0_28 (m_rr_of rfl) (rest := []) (c_X0_unite h (12 + x4) (12 + x5) G ⟨by omega, by omega⟩ ⟨by omega, by omega⟩) o_99 rfl rfl rfl (Nat.le_of_ble_eq_true rfl) ⟨rfl, rfl⟩ (fun h2 qx6 => ?_)
      obtain ⟨G2, S2⟩ := qx6
      have R2 := R.call S2 (by decide +kernel)
      refine z_iincN (M := M_X0_bind) 96 dX0_bind_96 (ls' := [some (mR 99), some (mR L), some (mI (l2 + 1)), none]) (by decide) rfl (by (unfold m_32; decide)) (by omega) (by omega) rfl ?_
      refine z_goto (M := M_X0_bind) 99 dX0_bind_99 63 rfl ?_
      exact z_mask [true, true, true, false] rfl (ih.2.2.1 (l2 + 1) h2 G2 R2 (by omega) (by omega) (by omega))
    · refine z_if_eq_T (M := M_X0_bind) 77 dX0_bind_77 96 rfl (by omega) ?_
      refine z_iincN (M := M_X0_bind) 96 dX0_bind_96 (ls' := [some (mR 99), some (mR L), some (mI (l2 + 1)), none]) (by decide) rfl (by (unfold m_32; decide)) (by omega) (by omega) rfl ?_
      refine z_goto (M := M_X0_bind) 99 dX0_bind_99 63 rfl ?_
      exact z_mask [true, true, true, false] rfl (ih.2.2.1 (l2 + 1) h G R (by omega) (by omega) (by omega))
set_option maxHeartbeats 4000000 in
set_option maxRecDepth 100000 in
theorem s_X0_bind_104 (h0 : m_H) (L : Nat) (hL : isL L) (G0 : GI h0) (n : Nat) (ih : q_X0_bind h0 L n) : ∀ (l2 : Int) (h : m_H), GI h → FR [100] [] h0 h → 0 ≤ l2 → l2 ≤ 6 → 2 * (6 - l2) + (1) ≤ ((n + 1 : Nat) : Int) → m_Z oF M_X0_bind 104 [some (mR 99), some (mR L), some (mI l2), none] [] h (m_QV (P_X0_bind h0 L)) := by
  intro l2 h G R v0 v1 hr
  refine z_iload_n (M := M_X0_bind) 104 dX0_bind_104 rfl ?_
  refine z_bipush (M := M_X0_bind) 105 dX0_bind_105 ?_
  refine z_icmp_ge (M := M_X0_bind) 107 dX0_bind_107 135 rfl (fun c1 => ?_) (fun c1 => ?_)
  · exact z_retV (M := M_X0_bind) 135 dX0_bind_135 rfl ⟨G, R⟩
  · refine z_aload_n (M := M_X0_bind) 110 dX0_bind_110 rfl ?_
    refine z_getR (M := M_X0_bind) 111 dX0_bind_111 f_X0_39 (oL hL) rfl (rL_1 hL G) ?_
    refine z_iload_n (M := M_X0_bind) 114 dX0_bind_114 rfl ?_
    refine z_ialdG (M := M_X0_bind) 115 dX0_bind_115 (oL_2 hL) (by omega) (by omega) (gL_2 hL G (by omega)) (fun x2 ex2 ax2 bx2 => ?_)
    refine z_iconst (M := M_X0_bind) 116 dX0_bind_116 ?_
    refine z_icmp_eq (M := M_X0_bind) 117 dX0_bind_117 129 rfl (fun c3 => ?_) (fun c3 => ?_)
    · refine z_iincN (M := M_X0_bind) 129 dX0_bind_129 (ls' := [some (mR 99), some (mR L), some (mI (l2 + 1)), none]) (by decide) rfl (by (unfold m_32; decide)) (by omega) (by omega) rfl ?_
      refine z_goto (M := M_X0_bind) 132 dX0_bind_132 104 rfl ?_
      exact z_mask [true, true, true, false] rfl (ih.2.2.2 (l2 + 1) h G R (by omega) (by omega) (by omega))
    · refine z_aload_n (M := M_X0_bind) 120 dX0_bind_120 rfl ?_
      refine z_iload_n (M := M_X0_bind) 121 dX0_bind_121 rfl ?_
      refine z_iload_n (M := M_X0_bind) 122 dX0_bind_122 rfl ?_
      refine z_bipush (M := M_X0_bind) 123 dX0_bind_123 ?_
      refine z_iaddN (M := M_X0_bind) 125 dX0_bind_125 (by omega) (by omega) ?_
      refine z_vV (M := M_X0_bind) 126 dX0_bind_126 t_X0_unite l_X0_28 (m_rr_of rfl) (rest := []) (c_X0_unite h l2 (l2 + 6) G ⟨by omega, by omega⟩ ⟨by omega, by omega⟩) o_99 rfl rfl rfl (Nat.le_of_ble_eq_true rfl) ⟨rfl, rfl⟩ (fun h1 qx4 => ?_)
      obtain ⟨G1, S1⟩ := qx4
      have R1 := R.call S1 (by decide +kernel)
      refine z_iincN (M := M_X0_bind) 129 dX0_bind_129 (ls' := [some (mR 99), some (mR L), some (mI (l2 + 1)), none]) (by decide) rfl (by (unfold m_32; decide)) (by omega) (by omega) rfl ?_
      refine z_goto (M := M_X0_bind) 132 dX0_bind_132 104 rfl ?_
      exact z_mask [true, true, true, false] rfl (ih.2.2.2 (l2 + 1) h1 G1 R1 (by omega) (by omega) (by omega))
theorem a_X0_bind (h0 : m_H) (L : Nat) (hL : isL L) (G0 : GI h0) : ∀ n, q_X0_bind h0 L n := by
  intro n
  induction n with
  | zero => unfold q_X0_bind; refine ⟨?_, ?_, ?_, ?_⟩ <;> (intros; omega)
  | succ n ih => exact ⟨s_X0_bind_2 h0 L hL G0 n ih, s_X0_bind_23 h0 L hL G0 n ih, s_X0_bind_63 h0 L hL G0 n ih, s_X0_bind_104 h0 L hL G0 n ih⟩
set_option maxHeartbeats 4000000 in
set_option maxRecDepth 100000 in
theorem c_X0_bind (h0 : m_H) (L : Nat) (hL : isL L) (G0 : GI h0) : m_CV M_X0_bind [mR 99, mR L] h0 (P_X0_bind h0 L) := by
  refine m_CV_of ⟨by decide, rfl, by simp [m_arg, m_isL, M_X0_bind], ⟨rfl, rfl⟩, rfl, rfl⟩ (ls := [some (mR 99), some (mR L), none, none]) rfl ?_
  have ih := a_X0_bind h0 L hL G0 141
  refine z_iconst (M := M_X0_bind) 0 dX0_bind_0 ?_
  refine z_istore_n (M := M_X0_bind) 1 dX0_bind_1 (ls' := [some (mR 99), some (mR L), some (mI 0), none]) (by decide) rfl ?_
  exact z_mask [true, true, true, false] rfl (ih.1 0 h0 G0 (FR.rf (cs := [100]) (ss := []) (h := h0)) (by omega) (by omega) (by omega))
abbrev P_X0_areTogether (h0 : m_H) (a1 a2 : Int) : Int → m_H → Prop := fun x h' => GI h' ∧ FR [] [] h0 h' ∧ 0 ≤ x ∧ x ≤ 1
set_option maxHeartbeats 4000000 in
set_option maxRecDepth 100000 in
theorem c_X0_areTogether (h0 : m_H) (a1 a2 : Int) (G0 : GI h0) (pa1 : 0 ≤ a1 ∧ a1 ≤ 15) (pa2 : 0 ≤ a2 ∧ a2 ≤ 15) : m_CI M_X0_areTogether [mR 99, mI a1, mI a2] h0 (P_X0_areTogether h0 a1 a2) := by
  refine m_CI_of ⟨by decide, rfl, by simp [m_arg, m_isL, M_X0_areTogether], ⟨rfl, rfl⟩, rfl, rfl⟩ (ls := [some (mR 99), some (mI a1), some (mI a2)]) rfl ?_
  refine z_aload_n (M := M_X0_areTogether) 0 dX0_areTogether_0 rfl ?_
  refine z_getR (M := M_X0_areTogether) 1 dX0_areTogether_1 f_X0_9 o_99 rfl (g_99_0 G0) ?_
  refine z_iload_n (M := M_X0_areTogether) 4 dX0_areTogether_4 rfl ?_
  refine z_ialdV (M := M_X0_areTogether) 5 dX0_areTogether_5 o_100 (by omega) (by omega) (fun x1 ex1 => ?_)
  refine z_ok (fun ox1 _ _ => ?_)
  have ox1 := ox1.1; unfold m_ok m_32 at ox1
  refine z_aload_n (M := M_X0_areTogether) 6 dX0_areTogether_6 rfl ?_
  refine z_getR (M := M_X0_areTogether) 7 dX0_areTogether_7 f_X0_9 o_99 rfl (g_99_0 G0) ?_
  refine z_iload_n (M := M_X0_areTogether) 10 dX0_areTogether_10 rfl ?_
  refine z_ialdV (M := M_X0_areTogether) 11 dX0_areTogether_11 o_100 (by omega) (by omega) (fun x2 ex2 => ?_)
  refine z_ok (fun ox2 _ _ => ?_)
  have ox2 := ox2.1; unfold m_ok m_32 at ox2
  refine z_icmp_ne (M := M_X0_areTogether) 12 dX0_areTogether_12 19 rfl (fun c3 => ?_) (fun c3 => ?_)
  · refine z_iconst (M := M_X0_areTogether) 19 dX0_areTogether_19 ?_
    exact z_retZ (M := M_X0_areTogether) 20 dX0_areTogether_20 rfl (by omega) ⟨G0, (FR.rf (cs := []) (ss := []) (h := h0)), by omega, by omega⟩
  · refine z_iconst (M := M_X0_areTogether) 15 dX0_areTogether_15 ?_
    refine z_goto (M := M_X0_areTogether) 16 dX0_areTogether_16 20 rfl ?_
    exact z_retZ (M := M_X0_areTogether) 20 dX0_areTogether_20 rfl (by omega) ⟨G0, (FR.rf (cs := []) (ss := []) (h := h0)), by omega, by omega⟩
abbrev P_X0_many (h0 : m_H) (L : Nat) : Int → m_H → Prop := fun x h' => GI h' ∧ FR [] [] h0 h'
def q_X0_many (h0 : m_H) (L : Nat) (n : Nat) : Prop := (∀ (l2 l3 : Int) (h : m_H), GI h → FR [] [] h0 h → 0 ≤ l3 → l3 ≤ 16 → 2 * (16 - l3) + (1) ≤ (n : Int) → m_Z oF M_X0_many 4 [some (mR 99), some (mR L), some (mI l2), some (mI l3)] [] h (m_QI (P_X0_many h0 L)))
set_option maxHeartbeats 4000000 in
set_option maxRecDepth 100000 in
theorem s_X0_many_4 (h0 : m_H) (L : Nat) (hL : isL L) (G0 : GI h0) (n : Nat) (ih : q_X0_many h0 L n) : ∀ (l2 l3 : Int) (h : m_H), GI h → FR [] [] h0 h → 0 ≤ l3 → l3 ≤ 16 → 2 * (16 - l3) + (1) ≤ ((n + 1 : Nat) : Int) → m_Z oF M_X0_many 4 [some (mR 99), some (mR L), some (mI l2), some (mI l3)] [] h (m_QI (P_X0_many h0 L)) := by
  intro l2 l3 h G R v0 v1 hr
  refine z_ok (fun ostk _ olocs => ?_)
  have ol2 : m_32 l2 := olocs 2 _ rfl
  unfold m_32 at ol2
  refine z_iload_n (M := M_X0_many) 4 dX0_many_4 rfl ?_
  refine z_bipush (M := M_X0_many) 5 dX0_many_5 ?_
  refine z_icmp_ge (M := M_X0_many) 7 dX0_many_7 37 rfl (fun c1 => ?_) (fun c1 => ?_)
  · refine z_iload_n (M := M_X0_many) 37 dX0_many_37 rfl ?_
    exact z_retI (M := M_X0_many) 38 dX0_many_38 rfl ⟨G, R⟩
  · refine z_aload_n (M := M_X0_many) 10 dX0_many_10 rfl ?_
    refine z_getR (M := M_X0_many) 11 dX0_many_11 f_X0_9 o_99 rfl (g_99_0 G) ?_
    refine z_iload_n (M := M_X0_many) 14 dX0_many_14 rfl ?_
    refine z_ialdV (M := M_X0_many) 15 dX0_many_15 o_100 (by omega) (by omega) (fun x2 ex2 => ?_)
    refine z_ok (fun ox2 _ _ => ?_)
    have ox2 := ox2.1; unfold m_ok m_32 at ox2
    refine z_iload_n (M := M_X0_many) 16 dX0_many_16 rfl ?_
    refine z_icmp_ne (M := M_X0_many) 17 dX0_many_17 31 rfl (fun c3 => ?_) (fun c3 => ?_)
    · refine z_iincN (M := M_X0_many) 31 dX0_many_31 (ls' := [some (mR 99), some (mR L), some (mI l2), some (mI (l3 + 1))]) (by decide) rfl (by (unfold m_32; decide)) (by omega) (by omega) rfl ?_
      refine z_goto (M := M_X0_many) 34 dX0_many_34 4 rfl ?_
      exact z_mask [true, true, true, true] rfl (ih l2 (l3 + 1) h G R (by omega) (by omega) (by omega))
    · refine z_aload_n (M := M_X0_many) 20 dX0_many_20 rfl ?_
      refine z_iload_n (M := M_X0_many) 21 dX0_many_21 rfl ?_
      refine z_vI (M := M_X0_many) 22 dX0_many_22 t_X4_isThere l_X0_51 (m_rr_of rfl) (rest := []) (c_X4_isThere h L l3 hL G) (oL hL) rfl rfl rfl (Nat.le_of_ble_eq_true rfl) ⟨rfl, rfl⟩ (fun x4 h1 qx4 => ?_)
      obtain ⟨rfl, ⟨rfl, cx4⟩ | ⟨rfl, cx4⟩⟩ := qx4
      · refine z_if_eq_F (M := M_X0_many) 25 dX0_many_25 31 rfl (by omega) ?_
        refine z_iincW (M := M_X0_many) 28 dX0_many_28 (by decide) rfl (by (unfold m_32; decide)) (fun x5 ox5 => ?_)
        unfold m_32 at ox5
        refine z_ls (ls' := [some (mR 99), some (mR L), some (mI x5), some (mI l3)]) rfl ?_
        refine z_iincN (M := M_X0_many) 31 dX0_many_31 (ls' := [some (mR 99), some (mR L), some (mI x5), some (mI (l3 + 1))]) (by decide) rfl (by (unfold m_32; decide)) (by omega) (by omega) rfl ?_
        refine z_goto (M := M_X0_many) 34 dX0_many_34 4 rfl ?_
        exact z_mask [true, true, true, true] rfl (ih x5 (l3 + 1) h G R (by omega) (by omega) (by omega))
      · refine z_if_eq_T (M := M_X0_many) 25 dX0_many_25 31 rfl (by omega) ?_
        refine z_iincN (M := M_X0_many) 31 dX0_many_31 (ls' := [some (mR 99), some (mR L), some (mI l2), some (mI (l3 + 1))]) (by decide) rfl (by (unfold m_32; decide)) (by omega) (by omega) rfl ?_
        refine z_goto (M := M_X0_many) 34 dX0_many_34 4 rfl ?_
        exact z_mask [true, true, true, true] rfl (ih l2 (l3 + 1) h G R (by omega) (by omega) (by omega))
theorem a_X0_many (h0 : m_H) (L : Nat) (hL : isL L) (G0 : GI h0) : ∀ n, q_X0_many h0 L n := by
  intro n
  induction n with
  | zero => unfold q_X0_many; intros; omega
  | succ n ih => exact s_X0_many_4 h0 L hL G0 n ih
set_option maxHeartbeats 4000000 in
set_option maxRecDepth 100000 in
theorem c_X0_many (h0 : m_H) (L : Nat) (hL : isL L) (G0 : GI h0) : m_CI M_X0_many [mR 99, mR L] h0 (P_X0_many h0 L) := by
  refine m_CI_of ⟨by decide, rfl, by simp [m_arg, m_isL, M_X0_many], ⟨rfl, rfl⟩, rfl, rfl⟩ (ls := [some (mR 99), some (mR L), none, none]) rfl ?_
  have ih := a_X0_many h0 L hL G0 40
  refine z_iconst (M := M_X0_many) 0 dX0_many_0 ?_
  refine z_istore_n (M := M_X0_many) 1 dX0_many_1 (ls' := [some (mR 99), some (mR L), some (mI 0), none]) (by decide) rfl ?_
  refine z_iconst (M := M_X0_many) 2 dX0_many_2 ?_
  refine z_istore_n (M := M_X0_many) 3 dX0_many_3 (ls' := [some (mR 99), some (mR L), some (mI 0), some (mI 0)]) (by decide) rfl ?_
  exact z_mask [true, true, true, true] rfl (ih 0 0 h0 G0 (FR.rf (cs := []) (ss := []) (h := h0)) (by omega) (by omega) (by omega))
abbrev P_X0_sizeOf (h0 : m_H) (L : Nat) (a1 : Int) : Int → m_H → Prop := fun x h' => GI h' ∧ FR [] [] h0 h'
def q_X0_sizeOf (h0 : m_H) (L : Nat) (a1 : Int) (n : Nat) : Prop := (∀ (l3 l4 : Int) (h : m_H), GI h → FR [] [] h0 h → 0 ≤ l4 → l4 ≤ 16 → (-2147483648) ≤ a1 → a1 ≤ 2147483647 → 2 * (16 - l4) + (1) ≤ (n : Int) → m_Z oF M_X0_sizeOf 5 [some (mR 99), some (mI a1), some (mR L), some (mI l3), some (mI l4)] [] h (m_QI (P_X0_sizeOf h0 L a1)))
set_option maxHeartbeats 4000000 in
set_option maxRecDepth 100000 in
theorem s_X0_sizeOf_5 (h0 : m_H) (L : Nat) (a1 : Int) (hL : isL L) (G0 : GI h0) (n : Nat) (ih : q_X0_sizeOf h0 L a1 n) : ∀ (l3 l4 : Int) (h : m_H), GI h → FR [] [] h0 h → 0 ≤ l4 → l4 ≤ 16 → (-2147483648) ≤ a1 → a1 ≤ 2147483647 → 2 * (16 - l4) + (1) ≤ ((n + 1 : Nat) : Int) → m_Z oF M_X0_sizeOf 5 [some (mR 99), some (mI a1), some (mR L), some (mI l3), some (mI l4)] [] h (m_QI (P_X0_sizeOf h0 L a1)) := by
  intro l3 l4 h G R v0 v1 v2 v3 hr
  refine z_ok (fun ostk _ olocs => ?_)
  have ol3 : m_32 l3 := olocs 3 _ rfl
  unfold m_32 at ol3
  refine z_iload (M := M_X0_sizeOf) 5 dX0_sizeOf_5 rfl ?_
  refine z_bipush (M := M_X0_sizeOf) 7 dX0_sizeOf_7 ?_
  refine z_icmp_ge (M := M_X0_sizeOf) 9 dX0_sizeOf_9 41 rfl (fun c1 => ?_) (fun c1 => ?_)
  · refine z_iload_n (M := M_X0_sizeOf) 41 dX0_sizeOf_41 rfl ?_
    exact z_retI (M := M_X0_sizeOf) 42 dX0_sizeOf_42 rfl ⟨G, R⟩
  · refine z_aload_n (M := M_X0_sizeOf) 12 dX0_sizeOf_12 rfl ?_
    refine z_getR (M := M_X0_sizeOf) 13 dX0_sizeOf_13 f_X0_9 o_99 rfl (g_99_0 G) ?_
    refine z_iload (M := M_X0_sizeOf) 16 dX0_sizeOf_16 rfl ?_
    refine z_ialdV (M := M_X0_sizeOf) 18 dX0_sizeOf_18 o_100 (by omega) (by omega) (fun x2 ex2 => ?_)
    refine z_ok (fun ox2 _ _ => ?_)
    have ox2 := ox2.1; unfold m_ok m_32 at ox2
    refine z_iload_n (M := M_X0_sizeOf) 19 dX0_sizeOf_19 rfl ?_
    refine z_icmp_ne (M := M_X0_sizeOf) 20 dX0_sizeOf_20 35 rfl (fun c3 => ?_) (fun c3 => ?_)
    · refine z_iincN (M := M_X0_sizeOf) 35 dX0_sizeOf_35 (ls' := [some (mR 99), some (mI a1), some (mR L), some (mI l3), some (mI (l4 + 1))]) (by decide) rfl (by (unfold m_32; decide)) (by omega) (by omega) rfl ?_
      refine z_goto (M := M_X0_sizeOf) 38 dX0_sizeOf_38 5 rfl ?_
      exact z_mask [true, true, true, true, true] rfl (ih l3 (l4 + 1) h G R (by omega) (by omega) (by omega) (by omega) (by omega))
    · refine z_aload_n (M := M_X0_sizeOf) 23 dX0_sizeOf_23 rfl ?_
      refine z_iload (M := M_X0_sizeOf) 24 dX0_sizeOf_24 rfl ?_
      refine z_vI (M := M_X0_sizeOf) 26 dX0_sizeOf_26 t_X4_isThere l_X0_51 (m_rr_of rfl) (rest := []) (c_X4_isThere h L l4 hL G) (oL hL) rfl rfl rfl (Nat.le_of_ble_eq_true rfl) ⟨rfl, rfl⟩ (fun x4 h1 qx4 => ?_)
      obtain ⟨rfl, ⟨rfl, cx4⟩ | ⟨rfl, cx4⟩⟩ := qx4
      · refine z_if_eq_F (M := M_X0_sizeOf) 29 dX0_sizeOf_29 35 rfl (by omega) ?_
        refine z_iincW (M := M_X0_sizeOf) 32 dX0_sizeOf_32 (by decide) rfl (by (unfold m_32; decide)) (fun x5 ox5 => ?_)
        unfold m_32 at ox5
        refine z_ls (ls' := [some (mR 99), some (mI a1), some (mR L), some (mI x5), some (mI l4)]) rfl ?_
        refine z_iincN (M := M_X0_sizeOf) 35 dX0_sizeOf_35 (ls' := [some (mR 99), some (mI a1), some (mR L), some (mI x5), some (mI (l4 + 1))]) (by decide) rfl (by (unfold m_32; decide)) (by omega) (by omega) rfl ?_
        refine z_goto (M := M_X0_sizeOf) 38 dX0_sizeOf_38 5 rfl ?_
        exact z_mask [true, true, true, true, true] rfl (ih x5 (l4 + 1) h G R (by omega) (by omega) (by omega) (by omega) (by omega))
      · refine z_if_eq_T (M := M_X0_sizeOf) 29 dX0_sizeOf_29 35 rfl (by omega) ?_
        refine z_iincN (M := M_X0_sizeOf) 35 dX0_sizeOf_35 (ls' := [some (mR 99), some (mI a1), some (mR L), some (mI l3), some (mI (l4 + 1))]) (by decide) rfl (by (unfold m_32; decide)) (by omega) (by omega) rfl ?_
        refine z_goto (M := M_X0_sizeOf) 38 dX0_sizeOf_38 5 rfl ?_
        exact z_mask [true, true, true, true, true] rfl (ih l3 (l4 + 1) h G R (by omega) (by omega) (by omega) (by omega) (by omega))
theorem a_X0_sizeOf (h0 : m_H) (L : Nat) (a1 : Int) (hL : isL L) (G0 : GI h0) : ∀ n, q_X0_sizeOf h0 L a1 n := by
  intro n
  induction n with
  | zero => unfold q_X0_sizeOf; intros; omega
  | succ n ih => exact s_X0_sizeOf_5 h0 L a1 hL G0 n ih
set_option maxHeartbeats 4000000 in
set_option maxRecDepth 100000 in
theorem c_X0_sizeOf (h0 : m_H) (L : Nat) (a1 : Int) (hL : isL L) (G0 : GI h0) : m_CI M_X0_sizeOf [mR 99, mI a1, mR L] h0 (P_X0_sizeOf h0 L a1) := by
  refine m_CI_of ⟨by decide, rfl, by simp [m_arg, m_isL, M_X0_sizeOf], ⟨rfl, rfl⟩, rfl, rfl⟩ (ls := [some (mR 99), some (mI a1), some (mR L), none, none]) rfl ?_
  have ih := a_X0_sizeOf h0 L a1 hL G0 40
  refine z_ok (fun _ _ ok => ?_)
  have oa1 : m_32 a1 := ok 1 _ rfl
  unfold m_32 at oa1
  refine z_iconst (M := M_X0_sizeOf) 0 dX0_sizeOf_0 ?_
  refine z_istore_n (M := M_X0_sizeOf) 1 dX0_sizeOf_1 (ls' := [some (mR 99), some (mI a1), some (mR L), some (mI 0), none]) (by decide) rfl ?_
  refine z_iconst (M := M_X0_sizeOf) 2 dX0_sizeOf_2 ?_
  refine z_istore (M := M_X0_sizeOf) 3 dX0_sizeOf_3 (ls' := [some (mR 99), some (mI a1), some (mR L), some (mI 0), some (mI 0)]) (by decide) rfl ?_
  exact z_mask [true, true, true, true, true] rfl (ih 0 0 h0 G0 (FR.rf (cs := []) (ss := []) (h := h0)) (by omega) (by omega) (by omega) (by omega) (by omega))
abbrev P_X0_greatest (h0 : m_H) (L : Nat) : Int → m_H → Prop := fun x h' => GI h' ∧ FR [] [] h0 h' ∧ 0 ≤ x ∧ x ≤ 2147483647
def q_X0_greatest (h0 : m_H) (L : Nat) (n : Nat) : Prop := (∀ (l2 l3 : Int) (h : m_H), GI h → FR [] [] h0 h → 0 ≤ l2 → l2 ≤ 2147483647 → 0 ≤ l3 → l3 ≤ 16 → 2 * (16 - l3) + (1) ≤ (n : Int) → m_Z oF M_X0_greatest 4 [some (mR 99), some (mR L), some (mI l2), some (mI l3)] [] h (m_QI (P_X0_greatest h0 L)))
set_option maxHeartbeats 4000000 in
set_option maxRecDepth 100000 in
theorem s_X0_greatest_4 (h0 : m_H) (L : Nat) (hL : isL L) (G0 : GI h0) (n : Nat) (ih : q_X0_greatest h0 L n) : ∀ (l2 l3 : Int) (h : m_H), GI h → FR [] [] h0 h → 0 ≤ l2 → l2 ≤ 2147483647 → 0 ≤ l3 → l3 ≤ 16 → 2 * (16 - l3) + (1) ≤ ((n + 1 : Nat) : Int) → m_Z oF M_X0_greatest 4 [some (mR 99), some (mR L), some (mI l2), some (mI l3)] [] h (m_QI (P_X0_greatest h0 L)) := by
  intro l2 l3 h G R v0 v1 v2 v3 hr
  refine z_iload_n (M := M_X0_greatest) 4 dX0_greatest_4 rfl ?_
  refine z_bipush (M := M_X0_greatest) 5 dX0_greatest_5 ?_
  refine z_icmp_ge (M := M_X0_greatest) 7 dX0_greatest_7 27 rfl (fun c1 => ?_) (fun c1 => ?_)
  · refine z_iload_n (M := M_X0_greatest) 27 dX0_greatest_27 rfl ?_
    exact z_retI (M := M_X0_greatest) 28 dX0_greatest_28 rfl ⟨G, R, by omega, by omega⟩
  · refine z_iload_n (M := M_X0_greatest) 10 dX0_greatest_10 rfl ?_
    refine z_aload_n (M := M_X0_greatest) 11 dX0_greatest_11 rfl ?_
    refine z_iload_n (M := M_X0_greatest) 12 dX0_greatest_12 rfl ?_
    refine z_aload_n (M := M_X0_greatest) 13 dX0_greatest_13 rfl ?_
    refine z_vI (M := M_X0_greatest) 14 dX0_greatest_14 t_X0_sizeOf l_X0_55 (m_rr_of rfl) (rest := [mI l2]) (c_X0_sizeOf h L l3 hL G) o_99 rfl rfl rfl (Nat.le_of_ble_eq_true rfl) ⟨rfl, rfl⟩ (fun x2 h1 qx2 => ?_)
    obtain ⟨G1, S1⟩ := qx2
    have R1 := R.call S1 (by decide +kernel)
    refine z_ok (fun ox2 _ _ => ?_)
    have ox2 := ox2.1; unfold m_ok m_32 at ox2
    refine z_maxI (M := M_X0_greatest) 17 dX0_greatest_17 ml_X0_48 (rest := []) (Nat.le_of_ble_eq_true rfl) (Nat.le_of_ble_eq_true rfl) ?_
    refine z_topBI (lo := 0) (hi := 2147483647) ⟨by split <;> omega, by split <;> omega⟩ (fun x3 ex3 ax3 bx3 => ?_)
    refine z_istore_n (M := M_X0_greatest) 20 dX0_greatest_20 (ls' := [some (mR 99), some (mR L), some (mI x3), some (mI l3)]) (by decide) rfl ?_
    refine z_iincN (M := M_X0_greatest) 21 dX0_greatest_21 (ls' := [some (mR 99), some (mR L), some (mI x3), some (mI (l3 + 1))]) (by decide) rfl (by (unfold m_32; decide)) (by omega) (by omega) rfl ?_
    refine z_goto (M := M_X0_greatest) 24 dX0_greatest_24 4 rfl ?_
    exact z_mask [true, true, true, true] rfl (ih x3 (l3 + 1) h1 G1 R1 (by omega) (by omega) (by omega) (by omega) (by omega))
theorem a_X0_greatest (h0 : m_H) (L : Nat) (hL : isL L) (G0 : GI h0) : ∀ n, q_X0_greatest h0 L n := by
  intro n
  induction n with
  | zero => unfold q_X0_greatest; intros; omega
  | succ n ih => exact s_X0_greatest_4 h0 L hL G0 n ih
set_option maxHeartbeats 4000000 in
set_option maxRecDepth 100000 in
theorem c_X0_greatest (h0 : m_H) (L : Nat) (hL : isL L) (G0 : GI h0) : m_CI M_X0_greatest [mR 99, mR L] h0 (P_X0_greatest h0 L) := by
  refine m_CI_of ⟨by decide, rfl, by simp [m_arg, m_isL, M_X0_greatest], ⟨rfl, rfl⟩, rfl, rfl⟩ (ls := [some (mR 99), some (mR L), none, none]) rfl ?_
  have ih := a_X0_greatest h0 L hL G0 40
  refine z_iconst (M := M_X0_greatest) 0 dX0_greatest_0 ?_
  refine z_istore_n (M := M_X0_greatest) 1 dX0_greatest_1 (ls' := [some (mR 99), some (mR L), some (mI 0), none]) (by decide) rfl ?_
  refine z_iconst (M := M_X0_greatest) 2 dX0_greatest_2 ?_
  refine z_istore_n (M := M_X0_greatest) 3 dX0_greatest_3 (ls' := [some (mR 99), some (mR L), some (mI 0), some (mI 0)]) (by decide) rfl ?_
  exact z_mask [true, true, true, true] rfl (ih 0 0 h0 G0 (FR.rf (cs := []) (ss := []) (h := h0)) (by omega) (by omega) (by omega) (by omega) (by omega))
