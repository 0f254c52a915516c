abbrev P_X12_in (h0 : m_H) (a0 a1 a2 : Int) : Int → m_H → Prop := fun x h' => h0 = h' ∧ ((x = 1 ∧ (a1 ≤ a0 ∧ a0 ≤ a2)) ∨ (x = 0 ∧ ¬ (a1 ≤ a0 ∧ a0 ≤ a2)))
set_option maxHeartbeats 4000000 in
set_option maxRecDepth 100000 in
theorem c_X12_in (h0 : m_H) (a0 a1 a2 : Int) (G0 : GI h0) : m_CI M_X12_in [mJ a0, mJ a1, mJ a2] h0 (P_X12_in h0 a0 a1 a2) := by
  refine m_CI_of ⟨by decide, rfl, by simp [m_arg, m_isL, M_X12_in], ⟨rfl, rfl⟩, rfl, rfl⟩ (ls := [some (mJ a0), none, some (mJ a1), none, some (mJ a2), none]) rfl ?_
  refine z_lload_n (M := M_X12_in) 0 dX12_in_0 rfl ?_
  refine z_lload_n (M := M_X12_in) 1 dX12_in_1 rfl ?_
  refine z_lcmp (M := M_X12_in) 2 dX12_in_2 ?_
  refine z_if_lt (M := M_X12_in) 3 dX12_in_3 17 rfl (fun c1 => ?_) (fun c1 => ?_)
  · rw [m_cmp_lt] at c1
    refine z_iconst (M := M_X12_in) 17 dX12_in_17 ?_
    exact z_retZ (M := M_X12_in) 18 dX12_in_18 rfl (by omega) ⟨rfl, by omega⟩
  · rw [m_cmp_lt] at c1
    refine z_lload_n (M := M_X12_in) 6 dX12_in_6 rfl ?_
    refine z_lload (M := M_X12_in) 7 dX12_in_7 rfl ?_
    refine z_lcmp (M := M_X12_in) 9 dX12_in_9 ?_
    refine z_if_gt (M := M_X12_in) 10 dX12_in_10 17 rfl (fun c2 => ?_) (fun c2 => ?_)
    · rw [m_cmp_gt] at c2
      refine z_iconst (M := M_X12_in) 17 dX12_in_17 ?_
      exact z_retZ (M := M_X12_in) 18 dX12_in_18 rfl (by omega) ⟨rfl, by omega⟩
    · rw [m_cmp_gt] at c2
      refine z_iconst (M := M_X12_in) 13 dX12_in_13 ?_
      refine z_goto (M := M_X12_in) 14 dX12_in_14 18 rfl ?_
      exact z_retZ (M := M_X12_in) 18 dX12_in_18 rfl (by omega) ⟨rfl, by omega⟩
abbrev P_X12_is (h0 : m_H) (a0 a1 : Int) : Int → m_H → Prop := fun x h' => h0 = h' ∧ ((x = 1 ∧ m_and (m_shr a0 a1) 1 = 1) ∨ (x = 0 ∧ ¬ m_and (m_shr a0 a1) 1 = 1))
set_option maxHeartbeats 4000000 in
set_option maxRecDepth 100000 in
theorem c_X12_is (h0 : m_H) (a0 a1 : Int) (G0 : GI h0) : m_CI M_X12_is [mI a0, mI a1] h0 (P_X12_is h0 a0 a1) := by
  refine m_CI_of ⟨by decide, rfl, by simp [m_arg, m_isL, M_X12_is], ⟨rfl, rfl⟩, rfl, rfl⟩ (ls := [some (mI a0), some (mI a1)]) rfl ?_
  refine z_ok (fun _ _ ok => ?_)
  have oa0 : m_32 a0 := ok 0 _ rfl
  unfold m_32 at oa0
  have oa1 : m_32 a1 := ok 1 _ rfl
  unfold m_32 at oa1
  refine z_iload_n (M := M_X12_is) 0 dX12_is_0 rfl ?_
  refine z_iload_n (M := M_X12_is) 1 dX12_is_1 rfl ?_
  refine z_ishr (M := M_X12_is) 2 dX12_is_2 ?_
  refine z_topm (fun x1 ex1 ox1 => ?_)
  unfold m_32 at ox1
  refine z_iconst (M := M_X12_is) 3 dX12_is_3 ?_
  refine z_iand (M := M_X12_is) 4 dX12_is_4 ?_
  refine z_topBI (m_and_1 _) (fun x2 ex2 ax2 bx2 => ?_)
  refine z_iconst (M := M_X12_is) 5 dX12_is_5 ?_
  refine z_icmp_ne (M := M_X12_is) 6 dX12_is_6 13 rfl (fun c3 => ?_) (fun c3 => ?_)
  · refine z_iconst (M := M_X12_is) 13 dX12_is_13 ?_
    exact z_retZ (M := M_X12_is) 14 dX12_is_14 rfl (by omega) ⟨rfl, by subst_vars; omega⟩
  · refine z_iconst (M := M_X12_is) 9 dX12_is_9 ?_
    refine z_goto (M := M_X12_is) 10 dX12_is_10 14 rfl ?_
    exact z_retZ (M := M_X12_is) 14 dX12_is_14 rfl (by omega) ⟨rfl, by subst_vars; omega⟩
abbrev P_X12_isThing (h0 : m_H) (a0 : Int) : Int → m_H → Prop := fun x h' => h0 = h' ∧ ((x = 1 ∧ (0 ≤ a0 ∧ a0 ≤ 5)) ∨ (x = 0 ∧ ¬ (0 ≤ a0 ∧ a0 ≤ 5)))
set_option maxHeartbeats 4000000 in
set_option maxRecDepth 100000 in
theorem c_X12_isThing (h0 : m_H) (a0 : Int) (G0 : GI h0) : m_CI M_X12_isThing [mI a0] h0 (P_X12_isThing h0 a0) := by
  refine m_CI_of ⟨by decide, rfl, by simp [m_arg, m_isL, M_X12_isThing], ⟨rfl, rfl⟩, rfl, rfl⟩ (ls := [some (mI a0)]) rfl ?_
  refine z_ok (fun _ _ ok => ?_)
  have oa0 : m_32 a0 := ok 0 _ rfl
  unfold m_32 at oa0
  refine z_iload_n (M := M_X12_isThing) 0 dX12_isThing_0 rfl ?_
  refine z_i2l (M := M_X12_isThing) 1 dX12_isThing_1 ?_
  refine z_lconst (M := M_X12_isThing) 2 dX12_isThing_2 (v := 0) ?_
  refine z_ldc2 (M := M_X12_isThing) 3 dX12_isThing_3 k_X12_150 ?_
  refine z_sI (M := M_X12_isThing) 6 dX12_isThing_6 t_X12_in l_X12_143 (m_rr_of rfl) (rest := []) (c_X12_in h0 a0 0 5 G0) rfl rfl (Nat.le_of_ble_eq_true rfl) ⟨rfl, rfl⟩ (fun x1 h1 qx1 => ?_)
  obtain ⟨rfl, ⟨rfl, cx1⟩ | ⟨rfl, cx1⟩⟩ := qx1
  · exact z_retZ (M := M_X12_isThing) 9 dX12_isThing_9 rfl (by omega) ⟨rfl, by omega⟩
  · exact z_retZ (M := M_X12_isThing) 9 dX12_isThing_9 rfl (by omega) ⟨rfl, by omega⟩
abbrev P_X12_isKeeper (h0 : m_H) (a0 : Int) : Int → m_H → Prop := fun x h' => h0 = h' ∧ ((x = 1 ∧ (0 ≤ a0 ∧ a0 ≤ 3)) ∨ (x = 0 ∧ ¬ (0 ≤ a0 ∧ a0 ≤ 3)))
set_option maxHeartbeats 4000000 in
set_option maxRecDepth 100000 in
theorem c_X12_isKeeper (h0 : m_H) (a0 : Int) (G0 : GI h0) : m_CI M_X12_isKeeper [mI a0] h0 (P_X12_isKeeper h0 a0) := by
  refine m_CI_of ⟨by decide, rfl, by simp [m_arg, m_isL, M_X12_isKeeper], ⟨rfl, rfl⟩, rfl, rfl⟩ (ls := [some (mI a0)]) rfl ?_
  refine z_ok (fun _ _ ok => ?_)
  have oa0 : m_32 a0 := ok 0 _ rfl
  unfold m_32 at oa0
  refine z_iload_n (M := M_X12_isKeeper) 0 dX12_isKeeper_0 rfl ?_
  refine z_i2l (M := M_X12_isKeeper) 1 dX12_isKeeper_1 ?_
  refine z_lconst (M := M_X12_isKeeper) 2 dX12_isKeeper_2 (v := 0) ?_
  refine z_ldc2 (M := M_X12_isKeeper) 3 dX12_isKeeper_3 k_X12_152 ?_
  refine z_sI (M := M_X12_isKeeper) 6 dX12_isKeeper_6 t_X12_in l_X12_143 (m_rr_of rfl) (rest := []) (c_X12_in h0 a0 0 3 G0) rfl rfl (Nat.le_of_ble_eq_true rfl) ⟨rfl, rfl⟩ (fun x1 h1 qx1 => ?_)
  obtain ⟨rfl, ⟨rfl, cx1⟩ | ⟨rfl, cx1⟩⟩ := qx1
  · exact z_retZ (M := M_X12_isKeeper) 9 dX12_isKeeper_9 rfl (by omega) ⟨rfl, by omega⟩
  · exact z_retZ (M := M_X12_isKeeper) 9 dX12_isKeeper_9 rfl (by omega) ⟨rfl, by omega⟩
abbrev P_X12_isWeek (h0 : m_H) (a0 : Int) : Int → m_H → Prop := fun x h' => h0 = h' ∧ ((x = 1 ∧ (0 ≤ a0 ∧ a0 ≤ 31)) ∨ (x = 0 ∧ ¬ (0 ≤ a0 ∧ a0 ≤ 31)))
set_option maxHeartbeats 4000000 in
set_option maxRecDepth 100000 in
theorem c_X12_isWeek (h0 : m_H) (a0 : Int) (G0 : GI h0) : m_CI M_X12_isWeek [mI a0] h0 (P_X12_isWeek h0 a0) := by
  refine m_CI_of ⟨by decide, rfl, by simp [m_arg, m_isL, M_X12_isWeek], ⟨rfl, rfl⟩, rfl, rfl⟩ (ls := [some (mI a0)]) rfl ?_
  refine z_ok (fun _ _ ok => ?_)
  have oa0 : m_32 a0 := ok 0 _ rfl
  unfold m_32 at oa0
  refine z_iload_n (M := M_X12_isWeek) 0 dX12_isWeek_0 rfl ?_
  refine z_i2l (M := M_X12_isWeek) 1 dX12_isWeek_1 ?_
  refine z_lconst (M := M_X12_isWeek) 2 dX12_isWeek_2 (v := 0) ?_
  refine z_ldc2 (M := M_X12_isWeek) 3 dX12_isWeek_3 k_X12_154 ?_
  refine z_sI (M := M_X12_isWeek) 6 dX12_isWeek_6 t_X12_in l_X12_143 (m_rr_of rfl) (rest := []) (c_X12_in h0 a0 0 31 G0) rfl rfl (Nat.le_of_ble_eq_true rfl) ⟨rfl, rfl⟩ (fun x1 h1 qx1 => ?_)
  obtain ⟨rfl, ⟨rfl, cx1⟩ | ⟨rfl, cx1⟩⟩ := qx1
  · exact z_retZ (M := M_X12_isWeek) 9 dX12_isWeek_9 rfl (by omega) ⟨rfl, by omega⟩
  · exact z_retZ (M := M_X12_isWeek) 9 dX12_isWeek_9 rfl (by omega) ⟨rfl, by omega⟩
abbrev P_X12_isSmall (h0 : m_H) (a0 : Int) : Int → m_H → Prop := fun x h' => h0 = h' ∧ ((x = 1 ∧ (97 ≤ a0 ∧ a0 ≤ 122)) ∨ (x = 0 ∧ ¬ (97 ≤ a0 ∧ a0 ≤ 122)))
set_option maxHeartbeats 4000000 in
set_option maxRecDepth 100000 in
theorem c_X12_isSmall (h0 : m_H) (a0 : Int) (G0 : GI h0) : m_CI M_X12_isSmall [mI a0] h0 (P_X12_isSmall h0 a0) := by
  refine m_CI_of ⟨by decide, rfl, by simp [m_arg, m_isL, M_X12_isSmall], ⟨rfl, rfl⟩, rfl, rfl⟩ (ls := [some (mI a0)]) rfl ?_
  refine z_ok (fun _ _ ok => ?_)
  have oa0 : m_32 a0 := ok 0 _ rfl
  unfold m_32 at oa0
  refine z_iload_n (M := M_X12_isSmall) 0 dX12_isSmall_0 rfl ?_
  refine z_bipush (M := M_X12_isSmall) 1 dX12_isSmall_1 ?_
  refine z_icmp_lt (M := M_X12_isSmall) 3 dX12_isSmall_3 16 rfl (fun c1 => ?_) (fun c1 => ?_)
  · refine z_iconst (M := M_X12_isSmall) 16 dX12_isSmall_16 ?_
    exact z_retZ (M := M_X12_isSmall) 17 dX12_isSmall_17 rfl (by omega) ⟨rfl, by omega⟩
  · refine z_iload_n (M := M_X12_isSmall) 6 dX12_isSmall_6 rfl ?_
    refine z_bipush (M := M_X12_isSmall) 7 dX12_isSmall_7 ?_
    refine z_icmp_gt (M := M_X12_isSmall) 9 dX12_isSmall_9 16 rfl (fun c2 => ?_) (fun c2 => ?_)
    · refine z_iconst (M := M_X12_isSmall) 16 dX12_isSmall_16 ?_
      exact z_retZ (M := M_X12_isSmall) 17 dX12_isSmall_17 rfl (by omega) ⟨rfl, by omega⟩
    · refine z_iconst (M := M_X12_isSmall) 12 dX12_isSmall_12 ?_
      refine z_goto (M := M_X12_isSmall) 13 dX12_isSmall_13 17 rfl ?_
      exact z_retZ (M := M_X12_isSmall) 17 dX12_isSmall_17 rfl (by omega) ⟨rfl, by omega⟩
abbrev P_X12_isDigit (h0 : m_H) (a0 : Int) : Int → m_H → Prop := fun x h' => h0 = h' ∧ ((x = 1 ∧ (48 ≤ a0 ∧ a0 ≤ 57)) ∨ (x = 0 ∧ ¬ (48 ≤ a0 ∧ a0 ≤ 57)))
set_option maxHeartbeats 4000000 in
set_option maxRecDepth 100000 in
theorem c_X12_isDigit (h0 : m_H) (a0 : Int) (G0 : GI h0) : m_CI M_X12_isDigit [mI a0] h0 (P_X12_isDigit h0 a0) := by
  refine m_CI_of ⟨by decide, rfl, by simp [m_arg, m_isL, M_X12_isDigit], ⟨rfl, rfl⟩, rfl, rfl⟩ (ls := [some (mI a0)]) rfl ?_
  refine z_ok (fun _ _ ok => ?_)
  have oa0 : m_32 a0 := ok 0 _ rfl
  unfold m_32 at oa0
  refine z_iload_n (M := M_X12_isDigit) 0 dX12_isDigit_0 rfl ?_
  refine z_bipush (M := M_X12_isDigit) 1 dX12_isDigit_1 ?_
  refine z_icmp_lt (M := M_X12_isDigit) 3 dX12_isDigit_3 16 rfl (fun c1 => ?_) (fun c1 => ?_)
  · refine z_iconst (M := M_X12_isDigit) 16 dX12_isDigit_16 ?_
    exact z_retZ (M := M_X12_isDigit) 17 dX12_isDigit_17 rfl (by omega) ⟨rfl, by omega⟩
  · refine z_iload_n (M := M_X12_isDigit) 6 dX12_isDigit_6 rfl ?_
    refine z_bipush (M := M_X12_isDigit) 7 dX12_isDigit_7 ?_
    refine z_icmp_gt (M := M_X12_isDigit) 9 dX12_isDigit_9 16 rfl (fun c2 => ?_) (fun c2 => ?_)
    · refine z_iconst (M := M_X12_isDigit) 16 dX12_isDigit_16 ?_
      exact z_retZ (M := M_X12_isDigit) 17 dX12_isDigit_17 rfl (by omega) ⟨rfl, by omega⟩
    · refine z_iconst (M := M_X12_isDigit) 12 dX12_isDigit_12 ?_
      refine z_goto (M := M_X12_isDigit) 13 dX12_isDigit_13 17 rfl ?_
      exact z_retZ (M := M_X12_isDigit) 17 dX12_isDigit_17 rfl (by omega) ⟨rfl, by omega⟩
abbrev P_X12_isGround (h0 : m_H) (a0 : Int) : Int → m_H → Prop := fun x h' => h0 = h' ∧ ((x = 1 ∧ (0 ≤ a0 ∧ a0 ≤ 11)) ∨ (x = 0 ∧ ¬ (0 ≤ a0 ∧ a0 ≤ 11)))
set_option maxHeartbeats 4000000 in
set_option maxRecDepth 100000 in
theorem c_X12_isGround (h0 : m_H) (a0 : Int) (G0 : GI h0) : m_CI M_X12_isGround [mI a0] h0 (P_X12_isGround h0 a0) := by
  refine m_CI_of ⟨by decide, rfl, by simp [m_arg, m_isL, M_X12_isGround], ⟨rfl, rfl⟩, rfl, rfl⟩ (ls := [some (mI a0)]) rfl ?_
  refine z_ok (fun _ _ ok => ?_)
  have oa0 : m_32 a0 := ok 0 _ rfl
  unfold m_32 at oa0
  refine z_iload_n (M := M_X12_isGround) 0 dX12_isGround_0 rfl ?_
  refine z_i2l (M := M_X12_isGround) 1 dX12_isGround_1 ?_
  refine z_lconst (M := M_X12_isGround) 2 dX12_isGround_2 (v := 0) ?_
  refine z_ldc2 (M := M_X12_isGround) 3 dX12_isGround_3 k_X12_385 ?_
  refine z_sI (M := M_X12_isGround) 6 dX12_isGround_6 t_X12_in l_X12_143 (m_rr_of rfl) (rest := []) (c_X12_in h0 a0 0 11 G0) rfl rfl (Nat.le_of_ble_eq_true rfl) ⟨rfl, rfl⟩ (fun x1 h1 qx1 => ?_)
  obtain ⟨rfl, ⟨rfl, cx1⟩ | ⟨rfl, cx1⟩⟩ := qx1
  · exact z_retZ (M := M_X12_isGround) 9 dX12_isGround_9 rfl (by omega) ⟨rfl, by omega⟩
  · exact z_retZ (M := M_X12_isGround) 9 dX12_isGround_9 rfl (by omega) ⟨rfl, by omega⟩
abbrev P_X12_canEnter (h0 : m_H) (a0 a1 a2 a3 : Int) : Int → m_H → Prop := fun x h' => h0 = h' ∧ ((x = 1 ∧ ((0 ≤ a0 ∧ a0 ≤ 5) ∧ (0 ≤ a1 ∧ a1 ≤ 31) ∧ (1 ≤ a2 ∧ a2 ≤ 99) ∧ (0 ≤ a3 ∧ a3 ≤ 2))) ∨ (x = 0 ∧ ¬ ((0 ≤ a0 ∧ a0 ≤ 5) ∧ (0 ≤ a1 ∧ a1 ≤ 31) ∧ (1 ≤ a2 ∧ a2 ≤ 99) ∧ (0 ≤ a3 ∧ a3 ≤ 2))))
set_option maxHeartbeats 4000000 in
set_option maxRecDepth 100000 in
theorem c_X12_canEnter (h0 : m_H) (a0 a1 a2 a3 : Int) (G0 : GI h0) : m_CI M_X12_canEnter [mI a0, mI a1, mI a2, mI a3] h0 (P_X12_canEnter h0 a0 a1 a2 a3) := by
  refine m_CI_of ⟨by decide, rfl, by simp [m_arg, m_isL, M_X12_canEnter], ⟨rfl, rfl⟩, rfl, rfl⟩ (ls := [some (mI a0), some (mI a1), some (mI a2), some (mI a3)]) rfl ?_
  refine z_ok (fun _ _ ok => ?_)
  have oa0 : m_32 a0 := ok 0 _ rfl
  unfold m_32 at oa0
  have oa1 : m_32 a1 := ok 1 _ rfl
  unfold m_32 at oa1
  have oa2 : m_32 a2 := ok 2 _ rfl
  unfold m_32 at oa2
  have oa3 : m_32 a3 := ok 3 _ rfl
  unfold m_32 at oa3
  refine z_iload_n (M := M_X12_canEnter) 0 dX12_canEnter_0 rfl ?_
  refine z_sI (M := M_X12_canEnter) 1 dX12_canEnter_1 t_X12_isThing l_X12_166 (m_rr_of rfl) (rest := []) (c_X12_isThing h0 a0 G0) rfl rfl (Nat.le_of_ble_eq_true rfl) ⟨rfl, rfl⟩ (fun x1 h1 qx1 => ?_)
  obtain ⟨rfl, ⟨rfl, cx1⟩ | ⟨rfl, cx1⟩⟩ := qx1
  · refine z_if_eq_F (M := M_X12_canEnter) 4 dX12_canEnter_4 42 rfl (by omega) ?_
    refine z_iload_n (M := M_X12_canEnter) 7 dX12_canEnter_7 rfl ?_
    refine z_sI (M := M_X12_canEnter) 8 dX12_canEnter_8 t_X12_isWeek l_X12_156 (m_rr_of rfl) (rest := []) (c_X12_isWeek h0 a1 G0) rfl rfl (Nat.le_of_ble_eq_true rfl) ⟨rfl, rfl⟩ (fun x2 h2 qx2 => ?_)
    obtain ⟨rfl, ⟨rfl, cx2⟩ | ⟨rfl, cx2⟩⟩ := qx2
    · refine z_if_eq_F (M := M_X12_canEnter) 11 dX12_canEnter_11 42 rfl (by omega) ?_
      refine z_iload_n (M := M_X12_canEnter) 14 dX12_canEnter_14 rfl ?_
      refine z_i2l (M := M_X12_canEnter) 15 dX12_canEnter_15 ?_
      refine z_lconst (M := M_X12_canEnter) 16 dX12_canEnter_16 (v := 1) ?_
      refine z_ldc2 (M := M_X12_canEnter) 17 dX12_canEnter_17 k_X12_180 ?_
      refine z_sI (M := M_X12_canEnter) 20 dX12_canEnter_20 t_X12_in l_X12_143 (m_rr_of rfl) (rest := []) (c_X12_in h0 a2 1 99 G0) rfl rfl (Nat.le_of_ble_eq_true rfl) ⟨rfl, rfl⟩ (fun x3 h3 qx3 => ?_)
      obtain ⟨rfl, ⟨rfl, cx3⟩ | ⟨rfl, cx3⟩⟩ := qx3
      · refine z_if_eq_F (M := M_X12_canEnter) 23 dX12_canEnter_23 42 rfl (by omega) ?_
        refine z_iload_n (M := M_X12_canEnter) 26 dX12_canEnter_26 rfl ?_
        refine z_i2l (M := M_X12_canEnter) 27 dX12_canEnter_27 ?_
        refine z_lconst (M := M_X12_canEnter) 28 dX12_canEnter_28 (v := 0) ?_
        refine z_ldc2 (M := M_X12_canEnter) 29 dX12_canEnter_29 k_X12_182 ?_
        refine z_sI (M := M_X12_canEnter) 32 dX12_canEnter_32 t_X12_in l_X12_143 (m_rr_of rfl) (rest := []) (c_X12_in h0 a3 0 2 G0) rfl rfl (Nat.le_of_ble_eq_true rfl) ⟨rfl, rfl⟩ (fun x4 h4 qx4 => ?_)
        obtain ⟨rfl, ⟨rfl, cx4⟩ | ⟨rfl, cx4⟩⟩ := qx4
        · refine z_if_eq_F (M := M_X12_canEnter) 35 dX12_canEnter_35 42 rfl (by omega) ?_
          refine z_iconst (M := M_X12_canEnter) 38 dX12_canEnter_38 ?_
          refine z_goto (M := M_X12_canEnter) 39 dX12_canEnter_39 43 rfl ?_
          exact z_retZ (M := M_X12_canEnter) 43 dX12_canEnter_43 rfl (by omega) ⟨rfl, by omega⟩
        · refine z_if_eq_T (M := M_X12_canEnter) 35 dX12_canEnter_35 42 rfl (by omega) ?_
          refine z_iconst (M := M_X12_canEnter) 42 dX12_canEnter_42 ?_
          exact z_retZ (M := M_X12_canEnter) 43 dX12_canEnter_43 rfl (by omega) ⟨rfl, by omega⟩
      · refine z_if_eq_T (M := M_X12_canEnter) 23 dX12_canEnter_23 42 rfl (by omega) ?_
        refine z_iconst (M := M_X12_canEnter) 42 dX12_canEnter_42 ?_
        exact z_retZ (M := M_X12_canEnter) 43 dX12_canEnter_43 rfl (by omega) ⟨rfl, by omega⟩
    · refine z_if_eq_T (M := M_X12_canEnter) 11 dX12_canEnter_11 42 rfl (by omega) ?_
      refine z_iconst (M := M_X12_canEnter) 42 dX12_canEnter_42 ?_
      exact z_retZ (M := M_X12_canEnter) 43 dX12_canEnter_43 rfl (by omega) ⟨rfl, by omega⟩
  · refine z_if_eq_T (M := M_X12_canEnter) 4 dX12_canEnter_4 42 rfl (by omega) ?_
    refine z_iconst (M := M_X12_canEnter) 42 dX12_canEnter_42 ?_
    exact z_retZ (M := M_X12_canEnter) 43 dX12_canEnter_43 rfl (by omega) ⟨rfl, by omega⟩
abbrev P_X12_answer (h0 : m_H) (a1 : Int) : Int → m_H → Prop := fun x h' => GI h' ∧ FR [109] [(108, 1)] h0 h' ∧ a1 = x
set_option maxHeartbeats 4000000 in
set_option maxRecDepth 100000 in
theorem c_X12_answer (h0 : m_H) (a1 : Int) (G0 : GI h0) (pa1 : (-6) ≤ a1 ∧ a1 ≤ 2147483647) : m_CI M_X12_answer [mR 108, mI a1] h0 (P_X12_answer h0 a1) := by
  refine m_CI_of ⟨by decide, rfl, by simp [m_arg, m_isL, M_X12_answer], ⟨rfl, rfl⟩, rfl, rfl⟩ (ls := [some (mR 108), some (mI a1)]) rfl ?_
  refine z_aload_n (M := M_X12_answer) 0 dX12_answer_0 rfl ?_
  refine z_iload_n (M := M_X12_answer) 1 dX12_answer_1 rfl ?_
  refine z_if_ge (M := M_X12_answer) 2 dX12_answer_2 9 rfl (fun c1 => ?_) (fun c1 => ?_)
  · refine z_iconst (M := M_X12_answer) 9 dX12_answer_9 ?_
    refine z_putIH (M := M_X12_answer) 10 dX12_answer_10 p_X12_136 o_108 rfl (u_108_1 G0) ((FR.rf (cs := [109]) (ss := [(108, 1)]) (h := h0)).up rfl) (fun h1 E1 G1 R1 => ?_)
    refine z_iload_n (M := M_X12_answer) 13 dX12_answer_13 rfl ?_
    refine z_if_ge_T (M := M_X12_answer) 14 dX12_answer_14 28 rfl (by omega) ?_
    refine z_iload_n (M := M_X12_answer) 28 dX12_answer_28 rfl ?_
    exact z_retI (M := M_X12_answer) 29 dX12_answer_29 rfl ⟨G1, R1, rfl⟩
  · refine z_iload_n (M := M_X12_answer) 5 dX12_answer_5 rfl ?_
    refine z_goto (M := M_X12_answer) 6 dX12_answer_6 10 rfl ?_
    refine z_putIH (M := M_X12_answer) 10 dX12_answer_10 p_X12_136 o_108 rfl (u_108_1 G0) ((FR.rf (cs := [109]) (ss := [(108, 1)]) (h := h0)).up rfl) (fun h2 E2 G2 R2 => ?_)
    refine z_iload_n (M := M_X12_answer) 13 dX12_answer_13 rfl ?_
    refine z_if_ge_F (M := M_X12_answer) 14 dX12_answer_14 28 rfl (by omega) ?_
    refine z_aload_n (M := M_X12_answer) 17 dX12_answer_17 rfl ?_
    refine z_getR (M := M_X12_answer) 18 dX12_answer_18 f_X12_7 o_108 rfl (g_108_2 G2) ?_
    refine z_iload_n (M := M_X12_answer) 21 dX12_answer_21 rfl ?_
    refine z_inegN (M := M_X12_answer) 22 dX12_answer_22 (by omega) (by omega) ?_
    refine z_dup2 (M := M_X12_answer) 23 dX12_answer_23 rfl rfl ?_
    refine z_ialdV (M := M_X12_answer) 24 dX12_answer_24 o_109 (by omega) (by omega) (fun x2 ex2 => ?_)
    refine z_ok (fun ox2 _ _ => ?_)
    have ox2 := ox2.1; unfold m_ok m_32 at ox2
    refine z_iconst (M := M_X12_answer) 25 dX12_answer_25 ?_
    refine z_iadd (M := M_X12_answer) 26 dX12_answer_26 ?_
    refine z_topm (fun x3 ex3 ox3 => ?_)
    unfold m_32 at ox3
    refine z_iastH (M := M_X12_answer) 27 dX12_answer_27 o_109 (by omega) (by omega) (u_109 G2) (R2.up rfl) (fun h3 E3 G3 R3 => ?_)
    refine z_iload_n (M := M_X12_answer) 28 dX12_answer_28 rfl ?_
    exact z_retI (M := M_X12_answer) 29 dX12_answer_29 rfl ⟨G3, R3, rfl⟩
abbrev P_X12_was (h0 : m_H) (a1 : Int) : Int → m_H → Prop := fun x h' => GI h' ∧ FR [] [(108, 1)] h0 h' ∧ a1 = x
set_option maxHeartbeats 4000000 in
set_option maxRecDepth 100000 in
theorem c_X12_was (h0 : m_H) (a1 : Int) (G0 : GI h0) : m_CI M_X12_was [mR 108, mI a1] h0 (P_X12_was h0 a1) := by
  refine m_CI_of ⟨by decide, rfl, by simp [m_arg, m_isL, M_X12_was], ⟨rfl, rfl⟩, rfl, rfl⟩ (ls := [some (mR 108), some (mI a1)]) rfl ?_
  refine z_ok (fun _ _ ok => ?_)
  have oa1 : m_32 a1 := ok 1 _ rfl
  unfold m_32 at oa1
  refine z_aload_n (M := M_X12_was) 0 dX12_was_0 rfl ?_
  refine z_iconst (M := M_X12_was) 1 dX12_was_1 ?_
  refine z_putIH (M := M_X12_was) 2 dX12_was_2 p_X12_136 o_108 rfl (u_108_1 G0) ((FR.rf (cs := []) (ss := [(108, 1)]) (h := h0)).up rfl) (fun h1 E1 G1 R1 => ?_)
  refine z_iload_n (M := M_X12_was) 5 dX12_was_5 rfl ?_
  exact z_retI (M := M_X12_was) 6 dX12_was_6 rfl ⟨G1, R1, rfl⟩
abbrev P_X12_change (h0 : m_H) (a1 a2 : Int) : Int → m_H → Prop := fun x h' => GI h' ∧ FR [110] [(108, 1)] h0 h' ∧ h0 110 a1.toNat = x ∧ (∀ j : Nat, j ≠ a1.toNat → h' 110 j = h0 110 j) ∧ h' 110 a1.toNat = a2
set_option maxHeartbeats 4000000 in
set_option maxRecDepth 100000 in
theorem c_X12_change (h0 : m_H) (a1 a2 : Int) (G0 : GI h0) (pa1 : 0 ≤ a1 ∧ a1 ≤ 199) (hv : r_lo a1.toNat ≤ a2 ∧ a2 ≤ r_hi a1.toNat) : m_CI M_X12_change [mR 108, mI a1, mI a2] h0 (P_X12_change h0 a1 a2) := by
  refine m_CI_of ⟨by decide, rfl, by simp [m_arg, m_isL, M_X12_change], ⟨rfl, rfl⟩, rfl, rfl⟩ (ls := [some (mR 108), some (mI a1), some (mI a2), none]) rfl ?_
  refine z_ok (fun _ _ ok => ?_)
  have oa2 : m_32 a2 := ok 2 _ rfl
  unfold m_32 at oa2
  refine z_aload_n (M := M_X12_change) 0 dX12_change_0 rfl ?_
  refine z_getR (M := M_X12_change) 1 dX12_change_1 f_X12_13 o_108 rfl (g_108_3 G0) ?_
  refine z_iload_n (M := M_X12_change) 4 dX12_change_4 rfl ?_
  refine z_ialdV (M := M_X12_change) 5 dX12_change_5 o_110 (by omega) (by omega) (fun x1 ex1 => ?_)
  refine z_ok (fun ox1 _ _ => ?_)
  have ox1 := ox1.1; unfold m_ok m_32 at ox1
  refine z_istore_n (M := M_X12_change) 6 dX12_change_6 (ls' := [some (mR 108), some (mI a1), some (mI a2), some (mI x1)]) (by decide) rfl ?_
  refine z_aload_n (M := M_X12_change) 7 dX12_change_7 rfl ?_
  refine z_getR (M := M_X12_change) 8 dX12_change_8 f_X12_13 o_108 rfl (g_108_3 G0) ?_
  refine z_iload_n (M := M_X12_change) 11 dX12_change_11 rfl ?_
  refine z_iload_n (M := M_X12_change) 12 dX12_change_12 rfl ?_
  refine z_iastH (M := M_X12_change) 13 dX12_change_13 o_110 (by omega) (by omega) (u_110 G0 hv.1 hv.2) ((FR.rf (cs := [110]) (ss := [(108, 1)]) (h := h0)).up rfl) (fun h1 E1 G1 R1 => ?_)
  refine z_aload_n (M := M_X12_change) 14 dX12_change_14 rfl ?_
  refine z_iload_n (M := M_X12_change) 15 dX12_change_15 rfl ?_
  refine z_vI (M := M_X12_change) 16 dX12_change_16 t_X12_was l_X12_139 (m_rr_of rfl) (rest := []) (c_X12_was h1 x1 G1) o_108 rfl rfl rfl (Nat.le_of_ble_eq_true rfl) ⟨rfl, rfl⟩ (fun x2 h2 qx2 => ?_)
  obtain ⟨G2, S2, rfl⟩ := qx2
  have R2 := R1.call S2 (by decide +kernel)
  exact z_retI (M := M_X12_change) 19 dX12_change_19 rfl ⟨G2, R2, ex1, fun j hj => (S2 110 j rfl).trans (upN E1 (fun q => hj q.2)), (S2 110 _ rfl).trans (upE E1)⟩
abbrev P_X12_image (h0 : m_H) (a1 : Int) : Int → m_H → Prop := fun x h' => GI h' ∧ FR [109, 111, 112] [(108, 0), (108, 1)] h0 h' ∧ (-1) ≤ x ∧ x ≤ 0 ∧ NPi h0 h'
def q_X12_image (h0 : m_H) (a1 : Int) (n : Nat) : Prop := (∀ (l2 : Int) (h : m_H), GI h → FR [109, 111, 112] [(108, 0), (108, 1)] h0 h → 0 ≤ l2 → l2 ≤ 200 → 0 ≤ a1 → a1 ≤ 1 → (∀ j : Nat, (j : Int) < l2 → r_lo j ≤ h 111 (200 * a1.toNat + j) ∧ h 111 (200 * a1.toNat + j) ≤ r_hi j) → (NIm h0 h a1.toNat l2) → 2 * (200 - l2) + (1) ≤ (n : Int) → m_Z oF M_X12_image 23 [some (mR 108), some (mI a1), some (mI l2)] [] h (m_QI (P_X12_image h0 a1)))
set_option maxHeartbeats 4000000 in
set_option maxRecDepth 100000 in
theorem s_X12_image_23 (h0 : m_H) (a1 : Int) (G0 : GI h0) (n : Nat) (ih : q_X12_image h0 a1 n) : ∀ (l2 : Int) (h : m_H), GI h → FR [109, 111, 112] [(108, 0), (108, 1)] h0 h → 0 ≤ l2 → l2 ≤ 200 → 0 ≤ a1 → a1 ≤ 1 → (∀ j : Nat, (j : Int) < l2 → r_lo j ≤ h 111 (200 * a1.toNat + j) ∧ h 111 (200 * a1.toNat + j) ≤ r_hi j) → (NIm h0 h a1.toNat l2) → 2 * (200 - l2) + (1) ≤ ((n + 1 : Nat) : Int) → m_Z oF M_X12_image 23 [some (mR 108), some (mI a1), some (mI l2)] [] h (m_QI (P_X12_image h0 a1)) := by
  intro l2 h G R v0 v1 v2 v3 i0 i1 hr
  refine z_iload_n (M := M_X12_image) 23 dX12_image_23 rfl ?_
  refine z_sipush (M := M_X12_image) 24 dX12_image_24 ?_
  refine z_icmp_ge (M := M_X12_image) 27 dX12_image_27 54 rfl (fun c1 => ?_) (fun c1 => ?_)
  · refine z_aload_n (M := M_X12_image) 54 dX12_image_54 rfl ?_
    refine z_getR (M := M_X12_image) 55 dX12_image_55 f_X12_19 o_108 rfl (g_108_5 G) ?_
    refine z_iload_n (M := M_X12_image) 58 dX12_image_58 rfl ?_
    refine z_iconst (M := M_X12_image) 59 dX12_image_59 ?_
    refine z_zastH (M := M_X12_image) 60 dX12_image_60 o_112 (by omega) (by omega) (by omega) (ux_112 G (by omega) (by omega) (fun i hi => i0 i (by omega))) (R.up rfl) (fun h1 E1 G1 R1 => ?_)
    refine z_aload_n (M := M_X12_image) 61 dX12_image_61 rfl ?_
    refine z_iconst (M := M_X12_image) 62 dX12_image_62 ?_
    refine z_vI (M := M_X12_image) 63 dX12_image_63 t_X12_answer l_X12_147 (m_rr_of rfl) (rest := []) (c_X12_answer h1 0 G1 ⟨by omega, by omega⟩) o_108 rfl rfl rfl (Nat.le_of_ble_eq_true rfl) ⟨rfl, rfl⟩ (fun x2 h2 qx2 => ?_)
    obtain ⟨G2, S2, rfl⟩ := qx2
    have R2 := R1.call S2 (by decide +kernel)
    exact z_retI (M := M_X12_image) 66 dX12_image_66 rfl ⟨G2, R2, by omega, by omega, (NIm_end G0 (by omega) (by omega) i1 (by omega) E1 S2 (fun _ => rfl) (fun _ => rfl) (fun _ => rfl))⟩
  · refine z_aload_n (M := M_X12_image) 30 dX12_image_30 rfl ?_
    refine z_getR (M := M_X12_image) 31 dX12_image_31 f_X12_16 o_108 rfl (g_108_4 G) ?_
    refine z_sipush (M := M_X12_image) 34 dX12_image_34 ?_
    refine z_iload_n (M := M_X12_image) 37 dX12_image_37 rfl ?_
    refine z_imulN (M := M_X12_image) 38 dX12_image_38 (by omega) (by omega) ?_
    refine z_iload_n (M := M_X12_image) 39 dX12_image_39 rfl ?_
    refine z_iaddN (M := M_X12_image) 40 dX12_image_40 (by omega) (by omega) ?_
    refine z_aload_n (M := M_X12_image) 41 dX12_image_41 rfl ?_
    refine z_getR (M := M_X12_image) 42 dX12_image_42 f_X12_13 o_108 rfl (g_108_3 G) ?_
    refine z_iload_n (M := M_X12_image) 45 dX12_image_45 rfl ?_
    refine z_ialdV (M := M_X12_image) 46 dX12_image_46 o_110 (by omega) (by omega) (fun x3 ex3 => ?_)
    refine z_ok (fun ox3 _ _ => ?_)
    have ox3 := ox3.1; unfold m_ok m_32 at ox3
    refine z_iastH (M := M_X12_image) 47 dX12_image_47 o_111 (by omega) (by omega) (ux_111 G (by rw [show (200 * a1 + l2).toNat % 200 = l2.toNat by omega]; exact ex3 ▸ g_110 G (by omega))) (R.up rfl) (fun h3 E3 G3 R3 => ?_)
    refine z_iincN (M := M_X12_image) 48 dX12_image_48 (ls' := [some (mR 108), some (mI a1), some (mI (l2 + 1))]) (by decide) rfl (by (unfold m_32; decide)) (by omega) (by omega) rfl ?_
    refine z_goto (M := M_X12_image) 51 dX12_image_51 23 rfl ?_
    exact z_mask [true, true, true] rfl (ih (l2 + 1) h3 G3 R3 (by omega) (by omega) (by omega) (by omega) (im_step (by omega) (by omega) (by omega) E3 (ex3 ▸ g_110 G (by omega)) i0) (NIm_step (by omega) (by omega) (by omega) i1 E3 ex3) (by omega))
theorem a_X12_image (h0 : m_H) (a1 : Int) (G0 : GI h0) : ∀ n, q_X12_image h0 a1 n := by
  intro n
  induction n with
  | zero => unfold q_X12_image; intros; omega
  | succ n ih => exact s_X12_image_23 h0 a1 G0 n ih
set_option maxHeartbeats 4000000 in
set_option maxRecDepth 100000 in
theorem c_X12_image (h0 : m_H) (a1 : Int) (G0 : GI h0) : m_CI M_X12_image [mR 108, mI a1] h0 (P_X12_image h0 a1) := by
  refine m_CI_of ⟨by decide, rfl, by simp [m_arg, m_isL, M_X12_image], ⟨rfl, rfl⟩, rfl, rfl⟩ (ls := [some (mR 108), some (mI a1), none]) rfl ?_
  have ih := a_X12_image h0 a1 G0 408
  refine z_ok (fun _ _ ok => ?_)
  have oa1 : m_32 a1 := ok 1 _ rfl
  unfold m_32 at oa1
  refine z_aload_n (M := M_X12_image) 0 dX12_image_0 rfl ?_
  refine z_iconst (M := M_X12_image) 1 dX12_image_1 ?_
  refine z_putIH (M := M_X12_image) 2 dX12_image_2 p_X12_133 o_108 rfl (u_108_0 G0) ((FR.rf (cs := [109, 111, 112]) (ss := [(108, 0), (108, 1)]) (h := h0)).up rfl) (fun h1 E1 G1 R1 => ?_)
  refine z_iload_n (M := M_X12_image) 5 dX12_image_5 rfl ?_
  refine z_i2l (M := M_X12_image) 6 dX12_image_6 ?_
  refine z_lconst (M := M_X12_image) 7 dX12_image_7 (v := 0) ?_
  refine z_lconst (M := M_X12_image) 8 dX12_image_8 (v := 1) ?_
  refine z_sI (M := M_X12_image) 9 dX12_image_9 t_X12_in l_X12_143 (m_rr_of rfl) (rest := []) (c_X12_in h1 a1 0 1 G1) rfl rfl (Nat.le_of_ble_eq_true rfl) ⟨rfl, rfl⟩ (fun x1 h2 qx1 => ?_)
  obtain ⟨rfl, ⟨rfl, cx1⟩ | ⟨rfl, cx1⟩⟩ := qx1
  · refine z_if_ne_T (M := M_X12_image) 12 dX12_image_12 21 rfl (by omega) ?_
    refine z_iconst (M := M_X12_image) 21 dX12_image_21 ?_
    refine z_istore_n (M := M_X12_image) 22 dX12_image_22 (ls' := [some (mR 108), some (mI a1), some (mI 0)]) (by decide) rfl ?_
    exact z_mask [true, true, true] rfl (ih 0 h1 G1 R1 (by omega) (by omega) (by omega) (by omega) (fun j hj => by omega) (NIm_0 E1) (by omega))
  · refine z_if_ne_F (M := M_X12_image) 12 dX12_image_12 21 rfl (by omega) ?_
    refine z_aload_n (M := M_X12_image) 15 dX12_image_15 rfl ?_
    refine z_iconst (M := M_X12_image) 16 dX12_image_16 ?_
    refine z_vI (M := M_X12_image) 17 dX12_image_17 t_X12_answer l_X12_147 (m_rr_of rfl) (rest := []) (c_X12_answer h1 (-1) G1 ⟨by omega, by omega⟩) o_108 rfl rfl rfl (Nat.le_of_ble_eq_true rfl) ⟨rfl, rfl⟩ (fun x2 h3 qx2 => ?_)
    obtain ⟨G3, S3, rfl⟩ := qx2
    have R3 := R1.call S3 (by decide +kernel)
    exact z_retI (M := M_X12_image) 20 dX12_image_20 rfl ⟨G3, R3, by omega, by omega, (NPi.call (NPi.put NPi.rf E1 (by decide)) S3 (fun _ => rfl) (fun _ => rfl) (fun _ => rfl))⟩
abbrev P_X12_back (h0 : m_H) (a1 : Int) : Int → m_H → Prop := fun x h' => GI h' ∧ FR [109, 110] [(108, 0), (108, 1)] h0 h' ∧ (-2) ≤ x ∧ x ≤ 0 ∧ NQi h0 h'
def q_X12_back (h0 : m_H) (a1 : Int) (n : Nat) : Prop := (∀ (l2 : Int) (h : m_H), GI h → FR [109, 110] [(108, 0), (108, 1)] h0 h → 0 ≤ l2 → l2 ≤ 200 → 0 ≤ a1 → a1 ≤ 1 → (h 112 a1.toNat ≠ 0) → (NBk h0 h a1.toNat l2) → 2 * (200 - l2) + (1) ≤ (n : Int) → m_Z oF M_X12_back 39 [some (mR 108), some (mI a1), some (mI l2)] [] h (m_QI (P_X12_back h0 a1)))
set_option maxHeartbeats 4000000 in
set_option maxRecDepth 100000 in
theorem s_X12_back_39 (h0 : m_H) (a1 : Int) (G0 : GI h0) (n : Nat) (ih : q_X12_back h0 a1 n) : ∀ (l2 : Int) (h : m_H), GI h → FR [109, 110] [(108, 0), (108, 1)] h0 h → 0 ≤ l2 → l2 ≤ 200 → 0 ≤ a1 → a1 ≤ 1 → (h 112 a1.toNat ≠ 0) → (NBk h0 h a1.toNat l2) → 2 * (200 - l2) + (1) ≤ ((n + 1 : Nat) : Int) → m_Z oF M_X12_back 39 [some (mR 108), some (mI a1), some (mI l2)] [] h (m_QI (P_X12_back h0 a1)) := by
  intro l2 h G R v0 v1 v2 v3 i0 i1 hr
  refine z_iload_n (M := M_X12_back) 39 dX12_back_39 rfl ?_
  refine z_sipush (M := M_X12_back) 40 dX12_back_40 ?_
  refine z_icmp_ge (M := M_X12_back) 43 dX12_back_43 70 rfl (fun c1 => ?_) (fun c1 => ?_)
  · refine z_aload_n (M := M_X12_back) 70 dX12_back_70 rfl ?_
    refine z_iconst (M := M_X12_back) 71 dX12_back_71 ?_
    refine z_vI (M := M_X12_back) 72 dX12_back_72 t_X12_answer l_X12_147 (m_rr_of rfl) (rest := []) (c_X12_answer h 0 G ⟨by omega, by omega⟩) o_108 rfl rfl rfl (Nat.le_of_ble_eq_true rfl) ⟨rfl, rfl⟩ (fun x2 h1 qx2 => ?_)
    obtain ⟨G1, S1, rfl⟩ := qx2
    have R1 := R.call S1 (by decide +kernel)
    exact z_retI (M := M_X12_back) 75 dX12_back_75 rfl ⟨G1, R1, by omega, by omega, (NBk_end G (by omega) (by omega) i1 (by omega) i0 S1 (fun _ => rfl) (fun _ => rfl) (fun _ => rfl))⟩
  · refine z_aload_n (M := M_X12_back) 46 dX12_back_46 rfl ?_
    refine z_getR (M := M_X12_back) 47 dX12_back_47 f_X12_13 o_108 rfl (g_108_3 G) ?_
    refine z_iload_n (M := M_X12_back) 50 dX12_back_50 rfl ?_
    refine z_aload_n (M := M_X12_back) 51 dX12_back_51 rfl ?_
    refine z_getR (M := M_X12_back) 52 dX12_back_52 f_X12_16 o_108 rfl (g_108_4 G) ?_
    refine z_sipush (M := M_X12_back) 55 dX12_back_55 ?_
    refine z_iload_n (M := M_X12_back) 58 dX12_back_58 rfl ?_
    refine z_imulN (M := M_X12_back) 59 dX12_back_59 (by omega) (by omega) ?_
    refine z_iload_n (M := M_X12_back) 60 dX12_back_60 rfl ?_
    refine z_iaddN (M := M_X12_back) 61 dX12_back_61 (by omega) (by omega) ?_
    refine z_ialdV (M := M_X12_back) 62 dX12_back_62 o_111 (by omega) (by omega) (fun x3 ex3 => ?_)
    refine z_ok (fun ox3 _ _ => ?_)
    have ox3 := ox3.1; unfold m_ok m_32 at ox3
    refine z_iastH (M := M_X12_back) 63 dX12_back_63 o_110 (by omega) (by omega) (u_110 G (ex3 ▸ (bk_b G (by omega) (by omega) (by omega) (by omega) i0).1) (ex3 ▸ (bk_b G (by omega) (by omega) (by omega) (by omega) i0).2)) (R.up rfl) (fun h2 E2 G2 R2 => ?_)
    refine z_iincN (M := M_X12_back) 64 dX12_back_64 (ls' := [some (mR 108), some (mI a1), some (mI (l2 + 1))]) (by decide) rfl (by (unfold m_32; decide)) (by omega) (by omega) rfl ?_
    refine z_goto (M := M_X12_back) 67 dX12_back_67 39 rfl ?_
    exact z_mask [true, true, true] rfl (ih (l2 + 1) h2 G2 R2 (by omega) (by omega) (by omega) (by omega) (by rw [E2, m_up_ne1 (by decide)]; exact i0) (NBk_step (by omega) (by omega) i1 E2 ex3) (by omega))
theorem a_X12_back (h0 : m_H) (a1 : Int) (G0 : GI h0) : ∀ n, q_X12_back h0 a1 n := by
  intro n
  induction n with
  | zero => unfold q_X12_back; intros; omega
  | succ n ih => exact s_X12_back_39 h0 a1 G0 n ih
set_option maxHeartbeats 4000000 in
set_option maxRecDepth 100000 in
theorem c_X12_back (h0 : m_H) (a1 : Int) (G0 : GI h0) : m_CI M_X12_back [mR 108, mI a1] h0 (P_X12_back h0 a1) := by
  refine m_CI_of ⟨by decide, rfl, by simp [m_arg, m_isL, M_X12_back], ⟨rfl, rfl⟩, rfl, rfl⟩ (ls := [some (mR 108), some (mI a1), none]) rfl ?_
  have ih := a_X12_back h0 a1 G0 408
  refine z_ok (fun _ _ ok => ?_)
  have oa1 : m_32 a1 := ok 1 _ rfl
  unfold m_32 at oa1
  refine z_aload_n (M := M_X12_back) 0 dX12_back_0 rfl ?_
  refine z_iconst (M := M_X12_back) 1 dX12_back_1 ?_
  refine z_putIH (M := M_X12_back) 2 dX12_back_2 p_X12_133 o_108 rfl (u_108_0 G0) ((FR.rf (cs := [109, 110]) (ss := [(108, 0), (108, 1)]) (h := h0)).up rfl) (fun h1 E1 G1 R1 => ?_)
  refine z_iload_n (M := M_X12_back) 5 dX12_back_5 rfl ?_
  refine z_i2l (M := M_X12_back) 6 dX12_back_6 ?_
  refine z_lconst (M := M_X12_back) 7 dX12_back_7 (v := 0) ?_
  refine z_lconst (M := M_X12_back) 8 dX12_back_8 (v := 1) ?_
  refine z_sI (M := M_X12_back) 9 dX12_back_9 t_X12_in l_X12_143 (m_rr_of rfl) (rest := []) (c_X12_in h1 a1 0 1 G1) rfl rfl (Nat.le_of_ble_eq_true rfl) ⟨rfl, rfl⟩ (fun x1 h2 qx1 => ?_)
  obtain ⟨rfl, ⟨rfl, cx1⟩ | ⟨rfl, cx1⟩⟩ := qx1
  · refine z_if_ne_T (M := M_X12_back) 12 dX12_back_12 21 rfl (by omega) ?_
    refine z_aload_n (M := M_X12_back) 21 dX12_back_21 rfl ?_
    refine z_getR (M := M_X12_back) 22 dX12_back_22 f_X12_19 o_108 rfl (g_108_5 G1) ?_
    refine z_iload_n (M := M_X12_back) 25 dX12_back_25 rfl ?_
    refine z_zaldG (M := M_X12_back) 26 dX12_back_26 o_112 (by omega) (by omega) (g_112 G1 (by omega)) (fun x2 ex2 ax2 bx2 => ?_)
    refine z_if_ne (M := M_X12_back) 27 dX12_back_27 37 rfl (fun c3 => ?_) (fun c3 => ?_)
    · refine z_iconst (M := M_X12_back) 37 dX12_back_37 ?_
      refine z_istore_n (M := M_X12_back) 38 dX12_back_38 (ls' := [some (mR 108), some (mI a1), some (mI 0)]) (by decide) rfl ?_
      exact z_mask [true, true, true] rfl (ih 0 h1 G1 R1 (by omega) (by omega) (by omega) (by omega) (fun q => by omega) (NBk_0 E1) (by omega))
    · refine z_aload_n (M := M_X12_back) 30 dX12_back_30 rfl ?_
      refine z_bipush (M := M_X12_back) 31 dX12_back_31 ?_
      refine z_vI (M := M_X12_back) 33 dX12_back_33 t_X12_answer l_X12_147 (m_rr_of rfl) (rest := []) (c_X12_answer h1 (-2) G1 ⟨by omega, by omega⟩) o_108 rfl rfl rfl (Nat.le_of_ble_eq_true rfl) ⟨rfl, rfl⟩ (fun x4 h3 qx4 => ?_)
      obtain ⟨G3, S3, rfl⟩ := qx4
      have R3 := R1.call S3 (by decide +kernel)
      exact z_retI (M := M_X12_back) 36 dX12_back_36 rfl ⟨G3, R3, by omega, by omega, (NQi.call (NQi.put NQi.rf E1 (by decide)) S3 (fun _ => rfl) (fun _ => rfl) (fun _ => rfl))⟩
  · refine z_if_ne_F (M := M_X12_back) 12 dX12_back_12 21 rfl (by omega) ?_
    refine z_aload_n (M := M_X12_back) 15 dX12_back_15 rfl ?_
    refine z_iconst (M := M_X12_back) 16 dX12_back_16 ?_
    refine z_vI (M := M_X12_back) 17 dX12_back_17 t_X12_answer l_X12_147 (m_rr_of rfl) (rest := []) (c_X12_answer h1 (-1) G1 ⟨by omega, by omega⟩) o_108 rfl rfl rfl (Nat.le_of_ble_eq_true rfl) ⟨rfl, rfl⟩ (fun x5 h4 qx5 => ?_)
    obtain ⟨G4, S4, rfl⟩ := qx5
    have R4 := R1.call S4 (by decide +kernel)
    exact z_retI (M := M_X12_back) 20 dX12_back_20 rfl ⟨G4, R4, by omega, by omega, (NQi.call (NQi.put NQi.rf E1 (by decide)) S4 (fun _ => rfl) (fun _ => rfl) (fun _ => rfl))⟩
abbrev P_X12_week (h0 : m_H) (a1 a2 : Int) : Int → m_H → Prop := fun x h' => GI h' ∧ FR [109, 110] [(108, 0), (108, 1)] h0 h' ∧ NPi h0 h'
set_option maxHeartbeats 4000000 in
set_option maxRecDepth 100000 in
theorem c_X12_week (h0 : m_H) (a1 a2 : Int) (G0 : GI h0) : m_CI M_X12_week [mR 108, mI a1, mI a2] h0 (P_X12_week h0 a1 a2) := by
  refine m_CI_of ⟨by decide, rfl, by simp [m_arg, m_isL, M_X12_week], ⟨rfl, rfl⟩, rfl, rfl⟩ (ls := [some (mR 108), some (mI a1), some (mI a2)]) rfl ?_
  refine z_ok (fun _ _ ok => ?_)
  have oa1 : m_32 a1 := ok 1 _ rfl
  unfold m_32 at oa1
  have oa2 : m_32 a2 := ok 2 _ rfl
  unfold m_32 at oa2
  refine z_aload_n (M := M_X12_week) 0 dX12_week_0 rfl ?_
  refine z_iconst (M := M_X12_week) 1 dX12_week_1 ?_
  refine z_putIH (M := M_X12_week) 2 dX12_week_2 p_X12_133 o_108 rfl (u_108_0 G0) ((FR.rf (cs := [109, 110]) (ss := [(108, 0), (108, 1)]) (h := h0)).up rfl) (fun h1 E1 G1 R1 => ?_)
  refine z_iload_n (M := M_X12_week) 5 dX12_week_5 rfl ?_
  refine z_sI (M := M_X12_week) 6 dX12_week_6 t_X12_isWeek l_X12_156 (m_rr_of rfl) (rest := []) (c_X12_isWeek h1 a1 G1) rfl rfl (Nat.le_of_ble_eq_true rfl) ⟨rfl, rfl⟩ (fun x1 h2 qx1 => ?_)
  obtain ⟨rfl, ⟨rfl, cx1⟩ | ⟨rfl, cx1⟩⟩ := qx1
  · refine z_if_eq_F (M := M_X12_week) 9 dX12_week_9 38 rfl (by omega) ?_
    refine z_iload_n (M := M_X12_week) 12 dX12_week_12 rfl ?_
    refine z_i2l (M := M_X12_week) 13 dX12_week_13 ?_
    refine z_ldc2 (M := M_X12_week) 14 dX12_week_14 k_X12_160 ?_
    refine z_ldc2 (M := M_X12_week) 17 dX12_week_17 k_X12_152 ?_
    refine z_sI (M := M_X12_week) 20 dX12_week_20 t_X12_in l_X12_143 (m_rr_of rfl) (rest := []) (c_X12_in h1 a2 (-1) 3 G1) rfl rfl (Nat.le_of_ble_eq_true rfl) ⟨rfl, rfl⟩ (fun x2 h3 qx2 => ?_)
    obtain ⟨rfl, ⟨rfl, cx2⟩ | ⟨rfl, cx2⟩⟩ := qx2
    · refine z_if_eq_F (M := M_X12_week) 23 dX12_week_23 38 rfl (by omega) ?_
      refine z_aload_n (M := M_X12_week) 26 dX12_week_26 rfl ?_
      refine z_bipush (M := M_X12_week) 27 dX12_week_27 ?_
      refine z_iload_n (M := M_X12_week) 29 dX12_week_29 rfl ?_
      refine z_iaddN (M := M_X12_week) 30 dX12_week_30 (by omega) (by omega) ?_
      refine z_iload_n (M := M_X12_week) 31 dX12_week_31 rfl ?_
      refine z_vI (M := M_X12_week) 32 dX12_week_32 t_X12_change l_X12_162 (m_rr_of rfl) (rest := []) (c_X12_change h1 (10 + a1) a2 G1 ⟨by omega, by omega⟩ (rb_w (by omega) (by omega) (by omega) (by omega))) o_108 rfl rfl rfl (Nat.le_of_ble_eq_true rfl) ⟨rfl, rfl⟩ (fun x3 h4 qx3 => ?_)
      obtain ⟨G4, S4, fx3_0, fx3_1, fx3_2⟩ := qx3
      have R4 := R1.call S4 (by decide +kernel)
      refine z_ok (fun ox3 _ _ => ?_)
      have ox3 := ox3.1; unfold m_ok m_32 at ox3
      refine z_goto (M := M_X12_week) 35 dX12_week_35 43 rfl ?_
      exact z_retI (M := M_X12_week) 43 dX12_week_43 rfl ⟨G4, R4, (NPi.change (NPi.put NPi.rf E1 (by decide)) S4 (fun _ => rfl) (fun _ => rfl) fx3_1 ⟨by omega, fun e => by omega⟩ (by omega))⟩
    · refine z_if_eq_T (M := M_X12_week) 23 dX12_week_23 38 rfl (by omega) ?_
      refine z_aload_n (M := M_X12_week) 38 dX12_week_38 rfl ?_
      refine z_iconst (M := M_X12_week) 39 dX12_week_39 ?_
      refine z_vI (M := M_X12_week) 40 dX12_week_40 t_X12_answer l_X12_147 (m_rr_of rfl) (rest := []) (c_X12_answer h1 (-1) G1 ⟨by omega, by omega⟩) o_108 rfl rfl rfl (Nat.le_of_ble_eq_true rfl) ⟨rfl, rfl⟩ (fun x4 h5 qx4 => ?_)
      obtain ⟨G5, S5, rfl⟩ := qx4
      have R5 := R1.call S5 (by decide +kernel)
      exact z_retI (M := M_X12_week) 43 dX12_week_43 rfl ⟨G5, R5, (NPi.call (NPi.put NPi.rf E1 (by decide)) S5 (fun _ => rfl) (fun _ => rfl) (fun _ => rfl))⟩
  · refine z_if_eq_T (M := M_X12_week) 9 dX12_week_9 38 rfl (by omega) ?_
    refine z_aload_n (M := M_X12_week) 38 dX12_week_38 rfl ?_
    refine z_iconst (M := M_X12_week) 39 dX12_week_39 ?_
    refine z_vI (M := M_X12_week) 40 dX12_week_40 t_X12_answer l_X12_147 (m_rr_of rfl) (rest := []) (c_X12_answer h1 (-1) G1 ⟨by omega, by omega⟩) o_108 rfl rfl rfl (Nat.le_of_ble_eq_true rfl) ⟨rfl, rfl⟩ (fun x5 h6 qx5 => ?_)
    obtain ⟨G6, S6, rfl⟩ := qx5
    have R6 := R1.call S6 (by decide +kernel)
    exact z_retI (M := M_X12_week) 43 dX12_week_43 rfl ⟨G6, R6, (NPi.call (NPi.put NPi.rf E1 (by decide)) S6 (fun _ => rfl) (fun _ => rfl) (fun _ => rfl))⟩
abbrev P_X12_cut (h0 : m_H) (a1 a2 : Int) : Int → m_H → Prop := fun x h' => GI h' ∧ FR [109, 110] [(108, 0), (108, 1)] h0 h' ∧ NPi h0 h'
set_option maxHeartbeats 4000000 in
set_option maxRecDepth 100000 in
theorem c_X12_cut (h0 : m_H) (a1 a2 : Int) (G0 : GI h0) : m_CI M_X12_cut [mR 108, mI a1, mI a2] h0 (P_X12_cut h0 a1 a2) := by
  refine m_CI_of ⟨by decide, rfl, by simp [m_arg, m_isL, M_X12_cut], ⟨rfl, rfl⟩, rfl, rfl⟩ (ls := [some (mR 108), some (mI a1), some (mI a2)]) rfl ?_
  refine z_ok (fun _ _ ok => ?_)
  have oa1 : m_32 a1 := ok 1 _ rfl
  unfold m_32 at oa1
  have oa2 : m_32 a2 := ok 2 _ rfl
  unfold m_32 at oa2
  refine z_aload_n (M := M_X12_cut) 0 dX12_cut_0 rfl ?_
  refine z_iconst (M := M_X12_cut) 1 dX12_cut_1 ?_
  refine z_putIH (M := M_X12_cut) 2 dX12_cut_2 p_X12_133 o_108 rfl (u_108_0 G0) ((FR.rf (cs := [109, 110]) (ss := [(108, 0), (108, 1)]) (h := h0)).up rfl) (fun h1 E1 G1 R1 => ?_)
  refine z_iload_n (M := M_X12_cut) 5 dX12_cut_5 rfl ?_
  refine z_sI (M := M_X12_cut) 6 dX12_cut_6 t_X12_isThing l_X12_166 (m_rr_of rfl) (rest := []) (c_X12_isThing h1 a1 G1) rfl rfl (Nat.le_of_ble_eq_true rfl) ⟨rfl, rfl⟩ (fun x1 h2 qx1 => ?_)
  obtain ⟨rfl, ⟨rfl, cx1⟩ | ⟨rfl, cx1⟩⟩ := qx1
  · refine z_if_eq_F (M := M_X12_cut) 9 dX12_cut_9 41 rfl (by omega) ?_
    refine z_iload_n (M := M_X12_cut) 12 dX12_cut_12 rfl ?_
    refine z_iconst (M := M_X12_cut) 13 dX12_cut_13 ?_
    refine z_icmp_eq (M := M_X12_cut) 14 dX12_cut_14 29 rfl (fun c2 => ?_) (fun c2 => ?_)
    · refine z_aload_n (M := M_X12_cut) 29 dX12_cut_29 rfl ?_
      refine z_bipush (M := M_X12_cut) 30 dX12_cut_30 ?_
      refine z_iload_n (M := M_X12_cut) 32 dX12_cut_32 rfl ?_
      refine z_iaddN (M := M_X12_cut) 33 dX12_cut_33 (by omega) (by omega) ?_
      refine z_iload_n (M := M_X12_cut) 34 dX12_cut_34 rfl ?_
      refine z_vI (M := M_X12_cut) 35 dX12_cut_35 t_X12_change l_X12_162 (m_rr_of rfl) (rest := []) (c_X12_change h1 (42 + a1) a2 G1 ⟨by omega, by omega⟩ (rb_c (by omega) (by omega) (by omega) (by omega))) o_108 rfl rfl rfl (Nat.le_of_ble_eq_true rfl) ⟨rfl, rfl⟩ (fun x3 h3 qx3 => ?_)
      obtain ⟨G3, S3, fx3_0, fx3_1, fx3_2⟩ := qx3
      have R3 := R1.call S3 (by decide +kernel)
      refine z_ok (fun ox3 _ _ => ?_)
      have ox3 := ox3.1; unfold m_ok m_32 at ox3
      refine z_goto (M := M_X12_cut) 38 dX12_cut_38 46 rfl ?_
      exact z_retI (M := M_X12_cut) 46 dX12_cut_46 rfl ⟨G3, R3, (NPi.change (NPi.put NPi.rf E1 (by decide)) S3 (fun _ => rfl) (fun _ => rfl) fx3_1 ⟨by omega, fun e => by omega⟩ (by omega))⟩
    · refine z_iload_n (M := M_X12_cut) 17 dX12_cut_17 rfl ?_
      refine z_i2l (M := M_X12_cut) 18 dX12_cut_18 ?_
      refine z_lconst (M := M_X12_cut) 19 dX12_cut_19 (v := 1) ?_
      refine z_ldc2 (M := M_X12_cut) 20 dX12_cut_20 k_X12_154 ?_
      refine z_sI (M := M_X12_cut) 23 dX12_cut_23 t_X12_in l_X12_143 (m_rr_of rfl) (rest := []) (c_X12_in h1 a2 1 31 G1) rfl rfl (Nat.le_of_ble_eq_true rfl) ⟨rfl, rfl⟩ (fun x4 h4 qx4 => ?_)
      obtain ⟨rfl, ⟨rfl, cx4⟩ | ⟨rfl, cx4⟩⟩ := qx4
      · refine z_if_eq_F (M := M_X12_cut) 26 dX12_cut_26 41 rfl (by omega) ?_
        refine z_aload_n (M := M_X12_cut) 29 dX12_cut_29 rfl ?_
        refine z_bipush (M := M_X12_cut) 30 dX12_cut_30 ?_
        refine z_iload_n (M := M_X12_cut) 32 dX12_cut_32 rfl ?_
        refine z_iaddN (M := M_X12_cut) 33 dX12_cut_33 (by omega) (by omega) ?_
        refine z_iload_n (M := M_X12_cut) 34 dX12_cut_34 rfl ?_
        refine z_vI (M := M_X12_cut) 35 dX12_cut_35 t_X12_change l_X12_162 (m_rr_of rfl) (rest := []) (c_X12_change h1 (42 + a1) a2 G1 ⟨by omega, by omega⟩ (rb_c (by omega) (by omega) (by omega) (by omega))) o_108 rfl rfl rfl (Nat.le_of_ble_eq_true rfl) ⟨rfl, rfl⟩ (fun x5 h5 qx5 => ?_)
        obtain ⟨G5, S5, fx5_0, fx5_1, fx5_2⟩ := qx5
        have R5 := R1.call S5 (by decide +kernel)
        refine z_ok (fun ox5 _ _ => ?_)
        have ox5 := ox5.1; unfold m_ok m_32 at ox5
        refine z_goto (M := M_X12_cut) 38 dX12_cut_38 46 rfl ?_
        exact z_retI (M := M_X12_cut) 46 dX12_cut_46 rfl ⟨G5, R5, (NPi.change (NPi.put NPi.rf E1 (by decide)) S5 (fun _ => rfl) (fun _ => rfl) fx5_1 ⟨by omega, fun e => by omega⟩ (by omega))⟩
      · refine z_if_eq_T (M := M_X12_cut) 26 dX12_cut_26 41 rfl (by omega) ?_
        refine z_aload_n (M := M_X12_cut) 41 dX12_cut_41 rfl ?_
        refine z_iconst (M := M_X12_cut) 42 dX12_cut_42 ?_
        refine z_vI (M := M_X12_cut) 43 dX12_cut_43 t_X12_answer l_X12_147 (m_rr_of rfl) (rest := []) (c_X12_answer h1 (-1) G1 ⟨by omega, by omega⟩) o_108 rfl rfl rfl (Nat.le_of_ble_eq_true rfl) ⟨rfl, rfl⟩ (fun x6 h6 qx6 => ?_)
        obtain ⟨G6, S6, rfl⟩ := qx6
        have R6 := R1.call S6 (by decide +kernel)
        exact z_retI (M := M_X12_cut) 46 dX12_cut_46 rfl ⟨G6, R6, (NPi.call (NPi.put NPi.rf E1 (by decide)) S6 (fun _ => rfl) (fun _ => rfl) (fun _ => rfl))⟩
  · refine z_if_eq_T (M := M_X12_cut) 9 dX12_cut_9 41 rfl (by omega) ?_
    refine z_aload_n (M := M_X12_cut) 41 dX12_cut_41 rfl ?_
    refine z_iconst (M := M_X12_cut) 42 dX12_cut_42 ?_
    refine z_vI (M := M_X12_cut) 43 dX12_cut_43 t_X12_answer l_X12_147 (m_rr_of rfl) (rest := []) (c_X12_answer h1 (-1) G1 ⟨by omega, by omega⟩) o_108 rfl rfl rfl (Nat.le_of_ble_eq_true rfl) ⟨rfl, rfl⟩ (fun x7 h7 qx7 => ?_)
    obtain ⟨G7, S7, rfl⟩ := qx7
    have R7 := R1.call S7 (by decide +kernel)
    exact z_retI (M := M_X12_cut) 46 dX12_cut_46 rfl ⟨G7, R7, (NPi.call (NPi.put NPi.rf E1 (by decide)) S7 (fun _ => rfl) (fun _ => rfl) (fun _ => rfl))⟩
abbrev P_X12_tell (h0 : m_H) (a1 a2 : Int) : Int → m_H → Prop := fun x h' => GI h' ∧ FR [109, 110] [(108, 0), (108, 1)] h0 h' ∧ tlQ 110 (60 + a1).toNat a1 a2 x h0 h' ∧ NQi h0 h'
set_option maxHeartbeats 4000000 in
set_option maxRecDepth 100000 in
theorem c_X12_tell (h0 : m_H) (a1 a2 : Int) (G0 : GI h0) : m_CI M_X12_tell [mR 108, mI a1, mI a2] h0 (P_X12_tell h0 a1 a2) := by
  refine m_CI_of ⟨by decide, rfl, by simp [m_arg, m_isL, M_X12_tell], ⟨rfl, rfl⟩, rfl, rfl⟩ (ls := [some (mR 108), some (mI a1), some (mI a2)]) rfl ?_
  refine z_ok (fun _ _ ok => ?_)
  have oa1 : m_32 a1 := ok 1 _ rfl
  unfold m_32 at oa1
  have oa2 : m_32 a2 := ok 2 _ rfl
  unfold m_32 at oa2
  refine z_aload_n (M := M_X12_tell) 0 dX12_tell_0 rfl ?_
  refine z_iconst (M := M_X12_tell) 1 dX12_tell_1 ?_
  refine z_putIH (M := M_X12_tell) 2 dX12_tell_2 p_X12_133 o_108 rfl (u_108_0 G0) ((FR.rf (cs := [109, 110]) (ss := [(108, 0), (108, 1)]) (h := h0)).up rfl) (fun h1 E1 G1 R1 => ?_)
  refine z_iload_n (M := M_X12_tell) 5 dX12_tell_5 rfl ?_
  refine z_i2l (M := M_X12_tell) 6 dX12_tell_6 ?_
  refine z_lconst (M := M_X12_tell) 7 dX12_tell_7 (v := 0) ?_
  refine z_ldc2 (M := M_X12_tell) 8 dX12_tell_8 k_X12_381 ?_
  refine z_sI (M := M_X12_tell) 11 dX12_tell_11 t_X12_in l_X12_143 (m_rr_of rfl) (rest := []) (c_X12_in h1 a1 0 15 G1) rfl rfl (Nat.le_of_ble_eq_true rfl) ⟨rfl, rfl⟩ (fun x1 h2 qx1 => ?_)
  obtain ⟨rfl, ⟨rfl, cx1⟩ | ⟨rfl, cx1⟩⟩ := qx1
  · refine z_if_eq_F (M := M_X12_tell) 14 dX12_tell_14 41 rfl (by omega) ?_
    refine z_iload_n (M := M_X12_tell) 17 dX12_tell_17 rfl ?_
    refine z_i2l (M := M_X12_tell) 18 dX12_tell_18 ?_
    refine z_lconst (M := M_X12_tell) 19 dX12_tell_19 (v := 1) ?_
    refine z_ldc2 (M := M_X12_tell) 20 dX12_tell_20 k_X12_499 ?_
    refine z_sI (M := M_X12_tell) 23 dX12_tell_23 t_X12_in l_X12_143 (m_rr_of rfl) (rest := []) (c_X12_in h1 a2 1 9999 G1) rfl rfl (Nat.le_of_ble_eq_true rfl) ⟨rfl, rfl⟩ (fun x2 h3 qx2 => ?_)
    obtain ⟨rfl, ⟨rfl, cx2⟩ | ⟨rfl, cx2⟩⟩ := qx2
    · refine z_if_eq_F (M := M_X12_tell) 26 dX12_tell_26 41 rfl (by omega) ?_
      refine z_aload_n (M := M_X12_tell) 29 dX12_tell_29 rfl ?_
      refine z_bipush (M := M_X12_tell) 30 dX12_tell_30 ?_
      refine z_iload_n (M := M_X12_tell) 32 dX12_tell_32 rfl ?_
      refine z_iaddN (M := M_X12_tell) 33 dX12_tell_33 (by omega) (by omega) ?_
      refine z_iload_n (M := M_X12_tell) 34 dX12_tell_34 rfl ?_
      refine z_vI (M := M_X12_tell) 35 dX12_tell_35 t_X12_change l_X12_162 (m_rr_of rfl) (rest := []) (c_X12_change h1 (60 + a1) a2 G1 ⟨by omega, by omega⟩ (rb_l (by omega) (by omega) (by omega) (by omega))) o_108 rfl rfl rfl (Nat.le_of_ble_eq_true rfl) ⟨rfl, rfl⟩ (fun x3 h4 qx3 => ?_)
      obtain ⟨G4, S4, fx3_0, fx3_1, fx3_2⟩ := qx3
      have R4 := R1.call S4 (by decide +kernel)
      refine z_ok (fun ox3 _ _ => ?_)
      have ox3 := ox3.1; unfold m_ok m_32 at ox3
      refine z_goto (M := M_X12_tell) 38 dX12_tell_38 46 rfl ?_
      exact z_retI (M := M_X12_tell) 46 dX12_tell_46 rfl ⟨G4, R4, Or.inr ⟨by omega, by omega, by omega, by omega, (tl_o E1 (by decide) _).symm.trans fx3_0, fx3_2, fun j hj => (fx3_1 j hj).trans (tl_o E1 (by decide) j)⟩, (NQi.change (NQi.put NQi.rf E1 (by decide)) S4 (fun _ => rfl) (fun _ => rfl) fx3_1 ⟨by omega, fun e => by omega⟩)⟩
    · refine z_if_eq_T (M := M_X12_tell) 26 dX12_tell_26 41 rfl (by omega) ?_
      refine z_aload_n (M := M_X12_tell) 41 dX12_tell_41 rfl ?_
      refine z_iconst (M := M_X12_tell) 42 dX12_tell_42 ?_
      refine z_vI (M := M_X12_tell) 43 dX12_tell_43 t_X12_answer l_X12_147 (m_rr_of rfl) (rest := []) (c_X12_answer h1 (-1) G1 ⟨by omega, by omega⟩) o_108 rfl rfl rfl (Nat.le_of_ble_eq_true rfl) ⟨rfl, rfl⟩ (fun x4 h5 qx4 => ?_)
      obtain ⟨G5, S5, rfl⟩ := qx4
      have R5 := R1.call S5 (by decide +kernel)
      exact z_retI (M := M_X12_tell) 46 dX12_tell_46 rfl ⟨G5, R5, Or.inl ⟨by omega, rfl, fun j => (S5 110 j rfl).trans (tl_o E1 (by decide) j)⟩, (NQi.call (NQi.put NQi.rf E1 (by decide)) S5 (fun _ => rfl) (fun _ => rfl) (fun _ => rfl))⟩
  · refine z_if_eq_T (M := M_X12_tell) 14 dX12_tell_14 41 rfl (by omega) ?_
    refine z_aload_n (M := M_X12_tell) 41 dX12_tell_41 rfl ?_
    refine z_iconst (M := M_X12_tell) 42 dX12_tell_42 ?_
    refine z_vI (M := M_X12_tell) 43 dX12_tell_43 t_X12_answer l_X12_147 (m_rr_of rfl) (rest := []) (c_X12_answer h1 (-1) G1 ⟨by omega, by omega⟩) o_108 rfl rfl rfl (Nat.le_of_ble_eq_true rfl) ⟨rfl, rfl⟩ (fun x5 h6 qx5 => ?_)
    obtain ⟨G6, S6, rfl⟩ := qx5
    have R6 := R1.call S6 (by decide +kernel)
    exact z_retI (M := M_X12_tell) 46 dX12_tell_46 rfl ⟨G6, R6, Or.inl ⟨by omega, rfl, fun j => (S6 110 j rfl).trans (tl_o E1 (by decide) j)⟩, (NQi.call (NQi.put NQi.rf E1 (by decide)) S6 (fun _ => rfl) (fun _ => rfl) (fun _ => rfl))⟩
