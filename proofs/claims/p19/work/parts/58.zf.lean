abbrev P_J6_bitCount_0f7a42 (h0 : m_H) (a0 : Int) : Int → m_H → Prop := fun x h' => GI h' ∧ FR [] [] h0 h' ∧ 0 ≤ x ∧ x ≤ 63 ∧ ((bcN a0.toNat : Nat) : Int) = x
set_option maxHeartbeats 4000000 in
set_option maxRecDepth 100000 in
theorem c_J6_bitCount_0f7a42 (h0 : m_H) (a0 : Int) (G0 : GI h0) (pa0 : 0 ≤ a0 ∧ a0 < 65536) : m_CI M_J6_bitCount_0f7a4 [mI a0] h0 (P_J6_bitCount_0f7a42 h0 a0) := by
  refine m_CI_of ⟨by decide, rfl, by simp [m_arg, m_isL, M_J6_bitCount_0f7a4], ⟨rfl, rfl⟩, rfl, rfl⟩ (ls := [some (mI a0)]) rfl ?_
  refine z_ok (fun _ _ ok => ?_)
  have oa0 : m_32 a0 := ok 0 _ rfl
  unfold m_32 at oa0
  obtain ⟨n, rfl⟩ : ∃ n : Nat, a0 = (n : Int) := ⟨a0.toNat, by omega⟩
  refine z_iload_n (M := M_J6_bitCount_0f7a4) 0 dJ6_bitCount_0f7a4_0 rfl ?_
  refine z_iload_n (M := M_J6_bitCount_0f7a4) 1 dJ6_bitCount_0f7a4_1 rfl ?_
  refine z_iconst (M := M_J6_bitCount_0f7a4) 2 dJ6_bitCount_0f7a4_2 ?_
  refine z_iushr (M := M_J6_bitCount_0f7a4) 3 dJ6_bitCount_0f7a4_3 ?_
  refine z_topm (fun x1 ex1 ox1 => ?_)
  unfold m_32 at ox1
  refine z_ldcw (M := M_J6_bitCount_0f7a4) 4 dJ6_bitCount_0f7a4_4 k_J6_265 ?_
  refine z_iand (M := M_J6_bitCount_0f7a4) 7 dJ6_bitCount_0f7a4_7 ?_
  refine z_topm (fun x2 ex2 ox2 => ?_)
  unfold m_32 at ox2
  refine z_isub (M := M_J6_bitCount_0f7a4) 8 dJ6_bitCount_0f7a4_8 ?_
  refine z_topm (fun x3 ex3 ox3 => ?_)
  unfold m_32 at ox3
  refine z_istore_n (M := M_J6_bitCount_0f7a4) 9 dJ6_bitCount_0f7a4_9 (ls' := [some (mI x3)]) (by decide) rfl ?_
  refine z_iload_n (M := M_J6_bitCount_0f7a4) 10 dJ6_bitCount_0f7a4_10 rfl ?_
  refine z_ldcw (M := M_J6_bitCount_0f7a4) 11 dJ6_bitCount_0f7a4_11 k_J6_266 ?_
  refine z_iand (M := M_J6_bitCount_0f7a4) 14 dJ6_bitCount_0f7a4_14 ?_
  refine z_topm (fun x4 ex4 ox4 => ?_)
  unfold m_32 at ox4
  refine z_iload_n (M := M_J6_bitCount_0f7a4) 15 dJ6_bitCount_0f7a4_15 rfl ?_
  refine z_iconst (M := M_J6_bitCount_0f7a4) 16 dJ6_bitCount_0f7a4_16 ?_
  refine z_iushr (M := M_J6_bitCount_0f7a4) 17 dJ6_bitCount_0f7a4_17 ?_
  refine z_topm (fun x5 ex5 ox5 => ?_)
  unfold m_32 at ox5
  refine z_ldcw (M := M_J6_bitCount_0f7a4) 18 dJ6_bitCount_0f7a4_18 k_J6_266 ?_
  refine z_iand (M := M_J6_bitCount_0f7a4) 21 dJ6_bitCount_0f7a4_21 ?_
  refine z_topm (fun x6 ex6 ox6 => ?_)
  unfold m_32 at ox6
  refine z_iadd (M := M_J6_bitCount_0f7a4) 22 dJ6_bitCount_0f7a4_22 ?_
  refine z_topm (fun x7 ex7 ox7 => ?_)
  unfold m_32 at ox7
  refine z_istore_n (M := M_J6_bitCount_0f7a4) 23 dJ6_bitCount_0f7a4_23 (ls' := [some (mI x7)]) (by decide) rfl ?_
  refine z_iload_n (M := M_J6_bitCount_0f7a4) 24 dJ6_bitCount_0f7a4_24 rfl ?_
  refine z_iload_n (M := M_J6_bitCount_0f7a4) 25 dJ6_bitCount_0f7a4_25 rfl ?_
  refine z_iconst (M := M_J6_bitCount_0f7a4) 26 dJ6_bitCount_0f7a4_26 ?_
  refine z_iushr (M := M_J6_bitCount_0f7a4) 27 dJ6_bitCount_0f7a4_27 ?_
  refine z_topm (fun x8 ex8 ox8 => ?_)
  unfold m_32 at ox8
  refine z_iadd (M := M_J6_bitCount_0f7a4) 28 dJ6_bitCount_0f7a4_28 ?_
  refine z_topm (fun x9 ex9 ox9 => ?_)
  unfold m_32 at ox9
  refine z_ldcw (M := M_J6_bitCount_0f7a4) 29 dJ6_bitCount_0f7a4_29 k_J6_267 ?_
  refine z_iand (M := M_J6_bitCount_0f7a4) 32 dJ6_bitCount_0f7a4_32 ?_
  refine z_topm (fun x10 ex10 ox10 => ?_)
  unfold m_32 at ox10
  refine z_istore_n (M := M_J6_bitCount_0f7a4) 33 dJ6_bitCount_0f7a4_33 (ls' := [some (mI x10)]) (by decide) rfl ?_
  refine z_iload_n (M := M_J6_bitCount_0f7a4) 34 dJ6_bitCount_0f7a4_34 rfl ?_
  refine z_iload_n (M := M_J6_bitCount_0f7a4) 35 dJ6_bitCount_0f7a4_35 rfl ?_
  refine z_bipush (M := M_J6_bitCount_0f7a4) 36 dJ6_bitCount_0f7a4_36 ?_
  refine z_iushr (M := M_J6_bitCount_0f7a4) 38 dJ6_bitCount_0f7a4_38 ?_
  refine z_topm (fun x11 ex11 ox11 => ?_)
  unfold m_32 at ox11
  refine z_iadd (M := M_J6_bitCount_0f7a4) 39 dJ6_bitCount_0f7a4_39 ?_
  refine z_topm (fun x12 ex12 ox12 => ?_)
  unfold m_32 at ox12
  refine z_istore_n (M := M_J6_bitCount_0f7a4) 40 dJ6_bitCount_0f7a4_40 (ls' := [some (mI x12)]) (by decide) rfl ?_
  refine z_iload_n (M := M_J6_bitCount_0f7a4) 41 dJ6_bitCount_0f7a4_41 rfl ?_
  refine z_iload_n (M := M_J6_bitCount_0f7a4) 42 dJ6_bitCount_0f7a4_42 rfl ?_
  refine z_bipush (M := M_J6_bitCount_0f7a4) 43 dJ6_bitCount_0f7a4_43 ?_
  refine z_iushr (M := M_J6_bitCount_0f7a4) 45 dJ6_bitCount_0f7a4_45 ?_
  refine z_topm (fun x13 ex13 ox13 => ?_)
  unfold m_32 at ox13
  refine z_iadd (M := M_J6_bitCount_0f7a4) 46 dJ6_bitCount_0f7a4_46 ?_
  refine z_topm (fun x14 ex14 ox14 => ?_)
  unfold m_32 at ox14
  refine z_istore_n (M := M_J6_bitCount_0f7a4) 47 dJ6_bitCount_0f7a4_47 (ls' := [some (mI x14)]) (by decide) rfl ?_
  refine z_iload_n (M := M_J6_bitCount_0f7a4) 48 dJ6_bitCount_0f7a4_48 rfl ?_
  refine z_bipush (M := M_J6_bitCount_0f7a4) 49 dJ6_bitCount_0f7a4_49 ?_
  refine z_iand (M := M_J6_bitCount_0f7a4) 51 dJ6_bitCount_0f7a4_51 ?_
  refine z_topBI (m_and_63 _) (fun x15 ex15 ax15 bx15 => ?_)
  exact z_retI (M := M_J6_bitCount_0f7a4) 52 dJ6_bitCount_0f7a4_52 rfl ⟨G0, (FR.rf (cs := []) (ss := []) (h := h0)), by omega, by omega, by rw [Int.toNat_natCast]; exact (bc_run (by omega) ex1 ex2 ex3 ex4 ex5 ex6 ex7 ex8 ex9 ex10 ex11 ex12 ex13 ex14 ex15).symm⟩
abbrev P_X4_shorters2 (h0 : m_H) (L : Nat) : Int → m_H → Prop := fun x h' => GI h' ∧ FR [] [] h0 h' ∧ 0 ≤ x ∧ x ≤ 63 ∧ ((bcN (h0 L 9).toNat : Nat) : Int) = x
set_option maxHeartbeats 4000000 in
set_option maxRecDepth 100000 in
theorem c_X4_shorters2 (h0 : m_H) (L : Nat) (hL : isL L) (G0 : GI h0) (hS : 0 ≤ h0 L 9 ∧ h0 L 9 < 65536) : m_CI M_X4_shorters [mR L] h0 (P_X4_shorters2 h0 L) := by
  refine m_CI_of ⟨by decide, rfl, by simp [m_arg, m_isL, M_X4_shorters], ⟨rfl, rfl⟩, rfl, rfl⟩ (ls := [some (mR L)]) rfl ?_
  refine z_aload_n (M := M_X4_shorters) 0 dX4_shorters_0 rfl ?_
  refine z_getIV (M := M_X4_shorters) 1 dX4_shorters_1 f_X4_52 (oL hL) (by decide) (fun x1 ex1 => ?_)
  refine z_ok (fun ox1 _ _ => ?_)
  have ox1 := ox1.1; unfold m_ok m_32 at ox1
  refine z_sI (M := M_X4_shorters) 4 dX4_shorters_4 t_J6_bitCount_0f7a4 l_X4_63 (m_rr_of rfl) (rest := []) (c_J6_bitCount_0f7a42 h0 x1 G0 (ex1 ▸ hS)) rfl rfl (Nat.le_of_ble_eq_true rfl) ⟨rfl, rfl⟩ (fun x2 h1 qx2 => ?_)
  obtain ⟨G1, S1, ax2, bx2, F1⟩ := qx2
  have R1 := (FR.rf (cs := []) (ss := []) (h := h0)).call S1 (by decide +kernel)
  exact z_retI (M := M_X4_shorters) 7 dX4_shorters_7 rfl ⟨G1, R1, by omega, by omega, by rw [ex1]; exact F1⟩
abbrev P_X4_hasRoomForShorter2 (h0 : m_H) (L : Nat) : Int → m_H → Prop := fun x h' => GI h' ∧ FR [] [] h0 h' ∧ 0 ≤ x ∧ x ≤ 1 ∧ (x = 1 ↔ ((bcN (h0 L 9).toNat : Nat) : Int) < 6)
set_option maxHeartbeats 4000000 in
set_option maxRecDepth 100000 in
theorem c_X4_hasRoomForShorter2 (h0 : m_H) (L : Nat) (hL : isL L) (G0 : GI h0) (hS : 0 ≤ h0 L 9 ∧ h0 L 9 < 65536) : m_CI M_X4_hasRoomForShorter [mR L] h0 (P_X4_hasRoomForShorter2 h0 L) := by
  refine m_CI_of ⟨by decide, rfl, by simp [m_arg, m_isL, M_X4_hasRoomForShorter], ⟨rfl, rfl⟩, rfl, rfl⟩ (ls := [some (mR L)]) rfl ?_
  refine z_aload_n (M := M_X4_hasRoomForShorter) 0 dX4_hasRoomForShorter_0 rfl ?_
  refine z_vI (M := M_X4_hasRoomForShorter) 1 dX4_hasRoomForShorter_1 t_X4_shorters l_X4_69 (m_rr_of rfl) (rest := []) (c_X4_shorters2 h0 L hL G0 hS) (oL hL) rfl rfl rfl (Nat.le_of_ble_eq_true rfl) ⟨rfl, rfl⟩ (fun x1 h1 qx1 => ?_)
  obtain ⟨G1, S1, ax1, bx1, F1⟩ := qx1
  have R1 := (FR.rf (cs := []) (ss := []) (h := h0)).call S1 (by decide +kernel)
  refine z_bipush (M := M_X4_hasRoomForShorter) 4 dX4_hasRoomForShorter_4 ?_
  refine z_icmp_ge (M := M_X4_hasRoomForShorter) 6 dX4_hasRoomForShorter_6 13 rfl (fun c2 => ?_) (fun c2 => ?_)
  · refine z_iconst (M := M_X4_hasRoomForShorter) 13 dX4_hasRoomForShorter_13 ?_
    exact z_retZ (M := M_X4_hasRoomForShorter) 14 dX4_hasRoomForShorter_14 rfl (by omega) ⟨G1, R1, by omega, by omega, by omega⟩
  · refine z_iconst (M := M_X4_hasRoomForShorter) 9 dX4_hasRoomForShorter_9 ?_
    refine z_goto (M := M_X4_hasRoomForShorter) 10 dX4_hasRoomForShorter_10 14 rfl ?_
    exact z_retZ (M := M_X4_hasRoomForShorter) 14 dX4_hasRoomForShorter_14 rfl (by omega) ⟨G1, R1, by omega, by omega, by omega⟩
theorem is_sh {L : Nat} {h : m_H} {r : Nat → Int} {a b : Int} (R : LR L h r) (ha : 0 ≤ a) (ha3 : a ≤ 3) (hb : 0 ≤ b) (hb3 : b ≤ 3) : m_and (m_shr (h L 9) (a * 4 + b)) 1 = 1 ↔ iS r a b := by
  obtain ⟨p, hp⟩ : ∃ p : Nat, a * 4 + b = (p : Int) := ⟨(a * 4 + b).toNat, by omega⟩
  have d1 : ((p / 4 : Nat) : Int) = a := by omega
  have d2 : ((p % 4 : Nat) : Int) = b := by omega
  have z := R.2.2.2.2.2.2.2.2.2.2 p (by omega)
  rw [hp, hasBit_iff (by omega), z, d1, d2]
abbrev P_X4_isShorter2 (h0 : m_H) (L : Nat) (a1 a2 : Int) : Int → m_H → Prop := fun x h' => GI h' ∧ FR [] [] h0 h' ∧ 0 ≤ x ∧ x ≤ 1 ∧ (x = 1 ↔ m_and (m_shr (h0 L 9) (a1 * 4 + a2)) 1 = 1)
set_option maxHeartbeats 4000000 in
set_option maxRecDepth 100000 in
theorem c_X4_isShorter2 (h0 : m_H) (L : Nat) (a1 a2 : Int) (hL : isL L) (G0 : GI h0) (pa1 : 0 ≤ a1 ∧ a1 ≤ 3) (pa2 : 0 ≤ a2 ∧ a2 ≤ 3) : m_CI M_X4_isShorter [mR L, mI a1, mI a2] h0 (P_X4_isShorter2 h0 L a1 a2) := by
  refine m_CI_of ⟨by decide, rfl, by simp [m_arg, m_isL, M_X4_isShorter], ⟨rfl, rfl⟩, rfl, rfl⟩ (ls := [some (mR L), some (mI a1), some (mI a2)]) rfl ?_
  refine z_ok (fun _ _ ok => ?_)
  have oa1 : m_32 a1 := ok 1 _ rfl
  unfold m_32 at oa1
  have oa2 : m_32 a2 := ok 2 _ rfl
  unfold m_32 at oa2
  refine z_aload_n (M := M_X4_isShorter) 0 dX4_isShorter_0 rfl ?_
  refine z_getIV (M := M_X4_isShorter) 1 dX4_isShorter_1 f_X4_52 (oL hL) (by decide) (fun x1 ex1 => ?_)
  refine z_ok (fun ox1 _ _ => ?_)
  have ox1 := ox1.1; unfold m_ok m_32 at ox1
  refine z_iload_n (M := M_X4_isShorter) 4 dX4_isShorter_4 rfl ?_
  refine z_iconst (M := M_X4_isShorter) 5 dX4_isShorter_5 ?_
  refine z_imulN (M := M_X4_isShorter) 6 dX4_isShorter_6 (by omega) (by omega) ?_
  refine z_iload_n (M := M_X4_isShorter) 7 dX4_isShorter_7 rfl ?_
  refine z_iaddN (M := M_X4_isShorter) 8 dX4_isShorter_8 (by omega) (by omega) ?_
  refine z_nI (M := M_X4_isShorter) 9 dX4_isShorter_9 t_X11_hasBit l_X4_59 (m_rr_of rfl) (rest := []) (c_X11_hasBit h0 x1 (a1 * 4 + a2) G0) rfl rfl (Nat.le_of_ble_eq_true rfl) ⟨rfl, rfl⟩ (fun x4 h1 qx4 => ?_)
  obtain ⟨rfl, ⟨rfl, cx4⟩ | ⟨rfl, cx4⟩⟩ := qx4
  · exact z_retZ (M := M_X4_isShorter) 12 dX4_isShorter_12 rfl (by omega) ⟨G0, (FR.rf (cs := []) (ss := []) (h := h0)), by omega, by omega, fun _ => ex1 ▸ cx4, fun _ => rfl⟩
  · exact z_retZ (M := M_X4_isShorter) 12 dX4_isShorter_12 rfl (by omega) ⟨G0, (FR.rf (cs := []) (ss := []) (h := h0)), by omega, by omega, fun q => absurd q (by decide), fun q => absurd (ex1 ▸ q) cx4⟩
abbrev P_X4_addShorter2 (h0 : m_H) (L : Nat) (a1 a2 : Int) : m_H → Prop := fun h' => GI h' ∧ FR [] [(L, 9)] h0 h' ∧ (∀ r, LR L h0 r → r 1 ≤ 5 → ¬ iS r a1 a2 → LR L h' (rS r a1 a2))
set_option maxHeartbeats 4000000 in
set_option maxRecDepth 100000 in
theorem c_X4_addShorter2 (h0 : m_H) (L : Nat) (a1 a2 : Int) (hL : isL L) (G0 : GI h0) (pa1 : 0 ≤ a1 ∧ a1 ≤ 3) (pa2 : 0 ≤ a2 ∧ a2 ≤ 3) : m_CV M_X4_addShorter [mR L, mI a1, mI a2] h0 (P_X4_addShorter2 h0 L a1 a2) := by
  refine m_CV_of ⟨by decide, rfl, by simp [m_arg, m_isL, M_X4_addShorter], ⟨rfl, rfl⟩, rfl, rfl⟩ (ls := [some (mR L), some (mI a1), some (mI a2)]) rfl ?_
  refine z_aload_n (M := M_X4_addShorter) 0 dX4_addShorter_0 rfl ?_
  refine z_dup (M := M_X4_addShorter) 1 dX4_addShorter_1 rfl ?_
  refine z_getIV (M := M_X4_addShorter) 2 dX4_addShorter_2 f_X4_52 (oL hL) (by decide) (fun x1 ex1 => ?_)
  refine z_ok (fun ox1 _ _ => ?_)
  have ox1 := ox1.1; unfold m_ok m_32 at ox1
  refine z_iconst (M := M_X4_addShorter) 5 dX4_addShorter_5 ?_
  refine z_iload_n (M := M_X4_addShorter) 6 dX4_addShorter_6 rfl ?_
  refine z_iconst (M := M_X4_addShorter) 7 dX4_addShorter_7 ?_
  refine z_imulN (M := M_X4_addShorter) 8 dX4_addShorter_8 (by omega) (by omega) ?_
  refine z_iload_n (M := M_X4_addShorter) 9 dX4_addShorter_9 rfl ?_
  refine z_iaddN (M := M_X4_addShorter) 10 dX4_addShorter_10 (by omega) (by omega) ?_
  refine z_ishl (M := M_X4_addShorter) 11 dX4_addShorter_11 ?_
  refine z_ior (M := M_X4_addShorter) 12 dX4_addShorter_12 ?_
  refine z_putIH (M := M_X4_addShorter) 13 dX4_addShorter_13 p_X4_52 (oL hL) rfl (uL9 hL G0) ((FR.rf (cs := []) (ss := [(L, 9)]) (h := h0)).up (by simp [fr])) (fun h1 E1 G1 R1 => ?_)
  exact z_retV (M := M_X4_addShorter) 16 dX4_addShorter_16 rfl ⟨G1, R1, fun r Rr h5 hn => LR.addS hL Rr h5 (by omega) (by omega) (by omega) (by omega) hn ex1 rfl E1⟩
abbrev P_X4_addEntry2 (h0 : m_H) (L : Nat) (a1 a2 a3 a4 : Int) : m_H → Prop := fun h' => GI h' ∧ FR [(L + 3), (L + 4), (L + 5), (L + 6)] [(L, 7), (L, 8)] h0 h' ∧ (∀ r, LR L h0 r → r 0 ≤ 23 → LR L h' (rE r a1 a2 a3 a4))
set_option maxHeartbeats 4000000 in
set_option maxRecDepth 100000 in
theorem c_X4_addEntry2 (h0 : m_H) (L : Nat) (a1 a2 a3 a4 : Int) (hL : isL L) (G0 : GI h0) (pa1 : 0 ≤ a1 ∧ a1 ≤ 5) (pa2 : 0 ≤ a2 ∧ a2 ≤ 31) (pa3 : 1 ≤ a3 ∧ a3 ≤ 99) (pa4 : 0 ≤ a4 ∧ a4 ≤ 2) : m_CV M_X4_addEntry [mR L, mI a1, mI a2, mI a3, mI a4] h0 (P_X4_addEntry2 h0 L a1 a2 a3 a4) := by
  refine m_CV_of ⟨by decide, rfl, by simp [m_arg, m_isL, M_X4_addEntry], ⟨rfl, rfl⟩, rfl, rfl⟩ (ls := [some (mR L), some (mI a1), some (mI a2), some (mI a3), some (mI a4)]) rfl ?_
  refine z_aload_n (M := M_X4_addEntry) 0 dX4_addEntry_0 rfl ?_
  refine z_vI (M := M_X4_addEntry) 1 dX4_addEntry_1 t_X4_hasRoom l_X4_55 (m_rr_of rfl) (rest := []) (c_X4_hasRoom h0 L hL G0) (oL hL) rfl rfl rfl (Nat.le_of_ble_eq_true rfl) ⟨rfl, rfl⟩ (fun x1 h1 qx1 => ?_)
  obtain ⟨rfl, ⟨rfl, cx1⟩ | ⟨rfl, cx1⟩⟩ := qx1
  · refine z_if_ne_T (M := M_X4_addEntry) 4 dX4_addEntry_4 8 rfl (by omega) ?_
    refine z_aload_n (M := M_X4_addEntry) 8 dX4_addEntry_8 rfl ?_
    refine z_getR (M := M_X4_addEntry) 9 dX4_addEntry_9 f_X4_18 (oL hL) rfl (rL_2 hL G0) ?_
    refine z_aload_n (M := M_X4_addEntry) 12 dX4_addEntry_12 rfl ?_
    refine z_getIG (M := M_X4_addEntry) 13 dX4_addEntry_13 f_X4_45 (oL hL) (by decide) (gL7 hL G0) (fun x2 ex2 ax2 bx2 => ?_)
    refine z_iload_n (M := M_X4_addEntry) 16 dX4_addEntry_16 rfl ?_
    refine z_iastH (M := M_X4_addEntry) 17 dX4_addEntry_17 (oL_3 hL) (by omega) (by omega) (uL_3 hL G0 (by omega) (by omega)) ((FR.rf (cs := [(L + 3), (L + 4), (L + 5), (L + 6)]) (ss := [(L, 7), (L, 8)]) (h := h0)).up (by simp [fr])) (fun h2 E2 G2 R2 => ?_)
    refine z_aload_n (M := M_X4_addEntry) 18 dX4_addEntry_18 rfl ?_
    refine z_getR (M := M_X4_addEntry) 19 dX4_addEntry_19 f_X4_21 (oL hL) rfl (rL_3 hL G2) ?_
    refine z_aload_n (M := M_X4_addEntry) 22 dX4_addEntry_22 rfl ?_
    refine z_getIE (M := M_X4_addEntry) 23 dX4_addEntry_23 f_X4_45 (oL hL) (by decide) ((upN E2 (fun q => absurd q.1 (by omega))).trans ex2) ?_
    refine z_iload_n (M := M_X4_addEntry) 26 dX4_addEntry_26 rfl ?_
    refine z_iastH (M := M_X4_addEntry) 27 dX4_addEntry_27 (oL_4 hL) (by omega) (by omega) (uL_4 hL G2 (by omega) (by omega)) (R2.up (by simp [fr])) (fun h3 E3 G3 R3 => ?_)
    refine z_aload_n (M := M_X4_addEntry) 28 dX4_addEntry_28 rfl ?_
    refine z_getR (M := M_X4_addEntry) 29 dX4_addEntry_29 f_X4_24 (oL hL) rfl (rL_4 hL G3) ?_
    refine z_aload_n (M := M_X4_addEntry) 32 dX4_addEntry_32 rfl ?_
    refine z_getIE (M := M_X4_addEntry) 33 dX4_addEntry_33 f_X4_45 (oL hL) (by decide) ((upN E3 (fun q => absurd q.1 (by omega))).trans ((upN E2 (fun q => absurd q.1 (by omega))).trans ex2)) ?_
    refine z_iload_n (M := M_X4_addEntry) 36 dX4_addEntry_36 rfl ?_
    refine z_iastH (M := M_X4_addEntry) 37 dX4_addEntry_37 (oL_5 hL) (by omega) (by omega) (uL_5 hL G3 (by omega) (by omega)) (R3.up (by simp [fr])) (fun h4 E4 G4 R4 => ?_)
    refine z_aload_n (M := M_X4_addEntry) 38 dX4_addEntry_38 rfl ?_
    refine z_getR (M := M_X4_addEntry) 39 dX4_addEntry_39 f_X4_27 (oL hL) rfl (rL_5 hL G4) ?_
    refine z_aload_n (M := M_X4_addEntry) 42 dX4_addEntry_42 rfl ?_
    refine z_getIE (M := M_X4_addEntry) 43 dX4_addEntry_43 f_X4_45 (oL hL) (by decide) ((upN E4 (fun q => absurd q.1 (by omega))).trans ((upN E3 (fun q => absurd q.1 (by omega))).trans ((upN E2 (fun q => absurd q.1 (by omega))).trans ex2))) ?_
    refine z_iload (M := M_X4_addEntry) 46 dX4_addEntry_46 rfl ?_
    refine z_iastH (M := M_X4_addEntry) 48 dX4_addEntry_48 (oL_6 hL) (by omega) (by omega) (uL_6 hL G4 (by omega) (by omega)) (R4.up (by simp [fr])) (fun h5 E5 G5 R5 => ?_)
    refine z_aload_n (M := M_X4_addEntry) 49 dX4_addEntry_49 rfl ?_
    refine z_dup (M := M_X4_addEntry) 50 dX4_addEntry_50 rfl ?_
    refine z_getIV (M := M_X4_addEntry) 51 dX4_addEntry_51 f_X4_49 (oL hL) (by decide) (fun x3 ex3 => ?_)
    refine z_ok (fun ox3 _ _ => ?_)
    have ox3 := ox3.1; unfold m_ok m_32 at ox3
    refine z_iconst (M := M_X4_addEntry) 54 dX4_addEntry_54 ?_
    refine z_aload_n (M := M_X4_addEntry) 55 dX4_addEntry_55 rfl ?_
    refine z_getIE (M := M_X4_addEntry) 56 dX4_addEntry_56 f_X4_45 (oL hL) (by decide) ((upN E5 (fun q => absurd q.1 (by omega))).trans ((upN E4 (fun q => absurd q.1 (by omega))).trans ((upN E3 (fun q => absurd q.1 (by omega))).trans ((upN E2 (fun q => absurd q.1 (by omega))).trans ex2)))) ?_
    refine z_ishl (M := M_X4_addEntry) 59 dX4_addEntry_59 ?_
    refine z_ior (M := M_X4_addEntry) 60 dX4_addEntry_60 ?_
    refine z_putIH (M := M_X4_addEntry) 61 dX4_addEntry_61 p_X4_49 (oL hL) rfl (uL8 hL G5) (R5.up (by simp [fr])) (fun h6 E6 G6 R6 => ?_)
    refine z_aload_n (M := M_X4_addEntry) 64 dX4_addEntry_64 rfl ?_
    refine z_dup (M := M_X4_addEntry) 65 dX4_addEntry_65 rfl ?_
    refine z_getIE (M := M_X4_addEntry) 66 dX4_addEntry_66 f_X4_45 (oL hL) (by decide) ((upN E6 (fun q => absurd q.2 (by decide))).trans ((upN E5 (fun q => absurd q.1 (by omega))).trans ((upN E4 (fun q => absurd q.1 (by omega))).trans ((upN E3 (fun q => absurd q.1 (by omega))).trans ((upN E2 (fun q => absurd q.1 (by omega))).trans ex2))))) ?_
    refine z_iconst (M := M_X4_addEntry) 69 dX4_addEntry_69 ?_
    refine z_iaddN (M := M_X4_addEntry) 70 dX4_addEntry_70 (by omega) (by omega) ?_
    refine z_putIH (M := M_X4_addEntry) 71 dX4_addEntry_71 p_X4_45 (oL hL) rfl (uL7 hL G6 (by omega) (by omega)) (R6.up (by simp [fr])) (fun h7 E7 G7 R7 => ?_)
    exact z_retV (M := M_X4_addEntry) 74 dX4_addEntry_74 rfl ⟨G7, R7, fun r Rr hr => LR.addE hL Rr hr ex2 E2 E3 E4 E5 (((upN E5 (fun q => absurd q.1 (by omega))).trans ((upN E4 (fun q => absurd q.1 (by omega))).trans ((upN E3 (fun q => absurd q.1 (by omega))).trans (upN E2 (fun q => absurd q.1 (by omega)))))).symm.trans ex3) E6 rfl E7⟩
  · refine z_if_ne_F (M := M_X4_addEntry) 4 dX4_addEntry_4 8 rfl (by omega) ?_
    exact z_retV (M := M_X4_addEntry) 7 dX4_addEntry_7 rfl ⟨G0, (FR.rf (cs := [(L + 3), (L + 4), (L + 5), (L + 6)]) (ss := [(L, 7), (L, 8)]) (h := h0)), fun r Rr hr => False.elim (by have := Rr.2.2.2.2.1; omega)⟩
