theorem t_J0_length_8abf5 : m_mV M_J0_length_8abf5 0 := ⟨⟨m_inG 615 (by decide +kernel) rfl, m_inG 616 (by decide +kernel) rfl⟩, ⟨m_inG 112 (by decide +kernel) rfl, m_inG 617 (by decide +kernel) rfl⟩, ⟨by decide +kernel, by decide +kernel, by decide +kernel⟩⟩
theorem t_J0_coder_7d493 : m_mV M_J0_coder_7d493 0 := ⟨⟨m_inG 619 (by decide +kernel) rfl, m_inG 620 (by decide +kernel) rfl⟩, ⟨m_inG 112 (by decide +kernel) rfl, m_inG 621 (by decide +kernel) rfl⟩, ⟨by decide +kernel, by decide +kernel, by decide +kernel⟩⟩
theorem t_J0_charAt_5068e : m_mV M_J0_charAt_5068e 1 := ⟨⟨m_inG 625 (by decide +kernel) rfl, m_inG 626 (by decide +kernel) rfl⟩, ⟨m_inG 112 (by decide +kernel) rfl, m_inG 627 (by decide +kernel) rfl⟩, ⟨by decide +kernel, by decide +kernel, by decide +kernel⟩⟩
theorem t_J0_isLatin1_aae02 : m_mV M_J0_isLatin1_aae02 0 := ⟨⟨m_inG 629 (by decide +kernel) rfl, m_inG 630 (by decide +kernel) rfl⟩, ⟨m_inG 112 (by decide +kernel) rfl, m_inG 631 (by decide +kernel) rfl⟩, ⟨by decide +kernel, by decide +kernel, by decide +kernel⟩⟩
theorem t_J1_charAt_3b067 : m_mS M_J1_charAt_3b067 2 := ⟨m_inG 633 (by decide +kernel) rfl, ⟨m_inG 113 (by decide +kernel) rfl, m_inG 634 (by decide +kernel) rfl⟩, ⟨by decide +kernel, by decide +kernel, by decide +kernel⟩⟩
theorem t_J0_checkIndex_df160 : m_mS M_J0_checkIndex_df160 2 := ⟨m_inG 636 (by decide +kernel) rfl, ⟨m_inG 112 (by decide +kernel) rfl, m_inG 637 (by decide +kernel) rfl⟩, ⟨by decide +kernel, by decide +kernel, by decide +kernel⟩⟩
theorem t_J3_checkIndex_8e157 : m_mS M_J3_checkIndex_8e157 3 := ⟨m_inG 641 (by decide +kernel) rfl, ⟨m_inG 114 (by decide +kernel) rfl, m_inG 642 (by decide +kernel) rfl⟩, ⟨by decide +kernel, by decide +kernel, by decide +kernel⟩⟩
theorem l_J0_335 : Cond.methodLink RJ0 335 yJ0_coder_7d493 ∈ m_G := m_inG 618 (by decide +kernel) rfl
theorem l_J0_492 : Cond.methodLink RJ0 492 yJ0_isLatin1_aae02 ∈ m_G := m_inG 628 (by decide +kernel) rfl
theorem l_J0_495 : Cond.methodLink RJ0 495 yJ1_charAt_3b067 ∈ m_G := m_inG 632 (by decide +kernel) rfl
theorem l_J1_9 : Cond.methodLink RJ1 9 yJ0_checkIndex_df160 ∈ m_G := m_inG 635 (by decide +kernel) rfl
theorem l_J0_1059 : Cond.methodLink RJ0 1059 yJ3_checkIndex_8e157 ∈ m_G := m_inG 640 (by decide +kernel) rfl
theorem wS_38 : Cond.fieldLink RJ0 38 "java/lang/String" "COMPACT_STRINGS" "Z" ∈ m_G := m_inG 622 (by decide +kernel) rfl
theorem wS_1053 : Cond.fieldLink RJ0 1053 "jdk/internal/util/Preconditions" "SIOOBE_FORMATTER" "Ljava/util/function/BiFunction;" ∈ m_G := m_inG 638 (by decide +kernel) rfl
theorem wS_9 : Cond.fieldLink RJ0 9 "java/lang/String" "value" "[B" ∈ m_G := m_inG 1861 (by decide +kernel) rfl
theorem wS_15 : Cond.fieldLink RJ0 15 "java/lang/String" "coder" "B" ∈ m_G := m_inG 1862 (by decide +kernel) rfl
section ZT
variable {M M' : m_M} {ls : List (Option m_V)} {st rest : List m_V} {h : m_H} {Q : m_W → Option m_V → m_H → Prop}
theorem z_vIO (pc : Nat) {index n i : Nat} {as : List m_V} {P : Int → m_H → Prop} (d : decode M.2.2.1 pc = .ok (.invokevirtual index, 3)) (mt : m_mV M' n) (lk : Cond.methodLink M.1 index M'.2.1 ∈ m_G) (rr : m_rr M M') (hc : m_CI M' (mO i :: as) h P) (hi : i < 16) (hcl : M'.2.1.cls = "java/lang/String") (hst : as.reverse ++ mO i :: rest = st) (hn : as.length = n) (hrest : m_cs rest ≤ 8) (h0 : (m_rm M').cells = 0 ∧ (m_rm M').slots = 0)
    (kk : ∀ (x : Int) (h' : m_H), P x h' → m_Z oF M (pc + 3) ls (mI x :: rest) h' Q) : m_Z oF M pc ls st h Q := by
  subst hst
  intro E p l e s m args below meth c QQ H locs lsR C Rt Rl L o b
  obtain ⟨o1, o2⟩ := m_oks_app o
  have hM := hc l E Rl.2.2.2 ⟨trivial, m_oks_rev o1⟩
  rw [List.map_cons, m_vO (by omega)] at hM
  have hts := C.2.2.2.2.1
  have hrecv := vk_recv C.2.2.2.2.2.2.2.1.1 hi Rl.2.2.1
  rw [← hcl] at hrecv
  have hcw : CallW (m_rm M) s args M.1 M'.2.1.cls index M'.2.1 M'.2.2.1 M'.2.2.2.1 M'.2.2.2.2.1 (m_ws M') (m_rm M') (m_rm M').cells (m_rm M').slots n :=
    ⟨callB_of n hts (m_good mt.2.1.2) rfl rfl rfl (hts _ mt.2.1.1) (hts _ lk) mt.2.2 rr, hts _ mt.1.1, hts _ mt.1.2⟩
  have hrun := va_runV (g := F0 m pc lsR ((as.reverse ++ mO i :: rest).map (m_v E))) (As := as.map (m_v E)) (rest := rest.map (m_v E)) (b := E.1.2 i) (below := below) (locs := locs) (meth := meth) (e := e) ⟨C.1, C.2.1, C.2.2.1, C.2.2.2.1, hts⟩ hM hcw ⟨m_blind, hrecv, fun U hU hW => ⟨rfl, m_pre_at C Rl U hU hW⟩⟩ rfl (by rw [List.length_map]; exact hn) L.1 (by show List.map (m_v E) _ = _; rw [List.map_append, List.map_cons, m_vO (by omega), List.map_reverse]) (m_roomW hrest) d (cells := oF.length - m_k0 M) (slots := m_sz oF - m_s0 M) (by rw [h0.1, h0.2]; exact b.2)
  refine m_after hrun Rl.2.2.1 (fun r h' H1 locs1 hq hr R1 => ?_)
  rw [h0.1, h0.2, m_toL]
  obtain ⟨x, rfl, px⟩ := hq
  exact kk x h' px E p l e s m args below meth c QQ H1 locs1 lsR C Rt R1 L (m_okT hr o2.2) b
theorem z_retN (pc : Nat) {x : Int} {ty : FieldType} {P : Int → m_H → Prop} (d : decode M.2.2.1 pc = .ok (.ireturn, 1)) (hr : M.2.2.2.2.1 = some ty) (hn : narrow ty (.int (Int32.ofInt x)) = .int (Int32.ofInt x)) (q : P x h) : m_Z oF M pc ls [mI x] h (m_QI P) := z_nret pc d hr hn ⟨rfl, x, rfl, q⟩
theorem z_i2c (pc : Nat) (d : decode M.2.2.1 pc = .ok (.i2c, 1)) {x : Int} (h0 : 0 ≤ x) (h1 : x < 65536) (k : m_Z oF M (pc + 1) ls (mI x :: st) h Q) : m_Z oF M pc ls (mI x :: st) h Q := by
  intro E p l e s m args below meth c QQ H locs lsR C Rt Rl L o b
  refine lv_i2c C.1 C.2.1 d (v := Int32.ofInt x) ?_ ?_
  · rw [lg_i2c_nf]; exact lg_i2c_small (by rw [m_i32 o.1]; exact h0) (by rw [m_i32 o.1]; exact h1)
  · exact k E p l e s m args below meth c QQ H locs lsR C Rt Rl L o b
end ZT
def sch (i : Nat) (a : Int) : Int := ((m_sb.getD i []).getD a.toNat 0).toInt
theorem sch_ok {i : Nat} {a : Int} (hi : i < 16) (h0 : 0 ≤ a) (h1 : a < 6) : (0 ≤ sch i a ∧ sch i a ≤ 127) ∧ m_and (sch i a) 255 = sch i a := by
  have : ∀ (i : Fin 16) (j : Fin 6), (0 ≤ sch i.1 (j.1 : Nat) ∧ sch i.1 (j.1 : Nat) ≤ 127) ∧ m_and (sch i.1 (j.1 : Nat)) 255 = sch i.1 (j.1 : Nat) := by decide +kernel
  have q := this ⟨i, hi⟩ ⟨a.toNat, by omega⟩
  have e : ((a.toNat : Nat) : Int) = a := by omega
  simp only [e] at q
  exact q
theorem nar_c {x : Int} (h0 : 0 ≤ x) (h1 : x ≤ 127) : narrow .char (.int (Int32.ofInt x)) = .int (Int32.ofInt x) := by
  have : ∀ j : Fin 128, narrow .char (.int (Int32.ofInt ((j.1 : Nat) : Int))) = .int (Int32.ofInt ((j.1 : Nat) : Int)) := by decide +kernel
  have q := this ⟨x.toNat, by omega⟩
  have e : ((x.toNat : Nat) : Int) = x := by omega
  simp only [e] at q
  exact q
def slen (i : Nat) : Int := (m_sl.getD i 0 : Nat)
theorem slen_b (i : Nat) : 0 ≤ slen i ∧ slen i ≤ 6 := by have := m_sl_le i; unfold slen; omega
theorem c_J0_coder_7d493 (h0 : m_H) (i : Nat) (hi : i < 16) : m_CI M_J0_coder_7d493 [mO i] h0 (fun x h' => h0 = h' ∧ x = 0) := by
  refine m_CI_of ⟨by decide, rfl, by simp [m_arg, m_isL, M_J0_coder_7d493], ⟨rfl, rfl⟩, rfl, rfl⟩ (ls := [some (mO i)]) rfl ?_
  refine z_gstC (M := M_J0_coder_7d493) 0 dJ0_coder_7d493_0 wS_38 ?_
  refine z_if_eq_F (M := M_J0_coder_7d493) 3 dJ0_coder_7d493_3 13 rfl (by omega) ?_
  refine z_aload_nO (M := M_J0_coder_7d493) 6 dJ0_coder_7d493_6 rfl ?_
  refine z_coder (M := M_J0_coder_7d493) 7 dJ0_coder_7d493_7 wS_15 hi ?_
  refine z_goto (M := M_J0_coder_7d493) 10 dJ0_coder_7d493_10 14 rfl ?_
  exact z_retN (M := M_J0_coder_7d493) 14 dJ0_coder_7d493_14 rfl rfl ⟨rfl, rfl⟩
theorem c_J0_isLatin1_aae02 (h0 : m_H) (i : Nat) (hi : i < 16) : m_CI M_J0_isLatin1_aae02 [mO i] h0 (fun x h' => h0 = h' ∧ x = 1) := by
  refine m_CI_of ⟨by decide, rfl, by simp [m_arg, m_isL, M_J0_isLatin1_aae02], ⟨rfl, rfl⟩, rfl, rfl⟩ (ls := [some (mO i)]) rfl ?_
  refine z_gstC (M := M_J0_isLatin1_aae02) 0 dJ0_isLatin1_aae02_0 wS_38 ?_
  refine z_if_eq_F (M := M_J0_isLatin1_aae02) 3 dJ0_isLatin1_aae02_3 17 rfl (by omega) ?_
  refine z_aload_nO (M := M_J0_isLatin1_aae02) 6 dJ0_isLatin1_aae02_6 rfl ?_
  refine z_coder (M := M_J0_isLatin1_aae02) 7 dJ0_isLatin1_aae02_7 wS_15 hi ?_
  refine z_if_ne_F (M := M_J0_isLatin1_aae02) 10 dJ0_isLatin1_aae02_10 17 rfl (by omega) ?_
  refine z_iconst (M := M_J0_isLatin1_aae02) 13 dJ0_isLatin1_aae02_13 ?_
  refine z_goto (M := M_J0_isLatin1_aae02) 14 dJ0_isLatin1_aae02_14 18 rfl ?_
  exact z_retZ (M := M_J0_isLatin1_aae02) 18 dJ0_isLatin1_aae02_18 rfl (by omega) ⟨rfl, rfl⟩
theorem c_J0_length_8abf5 (h0 : m_H) (i : Nat) (hi : i < 16) : m_CI M_J0_length_8abf5 [mO i] h0 (fun x h' => h0 = h' ∧ x = slen i) := by
  refine m_CI_of ⟨by decide, rfl, by simp [m_arg, m_isL, M_J0_length_8abf5], ⟨rfl, rfl⟩, rfl, rfl⟩ (ls := [some (mO i)]) rfl ?_
  refine z_aload_nO (M := M_J0_length_8abf5) 0 dJ0_length_8abf5_0 rfl ?_
  refine z_value (M := M_J0_length_8abf5) 1 dJ0_length_8abf5_1 wS_9 hi ?_
  refine z_alenO (M := M_J0_length_8abf5) 4 dJ0_length_8abf5_4 hi ?_
  refine z_aload_nO (M := M_J0_length_8abf5) 5 dJ0_length_8abf5_5 rfl ?_
  refine z_vIO (M := M_J0_length_8abf5) 6 dJ0_length_8abf5_6 t_J0_coder_7d493 l_J0_335 (m_rr_of rfl) (as := []) (rest := [mI (m_sl.getD i 0 : Nat)]) (c_J0_coder_7d493 h0 i hi) hi rfl rfl rfl (Nat.le_of_ble_eq_true rfl) ⟨rfl, rfl⟩ (fun x h' q => ?_)
  obtain ⟨rfl, rfl⟩ := q
  refine z_ishr (M := M_J0_length_8abf5) 9 dJ0_length_8abf5_9 ?_
  have hb := m_sl_le i
  have e0 : m_shr ((m_sl.getD i 0 : Nat) : Int) 0 = slen i := by
    have : ∀ j : Fin 7, m_shr ((j.1 : Nat) : Int) 0 = ((j.1 : Nat) : Int) := by decide
    exact this ⟨m_sl.getD i 0, by omega⟩
  exact z_retI (M := M_J0_length_8abf5) 10 dJ0_length_8abf5_10 rfl ⟨rfl, e0⟩
theorem c_J3_checkIndex_8e157 (h0 : m_H) (a n : Int) (h1 : 0 ≤ a) (h2 : a < n) : m_CI M_J3_checkIndex_8e157 [mI a, mI n, mO 40] h0 (fun x h' => h0 = h' ∧ x = a) := by
  refine m_CI_of ⟨by decide, rfl, by simp [m_arg, m_isL, M_J3_checkIndex_8e157], ⟨rfl, rfl⟩, rfl, rfl⟩ (ls := [some (mI a), some (mI n), some (mO 40)]) rfl ?_
  refine z_iload_n (M := M_J3_checkIndex_8e157) 0 dJ3_checkIndex_8e157_0 rfl ?_
  refine z_if_lt_F (M := M_J3_checkIndex_8e157) 1 dJ3_checkIndex_8e157_1 9 rfl (by omega) ?_
  refine z_iload_n (M := M_J3_checkIndex_8e157) 4 dJ3_checkIndex_8e157_4 rfl ?_
  refine z_iload_n (M := M_J3_checkIndex_8e157) 5 dJ3_checkIndex_8e157_5 rfl ?_
  refine z_icmp_lt_T (M := M_J3_checkIndex_8e157) 6 dJ3_checkIndex_8e157_6 16 rfl (by omega) ?_
  refine z_iload_n (M := M_J3_checkIndex_8e157) 16 dJ3_checkIndex_8e157_16 rfl ?_
  exact z_retI (M := M_J3_checkIndex_8e157) 17 dJ3_checkIndex_8e157_17 rfl ⟨rfl, rfl⟩
theorem c_J0_checkIndex_df160 (h0 : m_H) (a n : Int) (h1 : 0 ≤ a) (h2 : a < n) : m_CV M_J0_checkIndex_df160 [mI a, mI n] h0 (fun h' => h0 = h') := by
  refine m_CV_of ⟨by decide, rfl, by simp [m_arg, m_isL, M_J0_checkIndex_df160], ⟨rfl, rfl⟩, rfl, rfl⟩ (ls := [some (mI a), some (mI n)]) rfl ?_
  refine z_iload_n (M := M_J0_checkIndex_df160) 0 dJ0_checkIndex_df160_0 rfl ?_
  refine z_iload_n (M := M_J0_checkIndex_df160) 1 dJ0_checkIndex_df160_1 rfl ?_
  refine z_gstF (M := M_J0_checkIndex_df160) 2 dJ0_checkIndex_df160_2 wS_1053 ?_
  refine z_sI (M := M_J0_checkIndex_df160) 5 dJ0_checkIndex_df160_5 t_J3_checkIndex_8e157 l_J0_1059 (m_rr_of rfl) (rest := []) (c_J3_checkIndex_8e157 h0 a n h1 h2) rfl rfl (Nat.le_of_ble_eq_true rfl) ⟨rfl, rfl⟩ (fun x h' q => ?_)
  obtain ⟨rfl, rfl⟩ := q
  refine z_pop (M := M_J0_checkIndex_df160) 8 dJ0_checkIndex_df160_8 rfl ?_
  exact z_retV (M := M_J0_checkIndex_df160) 9 dJ0_checkIndex_df160_9 rfl rfl
theorem c_J1_charAt_3b067 (h0 : m_H) (i : Nat) (a : Int) (hi : i < 16) (h1 : 0 ≤ a) (h2 : a < slen i) : m_CI M_J1_charAt_3b067 [mO (20 + i), mI a] h0 (fun x h' => h0 = h' ∧ x = sch i a) := by
  have hb := slen_b i
  have hs := sch_ok hi h1 (by omega)
  refine m_CI_of ⟨by decide, rfl, by simp [m_arg, m_isL, M_J1_charAt_3b067], ⟨rfl, rfl⟩, rfl, rfl⟩ (ls := [some (mO (20 + i)), some (mI a)]) rfl ?_
  refine z_iload_n (M := M_J1_charAt_3b067) 0 dJ1_charAt_3b067_0 rfl ?_
  refine z_aload_nO (M := M_J1_charAt_3b067) 1 dJ1_charAt_3b067_1 rfl ?_
  refine z_alenO (M := M_J1_charAt_3b067) 2 dJ1_charAt_3b067_2 hi ?_
  refine z_sV (M := M_J1_charAt_3b067) 3 dJ1_charAt_3b067_3 t_J0_checkIndex_df160 l_J1_9 (m_rr_of rfl) (rest := []) (c_J0_checkIndex_df160 h0 a (m_sl.getD i 0 : Nat) h1 h2) rfl rfl (Nat.le_of_ble_eq_true rfl) ⟨rfl, rfl⟩ (fun h' q => ?_)
  obtain rfl := q
  refine z_aload_nO (M := M_J1_charAt_3b067) 6 dJ1_charAt_3b067_6 rfl ?_
  refine z_iload_n (M := M_J1_charAt_3b067) 7 dJ1_charAt_3b067_7 rfl ?_
  refine z_baldO (M := M_J1_charAt_3b067) 8 dJ1_charAt_3b067_8 hi h1 h2 ?_
  refine z_sipush (M := M_J1_charAt_3b067) 9 dJ1_charAt_3b067_9 ?_
  refine z_iand (M := M_J1_charAt_3b067) 12 dJ1_charAt_3b067_12 ?_
  have e0 : m_and ((m_sb.getD i []).getD a.toNat 0).toInt 255 = sch i a := hs.2
  rw [e0]
  refine z_i2c (M := M_J1_charAt_3b067) 13 dJ1_charAt_3b067_13 hs.1.1 (by omega) ?_
  exact z_retN (M := M_J1_charAt_3b067) 14 dJ1_charAt_3b067_14 rfl (nar_c hs.1.1 hs.1.2) ⟨rfl, rfl⟩
theorem c_J0_charAt_5068e (h0 : m_H) (i : Nat) (a : Int) (hi : i < 16) (h1 : 0 ≤ a) (h2 : a < slen i) : m_CI M_J0_charAt_5068e [mO i, mI a] h0 (fun x h' => h0 = h' ∧ x = sch i a) := by
  have hb := slen_b i
  have hs := sch_ok hi h1 (by omega)
  refine m_CI_of ⟨by decide, rfl, by simp [m_arg, m_isL, M_J0_charAt_5068e], ⟨rfl, rfl⟩, rfl, rfl⟩ (ls := [some (mO i), some (mI a)]) rfl ?_
  refine z_aload_nO (M := M_J0_charAt_5068e) 0 dJ0_charAt_5068e_0 rfl ?_
  refine z_vIO (M := M_J0_charAt_5068e) 1 dJ0_charAt_5068e_1 t_J0_isLatin1_aae02 l_J0_492 (m_rr_of rfl) (as := []) (rest := []) (c_J0_isLatin1_aae02 h0 i hi) hi rfl rfl rfl (Nat.le_of_ble_eq_true rfl) ⟨rfl, rfl⟩ (fun x h' q => ?_)
  obtain ⟨rfl, rfl⟩ := q
  refine z_if_eq_F (M := M_J0_charAt_5068e) 4 dJ0_charAt_5068e_4 16 rfl (by omega) ?_
  refine z_aload_nO (M := M_J0_charAt_5068e) 7 dJ0_charAt_5068e_7 rfl ?_
  refine z_value (M := M_J0_charAt_5068e) 8 dJ0_charAt_5068e_8 wS_9 hi ?_
  refine z_iload_n (M := M_J0_charAt_5068e) 11 dJ0_charAt_5068e_11 rfl ?_
  refine z_sI (M := M_J0_charAt_5068e) 12 dJ0_charAt_5068e_12 t_J1_charAt_3b067 l_J0_495 (m_rr_of rfl) (rest := []) (c_J1_charAt_3b067 h0 i a hi h1 h2) rfl rfl (Nat.le_of_ble_eq_true rfl) ⟨rfl, rfl⟩ (fun x h' q => ?_)
  obtain ⟨rfl, rfl⟩ := q
  exact z_retN (M := M_J0_charAt_5068e) 15 dJ0_charAt_5068e_15 rfl (nar_c hs.1.1 hs.1.2) ⟨rfl, rfl⟩

