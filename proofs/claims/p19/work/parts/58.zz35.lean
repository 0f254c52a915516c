/-! numbers of a kind by a limit -/
def lnF (k t l o : Int) : Int := if k = 2 then (2 * l + t) / (2 * t) else if k = 0 ∧ (o = 1 ∨ l / t * t ≠ l) then l / t + 1 else l / t
def gnG (T L o : Int) : Int := if o = 1 ∧ T / L * L = T then T / L - 1 else T / L
def gnF (k t l o : Int) : Int := if l = 0 then -1 else if k = 2 then gnG (2 * t + l) (2 * l) o else gnG t l o
abbrev P_X7_leastNumber2 (h0 : m_H) (a1 : Int) : Int → m_H → Prop := fun x h' => GI h' ∧ FR [] [] h0 h' ∧ lnF a1 (h0 94 0) (h0 94 1) (h0 94 2) = x
set_option maxHeartbeats 4000000 in
set_option maxRecDepth 100000 in
theorem c_X7_leastNumber2 (h0 : m_H) (a1 : Int) (G0 : GI h0) (pa1 : 0 ≤ a1 ∧ a1 ≤ 2) (q94 : (1 ≤ h0 94 0 ∧ h0 94 0 ≤ 1600000000) ∧ (0 ≤ h0 94 1 ∧ h0 94 1 ≤ 1600000000)) : m_CJ M_X7_leastNumber [mR 93, mI a1] h0 (P_X7_leastNumber2 h0 a1) := by
  refine m_CJ_of ⟨by decide, rfl, by simp [m_arg, m_isL, M_X7_leastNumber], ⟨rfl, rfl⟩, rfl, rfl⟩ (ls := [some (mR 93), some (mI a1), none, none, none]) rfl ?_
  refine z_iload_n (M := M_X7_leastNumber) 0 dX7_leastNumber_0 rfl ?_
  refine z_iconst (M := M_X7_leastNumber) 1 dX7_leastNumber_1 ?_
  refine z_icmp_ne (M := M_X7_leastNumber) 2 dX7_leastNumber_2 39 rfl (fun c1 => ?_) (fun c1 => ?_)
  · refine z_aload_n (M := M_X7_leastNumber) 39 dX7_leastNumber_39 rfl ?_
    refine z_getR (M := M_X7_leastNumber) 40 dX7_leastNumber_40 f_X7_12 o_93 rfl (g_93_0 G0) ?_
    refine z_getJG (M := M_X7_leastNumber) 43 dX7_leastNumber_43 f_X7_29 o_94 rfl q94.2 (fun x2 ex2 ax2 bx2 => ?_)
    refine z_aload_n (M := M_X7_leastNumber) 46 dX7_leastNumber_46 rfl ?_
    refine z_getR (M := M_X7_leastNumber) 47 dX7_leastNumber_47 f_X7_12 o_93 rfl (g_93_0 G0) ?_
    refine z_getJG (M := M_X7_leastNumber) 50 dX7_leastNumber_50 f_X7_33 o_94 rfl q94.1 (fun x3 ex3 ax3 bx3 => ?_)
    refine z_nJ (M := M_X7_leastNumber) 53 dX7_leastNumber_53 t_X11_quotient l_X7_36 (m_rr_of rfl) (rest := []) (c_X11_quotient2 h0 x2 x3 G0 (by omega) (by omega)) rfl rfl (Nat.le_of_ble_eq_true rfl) ⟨rfl, rfl⟩ (fun x4 h1 qx4 => ?_)
    obtain ⟨G1, S1, fx4_0⟩ := qx4
    have R1 := (FR.rf (cs := []) (ss := []) (h := h0)).call S1 (by decide +kernel)
    have bx4 := ediv_bd (x := x2) (y := x3) (hi := 1600000000) (by omega) (by omega) (by omega)
    rw [fx4_0] at bx4
    refine z_lstore_n (M := M_X7_leastNumber) 56 dX7_leastNumber_56 (ls' := [some (mR 93), some (mI a1), some (mJ x4), none, none]) (by decide) rfl ?_
    refine z_aload_n (M := M_X7_leastNumber) 57 dX7_leastNumber_57 rfl ?_
    refine z_getR (M := M_X7_leastNumber) 58 dX7_leastNumber_58 f_X7_12 o_93 rfl (g_93_0 G1) ?_
    refine z_getIG (M := M_X7_leastNumber) 61 dX7_leastNumber_61 f_X7_44 o_94 (by decide) (g_94_2 G1) (fun x5 ex5 ax5 bx5 => ?_)
    refine z_if_ne (M := M_X7_leastNumber) 64 dX7_leastNumber_64 87 rfl (fun c6 => ?_) (fun c6 => ?_)
    · refine z_iconst (M := M_X7_leastNumber) 87 dX7_leastNumber_87 ?_
      refine z_goto (M := M_X7_leastNumber) 88 dX7_leastNumber_88 92 rfl ?_
      refine z_istore (M := M_X7_leastNumber) 92 dX7_leastNumber_92 (ls' := [some (mR 93), some (mI a1), some (mJ x4), none, some (mI 1)]) (by decide) rfl ?_
      refine z_iload_n (M := M_X7_leastNumber) 94 dX7_leastNumber_94 rfl ?_
      refine z_if_ne (M := M_X7_leastNumber) 95 dX7_leastNumber_95 109 rfl (fun c7 => ?_) (fun c7 => ?_)
      · refine z_lload_n (M := M_X7_leastNumber) 109 dX7_leastNumber_109 rfl ?_
        exact z_retJ (M := M_X7_leastNumber) 110 dX7_leastNumber_110 rfl ⟨G1, R1, by unfold lnF; simp only [show h0 94 1 = x2 from ((R1 94 1 rfl).symm.trans ((S1 94 1 rfl).trans ex2)), show h0 94 0 = x3 from ((R1 94 0 rfl).symm.trans ((S1 94 0 rfl).trans ex3)), show h0 94 2 = x5 from ((R1 94 2 rfl).symm.trans ex5)]; (repeat (first | rw [if_pos (by omega)] | rw [if_neg (by omega)])); (try unfold gnG); (try simp only [fx4_0]); (repeat (first | rw [if_pos (by omega)] | rw [if_neg (by omega)])); (try omega)⟩
      · refine z_iload (M := M_X7_leastNumber) 98 dX7_leastNumber_98 rfl ?_
        refine z_if_eq_F (M := M_X7_leastNumber) 100 dX7_leastNumber_100 109 rfl (by omega) ?_
        refine z_lload_n (M := M_X7_leastNumber) 103 dX7_leastNumber_103 rfl ?_
        refine z_lconst (M := M_X7_leastNumber) 104 dX7_leastNumber_104 (v := 1) ?_
        refine z_laddN (M := M_X7_leastNumber) 105 dX7_leastNumber_105 (by omega) (by omega) ?_
        refine z_goto (M := M_X7_leastNumber) 106 dX7_leastNumber_106 110 rfl ?_
        exact z_retJ (M := M_X7_leastNumber) 110 dX7_leastNumber_110 rfl ⟨G1, R1, by unfold lnF; simp only [show h0 94 1 = x2 from ((R1 94 1 rfl).symm.trans ((S1 94 1 rfl).trans ex2)), show h0 94 0 = x3 from ((R1 94 0 rfl).symm.trans ((S1 94 0 rfl).trans ex3)), show h0 94 2 = x5 from ((R1 94 2 rfl).symm.trans ex5)]; (repeat (first | rw [if_pos (by omega)] | rw [if_neg (by omega)])); (try unfold gnG); (try simp only [fx4_0]); (repeat (first | rw [if_pos (by omega)] | rw [if_neg (by omega)])); (try omega)⟩
    · refine z_lload_n (M := M_X7_leastNumber) 67 dX7_leastNumber_67 rfl ?_
      refine z_aload_n (M := M_X7_leastNumber) 68 dX7_leastNumber_68 rfl ?_
      refine z_getR (M := M_X7_leastNumber) 69 dX7_leastNumber_69 f_X7_12 o_93 rfl (g_93_0 G1) ?_
      refine z_getJE (M := M_X7_leastNumber) 72 dX7_leastNumber_72 f_X7_33 o_94 rfl ((S1 94 0 rfl).trans ex3) ?_
      have mx8 := Int.ediv_mul_le x2 (show x3 ≠ 0 by omega)
      rw [fx4_0] at mx8
      have nx8 := Int.mul_nonneg (show 0 ≤ x4 by omega) (show 0 ≤ x3 by omega)
      refine z_lmulN (M := M_X7_leastNumber) 75 dX7_leastNumber_75 (by omega) (by omega) ?_
      refine z_topBJ (lo := 0) (hi := 1600000000) ⟨by omega, by omega⟩ (fun x8 ex8 ax8 bx8 => ?_)
      refine z_aload_n (M := M_X7_leastNumber) 76 dX7_leastNumber_76 rfl ?_
      refine z_getR (M := M_X7_leastNumber) 77 dX7_leastNumber_77 f_X7_12 o_93 rfl (g_93_0 G1) ?_
      refine z_getJE (M := M_X7_leastNumber) 80 dX7_leastNumber_80 f_X7_29 o_94 rfl ((S1 94 1 rfl).trans ex2) ?_
      refine z_lcmp (M := M_X7_leastNumber) 83 dX7_leastNumber_83 ?_
      refine z_if_eq (M := M_X7_leastNumber) 84 dX7_leastNumber_84 91 rfl (fun c9 => ?_) (fun c9 => ?_)
      · rw [m_cmp_eq] at c9
        refine z_iconst (M := M_X7_leastNumber) 91 dX7_leastNumber_91 ?_
        refine z_istore (M := M_X7_leastNumber) 92 dX7_leastNumber_92 (ls' := [some (mR 93), some (mI a1), some (mJ x4), none, some (mI 0)]) (by decide) rfl ?_
        refine z_iload_n (M := M_X7_leastNumber) 94 dX7_leastNumber_94 rfl ?_
        refine z_if_ne (M := M_X7_leastNumber) 95 dX7_leastNumber_95 109 rfl (fun c10 => ?_) (fun c10 => ?_)
        · refine z_lload_n (M := M_X7_leastNumber) 109 dX7_leastNumber_109 rfl ?_
          exact z_retJ (M := M_X7_leastNumber) 110 dX7_leastNumber_110 rfl ⟨G1, R1, by unfold lnF; simp only [show h0 94 1 = x2 from ((R1 94 1 rfl).symm.trans ((S1 94 1 rfl).trans ex2)), show h0 94 0 = x3 from ((R1 94 0 rfl).symm.trans ((S1 94 0 rfl).trans ex3)), show h0 94 2 = x5 from ((R1 94 2 rfl).symm.trans ex5)]; (repeat (first | rw [if_pos (by omega)] | rw [if_neg (by omega)])); (try unfold gnG); (try simp only [fx4_0, ex8]); (repeat (first | rw [if_pos (by omega)] | rw [if_neg (by omega)])); (try omega)⟩
        · refine z_iload (M := M_X7_leastNumber) 98 dX7_leastNumber_98 rfl ?_
          refine z_if_eq_T (M := M_X7_leastNumber) 100 dX7_leastNumber_100 109 rfl (by omega) ?_
          refine z_lload_n (M := M_X7_leastNumber) 109 dX7_leastNumber_109 rfl ?_
          exact z_retJ (M := M_X7_leastNumber) 110 dX7_leastNumber_110 rfl ⟨G1, R1, by unfold lnF; simp only [show h0 94 1 = x2 from ((R1 94 1 rfl).symm.trans ((S1 94 1 rfl).trans ex2)), show h0 94 0 = x3 from ((R1 94 0 rfl).symm.trans ((S1 94 0 rfl).trans ex3)), show h0 94 2 = x5 from ((R1 94 2 rfl).symm.trans ex5)]; (repeat (first | rw [if_pos (by omega)] | rw [if_neg (by omega)])); (try unfold gnG); (try simp only [fx4_0, ex8]); (repeat (first | rw [if_pos (by omega)] | rw [if_neg (by omega)])); (try omega)⟩
      · rw [m_cmp_eq] at c9
        refine z_iconst (M := M_X7_leastNumber) 87 dX7_leastNumber_87 ?_
        refine z_goto (M := M_X7_leastNumber) 88 dX7_leastNumber_88 92 rfl ?_
        refine z_istore (M := M_X7_leastNumber) 92 dX7_leastNumber_92 (ls' := [some (mR 93), some (mI a1), some (mJ x4), none, some (mI 1)]) (by decide) rfl ?_
        refine z_iload_n (M := M_X7_leastNumber) 94 dX7_leastNumber_94 rfl ?_
        refine z_if_ne (M := M_X7_leastNumber) 95 dX7_leastNumber_95 109 rfl (fun c11 => ?_) (fun c11 => ?_)
        · refine z_lload_n (M := M_X7_leastNumber) 109 dX7_leastNumber_109 rfl ?_
          exact z_retJ (M := M_X7_leastNumber) 110 dX7_leastNumber_110 rfl ⟨G1, R1, by unfold lnF; simp only [show h0 94 1 = x2 from ((R1 94 1 rfl).symm.trans ((S1 94 1 rfl).trans ex2)), show h0 94 0 = x3 from ((R1 94 0 rfl).symm.trans ((S1 94 0 rfl).trans ex3)), show h0 94 2 = x5 from ((R1 94 2 rfl).symm.trans ex5)]; (repeat (first | rw [if_pos (by omega)] | rw [if_neg (by omega)])); (try unfold gnG); (try simp only [fx4_0, ex8]); (repeat (first | rw [if_pos (by omega)] | rw [if_neg (by omega)])); (try omega)⟩
        · refine z_iload (M := M_X7_leastNumber) 98 dX7_leastNumber_98 rfl ?_
          refine z_if_eq_F (M := M_X7_leastNumber) 100 dX7_leastNumber_100 109 rfl (by omega) ?_
          refine z_lload_n (M := M_X7_leastNumber) 103 dX7_leastNumber_103 rfl ?_
          refine z_lconst (M := M_X7_leastNumber) 104 dX7_leastNumber_104 (v := 1) ?_
          refine z_laddN (M := M_X7_leastNumber) 105 dX7_leastNumber_105 (by omega) (by omega) ?_
          refine z_goto (M := M_X7_leastNumber) 106 dX7_leastNumber_106 110 rfl ?_
          exact z_retJ (M := M_X7_leastNumber) 110 dX7_leastNumber_110 rfl ⟨G1, R1, by unfold lnF; simp only [show h0 94 1 = x2 from ((R1 94 1 rfl).symm.trans ((S1 94 1 rfl).trans ex2)), show h0 94 0 = x3 from ((R1 94 0 rfl).symm.trans ((S1 94 0 rfl).trans ex3)), show h0 94 2 = x5 from ((R1 94 2 rfl).symm.trans ex5)]; (repeat (first | rw [if_pos (by omega)] | rw [if_neg (by omega)])); (try unfold gnG); (try simp only [fx4_0, ex8]); (repeat (first | rw [if_pos (by omega)] | rw [if_neg (by omega)])); (try omega)⟩
  · refine z_ldc2 (M := M_X7_leastNumber) 5 dX7_leastNumber_5 k_X7_42 ?_
    refine z_aload_n (M := M_X7_leastNumber) 8 dX7_leastNumber_8 rfl ?_
    refine z_getR (M := M_X7_leastNumber) 9 dX7_leastNumber_9 f_X7_12 o_93 rfl (g_93_0 G0) ?_
    refine z_getJG (M := M_X7_leastNumber) 12 dX7_leastNumber_12 f_X7_29 o_94 rfl q94.2 (fun x12 ex12 ax12 bx12 => ?_)
    refine z_lmulN (M := M_X7_leastNumber) 15 dX7_leastNumber_15 (by omega) (by omega) ?_
    refine z_aload_n (M := M_X7_leastNumber) 16 dX7_leastNumber_16 rfl ?_
    refine z_getR (M := M_X7_leastNumber) 17 dX7_leastNumber_17 f_X7_12 o_93 rfl (g_93_0 G0) ?_
    refine z_getJG (M := M_X7_leastNumber) 20 dX7_leastNumber_20 f_X7_33 o_94 rfl q94.1 (fun x13 ex13 ax13 bx13 => ?_)
    refine z_laddN (M := M_X7_leastNumber) 23 dX7_leastNumber_23 (by omega) (by omega) ?_
    refine z_ldc2 (M := M_X7_leastNumber) 24 dX7_leastNumber_24 k_X7_42 ?_
    refine z_aload_n (M := M_X7_leastNumber) 27 dX7_leastNumber_27 rfl ?_
    refine z_getR (M := M_X7_leastNumber) 28 dX7_leastNumber_28 f_X7_12 o_93 rfl (g_93_0 G0) ?_
    refine z_getJE (M := M_X7_leastNumber) 31 dX7_leastNumber_31 f_X7_33 o_94 rfl ex13 ?_
    refine z_lmulN (M := M_X7_leastNumber) 34 dX7_leastNumber_34 (by omega) (by omega) ?_
    refine z_nJ (M := M_X7_leastNumber) 35 dX7_leastNumber_35 t_X11_quotient l_X7_36 (m_rr_of rfl) (rest := []) (c_X11_quotient2 h0 ((2 * x12) + x13) (2 * x13) G0 (by omega) (by omega)) rfl rfl (Nat.le_of_ble_eq_true rfl) ⟨rfl, rfl⟩ (fun x14 h2 qx14 => ?_)
    obtain ⟨G2, S2, fx14_0⟩ := qx14
    have R2 := (FR.rf (cs := []) (ss := []) (h := h0)).call S2 (by decide +kernel)
    have bx14 := ediv_bd (x := ((2 * x12) + x13)) (y := (2 * x13)) (hi := 4800000000) (by omega) (by omega) (by omega)
    rw [fx14_0] at bx14
    exact z_retJ (M := M_X7_leastNumber) 38 dX7_leastNumber_38 rfl ⟨G2, R2, by unfold lnF; simp only [show h0 94 1 = x12 from ((R2 94 1 rfl).symm.trans ((S2 94 1 rfl).trans ex12)), show h0 94 0 = x13 from ((R2 94 0 rfl).symm.trans ((S2 94 0 rfl).trans ex13))]; (repeat (first | rw [if_pos (by omega)] | rw [if_neg (by omega)])); (try unfold gnG); (try simp only [fx14_0]); (repeat (first | rw [if_pos (by omega)] | rw [if_neg (by omega)])); (try omega)⟩
abbrev P_X7_greatestNumber2 (h0 : m_H) (a1 : Int) : Int → m_H → Prop := fun x h' => GI h' ∧ FR [] [] h0 h' ∧ gnF a1 (h0 95 0) (h0 95 1) (h0 95 2) = x
set_option maxHeartbeats 4000000 in
set_option maxRecDepth 100000 in
theorem c_X7_greatestNumber2 (h0 : m_H) (a1 : Int) (G0 : GI h0) (pa1 : 0 ≤ a1 ∧ a1 ≤ 2) (q95 : (1 ≤ h0 95 0 ∧ h0 95 0 ≤ 1600000000) ∧ (0 ≤ h0 95 1 ∧ h0 95 1 ≤ 1600000000)) : m_CJ M_X7_greatestNumber [mR 93, mI a1] h0 (P_X7_greatestNumber2 h0 a1) := by
  refine m_CJ_of ⟨by decide, rfl, by simp [m_arg, m_isL, M_X7_greatestNumber], ⟨rfl, rfl⟩, rfl, rfl⟩ (ls := [some (mR 93), some (mI a1), none, none, none, none, none, none]) rfl ?_
  refine z_aload_n (M := M_X7_greatestNumber) 0 dX7_greatestNumber_0 rfl ?_
  refine z_getR (M := M_X7_greatestNumber) 1 dX7_greatestNumber_1 f_X7_18 o_93 rfl (g_93_1 G0) ?_
  refine z_getJG (M := M_X7_greatestNumber) 4 dX7_greatestNumber_4 f_X7_29 o_95 rfl q95.2 (fun x1 ex1 ax1 bx1 => ?_)
  refine z_lconst (M := M_X7_greatestNumber) 7 dX7_greatestNumber_7 (v := 0) ?_
  refine z_lcmp (M := M_X7_greatestNumber) 8 dX7_greatestNumber_8 ?_
  refine z_if_ne (M := M_X7_greatestNumber) 9 dX7_greatestNumber_9 16 rfl (fun c2 => ?_) (fun c2 => ?_)
  · rw [m_cmp_eq] at c2
    refine z_iload_n (M := M_X7_greatestNumber) 16 dX7_greatestNumber_16 rfl ?_
    refine z_iconst (M := M_X7_greatestNumber) 17 dX7_greatestNumber_17 ?_
    refine z_icmp_ne (M := M_X7_greatestNumber) 18 dX7_greatestNumber_18 43 rfl (fun c3 => ?_) (fun c3 => ?_)
    · refine z_aload_n (M := M_X7_greatestNumber) 43 dX7_greatestNumber_43 rfl ?_
      refine z_getR (M := M_X7_greatestNumber) 44 dX7_greatestNumber_44 f_X7_18 o_93 rfl (g_93_1 G0) ?_
      refine z_getJG (M := M_X7_greatestNumber) 47 dX7_greatestNumber_47 f_X7_33 o_95 rfl q95.1 (fun x4 ex4 ax4 bx4 => ?_)
      refine z_lstore_n (M := M_X7_greatestNumber) 50 dX7_greatestNumber_50 (ls' := [some (mR 93), some (mI a1), some (mJ x4), none, none, none, none, none]) (by decide) rfl ?_
      refine z_iload_n (M := M_X7_greatestNumber) 51 dX7_greatestNumber_51 rfl ?_
      refine z_iconst (M := M_X7_greatestNumber) 52 dX7_greatestNumber_52 ?_
      refine z_icmp_ne_T (M := M_X7_greatestNumber) 53 dX7_greatestNumber_53 70 rfl (by omega) ?_
      refine z_aload_n (M := M_X7_greatestNumber) 70 dX7_greatestNumber_70 rfl ?_
      refine z_getR (M := M_X7_greatestNumber) 71 dX7_greatestNumber_71 f_X7_18 o_93 rfl (g_93_1 G0) ?_
      refine z_getJE (M := M_X7_greatestNumber) 74 dX7_greatestNumber_74 f_X7_29 o_95 rfl ex1 ?_
      refine z_lstore (M := M_X7_greatestNumber) 77 dX7_greatestNumber_77 (ls' := [some (mR 93), some (mI a1), some (mJ x4), none, some (mJ x1), none, none, none]) (by decide) rfl ?_
      refine z_lload_n (M := M_X7_greatestNumber) 79 dX7_greatestNumber_79 rfl ?_
      refine z_lload (M := M_X7_greatestNumber) 80 dX7_greatestNumber_80 rfl ?_
      refine z_nJ (M := M_X7_greatestNumber) 82 dX7_greatestNumber_82 t_X11_quotient l_X7_36 (m_rr_of rfl) (rest := []) (c_X11_quotient2 h0 x4 x1 G0 (by omega) (by omega)) rfl rfl (Nat.le_of_ble_eq_true rfl) ⟨rfl, rfl⟩ (fun x5 h1 qx5 => ?_)
      obtain ⟨G1, S1, fx5_0⟩ := qx5
      have R1 := (FR.rf (cs := []) (ss := []) (h := h0)).call S1 (by decide +kernel)
      have bx5 := ediv_bd (x := x4) (y := x1) (hi := 1600000000) (by omega) (by omega) (by omega)
      rw [fx5_0] at bx5
      refine z_lstore (M := M_X7_greatestNumber) 85 dX7_greatestNumber_85 (ls' := [some (mR 93), some (mI a1), some (mJ x4), none, some (mJ x1), none, some (mJ x5), none]) (by decide) rfl ?_
      refine z_aload_n (M := M_X7_greatestNumber) 87 dX7_greatestNumber_87 rfl ?_
      refine z_getR (M := M_X7_greatestNumber) 88 dX7_greatestNumber_88 f_X7_18 o_93 rfl (g_93_1 G1) ?_
      refine z_getIG (M := M_X7_greatestNumber) 91 dX7_greatestNumber_91 f_X7_44 o_95 (by decide) (g_95_2 G1) (fun x6 ex6 ax6 bx6 => ?_)
      refine z_if_eq (M := M_X7_greatestNumber) 94 dX7_greatestNumber_94 114 rfl (fun c7 => ?_) (fun c7 => ?_)
      · refine z_lload (M := M_X7_greatestNumber) 114 dX7_greatestNumber_114 rfl ?_
        exact z_retJ (M := M_X7_greatestNumber) 116 dX7_greatestNumber_116 rfl ⟨G1, R1, by unfold gnF; simp only [show h0 95 1 = x1 from ((R1 95 1 rfl).symm.trans ((S1 95 1 rfl).trans ex1)), show h0 95 0 = x4 from ((R1 95 0 rfl).symm.trans ((S1 95 0 rfl).trans ex4)), show h0 95 2 = x6 from ((R1 95 2 rfl).symm.trans ex6)]; (repeat (first | rw [if_pos (by omega)] | rw [if_neg (by omega)])); (try unfold gnG); (try simp only [fx5_0]); (repeat (first | rw [if_pos (by omega)] | rw [if_neg (by omega)])); (try omega)⟩
      · refine z_lload (M := M_X7_greatestNumber) 97 dX7_greatestNumber_97 rfl ?_
        refine z_lload (M := M_X7_greatestNumber) 99 dX7_greatestNumber_99 rfl ?_
        have mx8 := Int.ediv_mul_le x4 (show x1 ≠ 0 by omega)
        rw [fx5_0] at mx8
        have nx8 := Int.mul_nonneg (show 0 ≤ x5 by omega) (show 0 ≤ x1 by omega)
        refine z_lmulN (M := M_X7_greatestNumber) 101 dX7_greatestNumber_101 (by omega) (by omega) ?_
        refine z_topBJ (lo := 0) (hi := 1600000000) ⟨by omega, by omega⟩ (fun x8 ex8 ax8 bx8 => ?_)
        refine z_lload_n (M := M_X7_greatestNumber) 102 dX7_greatestNumber_102 rfl ?_
        refine z_lcmp (M := M_X7_greatestNumber) 103 dX7_greatestNumber_103 ?_
        refine z_if_ne (M := M_X7_greatestNumber) 104 dX7_greatestNumber_104 114 rfl (fun c9 => ?_) (fun c9 => ?_)
        · rw [m_cmp_eq] at c9
          refine z_lload (M := M_X7_greatestNumber) 114 dX7_greatestNumber_114 rfl ?_
          exact z_retJ (M := M_X7_greatestNumber) 116 dX7_greatestNumber_116 rfl ⟨G1, R1, by unfold gnF; simp only [show h0 95 1 = x1 from ((R1 95 1 rfl).symm.trans ((S1 95 1 rfl).trans ex1)), show h0 95 0 = x4 from ((R1 95 0 rfl).symm.trans ((S1 95 0 rfl).trans ex4)), show h0 95 2 = x6 from ((R1 95 2 rfl).symm.trans ex6)]; (repeat (first | rw [if_pos (by omega)] | rw [if_neg (by omega)])); (try unfold gnG); (try simp only [fx5_0, ex8]); (repeat (first | rw [if_pos (by omega)] | rw [if_neg (by omega)])); (try omega)⟩
        · rw [m_cmp_eq] at c9
          refine z_lload (M := M_X7_greatestNumber) 107 dX7_greatestNumber_107 rfl ?_
          refine z_lconst (M := M_X7_greatestNumber) 109 dX7_greatestNumber_109 (v := 1) ?_
          refine z_lsubN (M := M_X7_greatestNumber) 110 dX7_greatestNumber_110 (by omega) (by omega) ?_
          refine z_goto (M := M_X7_greatestNumber) 111 dX7_greatestNumber_111 116 rfl ?_
          exact z_retJ (M := M_X7_greatestNumber) 116 dX7_greatestNumber_116 rfl ⟨G1, R1, by unfold gnF; simp only [show h0 95 1 = x1 from ((R1 95 1 rfl).symm.trans ((S1 95 1 rfl).trans ex1)), show h0 95 0 = x4 from ((R1 95 0 rfl).symm.trans ((S1 95 0 rfl).trans ex4)), show h0 95 2 = x6 from ((R1 95 2 rfl).symm.trans ex6)]; (repeat (first | rw [if_pos (by omega)] | rw [if_neg (by omega)])); (try unfold gnG); (try simp only [fx5_0, ex8]); (repeat (first | rw [if_pos (by omega)] | rw [if_neg (by omega)])); (try omega)⟩
    · refine z_ldc2 (M := M_X7_greatestNumber) 21 dX7_greatestNumber_21 k_X7_42 ?_
      refine z_aload_n (M := M_X7_greatestNumber) 24 dX7_greatestNumber_24 rfl ?_
      refine z_getR (M := M_X7_greatestNumber) 25 dX7_greatestNumber_25 f_X7_18 o_93 rfl (g_93_1 G0) ?_
      refine z_getJG (M := M_X7_greatestNumber) 28 dX7_greatestNumber_28 f_X7_33 o_95 rfl q95.1 (fun x10 ex10 ax10 bx10 => ?_)
      refine z_lmulN (M := M_X7_greatestNumber) 31 dX7_greatestNumber_31 (by omega) (by omega) ?_
      refine z_aload_n (M := M_X7_greatestNumber) 32 dX7_greatestNumber_32 rfl ?_
      refine z_getR (M := M_X7_greatestNumber) 33 dX7_greatestNumber_33 f_X7_18 o_93 rfl (g_93_1 G0) ?_
      refine z_getJE (M := M_X7_greatestNumber) 36 dX7_greatestNumber_36 f_X7_29 o_95 rfl ex1 ?_
      refine z_laddN (M := M_X7_greatestNumber) 39 dX7_greatestNumber_39 (by omega) (by omega) ?_
      refine z_goto (M := M_X7_greatestNumber) 40 dX7_greatestNumber_40 50 rfl ?_
      refine z_lstore_n (M := M_X7_greatestNumber) 50 dX7_greatestNumber_50 (ls' := [some (mR 93), some (mI a1), some (mJ ((2 * x10) + x1)), none, none, none, none, none]) (by decide) rfl ?_
      refine z_iload_n (M := M_X7_greatestNumber) 51 dX7_greatestNumber_51 rfl ?_
      refine z_iconst (M := M_X7_greatestNumber) 52 dX7_greatestNumber_52 ?_
      refine z_icmp_ne_F (M := M_X7_greatestNumber) 53 dX7_greatestNumber_53 70 rfl (by omega) ?_
      refine z_ldc2 (M := M_X7_greatestNumber) 56 dX7_greatestNumber_56 k_X7_42 ?_
      refine z_aload_n (M := M_X7_greatestNumber) 59 dX7_greatestNumber_59 rfl ?_
      refine z_getR (M := M_X7_greatestNumber) 60 dX7_greatestNumber_60 f_X7_18 o_93 rfl (g_93_1 G0) ?_
      refine z_getJE (M := M_X7_greatestNumber) 63 dX7_greatestNumber_63 f_X7_29 o_95 rfl ex1 ?_
      refine z_lmulN (M := M_X7_greatestNumber) 66 dX7_greatestNumber_66 (by omega) (by omega) ?_
      refine z_goto (M := M_X7_greatestNumber) 67 dX7_greatestNumber_67 77 rfl ?_
      refine z_lstore (M := M_X7_greatestNumber) 77 dX7_greatestNumber_77 (ls' := [some (mR 93), some (mI a1), some (mJ ((2 * x10) + x1)), none, some (mJ (2 * x1)), none, none, none]) (by decide) rfl ?_
      refine z_lload_n (M := M_X7_greatestNumber) 79 dX7_greatestNumber_79 rfl ?_
      refine z_lload (M := M_X7_greatestNumber) 80 dX7_greatestNumber_80 rfl ?_
      refine z_nJ (M := M_X7_greatestNumber) 82 dX7_greatestNumber_82 t_X11_quotient l_X7_36 (m_rr_of rfl) (rest := []) (c_X11_quotient2 h0 ((2 * x10) + x1) (2 * x1) G0 (by omega) (by omega)) rfl rfl (Nat.le_of_ble_eq_true rfl) ⟨rfl, rfl⟩ (fun x11 h2 qx11 => ?_)
      obtain ⟨G2, S2, fx11_0⟩ := qx11
      have R2 := (FR.rf (cs := []) (ss := []) (h := h0)).call S2 (by decide +kernel)
      have bx11 := ediv_bd (x := ((2 * x10) + x1)) (y := (2 * x1)) (hi := 4800000000) (by omega) (by omega) (by omega)
      rw [fx11_0] at bx11
      refine z_lstore (M := M_X7_greatestNumber) 85 dX7_greatestNumber_85 (ls' := [some (mR 93), some (mI a1), some (mJ ((2 * x10) + x1)), none, some (mJ (2 * x1)), none, some (mJ x11), none]) (by decide) rfl ?_
      refine z_aload_n (M := M_X7_greatestNumber) 87 dX7_greatestNumber_87 rfl ?_
      refine z_getR (M := M_X7_greatestNumber) 88 dX7_greatestNumber_88 f_X7_18 o_93 rfl (g_93_1 G2) ?_
      refine z_getIG (M := M_X7_greatestNumber) 91 dX7_greatestNumber_91 f_X7_44 o_95 (by decide) (g_95_2 G2) (fun x12 ex12 ax12 bx12 => ?_)
      refine z_if_eq (M := M_X7_greatestNumber) 94 dX7_greatestNumber_94 114 rfl (fun c13 => ?_) (fun c13 => ?_)
      · refine z_lload (M := M_X7_greatestNumber) 114 dX7_greatestNumber_114 rfl ?_
        exact z_retJ (M := M_X7_greatestNumber) 116 dX7_greatestNumber_116 rfl ⟨G2, R2, by unfold gnF; simp only [show h0 95 1 = x1 from ((R2 95 1 rfl).symm.trans ((S2 95 1 rfl).trans ex1)), show h0 95 0 = x10 from ((R2 95 0 rfl).symm.trans ((S2 95 0 rfl).trans ex10)), show h0 95 2 = x12 from ((R2 95 2 rfl).symm.trans ex12)]; (repeat (first | rw [if_pos (by omega)] | rw [if_neg (by omega)])); (try unfold gnG); (try simp only [fx11_0]); (repeat (first | rw [if_pos (by omega)] | rw [if_neg (by omega)])); (try omega)⟩
      · refine z_lload (M := M_X7_greatestNumber) 97 dX7_greatestNumber_97 rfl ?_
        refine z_lload (M := M_X7_greatestNumber) 99 dX7_greatestNumber_99 rfl ?_
        have mx14 := Int.ediv_mul_le ((2 * x10) + x1) (show (2 * x1) ≠ 0 by omega)
        rw [fx11_0] at mx14
        have nx14 := Int.mul_nonneg (show 0 ≤ x11 by omega) (show 0 ≤ (2 * x1) by omega)
        refine z_lmulN (M := M_X7_greatestNumber) 101 dX7_greatestNumber_101 (by omega) (by omega) ?_
        refine z_topBJ (lo := 0) (hi := 4800000000) ⟨by omega, by omega⟩ (fun x14 ex14 ax14 bx14 => ?_)
        refine z_lload_n (M := M_X7_greatestNumber) 102 dX7_greatestNumber_102 rfl ?_
        refine z_lcmp (M := M_X7_greatestNumber) 103 dX7_greatestNumber_103 ?_
        refine z_if_ne (M := M_X7_greatestNumber) 104 dX7_greatestNumber_104 114 rfl (fun c15 => ?_) (fun c15 => ?_)
        · rw [m_cmp_eq] at c15
          refine z_lload (M := M_X7_greatestNumber) 114 dX7_greatestNumber_114 rfl ?_
          exact z_retJ (M := M_X7_greatestNumber) 116 dX7_greatestNumber_116 rfl ⟨G2, R2, by unfold gnF; simp only [show h0 95 1 = x1 from ((R2 95 1 rfl).symm.trans ((S2 95 1 rfl).trans ex1)), show h0 95 0 = x10 from ((R2 95 0 rfl).symm.trans ((S2 95 0 rfl).trans ex10)), show h0 95 2 = x12 from ((R2 95 2 rfl).symm.trans ex12)]; (repeat (first | rw [if_pos (by omega)] | rw [if_neg (by omega)])); (try unfold gnG); (try simp only [fx11_0, ex14]); (repeat (first | rw [if_pos (by omega)] | rw [if_neg (by omega)])); (try omega)⟩
        · rw [m_cmp_eq] at c15
          refine z_lload (M := M_X7_greatestNumber) 107 dX7_greatestNumber_107 rfl ?_
          refine z_lconst (M := M_X7_greatestNumber) 109 dX7_greatestNumber_109 (v := 1) ?_
          refine z_lsubN (M := M_X7_greatestNumber) 110 dX7_greatestNumber_110 (by omega) (by omega) ?_
          refine z_goto (M := M_X7_greatestNumber) 111 dX7_greatestNumber_111 116 rfl ?_
          exact z_retJ (M := M_X7_greatestNumber) 116 dX7_greatestNumber_116 rfl ⟨G2, R2, by unfold gnF; simp only [show h0 95 1 = x1 from ((R2 95 1 rfl).symm.trans ((S2 95 1 rfl).trans ex1)), show h0 95 0 = x10 from ((R2 95 0 rfl).symm.trans ((S2 95 0 rfl).trans ex10)), show h0 95 2 = x12 from ((R2 95 2 rfl).symm.trans ex12)]; (repeat (first | rw [if_pos (by omega)] | rw [if_neg (by omega)])); (try unfold gnG); (try simp only [fx11_0, ex14]); (repeat (first | rw [if_pos (by omega)] | rw [if_neg (by omega)])); (try omega)⟩
  · rw [m_cmp_eq] at c2
    refine z_ldc2 (M := M_X7_greatestNumber) 12 dX7_greatestNumber_12 k_X7_40 ?_
    exact z_retJ (M := M_X7_greatestNumber) 15 dX7_greatestNumber_15 rfl ⟨G0, (FR.rf (cs := []) (ss := []) (h := h0)), by unfold gnF; simp only [ex1]; (repeat (first | rw [if_pos (by omega)] | rw [if_neg (by omega)])); (try unfold gnG); (try simp only []); (repeat (first | rw [if_pos (by omega)] | rw [if_neg (by omega)])); (try omega)⟩
