abbrev M_X4_init_2 : m_M := mkM RX4 yX4_init cX4_init 1 1 23 2 9 none
set_option maxHeartbeats 4000000 in
set_option maxRecDepth 100000 in
theorem c_X4_init_2 (h0 : m_H) (e7 : h0 1 7 = 0) (e8 : h0 1 8 = 0) (e9 : h0 1 9 = 0) : m_D M_X4_init_2 (oF.take 2) (oF.take 9) [mR 1] h0 (fun r h' => r = none ∧ gR 1 9 h' ∧ (∀ k, k < 1 → h' k = h0 k) ∧ h' 1 7 = 0 ∧ h' 1 8 = 0 ∧ h' 1 9 = 0 ∧ (∀ j, j < 32 → h' 2 j = (-1)) ∧ (∀ j, j < 6 → h' 3 j = (-1)) ∧ (∀ j, j < 16 → h' 8 j = 100)) := by
  refine tk_D (by decide) (by decide) (by decide) rfl (by decide) (ls := [some (mR 1)]) rfl ?_
  refine y_aload_n (M := M_X4_init_2) 0 dX4_init_0 rfl ?_
  refine y_objI (M := M_X4_init_2) 1 dX4_init_1 ol_X4 ow2 ow3 (by decide) (by decide) ?_
  refine y_aload_n (M := M_X4_init_2) 4 dX4_init_4 rfl ?_
  refine y_bipush (M := M_X4_init_2) 5 dX4_init_5 ?_
  refine y_newaI (M := M_X4_init_2) 7 dX4_init_7 acI (N := 32) (by decide) (tk_s o_2) (tk_l (by decide)) (tk_b (by decide) (by decide) (by decide)) (fun h1 E1 => ?_)
  have f1 : h1 1 7 = 0 := nw_u E1 (by decide) e7
  have f2 : h1 1 8 = 0 := nw_u E1 (by decide) e8
  have f3 : h1 1 9 = 0 := nw_u E1 (by decide) e9
  have F4 : ∀ k, k < 1 → h1 k = h0 k := frn_nw (fun k _ => rfl) E1 (by decide)
  have g5 : gR 2 3 h1 := gR_1 (gC_of bt_2 (fun j hj => by rw [nwI E1]; show (-1 : Int) ≤ 0 ∧ (0 : Int) ≤ 3; decide))
  refine y_putF (M := M_X4_init_2) 9 dX4_init_9 ff_X4_9 (tk_g (by decide) o_1) (fun E m t q => q.1) rfl rfp_a (fun h2 E2 => ?_)
  have f6 : h2 1 7 = 0 := (upN E2 (by decide)).trans f1
  have f7 : h2 1 8 = 0 := (upN E2 (by decide)).trans f2
  have f8 : h2 1 9 = 0 := (upN E2 (by decide)).trans f3
  have g9 := g5.put E2 (by decide)
  have F10 : ∀ k, k < 1 → h2 k = h0 k := frn_up F4 E2 (by decide)
  clear f1 f2 f3 g5 F4 E1
  have f11 : h2 1 0 = ((2 : Nat) : Int) := upE E2
  refine y_aload_n (M := M_X4_init_2) 12 dX4_init_12 rfl ?_
  refine y_bipush (M := M_X4_init_2) 13 dX4_init_13 ?_
  refine y_newaI (M := M_X4_init_2) 15 dX4_init_15 acI (N := 6) (by decide) (tk_s o_3) (tk_l (by decide)) (tk_b (by decide) (by decide) (by decide)) (fun h3 E3 => ?_)
  have f12 : h3 1 7 = 0 := nw_u E3 (by decide) f6
  have f13 : h3 1 8 = 0 := nw_u E3 (by decide) f7
  have f14 : h3 1 9 = 0 := nw_u E3 (by decide) f8
  have f15 : h3 1 0 = ((2 : Nat) : Int) := nw_u E3 (by decide) f11
  have g16 := g9.nw E3 (by decide)
  have F17 : ∀ k, k < 1 → h3 k = h0 k := frn_nw F10 E3 (by decide)
  clear f6 f7 f8 f11 g9 F10 E2
  have g18 : gR 3 4 h3 := gR_1 (gC_of bt_3 (fun j hj => by rw [nwI E3]; show (-1 : Int) ≤ 0 ∧ (0 : Int) ≤ 31; decide))
  have g19 := g16.join g18
  refine y_putF (M := M_X4_init_2) 17 dX4_init_17 ff_X4_15 (tk_g (by decide) o_1) (fun E m t q => q.1) rfl rfp_a (fun h4 E4 => ?_)
  have f20 : h4 1 7 = 0 := (upN E4 (by decide)).trans f12
  have f21 : h4 1 8 = 0 := (upN E4 (by decide)).trans f13
  have f22 : h4 1 9 = 0 := (upN E4 (by decide)).trans f14
  have f23 : h4 1 0 = ((2 : Nat) : Int) := (upN E4 (by decide)).trans f15
  have g24 := g19.put E4 (by decide)
  have F25 : ∀ k, k < 1 → h4 k = h0 k := frn_up F17 E4 (by decide)
  clear f12 f13 f14 f15 g19 F17 E3 g16 g18
  have f26 : h4 1 1 = ((3 : Nat) : Int) := upE E4
  refine y_aload_n (M := M_X4_init_2) 20 dX4_init_20 rfl ?_
  refine y_bipush (M := M_X4_init_2) 21 dX4_init_21 ?_
  refine y_newaI (M := M_X4_init_2) 23 dX4_init_23 acI (N := 24) (by decide) (tk_s o_4) (tk_l (by decide)) (tk_b (by decide) (by decide) (by decide)) (fun h5 E5 => ?_)
  have f27 : h5 1 7 = 0 := nw_u E5 (by decide) f20
  have f28 : h5 1 8 = 0 := nw_u E5 (by decide) f21
  have f29 : h5 1 9 = 0 := nw_u E5 (by decide) f22
  have f30 : h5 1 0 = ((2 : Nat) : Int) := nw_u E5 (by decide) f23
  have f31 : h5 1 1 = ((3 : Nat) : Int) := nw_u E5 (by decide) f26
  have g32 := g24.nw E5 (by decide)
  have F33 : ∀ k, k < 1 → h5 k = h0 k := frn_nw F25 E5 (by decide)
  clear f20 f21 f22 f23 f26 g24 F25 E4
  have g34 : gR 4 5 h5 := gR_1 (gC_of bt_4 (fun j hj => by rw [nwI E5]; show (0 : Int) ≤ 0 ∧ (0 : Int) ≤ 5; decide))
  have g35 := g32.join g34
  refine y_putF (M := M_X4_init_2) 25 dX4_init_25 ff_X4_18 (tk_g (by decide) o_1) (fun E m t q => q.1) rfl rfp_a (fun h6 E6 => ?_)
  have f36 : h6 1 7 = 0 := (upN E6 (by decide)).trans f27
  have f37 : h6 1 8 = 0 := (upN E6 (by decide)).trans f28
  have f38 : h6 1 9 = 0 := (upN E6 (by decide)).trans f29
  have f39 : h6 1 0 = ((2 : Nat) : Int) := (upN E6 (by decide)).trans f30
  have f40 : h6 1 1 = ((3 : Nat) : Int) := (upN E6 (by decide)).trans f31
  have g41 := g35.put E6 (by decide)
  have F42 : ∀ k, k < 1 → h6 k = h0 k := frn_up F33 E6 (by decide)
  clear f27 f28 f29 f30 f31 g35 F33 E5 g32 g34
  have f43 : h6 1 2 = ((4 : Nat) : Int) := upE E6
  refine y_aload_n (M := M_X4_init_2) 28 dX4_init_28 rfl ?_
  refine y_bipush (M := M_X4_init_2) 29 dX4_init_29 ?_
  refine y_newaI (M := M_X4_init_2) 31 dX4_init_31 acI (N := 24) (by decide) (tk_s o_5) (tk_l (by decide)) (tk_b (by decide) (by decide) (by decide)) (fun h7 E7 => ?_)
  have f44 : h7 1 7 = 0 := nw_u E7 (by decide) f36
  have f45 : h7 1 8 = 0 := nw_u E7 (by decide) f37
  have f46 : h7 1 9 = 0 := nw_u E7 (by decide) f38
  have f47 : h7 1 0 = ((2 : Nat) : Int) := nw_u E7 (by decide) f39
  have f48 : h7 1 1 = ((3 : Nat) : Int) := nw_u E7 (by decide) f40
  have f49 : h7 1 2 = ((4 : Nat) : Int) := nw_u E7 (by decide) f43
  have g50 := g41.nw E7 (by decide)
  have F51 : ∀ k, k < 1 → h7 k = h0 k := frn_nw F42 E7 (by decide)
  clear f36 f37 f38 f39 f40 f43 g41 F42 E6
  have g52 : gR 5 6 h7 := gR_1 (gC_of bt_5 (fun j hj => by rw [nwI E7]; show (0 : Int) ≤ 0 ∧ (0 : Int) ≤ 31; decide))
  have g53 := g50.join g52
  refine y_putF (M := M_X4_init_2) 33 dX4_init_33 ff_X4_21 (tk_g (by decide) o_1) (fun E m t q => q.1) rfl rfp_a (fun h8 E8 => ?_)
  have f54 : h8 1 7 = 0 := (upN E8 (by decide)).trans f44
  have f55 : h8 1 8 = 0 := (upN E8 (by decide)).trans f45
  have f56 : h8 1 9 = 0 := (upN E8 (by decide)).trans f46
  have f57 : h8 1 0 = ((2 : Nat) : Int) := (upN E8 (by decide)).trans f47
  have f58 : h8 1 1 = ((3 : Nat) : Int) := (upN E8 (by decide)).trans f48
  have f59 : h8 1 2 = ((4 : Nat) : Int) := (upN E8 (by decide)).trans f49
  have g60 := g53.put E8 (by decide)
  have F61 : ∀ k, k < 1 → h8 k = h0 k := frn_up F51 E8 (by decide)
  clear f44 f45 f46 f47 f48 f49 g53 F51 E7 g50 g52
  have f62 : h8 1 3 = ((5 : Nat) : Int) := upE E8
  refine y_aload_n (M := M_X4_init_2) 36 dX4_init_36 rfl ?_
  refine y_bipush (M := M_X4_init_2) 37 dX4_init_37 ?_
  refine y_newaI (M := M_X4_init_2) 39 dX4_init_39 acI (N := 24) (by decide) (tk_s o_6) (tk_l (by decide)) (tk_b (by decide) (by decide) (by decide)) (fun h9 E9 => ?_)
  have f63 : h9 1 7 = 0 := nw_u E9 (by decide) f54
  have f64 : h9 1 8 = 0 := nw_u E9 (by decide) f55
  have f65 : h9 1 9 = 0 := nw_u E9 (by decide) f56
  have f66 : h9 1 0 = ((2 : Nat) : Int) := nw_u E9 (by decide) f57
  have f67 : h9 1 1 = ((3 : Nat) : Int) := nw_u E9 (by decide) f58
  have f68 : h9 1 2 = ((4 : Nat) : Int) := nw_u E9 (by decide) f59
  have f69 : h9 1 3 = ((5 : Nat) : Int) := nw_u E9 (by decide) f62
  have g70 := g60.nw E9 (by decide)
  have F71 : ∀ k, k < 1 → h9 k = h0 k := frn_nw F61 E9 (by decide)
  clear f54 f55 f56 f57 f58 f59 f62 g60 F61 E8
  have g72 : gR 6 7 h9 := gR_1 (gC_of bt_6 (fun j hj => by rw [nwI E9]; show (0 : Int) ≤ 0 ∧ (0 : Int) ≤ 99; decide))
  have g73 := g70.join g72
  refine y_putF (M := M_X4_init_2) 41 dX4_init_41 ff_X4_24 (tk_g (by decide) o_1) (fun E m t q => q.1) rfl rfp_a (fun h10 E10 => ?_)
  have f74 : h10 1 7 = 0 := (upN E10 (by decide)).trans f63
  have f75 : h10 1 8 = 0 := (upN E10 (by decide)).trans f64
  have f76 : h10 1 9 = 0 := (upN E10 (by decide)).trans f65
  have f77 : h10 1 0 = ((2 : Nat) : Int) := (upN E10 (by decide)).trans f66
  have f78 : h10 1 1 = ((3 : Nat) : Int) := (upN E10 (by decide)).trans f67
  have f79 : h10 1 2 = ((4 : Nat) : Int) := (upN E10 (by decide)).trans f68
  have f80 : h10 1 3 = ((5 : Nat) : Int) := (upN E10 (by decide)).trans f69
  have g81 := g73.put E10 (by decide)
  have F82 : ∀ k, k < 1 → h10 k = h0 k := frn_up F71 E10 (by decide)
  clear f63 f64 f65 f66 f67 f68 f69 g73 F71 E9 g70 g72
  have f83 : h10 1 4 = ((6 : Nat) : Int) := upE E10
  refine y_aload_n (M := M_X4_init_2) 44 dX4_init_44 rfl ?_
  refine y_bipush (M := M_X4_init_2) 45 dX4_init_45 ?_
  refine y_newaI (M := M_X4_init_2) 47 dX4_init_47 acI (N := 24) (by decide) (tk_s o_7) (tk_l (by decide)) (tk_b (by decide) (by decide) (by decide)) (fun h11 E11 => ?_)
  have f84 : h11 1 7 = 0 := nw_u E11 (by decide) f74
  have f85 : h11 1 8 = 0 := nw_u E11 (by decide) f75
  have f86 : h11 1 9 = 0 := nw_u E11 (by decide) f76
  have f87 : h11 1 0 = ((2 : Nat) : Int) := nw_u E11 (by decide) f77
  have f88 : h11 1 1 = ((3 : Nat) : Int) := nw_u E11 (by decide) f78
  have f89 : h11 1 2 = ((4 : Nat) : Int) := nw_u E11 (by decide) f79
  have f90 : h11 1 3 = ((5 : Nat) : Int) := nw_u E11 (by decide) f80
  have f91 : h11 1 4 = ((6 : Nat) : Int) := nw_u E11 (by decide) f83
  have g92 := g81.nw E11 (by decide)
  have F93 : ∀ k, k < 1 → h11 k = h0 k := frn_nw F82 E11 (by decide)
  clear f74 f75 f76 f77 f78 f79 f80 f83 g81 F82 E10
  have g94 : gR 7 8 h11 := gR_1 (gC_of bt_7 (fun j hj => by rw [nwI E11]; show (0 : Int) ≤ 0 ∧ (0 : Int) ≤ 2; decide))
  have g95 := g92.join g94
  refine y_putF (M := M_X4_init_2) 49 dX4_init_49 ff_X4_27 (tk_g (by decide) o_1) (fun E m t q => q.1) rfl rfp_a (fun h12 E12 => ?_)
  have f96 : h12 1 7 = 0 := (upN E12 (by decide)).trans f84
  have f97 : h12 1 8 = 0 := (upN E12 (by decide)).trans f85
  have f98 : h12 1 9 = 0 := (upN E12 (by decide)).trans f86
  have f99 : h12 1 0 = ((2 : Nat) : Int) := (upN E12 (by decide)).trans f87
  have f100 : h12 1 1 = ((3 : Nat) : Int) := (upN E12 (by decide)).trans f88
  have f101 : h12 1 2 = ((4 : Nat) : Int) := (upN E12 (by decide)).trans f89
  have f102 : h12 1 3 = ((5 : Nat) : Int) := (upN E12 (by decide)).trans f90
  have f103 : h12 1 4 = ((6 : Nat) : Int) := (upN E12 (by decide)).trans f91
  have g104 := g95.put E12 (by decide)
  have F105 : ∀ k, k < 1 → h12 k = h0 k := frn_up F93 E12 (by decide)
  clear f84 f85 f86 f87 f88 f89 f90 f91 g95 F93 E11 g92 g94
  have f106 : h12 1 5 = ((7 : Nat) : Int) := upE E12
  refine y_aload_n (M := M_X4_init_2) 52 dX4_init_52 rfl ?_
  refine y_bipush (M := M_X4_init_2) 53 dX4_init_53 ?_
  refine y_newaI (M := M_X4_init_2) 55 dX4_init_55 acI (N := 16) (by decide) (tk_s o_8) (tk_l (by decide)) (tk_b (by decide) (by decide) (by decide)) (fun h13 E13 => ?_)
  have f107 : h13 1 7 = 0 := nw_u E13 (by decide) f96
  have f108 : h13 1 8 = 0 := nw_u E13 (by decide) f97
  have f109 : h13 1 9 = 0 := nw_u E13 (by decide) f98
  have f110 : h13 1 0 = ((2 : Nat) : Int) := nw_u E13 (by decide) f99
  have f111 : h13 1 1 = ((3 : Nat) : Int) := nw_u E13 (by decide) f100
  have f112 : h13 1 2 = ((4 : Nat) : Int) := nw_u E13 (by decide) f101
  have f113 : h13 1 3 = ((5 : Nat) : Int) := nw_u E13 (by decide) f102
  have f114 : h13 1 4 = ((6 : Nat) : Int) := nw_u E13 (by decide) f103
  have f115 : h13 1 5 = ((7 : Nat) : Int) := nw_u E13 (by decide) f106
  have g116 := g104.nw E13 (by decide)
  have F117 : ∀ k, k < 1 → h13 k = h0 k := frn_nw F105 E13 (by decide)
  clear f96 f97 f98 f99 f100 f101 f102 f103 f106 g104 F105 E12
  refine y_putF (M := M_X4_init_2) 57 dX4_init_57 ff_X4_30 (tk_g (by decide) o_1) (fun E m t q => q.1) rfl rfp_a (fun h14 E14 => ?_)
  have f118 : h14 1 7 = 0 := (upN E14 (by decide)).trans f107
  have f119 : h14 1 8 = 0 := (upN E14 (by decide)).trans f108
  have f120 : h14 1 9 = 0 := (upN E14 (by decide)).trans f109
  have f121 : h14 1 0 = ((2 : Nat) : Int) := (upN E14 (by decide)).trans f110
  have f122 : h14 1 1 = ((3 : Nat) : Int) := (upN E14 (by decide)).trans f111
  have f123 : h14 1 2 = ((4 : Nat) : Int) := (upN E14 (by decide)).trans f112
  have f124 : h14 1 3 = ((5 : Nat) : Int) := (upN E14 (by decide)).trans f113
  have f125 : h14 1 4 = ((6 : Nat) : Int) := (upN E14 (by decide)).trans f114
  have f126 : h14 1 5 = ((7 : Nat) : Int) := (upN E14 (by decide)).trans f115
  have g127 := g116.put E14 (by decide)
  have F128 : ∀ k, k < 1 → h14 k = h0 k := frn_up F117 E14 (by decide)
  clear f107 f108 f109 f110 f111 f112 f113 f114 f115 g116 F117 E13
  have f129 : h14 1 6 = ((8 : Nat) : Int) := upE E14
  refine y_aload_n (M := M_X4_init_2) 60 dX4_init_60 rfl ?_
  refine y_getR (M := M_X4_init_2) 61 dX4_init_61 f_X4_9 (tk_g (by decide) o_1) rfl f121 ?_
  refine y_iconst (M := M_X4_init_2) 64 dX4_init_64 ?_
  refine y_callS (M := M_X4_init_2) 65 dX4_init_65 (t_fill _) l_X4_33 (m_rr_of rfl) (as := [mR 2, mI (-1)]) (rest := []) (c_fill 2 32 (-1) h14 (tk_g (by decide) o_2) (by decide)) rfl rfl (Nat.le_of_ble_eq_true rfl) ⟨rfl, rfl⟩ (fun r h15 q => ?_)
  obtain ⟨rfl, V_h15, E15⟩ := q
  have g130 : gR 3 8 h14 := fun k q1 q2 => g127 k (by omega) (by omega)
  have f131 : h15 1 7 = 0 := ce_u E15 (by decide) f118
  have f132 : h15 1 8 = 0 := ce_u E15 (by decide) f119
  have f133 : h15 1 9 = 0 := ce_u E15 (by decide) f120
  have f134 : h15 1 0 = ((2 : Nat) : Int) := ce_u E15 (by decide) f121
  have f135 : h15 1 1 = ((3 : Nat) : Int) := ce_u E15 (by decide) f122
  have f136 : h15 1 2 = ((4 : Nat) : Int) := ce_u E15 (by decide) f123
  have f137 : h15 1 3 = ((5 : Nat) : Int) := ce_u E15 (by decide) f124
  have f138 : h15 1 4 = ((6 : Nat) : Int) := ce_u E15 (by decide) f125
  have f139 : h15 1 5 = ((7 : Nat) : Int) := ce_u E15 (by decide) f126
  have f140 : h15 1 6 = ((8 : Nat) : Int) := ce_u E15 (by decide) f129
  have g141 := g130.cell E15 (by decide)
  have F142 : ∀ k, k < 1 → h15 k = h0 k := frn_ce F128 E15 (by decide)
  clear f118 f119 f120 f121 f122 f123 f124 f125 f126 f129 g130 F128 E14 g127
  have g143 : gR 2 3 h15 := gR_1 (gC_of bt_2 (fun j hj => by rw [V_h15 j hj]; show (-1 : Int) ≤ (-1) ∧ ((-1) : Int) ≤ 3; decide))
  have g144 := g143.join g141
  refine y_aload_n (M := M_X4_init_2) 68 dX4_init_68 rfl ?_
  refine y_getR (M := M_X4_init_2) 69 dX4_init_69 f_X4_15 (tk_g (by decide) o_1) rfl f135 ?_
  refine y_iconst (M := M_X4_init_2) 72 dX4_init_72 ?_
  refine y_callS (M := M_X4_init_2) 73 dX4_init_73 (t_fill _) l_X4_33 (m_rr_of rfl) (as := [mR 3, mI (-1)]) (rest := []) (c_fill 3 6 (-1) h15 (tk_g (by decide) o_3) (by decide)) rfl rfl (Nat.le_of_ble_eq_true rfl) ⟨rfl, rfl⟩ (fun r h16 q => ?_)
  obtain ⟨rfl, V_h16, E16⟩ := q
  have g145 : gR 2 3 h15 := fun k q1 q2 => g144 k (by omega) (by omega)
  have g146 : gR 4 8 h15 := fun k q1 q2 => g144 k (by omega) (by omega)
  have f147 : h16 1 7 = 0 := ce_u E16 (by decide) f131
  have f148 : h16 1 8 = 0 := ce_u E16 (by decide) f132
  have f149 : h16 1 9 = 0 := ce_u E16 (by decide) f133
  have f150 : h16 1 0 = ((2 : Nat) : Int) := ce_u E16 (by decide) f134
  have f151 : h16 1 1 = ((3 : Nat) : Int) := ce_u E16 (by decide) f135
  have f152 : h16 1 2 = ((4 : Nat) : Int) := ce_u E16 (by decide) f136
  have f153 : h16 1 3 = ((5 : Nat) : Int) := ce_u E16 (by decide) f137
  have f154 : h16 1 4 = ((6 : Nat) : Int) := ce_u E16 (by decide) f138
  have f155 : h16 1 5 = ((7 : Nat) : Int) := ce_u E16 (by decide) f139
  have f156 : h16 1 6 = ((8 : Nat) : Int) := ce_u E16 (by decide) f140
  have v157 : ∀ j, j < 32 → h16 2 j = (-1) := fun j hj => ce_u E16 (by decide) (V_h15 j hj)
  have g158 := g145.cell E16 (by decide)
  have g159 := g146.cell E16 (by decide)
  have F160 : ∀ k, k < 1 → h16 k = h0 k := frn_ce F142 E16 (by decide)
  clear f131 f132 f133 f134 f135 f136 f137 f138 f139 f140 g145 g146 F142 E15 g143 g141 g144 V_h15
  have g161 : gR 3 4 h16 := gR_1 (gC_of bt_3 (fun j hj => by rw [V_h16 j hj]; show (-1 : Int) ≤ (-1) ∧ ((-1) : Int) ≤ 31; decide))
  have g162 := g158.join g161
  have g163 := g162.join g159
  refine y_aload_n (M := M_X4_init_2) 76 dX4_init_76 rfl ?_
  refine y_getR (M := M_X4_init_2) 77 dX4_init_77 f_X4_30 (tk_g (by decide) o_1) rfl f156 ?_
  refine y_bipush (M := M_X4_init_2) 80 dX4_init_80 ?_
  refine y_callS (M := M_X4_init_2) 82 dX4_init_82 (t_fill _) l_X4_33 (m_rr_of rfl) (as := [mR 8, mI 100]) (rest := []) (c_fill 8 16 100 h16 (tk_g (by decide) o_8) (by decide)) rfl rfl (Nat.le_of_ble_eq_true rfl) ⟨rfl, rfl⟩ (fun r h17 q => ?_)
  obtain ⟨rfl, V_h17, E17⟩ := q
  have f164 : h17 1 7 = 0 := ce_u E17 (by decide) f147
  have f165 : h17 1 8 = 0 := ce_u E17 (by decide) f148
  have f166 : h17 1 9 = 0 := ce_u E17 (by decide) f149
  have f167 : h17 1 0 = ((2 : Nat) : Int) := ce_u E17 (by decide) f150
  have f168 : h17 1 1 = ((3 : Nat) : Int) := ce_u E17 (by decide) f151
  have f169 : h17 1 2 = ((4 : Nat) : Int) := ce_u E17 (by decide) f152
  have f170 : h17 1 3 = ((5 : Nat) : Int) := ce_u E17 (by decide) f153
  have f171 : h17 1 4 = ((6 : Nat) : Int) := ce_u E17 (by decide) f154
  have f172 : h17 1 5 = ((7 : Nat) : Int) := ce_u E17 (by decide) f155
  have f173 : h17 1 6 = ((8 : Nat) : Int) := ce_u E17 (by decide) f156
  have v174 : ∀ j, j < 32 → h17 2 j = (-1) := fun j hj => ce_u E17 (by decide) (v157 j hj)
  have v175 : ∀ j, j < 6 → h17 3 j = (-1) := fun j hj => ce_u E17 (by decide) (V_h16 j hj)
  have g176 := g163.cell E17 (by decide)
  have F177 : ∀ k, k < 1 → h17 k = h0 k := frn_ce F160 E17 (by decide)
  clear f147 f148 f149 f150 f151 f152 f153 f154 f155 f156 g163 F160 E16 g158 g161 g162 g159 v157 V_h16
  have g178 : gR 8 9 h17 := gR_1 (gC_of bt_8 (fun j hj => by rw [V_h17 j hj]; show (1 : Int) ≤ 100 ∧ (100 : Int) ≤ 9999; decide))
  have g179 := g176.join g178
  have g180 : gR 1 2 h17 := gR_1 (gC_of bt_1 (fun j hj => by have q : j = 0 ∨ j = 1 ∨ j = 2 ∨ j = 3 ∨ j = 4 ∨ j = 5 ∨ j = 6 ∨ j = 7 ∨ j = 8 ∨ j = 9 := (by omega); rcases q with rfl | rfl | rfl | rfl | rfl | rfl | rfl | rfl | rfl | rfl; exact f167; exact f168; exact f169; exact f170; exact f171; exact f172; exact f173; (show (0 : Int) ≤ h17 1 7 ∧ h17 1 7 ≤ (24 : Int); rw [f164]; decide); exact trivial; exact trivial))
  have g181 := g180.join g179
  exact y_vret (M := M_X4_init_2) 85 dX4_init_85 rfl ⟨rfl, rfl, g181, F177, f164, f165, f166, v174, v175, V_h17⟩
abbrev M_X4_init_10 : m_M := mkM RX4 yX4_init cX4_init 1 1 23 10 17 none
set_option maxHeartbeats 4000000 in
set_option maxRecDepth 100000 in
theorem c_X4_init_10 (h0 : m_H) (e7 : h0 9 7 = 0) : m_D M_X4_init_10 (oF.take 10) (oF.take 17) [mR 9] h0 (fun r h' => r = none ∧ gR 9 17 h' ∧ (∀ k, k < 9 → h' k = h0 k)) := by
  refine tk_D (by decide) (by decide) (by decide) rfl (by decide) (ls := [some (mR 9)]) rfl ?_
  refine y_aload_n (M := M_X4_init_10) 0 dX4_init_0 rfl ?_
  refine y_objI (M := M_X4_init_10) 1 dX4_init_1 ol_X4 ow2 ow3 (by decide) (by decide) ?_
  refine y_aload_n (M := M_X4_init_10) 4 dX4_init_4 rfl ?_
  refine y_bipush (M := M_X4_init_10) 5 dX4_init_5 ?_
  refine y_newaI (M := M_X4_init_10) 7 dX4_init_7 acI (N := 32) (by decide) (tk_s o_10) (tk_l (by decide)) (tk_b (by decide) (by decide) (by decide)) (fun h1 E1 => ?_)
  have f1 : h1 9 7 = 0 := nw_u E1 (by decide) e7
  have F2 : ∀ k, k < 9 → h1 k = h0 k := frn_nw (fun k _ => rfl) E1 (by decide)
  have g3 : gR 10 11 h1 := gR_1 (gC_of bt_10 (fun j hj => by rw [nwI E1]; show (-1 : Int) ≤ 0 ∧ (0 : Int) ≤ 3; decide))
  refine y_putF (M := M_X4_init_10) 9 dX4_init_9 ff_X4_9 (tk_g (by decide) o_9) (fun E m t q => q.1) rfl rfp_a (fun h2 E2 => ?_)
  have f4 : h2 9 7 = 0 := (upN E2 (by decide)).trans f1
  have g5 := g3.put E2 (by decide)
  have F6 : ∀ k, k < 9 → h2 k = h0 k := frn_up F2 E2 (by decide)
  clear f1 g3 F2 E1
  have f7 : h2 9 0 = ((10 : Nat) : Int) := upE E2
  refine y_aload_n (M := M_X4_init_10) 12 dX4_init_12 rfl ?_
  refine y_bipush (M := M_X4_init_10) 13 dX4_init_13 ?_
  refine y_newaI (M := M_X4_init_10) 15 dX4_init_15 acI (N := 6) (by decide) (tk_s o_11) (tk_l (by decide)) (tk_b (by decide) (by decide) (by decide)) (fun h3 E3 => ?_)
  have f8 : h3 9 7 = 0 := nw_u E3 (by decide) f4
  have f9 : h3 9 0 = ((10 : Nat) : Int) := nw_u E3 (by decide) f7
  have g10 := g5.nw E3 (by decide)
  have F11 : ∀ k, k < 9 → h3 k = h0 k := frn_nw F6 E3 (by decide)
  clear f4 f7 g5 F6 E2
  have g12 : gR 11 12 h3 := gR_1 (gC_of bt_11 (fun j hj => by rw [nwI E3]; show (-1 : Int) ≤ 0 ∧ (0 : Int) ≤ 31; decide))
  have g13 := g10.join g12
  refine y_putF (M := M_X4_init_10) 17 dX4_init_17 ff_X4_15 (tk_g (by decide) o_9) (fun E m t q => q.1) rfl rfp_a (fun h4 E4 => ?_)
  have f14 : h4 9 7 = 0 := (upN E4 (by decide)).trans f8
  have f15 : h4 9 0 = ((10 : Nat) : Int) := (upN E4 (by decide)).trans f9
  have g16 := g13.put E4 (by decide)
  have F17 : ∀ k, k < 9 → h4 k = h0 k := frn_up F11 E4 (by decide)
  clear f8 f9 g13 F11 E3 g10 g12
  have f18 : h4 9 1 = ((11 : Nat) : Int) := upE E4
  refine y_aload_n (M := M_X4_init_10) 20 dX4_init_20 rfl ?_
  refine y_bipush (M := M_X4_init_10) 21 dX4_init_21 ?_
  refine y_newaI (M := M_X4_init_10) 23 dX4_init_23 acI (N := 24) (by decide) (tk_s o_12) (tk_l (by decide)) (tk_b (by decide) (by decide) (by decide)) (fun h5 E5 => ?_)
  have f19 : h5 9 7 = 0 := nw_u E5 (by decide) f14
  have f20 : h5 9 0 = ((10 : Nat) : Int) := nw_u E5 (by decide) f15
  have f21 : h5 9 1 = ((11 : Nat) : Int) := nw_u E5 (by decide) f18
  have g22 := g16.nw E5 (by decide)
  have F23 : ∀ k, k < 9 → h5 k = h0 k := frn_nw F17 E5 (by decide)
  clear f14 f15 f18 g16 F17 E4
  have g24 : gR 12 13 h5 := gR_1 (gC_of bt_12 (fun j hj => by rw [nwI E5]; show (0 : Int) ≤ 0 ∧ (0 : Int) ≤ 5; decide))
  have g25 := g22.join g24
  refine y_putF (M := M_X4_init_10) 25 dX4_init_25 ff_X4_18 (tk_g (by decide) o_9) (fun E m t q => q.1) rfl rfp_a (fun h6 E6 => ?_)
  have f26 : h6 9 7 = 0 := (upN E6 (by decide)).trans f19
  have f27 : h6 9 0 = ((10 : Nat) : Int) := (upN E6 (by decide)).trans f20
  have f28 : h6 9 1 = ((11 : Nat) : Int) := (upN E6 (by decide)).trans f21
  have g29 := g25.put E6 (by decide)
  have F30 : ∀ k, k < 9 → h6 k = h0 k := frn_up F23 E6 (by decide)
  clear f19 f20 f21 g25 F23 E5 g22 g24
  have f31 : h6 9 2 = ((12 : Nat) : Int) := upE E6
  refine y_aload_n (M := M_X4_init_10) 28 dX4_init_28 rfl ?_
  refine y_bipush (M := M_X4_init_10) 29 dX4_init_29 ?_
  refine y_newaI (M := M_X4_init_10) 31 dX4_init_31 acI (N := 24) (by decide) (tk_s o_13) (tk_l (by decide)) (tk_b (by decide) (by decide) (by decide)) (fun h7 E7 => ?_)
  have f32 : h7 9 7 = 0 := nw_u E7 (by decide) f26
  have f33 : h7 9 0 = ((10 : Nat) : Int) := nw_u E7 (by decide) f27
  have f34 : h7 9 1 = ((11 : Nat) : Int) := nw_u E7 (by decide) f28
  have f35 : h7 9 2 = ((12 : Nat) : Int) := nw_u E7 (by decide) f31
  have g36 := g29.nw E7 (by decide)
  have F37 : ∀ k, k < 9 → h7 k = h0 k := frn_nw F30 E7 (by decide)
  clear f26 f27 f28 f31 g29 F30 E6
  have g38 : gR 13 14 h7 := gR_1 (gC_of bt_13 (fun j hj => by rw [nwI E7]; show (0 : Int) ≤ 0 ∧ (0 : Int) ≤ 31; decide))
  have g39 := g36.join g38
  refine y_putF (M := M_X4_init_10) 33 dX4_init_33 ff_X4_21 (tk_g (by decide) o_9) (fun E m t q => q.1) rfl rfp_a (fun h8 E8 => ?_)
  have f40 : h8 9 7 = 0 := (upN E8 (by decide)).trans f32
  have f41 : h8 9 0 = ((10 : Nat) : Int) := (upN E8 (by decide)).trans f33
  have f42 : h8 9 1 = ((11 : Nat) : Int) := (upN E8 (by decide)).trans f34
  have f43 : h8 9 2 = ((12 : Nat) : Int) := (upN E8 (by decide)).trans f35
  have g44 := g39.put E8 (by decide)
  have F45 : ∀ k, k < 9 → h8 k = h0 k := frn_up F37 E8 (by decide)
  clear f32 f33 f34 f35 g39 F37 E7 g36 g38
  have f46 : h8 9 3 = ((13 : Nat) : Int) := upE E8
  refine y_aload_n (M := M_X4_init_10) 36 dX4_init_36 rfl ?_
  refine y_bipush (M := M_X4_init_10) 37 dX4_init_37 ?_
  refine y_newaI (M := M_X4_init_10) 39 dX4_init_39 acI (N := 24) (by decide) (tk_s o_14) (tk_l (by decide)) (tk_b (by decide) (by decide) (by decide)) (fun h9 E9 => ?_)
  have f47 : h9 9 7 = 0 := nw_u E9 (by decide) f40
  have f48 : h9 9 0 = ((10 : Nat) : Int) := nw_u E9 (by decide) f41
  have f49 : h9 9 1 = ((11 : Nat) : Int) := nw_u E9 (by decide) f42
  have f50 : h9 9 2 = ((12 : Nat) : Int) := nw_u E9 (by decide) f43
  have f51 : h9 9 3 = ((13 : Nat) : Int) := nw_u E9 (by decide) f46
  have g52 := g44.nw E9 (by decide)
  have F53 : ∀ k, k < 9 → h9 k = h0 k := frn_nw F45 E9 (by decide)
  clear f40 f41 f42 f43 f46 g44 F45 E8
  have g54 : gR 14 15 h9 := gR_1 (gC_of bt_14 (fun j hj => by rw [nwI E9]; show (0 : Int) ≤ 0 ∧ (0 : Int) ≤ 99; decide))
  have g55 := g52.join g54
  refine y_putF (M := M_X4_init_10) 41 dX4_init_41 ff_X4_24 (tk_g (by decide) o_9) (fun E m t q => q.1) rfl rfp_a (fun h10 E10 => ?_)
  have f56 : h10 9 7 = 0 := (upN E10 (by decide)).trans f47
  have f57 : h10 9 0 = ((10 : Nat) : Int) := (upN E10 (by decide)).trans f48
  have f58 : h10 9 1 = ((11 : Nat) : Int) := (upN E10 (by decide)).trans f49
  have f59 : h10 9 2 = ((12 : Nat) : Int) := (upN E10 (by decide)).trans f50
  have f60 : h10 9 3 = ((13 : Nat) : Int) := (upN E10 (by decide)).trans f51
  have g61 := g55.put E10 (by decide)
  have F62 : ∀ k, k < 9 → h10 k = h0 k := frn_up F53 E10 (by decide)
  clear f47 f48 f49 f50 f51 g55 F53 E9 g52 g54
  have f63 : h10 9 4 = ((14 : Nat) : Int) := upE E10
  refine y_aload_n (M := M_X4_init_10) 44 dX4_init_44 rfl ?_
  refine y_bipush (M := M_X4_init_10) 45 dX4_init_45 ?_
  refine y_newaI (M := M_X4_init_10) 47 dX4_init_47 acI (N := 24) (by decide) (tk_s o_15) (tk_l (by decide)) (tk_b (by decide) (by decide) (by decide)) (fun h11 E11 => ?_)
  have f64 : h11 9 7 = 0 := nw_u E11 (by decide) f56
  have f65 : h11 9 0 = ((10 : Nat) : Int) := nw_u E11 (by decide) f57
  have f66 : h11 9 1 = ((11 : Nat) : Int) := nw_u E11 (by decide) f58
  have f67 : h11 9 2 = ((12 : Nat) : Int) := nw_u E11 (by decide) f59
  have f68 : h11 9 3 = ((13 : Nat) : Int) := nw_u E11 (by decide) f60
  have f69 : h11 9 4 = ((14 : Nat) : Int) := nw_u E11 (by decide) f63
  have g70 := g61.nw E11 (by decide)
  have F71 : ∀ k, k < 9 → h11 k = h0 k := frn_nw F62 E11 (by decide)
  clear f56 f57 f58 f59 f60 f63 g61 F62 E10
  have g72 : gR 15 16 h11 := gR_1 (gC_of bt_15 (fun j hj => by rw [nwI E11]; show (0 : Int) ≤ 0 ∧ (0 : Int) ≤ 2; decide))
  have g73 := g70.join g72
  refine y_putF (M := M_X4_init_10) 49 dX4_init_49 ff_X4_27 (tk_g (by decide) o_9) (fun E m t q => q.1) rfl rfp_a (fun h12 E12 => ?_)
  have f74 : h12 9 7 = 0 := (upN E12 (by decide)).trans f64
  have f75 : h12 9 0 = ((10 : Nat) : Int) := (upN E12 (by decide)).trans f65
  have f76 : h12 9 1 = ((11 : Nat) : Int) := (upN E12 (by decide)).trans f66
  have f77 : h12 9 2 = ((12 : Nat) : Int) := (upN E12 (by decide)).trans f67
  have f78 : h12 9 3 = ((13 : Nat) : Int) := (upN E12 (by decide)).trans f68
  have f79 : h12 9 4 = ((14 : Nat) : Int) := (upN E12 (by decide)).trans f69
  have g80 := g73.put E12 (by decide)
  have F81 : ∀ k, k < 9 → h12 k = h0 k := frn_up F71 E12 (by decide)
  clear f64 f65 f66 f67 f68 f69 g73 F71 E11 g70 g72
  have f82 : h12 9 5 = ((15 : Nat) : Int) := upE E12
  refine y_aload_n (M := M_X4_init_10) 52 dX4_init_52 rfl ?_
  refine y_bipush (M := M_X4_init_10) 53 dX4_init_53 ?_
  refine y_newaI (M := M_X4_init_10) 55 dX4_init_55 acI (N := 16) (by decide) (tk_s o_16) (tk_l (by decide)) (tk_b (by decide) (by decide) (by decide)) (fun h13 E13 => ?_)
  have f83 : h13 9 7 = 0 := nw_u E13 (by decide) f74
  have f84 : h13 9 0 = ((10 : Nat) : Int) := nw_u E13 (by decide) f75
  have f85 : h13 9 1 = ((11 : Nat) : Int) := nw_u E13 (by decide) f76
  have f86 : h13 9 2 = ((12 : Nat) : Int) := nw_u E13 (by decide) f77
  have f87 : h13 9 3 = ((13 : Nat) : Int) := nw_u E13 (by decide) f78
  have f88 : h13 9 4 = ((14 : Nat) : Int) := nw_u E13 (by decide) f79
  have f89 : h13 9 5 = ((15 : Nat) : Int) := nw_u E13 (by decide) f82
  have g90 := g80.nw E13 (by decide)
  have F91 : ∀ k, k < 9 → h13 k = h0 k := frn_nw F81 E13 (by decide)
  clear f74 f75 f76 f77 f78 f79 f82 g80 F81 E12
  refine y_putF (M := M_X4_init_10) 57 dX4_init_57 ff_X4_30 (tk_g (by decide) o_9) (fun E m t q => q.1) rfl rfp_a (fun h14 E14 => ?_)
  have f92 : h14 9 7 = 0 := (upN E14 (by decide)).trans f83
  have f93 : h14 9 0 = ((10 : Nat) : Int) := (upN E14 (by decide)).trans f84
  have f94 : h14 9 1 = ((11 : Nat) : Int) := (upN E14 (by decide)).trans f85
  have f95 : h14 9 2 = ((12 : Nat) : Int) := (upN E14 (by decide)).trans f86
  have f96 : h14 9 3 = ((13 : Nat) : Int) := (upN E14 (by decide)).trans f87
  have f97 : h14 9 4 = ((14 : Nat) : Int) := (upN E14 (by decide)).trans f88
  have f98 : h14 9 5 = ((15 : Nat) : Int) := (upN E14 (by decide)).trans f89
  have g99 := g90.put E14 (by decide)
  have F100 : ∀ k, k < 9 → h14 k = h0 k := frn_up F91 E14 (by decide)
  clear f83 f84 f85 f86 f87 f88 f89 g90 F91 E13
  have f101 : h14 9 6 = ((16 : Nat) : Int) := upE E14
  refine y_aload_n (M := M_X4_init_10) 60 dX4_init_60 rfl ?_
  refine y_getR (M := M_X4_init_10) 61 dX4_init_61 f_X4_9 (tk_g (by decide) o_9) rfl f93 ?_
  refine y_iconst (M := M_X4_init_10) 64 dX4_init_64 ?_
  refine y_callS (M := M_X4_init_10) 65 dX4_init_65 (t_fill _) l_X4_33 (m_rr_of rfl) (as := [mR 10, mI (-1)]) (rest := []) (c_fill 10 32 (-1) h14 (tk_g (by decide) o_10) (by decide)) rfl rfl (Nat.le_of_ble_eq_true rfl) ⟨rfl, rfl⟩ (fun r h15 q => ?_)
  obtain ⟨rfl, V_h15, E15⟩ := q
  have g102 : gR 11 16 h14 := fun k q1 q2 => g99 k (by omega) (by omega)
  have f103 : h15 9 7 = 0 := ce_u E15 (by decide) f92
  have f104 : h15 9 0 = ((10 : Nat) : Int) := ce_u E15 (by decide) f93
  have f105 : h15 9 1 = ((11 : Nat) : Int) := ce_u E15 (by decide) f94
  have f106 : h15 9 2 = ((12 : Nat) : Int) := ce_u E15 (by decide) f95
  have f107 : h15 9 3 = ((13 : Nat) : Int) := ce_u E15 (by decide) f96
  have f108 : h15 9 4 = ((14 : Nat) : Int) := ce_u E15 (by decide) f97
  have f109 : h15 9 5 = ((15 : Nat) : Int) := ce_u E15 (by decide) f98
  have f110 : h15 9 6 = ((16 : Nat) : Int) := ce_u E15 (by decide) f101
  have g111 := g102.cell E15 (by decide)
  have F112 : ∀ k, k < 9 → h15 k = h0 k := frn_ce F100 E15 (by decide)
  clear f92 f93 f94 f95 f96 f97 f98 f101 g102 F100 E14 g99
  have g113 : gR 10 11 h15 := gR_1 (gC_of bt_10 (fun j hj => by rw [V_h15 j hj]; show (-1 : Int) ≤ (-1) ∧ ((-1) : Int) ≤ 3; decide))
  have g114 := g113.join g111
  refine y_aload_n (M := M_X4_init_10) 68 dX4_init_68 rfl ?_
  refine y_getR (M := M_X4_init_10) 69 dX4_init_69 f_X4_15 (tk_g (by decide) o_9) rfl f105 ?_
  refine y_iconst (M := M_X4_init_10) 72 dX4_init_72 ?_
  refine y_callS (M := M_X4_init_10) 73 dX4_init_73 (t_fill _) l_X4_33 (m_rr_of rfl) (as := [mR 11, mI (-1)]) (rest := []) (c_fill 11 6 (-1) h15 (tk_g (by decide) o_11) (by decide)) rfl rfl (Nat.le_of_ble_eq_true rfl) ⟨rfl, rfl⟩ (fun r h16 q => ?_)
  obtain ⟨rfl, V_h16, E16⟩ := q
  have g115 : gR 10 11 h15 := fun k q1 q2 => g114 k (by omega) (by omega)
  have g116 : gR 12 16 h15 := fun k q1 q2 => g114 k (by omega) (by omega)
  have f117 : h16 9 7 = 0 := ce_u E16 (by decide) f103
  have f118 : h16 9 0 = ((10 : Nat) : Int) := ce_u E16 (by decide) f104
  have f119 : h16 9 1 = ((11 : Nat) : Int) := ce_u E16 (by decide) f105
  have f120 : h16 9 2 = ((12 : Nat) : Int) := ce_u E16 (by decide) f106
  have f121 : h16 9 3 = ((13 : Nat) : Int) := ce_u E16 (by decide) f107
  have f122 : h16 9 4 = ((14 : Nat) : Int) := ce_u E16 (by decide) f108
  have f123 : h16 9 5 = ((15 : Nat) : Int) := ce_u E16 (by decide) f109
  have f124 : h16 9 6 = ((16 : Nat) : Int) := ce_u E16 (by decide) f110
  have g125 := g115.cell E16 (by decide)
  have g126 := g116.cell E16 (by decide)
  have F127 : ∀ k, k < 9 → h16 k = h0 k := frn_ce F112 E16 (by decide)
  clear f103 f104 f105 f106 f107 f108 f109 f110 g115 g116 F112 E15 g113 g111 g114
  have g128 : gR 11 12 h16 := gR_1 (gC_of bt_11 (fun j hj => by rw [V_h16 j hj]; show (-1 : Int) ≤ (-1) ∧ ((-1) : Int) ≤ 31; decide))
  have g129 := g125.join g128
  have g130 := g129.join g126
  refine y_aload_n (M := M_X4_init_10) 76 dX4_init_76 rfl ?_
  refine y_getR (M := M_X4_init_10) 77 dX4_init_77 f_X4_30 (tk_g (by decide) o_9) rfl f124 ?_
  refine y_bipush (M := M_X4_init_10) 80 dX4_init_80 ?_
  refine y_callS (M := M_X4_init_10) 82 dX4_init_82 (t_fill _) l_X4_33 (m_rr_of rfl) (as := [mR 16, mI 100]) (rest := []) (c_fill 16 16 100 h16 (tk_g (by decide) o_16) (by decide)) rfl rfl (Nat.le_of_ble_eq_true rfl) ⟨rfl, rfl⟩ (fun r h17 q => ?_)
  obtain ⟨rfl, V_h17, E17⟩ := q
  have f131 : h17 9 7 = 0 := ce_u E17 (by decide) f117
  have f132 : h17 9 0 = ((10 : Nat) : Int) := ce_u E17 (by decide) f118
  have f133 : h17 9 1 = ((11 : Nat) : Int) := ce_u E17 (by decide) f119
  have f134 : h17 9 2 = ((12 : Nat) : Int) := ce_u E17 (by decide) f120
  have f135 : h17 9 3 = ((13 : Nat) : Int) := ce_u E17 (by decide) f121
  have f136 : h17 9 4 = ((14 : Nat) : Int) := ce_u E17 (by decide) f122
  have f137 : h17 9 5 = ((15 : Nat) : Int) := ce_u E17 (by decide) f123
  have f138 : h17 9 6 = ((16 : Nat) : Int) := ce_u E17 (by decide) f124
  have g139 := g130.cell E17 (by decide)
  have F140 : ∀ k, k < 9 → h17 k = h0 k := frn_ce F127 E17 (by decide)
  clear f117 f118 f119 f120 f121 f122 f123 f124 g130 F127 E16 g125 g128 g129 g126
  have g141 : gR 16 17 h17 := gR_1 (gC_of bt_16 (fun j hj => by rw [V_h17 j hj]; show (1 : Int) ≤ 100 ∧ (100 : Int) ≤ 9999; decide))
  have g142 := g139.join g141
  have g143 : gR 9 10 h17 := gR_1 (gC_of bt_9 (fun j hj => by have q : j = 0 ∨ j = 1 ∨ j = 2 ∨ j = 3 ∨ j = 4 ∨ j = 5 ∨ j = 6 ∨ j = 7 ∨ j = 8 ∨ j = 9 := (by omega); rcases q with rfl | rfl | rfl | rfl | rfl | rfl | rfl | rfl | rfl | rfl; exact f132; exact f133; exact f134; exact f135; exact f136; exact f137; exact f138; (show (0 : Int) ≤ h17 9 7 ∧ h17 9 7 ≤ (24 : Int); rw [f131]; decide); exact trivial; exact trivial))
  have g144 := g143.join g142
  exact y_vret (M := M_X4_init_10) 85 dX4_init_85 rfl ⟨rfl, rfl, g144, F140⟩
abbrev M_X4_init_19 : m_M := mkM RX4 yX4_init cX4_init 1 1 23 19 26 none
set_option maxHeartbeats 4000000 in
set_option maxRecDepth 100000 in
theorem c_X4_init_19 (h0 : m_H) (e7 : h0 18 7 = 0) : m_D M_X4_init_19 (oF.take 19) (oF.take 26) [mR 18] h0 (fun r h' => r = none ∧ gR 18 26 h' ∧ (∀ k, k < 18 → h' k = h0 k)) := by
  refine tk_D (by decide) (by decide) (by decide) rfl (by decide) (ls := [some (mR 18)]) rfl ?_
  refine y_aload_n (M := M_X4_init_19) 0 dX4_init_0 rfl ?_
  refine y_objI (M := M_X4_init_19) 1 dX4_init_1 ol_X4 ow2 ow3 (by decide) (by decide) ?_
  refine y_aload_n (M := M_X4_init_19) 4 dX4_init_4 rfl ?_
  refine y_bipush (M := M_X4_init_19) 5 dX4_init_5 ?_
  refine y_newaI (M := M_X4_init_19) 7 dX4_init_7 acI (N := 32) (by decide) (tk_s o_19) (tk_l (by decide)) (tk_b (by decide) (by decide) (by decide)) (fun h1 E1 => ?_)
  have f1 : h1 18 7 = 0 := nw_u E1 (by decide) e7
  have F2 : ∀ k, k < 18 → h1 k = h0 k := frn_nw (fun k _ => rfl) E1 (by decide)
  have g3 : gR 19 20 h1 := gR_1 (gC_of bt_19 (fun j hj => by rw [nwI E1]; show (-1 : Int) ≤ 0 ∧ (0 : Int) ≤ 3; decide))
  refine y_putF (M := M_X4_init_19) 9 dX4_init_9 ff_X4_9 (tk_g (by decide) o_18) (fun E m t q => q.1) rfl rfp_a (fun h2 E2 => ?_)
  have f4 : h2 18 7 = 0 := (upN E2 (by decide)).trans f1
  have g5 := g3.put E2 (by decide)
  have F6 : ∀ k, k < 18 → h2 k = h0 k := frn_up F2 E2 (by decide)
  clear f1 g3 F2 E1
  have f7 : h2 18 0 = ((19 : Nat) : Int) := upE E2
  refine y_aload_n (M := M_X4_init_19) 12 dX4_init_12 rfl ?_
  refine y_bipush (M := M_X4_init_19) 13 dX4_init_13 ?_
  refine y_newaI (M := M_X4_init_19) 15 dX4_init_15 acI (N := 6) (by decide) (tk_s o_20) (tk_l (by decide)) (tk_b (by decide) (by decide) (by decide)) (fun h3 E3 => ?_)
  have f8 : h3 18 7 = 0 := nw_u E3 (by decide) f4
  have f9 : h3 18 0 = ((19 : Nat) : Int) := nw_u E3 (by decide) f7
  have g10 := g5.nw E3 (by decide)
  have F11 : ∀ k, k < 18 → h3 k = h0 k := frn_nw F6 E3 (by decide)
  clear f4 f7 g5 F6 E2
  have g12 : gR 20 21 h3 := gR_1 (gC_of bt_20 (fun j hj => by rw [nwI E3]; show (-1 : Int) ≤ 0 ∧ (0 : Int) ≤ 31; decide))
  have g13 := g10.join g12
  refine y_putF (M := M_X4_init_19) 17 dX4_init_17 ff_X4_15 (tk_g (by decide) o_18) (fun E m t q => q.1) rfl rfp_a (fun h4 E4 => ?_)
  have f14 : h4 18 7 = 0 := (upN E4 (by decide)).trans f8
  have f15 : h4 18 0 = ((19 : Nat) : Int) := (upN E4 (by decide)).trans f9
  have g16 := g13.put E4 (by decide)
  have F17 : ∀ k, k < 18 → h4 k = h0 k := frn_up F11 E4 (by decide)
  clear f8 f9 g13 F11 E3 g10 g12
  have f18 : h4 18 1 = ((20 : Nat) : Int) := upE E4
  refine y_aload_n (M := M_X4_init_19) 20 dX4_init_20 rfl ?_
  refine y_bipush (M := M_X4_init_19) 21 dX4_init_21 ?_
  refine y_newaI (M := M_X4_init_19) 23 dX4_init_23 acI (N := 24) (by decide) (tk_s o_21) (tk_l (by decide)) (tk_b (by decide) (by decide) (by decide)) (fun h5 E5 => ?_)
  have f19 : h5 18 7 = 0 := nw_u E5 (by decide) f14
  have f20 : h5 18 0 = ((19 : Nat) : Int) := nw_u E5 (by decide) f15
  have f21 : h5 18 1 = ((20 : Nat) : Int) := nw_u E5 (by decide) f18
  have g22 := g16.nw E5 (by decide)
  have F23 : ∀ k, k < 18 → h5 k = h0 k := frn_nw F17 E5 (by decide)
  clear f14 f15 f18 g16 F17 E4
  have g24 : gR 21 22 h5 := gR_1 (gC_of bt_21 (fun j hj => by rw [nwI E5]; show (0 : Int) ≤ 0 ∧ (0 : Int) ≤ 5; decide))
  have g25 := g22.join g24
  refine y_putF (M := M_X4_init_19) 25 dX4_init_25 ff_X4_18 (tk_g (by decide) o_18) (fun E m t q => q.1) rfl rfp_a (fun h6 E6 => ?_)
  have f26 : h6 18 7 = 0 := (upN E6 (by decide)).trans f19
  have f27 : h6 18 0 = ((19 : Nat) : Int) := (upN E6 (by decide)).trans f20
  have f28 : h6 18 1 = ((20 : Nat) : Int) := (upN E6 (by decide)).trans f21
  have g29 := g25.put E6 (by decide)
  have F30 : ∀ k, k < 18 → h6 k = h0 k := frn_up F23 E6 (by decide)
  clear f19 f20 f21 g25 F23 E5 g22 g24
  have f31 : h6 18 2 = ((21 : Nat) : Int) := upE E6
  refine y_aload_n (M := M_X4_init_19) 28 dX4_init_28 rfl ?_
  refine y_bipush (M := M_X4_init_19) 29 dX4_init_29 ?_
  refine y_newaI (M := M_X4_init_19) 31 dX4_init_31 acI (N := 24) (by decide) (tk_s o_22) (tk_l (by decide)) (tk_b (by decide) (by decide) (by decide)) (fun h7 E7 => ?_)
  have f32 : h7 18 7 = 0 := nw_u E7 (by decide) f26
  have f33 : h7 18 0 = ((19 : Nat) : Int) := nw_u E7 (by decide) f27
  have f34 : h7 18 1 = ((20 : Nat) : Int) := nw_u E7 (by decide) f28
  have f35 : h7 18 2 = ((21 : Nat) : Int) := nw_u E7 (by decide) f31
  have g36 := g29.nw E7 (by decide)
  have F37 : ∀ k, k < 18 → h7 k = h0 k := frn_nw F30 E7 (by decide)
  clear f26 f27 f28 f31 g29 F30 E6
  have g38 : gR 22 23 h7 := gR_1 (gC_of bt_22 (fun j hj => by rw [nwI E7]; show (0 : Int) ≤ 0 ∧ (0 : Int) ≤ 31; decide))
  have g39 := g36.join g38
  refine y_putF (M := M_X4_init_19) 33 dX4_init_33 ff_X4_21 (tk_g (by decide) o_18) (fun E m t q => q.1) rfl rfp_a (fun h8 E8 => ?_)
  have f40 : h8 18 7 = 0 := (upN E8 (by decide)).trans f32
  have f41 : h8 18 0 = ((19 : Nat) : Int) := (upN E8 (by decide)).trans f33
  have f42 : h8 18 1 = ((20 : Nat) : Int) := (upN E8 (by decide)).trans f34
  have f43 : h8 18 2 = ((21 : Nat) : Int) := (upN E8 (by decide)).trans f35
  have g44 := g39.put E8 (by decide)
  have F45 : ∀ k, k < 18 → h8 k = h0 k := frn_up F37 E8 (by decide)
  clear f32 f33 f34 f35 g39 F37 E7 g36 g38
  have f46 : h8 18 3 = ((22 : Nat) : Int) := upE E8
  refine y_aload_n (M := M_X4_init_19) 36 dX4_init_36 rfl ?_
  refine y_bipush (M := M_X4_init_19) 37 dX4_init_37 ?_
  refine y_newaI (M := M_X4_init_19) 39 dX4_init_39 acI (N := 24) (by decide) (tk_s o_23) (tk_l (by decide)) (tk_b (by decide) (by decide) (by decide)) (fun h9 E9 => ?_)
  have f47 : h9 18 7 = 0 := nw_u E9 (by decide) f40
  have f48 : h9 18 0 = ((19 : Nat) : Int) := nw_u E9 (by decide) f41
  have f49 : h9 18 1 = ((20 : Nat) : Int) := nw_u E9 (by decide) f42
  have f50 : h9 18 2 = ((21 : Nat) : Int) := nw_u E9 (by decide) f43
  have f51 : h9 18 3 = ((22 : Nat) : Int) := nw_u E9 (by decide) f46
  have g52 := g44.nw E9 (by decide)
  have F53 : ∀ k, k < 18 → h9 k = h0 k := frn_nw F45 E9 (by decide)
  clear f40 f41 f42 f43 f46 g44 F45 E8
  have g54 : gR 23 24 h9 := gR_1 (gC_of bt_23 (fun j hj => by rw [nwI E9]; show (0 : Int) ≤ 0 ∧ (0 : Int) ≤ 99; decide))
  have g55 := g52.join g54
  refine y_putF (M := M_X4_init_19) 41 dX4_init_41 ff_X4_24 (tk_g (by decide) o_18) (fun E m t q => q.1) rfl rfp_a (fun h10 E10 => ?_)
  have f56 : h10 18 7 = 0 := (upN E10 (by decide)).trans f47
  have f57 : h10 18 0 = ((19 : Nat) : Int) := (upN E10 (by decide)).trans f48
  have f58 : h10 18 1 = ((20 : Nat) : Int) := (upN E10 (by decide)).trans f49
  have f59 : h10 18 2 = ((21 : Nat) : Int) := (upN E10 (by decide)).trans f50
  have f60 : h10 18 3 = ((22 : Nat) : Int) := (upN E10 (by decide)).trans f51
  have g61 := g55.put E10 (by decide)
  have F62 : ∀ k, k < 18 → h10 k = h0 k := frn_up F53 E10 (by decide)
  clear f47 f48 f49 f50 f51 g55 F53 E9 g52 g54
  have f63 : h10 18 4 = ((23 : Nat) : Int) := upE E10
  refine y_aload_n (M := M_X4_init_19) 44 dX4_init_44 rfl ?_
  refine y_bipush (M := M_X4_init_19) 45 dX4_init_45 ?_
  refine y_newaI (M := M_X4_init_19) 47 dX4_init_47 acI (N := 24) (by decide) (tk_s o_24) (tk_l (by decide)) (tk_b (by decide) (by decide) (by decide)) (fun h11 E11 => ?_)
  have f64 : h11 18 7 = 0 := nw_u E11 (by decide) f56
  have f65 : h11 18 0 = ((19 : Nat) : Int) := nw_u E11 (by decide) f57
  have f66 : h11 18 1 = ((20 : Nat) : Int) := nw_u E11 (by decide) f58
  have f67 : h11 18 2 = ((21 : Nat) : Int) := nw_u E11 (by decide) f59
  have f68 : h11 18 3 = ((22 : Nat) : Int) := nw_u E11 (by decide) f60
  have f69 : h11 18 4 = ((23 : Nat) : Int) := nw_u E11 (by decide) f63
  have g70 := g61.nw E11 (by decide)
  have F71 : ∀ k, k < 18 → h11 k = h0 k := frn_nw F62 E11 (by decide)
  clear f56 f57 f58 f59 f60 f63 g61 F62 E10
  have g72 : gR 24 25 h11 := gR_1 (gC_of bt_24 (fun j hj => by rw [nwI E11]; show (0 : Int) ≤ 0 ∧ (0 : Int) ≤ 2; decide))
  have g73 := g70.join g72
  refine y_putF (M := M_X4_init_19) 49 dX4_init_49 ff_X4_27 (tk_g (by decide) o_18) (fun E m t q => q.1) rfl rfp_a (fun h12 E12 => ?_)
  have f74 : h12 18 7 = 0 := (upN E12 (by decide)).trans f64
  have f75 : h12 18 0 = ((19 : Nat) : Int) := (upN E12 (by decide)).trans f65
  have f76 : h12 18 1 = ((20 : Nat) : Int) := (upN E12 (by decide)).trans f66
  have f77 : h12 18 2 = ((21 : Nat) : Int) := (upN E12 (by decide)).trans f67
  have f78 : h12 18 3 = ((22 : Nat) : Int) := (upN E12 (by decide)).trans f68
  have f79 : h12 18 4 = ((23 : Nat) : Int) := (upN E12 (by decide)).trans f69
  have g80 := g73.put E12 (by decide)
  have F81 : ∀ k, k < 18 → h12 k = h0 k := frn_up F71 E12 (by decide)
  clear f64 f65 f66 f67 f68 f69 g73 F71 E11 g70 g72
  have f82 : h12 18 5 = ((24 : Nat) : Int) := upE E12
  refine y_aload_n (M := M_X4_init_19) 52 dX4_init_52 rfl ?_
  refine y_bipush (M := M_X4_init_19) 53 dX4_init_53 ?_
  refine y_newaI (M := M_X4_init_19) 55 dX4_init_55 acI (N := 16) (by decide) (tk_s o_25) (tk_l (by decide)) (tk_b (by decide) (by decide) (by decide)) (fun h13 E13 => ?_)
  have f83 : h13 18 7 = 0 := nw_u E13 (by decide) f74
  have f84 : h13 18 0 = ((19 : Nat) : Int) := nw_u E13 (by decide) f75
  have f85 : h13 18 1 = ((20 : Nat) : Int) := nw_u E13 (by decide) f76
  have f86 : h13 18 2 = ((21 : Nat) : Int) := nw_u E13 (by decide) f77
  have f87 : h13 18 3 = ((22 : Nat) : Int) := nw_u E13 (by decide) f78
  have f88 : h13 18 4 = ((23 : Nat) : Int) := nw_u E13 (by decide) f79
  have f89 : h13 18 5 = ((24 : Nat) : Int) := nw_u E13 (by decide) f82
  have g90 := g80.nw E13 (by decide)
  have F91 : ∀ k, k < 18 → h13 k = h0 k := frn_nw F81 E13 (by decide)
  clear f74 f75 f76 f77 f78 f79 f82 g80 F81 E12
  refine y_putF (M := M_X4_init_19) 57 dX4_init_57 ff_X4_30 (tk_g (by decide) o_18) (fun E m t q => q.1) rfl rfp_a (fun h14 E14 => ?_)
  have f92 : h14 18 7 = 0 := (upN E14 (by decide)).trans f83
  have f93 : h14 18 0 = ((19 : Nat) : Int) := (upN E14 (by decide)).trans f84
  have f94 : h14 18 1 = ((20 : Nat) : Int) := (upN E14 (by decide)).trans f85
  have f95 : h14 18 2 = ((21 : Nat) : Int) := (upN E14 (by decide)).trans f86
  have f96 : h14 18 3 = ((22 : Nat) : Int) := (upN E14 (by decide)).trans f87
  have f97 : h14 18 4 = ((23 : Nat) : Int) := (upN E14 (by decide)).trans f88
  have f98 : h14 18 5 = ((24 : Nat) : Int) := (upN E14 (by decide)).trans f89
  have g99 := g90.put E14 (by decide)
  have F100 : ∀ k, k < 18 → h14 k = h0 k := frn_up F91 E14 (by decide)
  clear f83 f84 f85 f86 f87 f88 f89 g90 F91 E13
  have f101 : h14 18 6 = ((25 : Nat) : Int) := upE E14
  refine y_aload_n (M := M_X4_init_19) 60 dX4_init_60 rfl ?_
  refine y_getR (M := M_X4_init_19) 61 dX4_init_61 f_X4_9 (tk_g (by decide) o_18) rfl f93 ?_
  refine y_iconst (M := M_X4_init_19) 64 dX4_init_64 ?_
  refine y_callS (M := M_X4_init_19) 65 dX4_init_65 (t_fill _) l_X4_33 (m_rr_of rfl) (as := [mR 19, mI (-1)]) (rest := []) (c_fill 19 32 (-1) h14 (tk_g (by decide) o_19) (by decide)) rfl rfl (Nat.le_of_ble_eq_true rfl) ⟨rfl, rfl⟩ (fun r h15 q => ?_)
  obtain ⟨rfl, V_h15, E15⟩ := q
  have g102 : gR 20 25 h14 := fun k q1 q2 => g99 k (by omega) (by omega)
  have f103 : h15 18 7 = 0 := ce_u E15 (by decide) f92
  have f104 : h15 18 0 = ((19 : Nat) : Int) := ce_u E15 (by decide) f93
  have f105 : h15 18 1 = ((20 : Nat) : Int) := ce_u E15 (by decide) f94
  have f106 : h15 18 2 = ((21 : Nat) : Int) := ce_u E15 (by decide) f95
  have f107 : h15 18 3 = ((22 : Nat) : Int) := ce_u E15 (by decide) f96
  have f108 : h15 18 4 = ((23 : Nat) : Int) := ce_u E15 (by decide) f97
  have f109 : h15 18 5 = ((24 : Nat) : Int) := ce_u E15 (by decide) f98
  have f110 : h15 18 6 = ((25 : Nat) : Int) := ce_u E15 (by decide) f101
  have g111 := g102.cell E15 (by decide)
  have F112 : ∀ k, k < 18 → h15 k = h0 k := frn_ce F100 E15 (by decide)
  clear f92 f93 f94 f95 f96 f97 f98 f101 g102 F100 E14 g99
  have g113 : gR 19 20 h15 := gR_1 (gC_of bt_19 (fun j hj => by rw [V_h15 j hj]; show (-1 : Int) ≤ (-1) ∧ ((-1) : Int) ≤ 3; decide))
  have g114 := g113.join g111
  refine y_aload_n (M := M_X4_init_19) 68 dX4_init_68 rfl ?_
  refine y_getR (M := M_X4_init_19) 69 dX4_init_69 f_X4_15 (tk_g (by decide) o_18) rfl f105 ?_
  refine y_iconst (M := M_X4_init_19) 72 dX4_init_72 ?_
  refine y_callS (M := M_X4_init_19) 73 dX4_init_73 (t_fill _) l_X4_33 (m_rr_of rfl) (as := [mR 20, mI (-1)]) (rest := []) (c_fill 20 6 (-1) h15 (tk_g (by decide) o_20) (by decide)) rfl rfl (Nat.le_of_ble_eq_true rfl) ⟨rfl, rfl⟩ (fun r h16 q => ?_)
  obtain ⟨rfl, V_h16, E16⟩ := q
  have g115 : gR 19 20 h15 := fun k q1 q2 => g114 k (by omega) (by omega)
  have g116 : gR 21 25 h15 := fun k q1 q2 => g114 k (by omega) (by omega)
  have f117 : h16 18 7 = 0 := ce_u E16 (by decide) f103
  have f118 : h16 18 0 = ((19 : Nat) : Int) := ce_u E16 (by decide) f104
  have f119 : h16 18 1 = ((20 : Nat) : Int) := ce_u E16 (by decide) f105
  have f120 : h16 18 2 = ((21 : Nat) : Int) := ce_u E16 (by decide) f106
  have f121 : h16 18 3 = ((22 : Nat) : Int) := ce_u E16 (by decide) f107
  have f122 : h16 18 4 = ((23 : Nat) : Int) := ce_u E16 (by decide) f108
  have f123 : h16 18 5 = ((24 : Nat) : Int) := ce_u E16 (by decide) f109
  have f124 : h16 18 6 = ((25 : Nat) : Int) := ce_u E16 (by decide) f110
  have g125 := g115.cell E16 (by decide)
  have g126 := g116.cell E16 (by decide)
  have F127 : ∀ k, k < 18 → h16 k = h0 k := frn_ce F112 E16 (by decide)
  clear f103 f104 f105 f106 f107 f108 f109 f110 g115 g116 F112 E15 g113 g111 g114
  have g128 : gR 20 21 h16 := gR_1 (gC_of bt_20 (fun j hj => by rw [V_h16 j hj]; show (-1 : Int) ≤ (-1) ∧ ((-1) : Int) ≤ 31; decide))
  have g129 := g125.join g128
  have g130 := g129.join g126
  refine y_aload_n (M := M_X4_init_19) 76 dX4_init_76 rfl ?_
  refine y_getR (M := M_X4_init_19) 77 dX4_init_77 f_X4_30 (tk_g (by decide) o_18) rfl f124 ?_
  refine y_bipush (M := M_X4_init_19) 80 dX4_init_80 ?_
  refine y_callS (M := M_X4_init_19) 82 dX4_init_82 (t_fill _) l_X4_33 (m_rr_of rfl) (as := [mR 25, mI 100]) (rest := []) (c_fill 25 16 100 h16 (tk_g (by decide) o_25) (by decide)) rfl rfl (Nat.le_of_ble_eq_true rfl) ⟨rfl, rfl⟩ (fun r h17 q => ?_)
  obtain ⟨rfl, V_h17, E17⟩ := q
  have f131 : h17 18 7 = 0 := ce_u E17 (by decide) f117
  have f132 : h17 18 0 = ((19 : Nat) : Int) := ce_u E17 (by decide) f118
  have f133 : h17 18 1 = ((20 : Nat) : Int) := ce_u E17 (by decide) f119
  have f134 : h17 18 2 = ((21 : Nat) : Int) := ce_u E17 (by decide) f120
  have f135 : h17 18 3 = ((22 : Nat) : Int) := ce_u E17 (by decide) f121
  have f136 : h17 18 4 = ((23 : Nat) : Int) := ce_u E17 (by decide) f122
  have f137 : h17 18 5 = ((24 : Nat) : Int) := ce_u E17 (by decide) f123
  have f138 : h17 18 6 = ((25 : Nat) : Int) := ce_u E17 (by decide) f124
  have g139 := g130.cell E17 (by decide)
  have F140 : ∀ k, k < 18 → h17 k = h0 k := frn_ce F127 E17 (by decide)
  clear f117 f118 f119 f120 f121 f122 f123 f124 g130 F127 E16 g125 g128 g129 g126
  have g141 : gR 25 26 h17 := gR_1 (gC_of bt_25 (fun j hj => by rw [V_h17 j hj]; show (1 : Int) ≤ 100 ∧ (100 : Int) ≤ 9999; decide))
  have g142 := g139.join g141
  have g143 : gR 18 19 h17 := gR_1 (gC_of bt_18 (fun j hj => by have q : j = 0 ∨ j = 1 ∨ j = 2 ∨ j = 3 ∨ j = 4 ∨ j = 5 ∨ j = 6 ∨ j = 7 ∨ j = 8 ∨ j = 9 := (by omega); rcases q with rfl | rfl | rfl | rfl | rfl | rfl | rfl | rfl | rfl | rfl; exact f132; exact f133; exact f134; exact f135; exact f136; exact f137; exact f138; (show (0 : Int) ≤ h17 18 7 ∧ h17 18 7 ≤ (24 : Int); rw [f131]; decide); exact trivial; exact trivial))
  have g144 := g143.join g142
  exact y_vret (M := M_X4_init_19) 85 dX4_init_85 rfl ⟨rfl, rfl, g144, F140⟩
abbrev M_X4_init_27 : m_M := mkM RX4 yX4_init cX4_init 1 1 23 27 34 none
set_option maxHeartbeats 4000000 in
set_option maxRecDepth 100000 in
theorem c_X4_init_27 (h0 : m_H) (e7 : h0 26 7 = 0) : m_D M_X4_init_27 (oF.take 27) (oF.take 34) [mR 26] h0 (fun r h' => r = none ∧ gR 26 34 h' ∧ (∀ k, k < 26 → h' k = h0 k)) := by
  refine tk_D (by decide) (by decide) (by decide) rfl (by decide) (ls := [some (mR 26)]) rfl ?_
  refine y_aload_n (M := M_X4_init_27) 0 dX4_init_0 rfl ?_
  refine y_objI (M := M_X4_init_27) 1 dX4_init_1 ol_X4 ow2 ow3 (by decide) (by decide) ?_
  refine y_aload_n (M := M_X4_init_27) 4 dX4_init_4 rfl ?_
  refine y_bipush (M := M_X4_init_27) 5 dX4_init_5 ?_
  refine y_newaI (M := M_X4_init_27) 7 dX4_init_7 acI (N := 32) (by decide) (tk_s o_27) (tk_l (by decide)) (tk_b (by decide) (by decide) (by decide)) (fun h1 E1 => ?_)
  have f1 : h1 26 7 = 0 := nw_u E1 (by decide) e7
  have F2 : ∀ k, k < 26 → h1 k = h0 k := frn_nw (fun k _ => rfl) E1 (by decide)
  have g3 : gR 27 28 h1 := gR_1 (gC_of bt_27 (fun j hj => by rw [nwI E1]; show (-1 : Int) ≤ 0 ∧ (0 : Int) ≤ 3; decide))
  refine y_putF (M := M_X4_init_27) 9 dX4_init_9 ff_X4_9 (tk_g (by decide) o_26) (fun E m t q => q.1) rfl rfp_a (fun h2 E2 => ?_)
  have f4 : h2 26 7 = 0 := (upN E2 (by decide)).trans f1
  have g5 := g3.put E2 (by decide)
  have F6 : ∀ k, k < 26 → h2 k = h0 k := frn_up F2 E2 (by decide)
  clear f1 g3 F2 E1
  have f7 : h2 26 0 = ((27 : Nat) : Int) := upE E2
  refine y_aload_n (M := M_X4_init_27) 12 dX4_init_12 rfl ?_
  refine y_bipush (M := M_X4_init_27) 13 dX4_init_13 ?_
  refine y_newaI (M := M_X4_init_27) 15 dX4_init_15 acI (N := 6) (by decide) (tk_s o_28) (tk_l (by decide)) (tk_b (by decide) (by decide) (by decide)) (fun h3 E3 => ?_)
  have f8 : h3 26 7 = 0 := nw_u E3 (by decide) f4
  have f9 : h3 26 0 = ((27 : Nat) : Int) := nw_u E3 (by decide) f7
  have g10 := g5.nw E3 (by decide)
  have F11 : ∀ k, k < 26 → h3 k = h0 k := frn_nw F6 E3 (by decide)
  clear f4 f7 g5 F6 E2
  have g12 : gR 28 29 h3 := gR_1 (gC_of bt_28 (fun j hj => by rw [nwI E3]; show (-1 : Int) ≤ 0 ∧ (0 : Int) ≤ 31; decide))
  have g13 := g10.join g12
  refine y_putF (M := M_X4_init_27) 17 dX4_init_17 ff_X4_15 (tk_g (by decide) o_26) (fun E m t q => q.1) rfl rfp_a (fun h4 E4 => ?_)
  have f14 : h4 26 7 = 0 := (upN E4 (by decide)).trans f8
  have f15 : h4 26 0 = ((27 : Nat) : Int) := (upN E4 (by decide)).trans f9
  have g16 := g13.put E4 (by decide)
  have F17 : ∀ k, k < 26 → h4 k = h0 k := frn_up F11 E4 (by decide)
  clear f8 f9 g13 F11 E3 g10 g12
  have f18 : h4 26 1 = ((28 : Nat) : Int) := upE E4
  refine y_aload_n (M := M_X4_init_27) 20 dX4_init_20 rfl ?_
  refine y_bipush (M := M_X4_init_27) 21 dX4_init_21 ?_
  refine y_newaI (M := M_X4_init_27) 23 dX4_init_23 acI (N := 24) (by decide) (tk_s o_29) (tk_l (by decide)) (tk_b (by decide) (by decide) (by decide)) (fun h5 E5 => ?_)
  have f19 : h5 26 7 = 0 := nw_u E5 (by decide) f14
  have f20 : h5 26 0 = ((27 : Nat) : Int) := nw_u E5 (by decide) f15
  have f21 : h5 26 1 = ((28 : Nat) : Int) := nw_u E5 (by decide) f18
  have g22 := g16.nw E5 (by decide)
  have F23 : ∀ k, k < 26 → h5 k = h0 k := frn_nw F17 E5 (by decide)
  clear f14 f15 f18 g16 F17 E4
  have g24 : gR 29 30 h5 := gR_1 (gC_of bt_29 (fun j hj => by rw [nwI E5]; show (0 : Int) ≤ 0 ∧ (0 : Int) ≤ 5; decide))
  have g25 := g22.join g24
  refine y_putF (M := M_X4_init_27) 25 dX4_init_25 ff_X4_18 (tk_g (by decide) o_26) (fun E m t q => q.1) rfl rfp_a (fun h6 E6 => ?_)
  have f26 : h6 26 7 = 0 := (upN E6 (by decide)).trans f19
  have f27 : h6 26 0 = ((27 : Nat) : Int) := (upN E6 (by decide)).trans f20
  have f28 : h6 26 1 = ((28 : Nat) : Int) := (upN E6 (by decide)).trans f21
  have g29 := g25.put E6 (by decide)
  have F30 : ∀ k, k < 26 → h6 k = h0 k := frn_up F23 E6 (by decide)
  clear f19 f20 f21 g25 F23 E5 g22 g24
  have f31 : h6 26 2 = ((29 : Nat) : Int) := upE E6
  refine y_aload_n (M := M_X4_init_27) 28 dX4_init_28 rfl ?_
  refine y_bipush (M := M_X4_init_27) 29 dX4_init_29 ?_
  refine y_newaI (M := M_X4_init_27) 31 dX4_init_31 acI (N := 24) (by decide) (tk_s o_30) (tk_l (by decide)) (tk_b (by decide) (by decide) (by decide)) (fun h7 E7 => ?_)
  have f32 : h7 26 7 = 0 := nw_u E7 (by decide) f26
  have f33 : h7 26 0 = ((27 : Nat) : Int) := nw_u E7 (by decide) f27
  have f34 : h7 26 1 = ((28 : Nat) : Int) := nw_u E7 (by decide) f28
  have f35 : h7 26 2 = ((29 : Nat) : Int) := nw_u E7 (by decide) f31
  have g36 := g29.nw E7 (by decide)
  have F37 : ∀ k, k < 26 → h7 k = h0 k := frn_nw F30 E7 (by decide)
  clear f26 f27 f28 f31 g29 F30 E6
  have g38 : gR 30 31 h7 := gR_1 (gC_of bt_30 (fun j hj => by rw [nwI E7]; show (0 : Int) ≤ 0 ∧ (0 : Int) ≤ 31; decide))
  have g39 := g36.join g38
  refine y_putF (M := M_X4_init_27) 33 dX4_init_33 ff_X4_21 (tk_g (by decide) o_26) (fun E m t q => q.1) rfl rfp_a (fun h8 E8 => ?_)
  have f40 : h8 26 7 = 0 := (upN E8 (by decide)).trans f32
  have f41 : h8 26 0 = ((27 : Nat) : Int) := (upN E8 (by decide)).trans f33
  have f42 : h8 26 1 = ((28 : Nat) : Int) := (upN E8 (by decide)).trans f34
  have f43 : h8 26 2 = ((29 : Nat) : Int) := (upN E8 (by decide)).trans f35
  have g44 := g39.put E8 (by decide)
  have F45 : ∀ k, k < 26 → h8 k = h0 k := frn_up F37 E8 (by decide)
  clear f32 f33 f34 f35 g39 F37 E7 g36 g38
  have f46 : h8 26 3 = ((30 : Nat) : Int) := upE E8
  refine y_aload_n (M := M_X4_init_27) 36 dX4_init_36 rfl ?_
  refine y_bipush (M := M_X4_init_27) 37 dX4_init_37 ?_
  refine y_newaI (M := M_X4_init_27) 39 dX4_init_39 acI (N := 24) (by decide) (tk_s o_31) (tk_l (by decide)) (tk_b (by decide) (by decide) (by decide)) (fun h9 E9 => ?_)
  have f47 : h9 26 7 = 0 := nw_u E9 (by decide) f40
  have f48 : h9 26 0 = ((27 : Nat) : Int) := nw_u E9 (by decide) f41
  have f49 : h9 26 1 = ((28 : Nat) : Int) := nw_u E9 (by decide) f42
  have f50 : h9 26 2 = ((29 : Nat) : Int) := nw_u E9 (by decide) f43
  have f51 : h9 26 3 = ((30 : Nat) : Int) := nw_u E9 (by decide) f46
  have g52 := g44.nw E9 (by decide)
  have F53 : ∀ k, k < 26 → h9 k = h0 k := frn_nw F45 E9 (by decide)
  clear f40 f41 f42 f43 f46 g44 F45 E8
  have g54 : gR 31 32 h9 := gR_1 (gC_of bt_31 (fun j hj => by rw [nwI E9]; show (0 : Int) ≤ 0 ∧ (0 : Int) ≤ 99; decide))
  have g55 := g52.join g54
  refine y_putF (M := M_X4_init_27) 41 dX4_init_41 ff_X4_24 (tk_g (by decide) o_26) (fun E m t q => q.1) rfl rfp_a (fun h10 E10 => ?_)
  have f56 : h10 26 7 = 0 := (upN E10 (by decide)).trans f47
  have f57 : h10 26 0 = ((27 : Nat) : Int) := (upN E10 (by decide)).trans f48
  have f58 : h10 26 1 = ((28 : Nat) : Int) := (upN E10 (by decide)).trans f49
  have f59 : h10 26 2 = ((29 : Nat) : Int) := (upN E10 (by decide)).trans f50
  have f60 : h10 26 3 = ((30 : Nat) : Int) := (upN E10 (by decide)).trans f51
  have g61 := g55.put E10 (by decide)
  have F62 : ∀ k, k < 26 → h10 k = h0 k := frn_up F53 E10 (by decide)
  clear f47 f48 f49 f50 f51 g55 F53 E9 g52 g54
  have f63 : h10 26 4 = ((31 : Nat) : Int) := upE E10
  refine y_aload_n (M := M_X4_init_27) 44 dX4_init_44 rfl ?_
  refine y_bipush (M := M_X4_init_27) 45 dX4_init_45 ?_
  refine y_newaI (M := M_X4_init_27) 47 dX4_init_47 acI (N := 24) (by decide) (tk_s o_32) (tk_l (by decide)) (tk_b (by decide) (by decide) (by decide)) (fun h11 E11 => ?_)
  have f64 : h11 26 7 = 0 := nw_u E11 (by decide) f56
  have f65 : h11 26 0 = ((27 : Nat) : Int) := nw_u E11 (by decide) f57
  have f66 : h11 26 1 = ((28 : Nat) : Int) := nw_u E11 (by decide) f58
  have f67 : h11 26 2 = ((29 : Nat) : Int) := nw_u E11 (by decide) f59
  have f68 : h11 26 3 = ((30 : Nat) : Int) := nw_u E11 (by decide) f60
  have f69 : h11 26 4 = ((31 : Nat) : Int) := nw_u E11 (by decide) f63
  have g70 := g61.nw E11 (by decide)
  have F71 : ∀ k, k < 26 → h11 k = h0 k := frn_nw F62 E11 (by decide)
  clear f56 f57 f58 f59 f60 f63 g61 F62 E10
  have g72 : gR 32 33 h11 := gR_1 (gC_of bt_32 (fun j hj => by rw [nwI E11]; show (0 : Int) ≤ 0 ∧ (0 : Int) ≤ 2; decide))
  have g73 := g70.join g72
  refine y_putF (M := M_X4_init_27) 49 dX4_init_49 ff_X4_27 (tk_g (by decide) o_26) (fun E m t q => q.1) rfl rfp_a (fun h12 E12 => ?_)
  have f74 : h12 26 7 = 0 := (upN E12 (by decide)).trans f64
  have f75 : h12 26 0 = ((27 : Nat) : Int) := (upN E12 (by decide)).trans f65
  have f76 : h12 26 1 = ((28 : Nat) : Int) := (upN E12 (by decide)).trans f66
  have f77 : h12 26 2 = ((29 : Nat) : Int) := (upN E12 (by decide)).trans f67
  have f78 : h12 26 3 = ((30 : Nat) : Int) := (upN E12 (by decide)).trans f68
  have f79 : h12 26 4 = ((31 : Nat) : Int) := (upN E12 (by decide)).trans f69
  have g80 := g73.put E12 (by decide)
  have F81 : ∀ k, k < 26 → h12 k = h0 k := frn_up F71 E12 (by decide)
  clear f64 f65 f66 f67 f68 f69 g73 F71 E11 g70 g72
  have f82 : h12 26 5 = ((32 : Nat) : Int) := upE E12
  refine y_aload_n (M := M_X4_init_27) 52 dX4_init_52 rfl ?_
  refine y_bipush (M := M_X4_init_27) 53 dX4_init_53 ?_
  refine y_newaI (M := M_X4_init_27) 55 dX4_init_55 acI (N := 16) (by decide) (tk_s o_33) (tk_l (by decide)) (tk_b (by decide) (by decide) (by decide)) (fun h13 E13 => ?_)
  have f83 : h13 26 7 = 0 := nw_u E13 (by decide) f74
  have f84 : h13 26 0 = ((27 : Nat) : Int) := nw_u E13 (by decide) f75
  have f85 : h13 26 1 = ((28 : Nat) : Int) := nw_u E13 (by decide) f76
  have f86 : h13 26 2 = ((29 : Nat) : Int) := nw_u E13 (by decide) f77
  have f87 : h13 26 3 = ((30 : Nat) : Int) := nw_u E13 (by decide) f78
  have f88 : h13 26 4 = ((31 : Nat) : Int) := nw_u E13 (by decide) f79
  have f89 : h13 26 5 = ((32 : Nat) : Int) := nw_u E13 (by decide) f82
  have g90 := g80.nw E13 (by decide)
  have F91 : ∀ k, k < 26 → h13 k = h0 k := frn_nw F81 E13 (by decide)
  clear f74 f75 f76 f77 f78 f79 f82 g80 F81 E12
  refine y_putF (M := M_X4_init_27) 57 dX4_init_57 ff_X4_30 (tk_g (by decide) o_26) (fun E m t q => q.1) rfl rfp_a (fun h14 E14 => ?_)
  have f92 : h14 26 7 = 0 := (upN E14 (by decide)).trans f83
  have f93 : h14 26 0 = ((27 : Nat) : Int) := (upN E14 (by decide)).trans f84
  have f94 : h14 26 1 = ((28 : Nat) : Int) := (upN E14 (by decide)).trans f85
  have f95 : h14 26 2 = ((29 : Nat) : Int) := (upN E14 (by decide)).trans f86
  have f96 : h14 26 3 = ((30 : Nat) : Int) := (upN E14 (by decide)).trans f87
  have f97 : h14 26 4 = ((31 : Nat) : Int) := (upN E14 (by decide)).trans f88
  have f98 : h14 26 5 = ((32 : Nat) : Int) := (upN E14 (by decide)).trans f89
  have g99 := g90.put E14 (by decide)
  have F100 : ∀ k, k < 26 → h14 k = h0 k := frn_up F91 E14 (by decide)
  clear f83 f84 f85 f86 f87 f88 f89 g90 F91 E13
  have f101 : h14 26 6 = ((33 : Nat) : Int) := upE E14
  refine y_aload_n (M := M_X4_init_27) 60 dX4_init_60 rfl ?_
  refine y_getR (M := M_X4_init_27) 61 dX4_init_61 f_X4_9 (tk_g (by decide) o_26) rfl f93 ?_
  refine y_iconst (M := M_X4_init_27) 64 dX4_init_64 ?_
  refine y_callS (M := M_X4_init_27) 65 dX4_init_65 (t_fill _) l_X4_33 (m_rr_of rfl) (as := [mR 27, mI (-1)]) (rest := []) (c_fill 27 32 (-1) h14 (tk_g (by decide) o_27) (by decide)) rfl rfl (Nat.le_of_ble_eq_true rfl) ⟨rfl, rfl⟩ (fun r h15 q => ?_)
  obtain ⟨rfl, V_h15, E15⟩ := q
  have g102 : gR 28 33 h14 := fun k q1 q2 => g99 k (by omega) (by omega)
  have f103 : h15 26 7 = 0 := ce_u E15 (by decide) f92
  have f104 : h15 26 0 = ((27 : Nat) : Int) := ce_u E15 (by decide) f93
  have f105 : h15 26 1 = ((28 : Nat) : Int) := ce_u E15 (by decide) f94
  have f106 : h15 26 2 = ((29 : Nat) : Int) := ce_u E15 (by decide) f95
  have f107 : h15 26 3 = ((30 : Nat) : Int) := ce_u E15 (by decide) f96
  have f108 : h15 26 4 = ((31 : Nat) : Int) := ce_u E15 (by decide) f97
  have f109 : h15 26 5 = ((32 : Nat) : Int) := ce_u E15 (by decide) f98
  have f110 : h15 26 6 = ((33 : Nat) : Int) := ce_u E15 (by decide) f101
  have g111 := g102.cell E15 (by decide)
  have F112 : ∀ k, k < 26 → h15 k = h0 k := frn_ce F100 E15 (by decide)
  clear f92 f93 f94 f95 f96 f97 f98 f101 g102 F100 E14 g99
  have g113 : gR 27 28 h15 := gR_1 (gC_of bt_27 (fun j hj => by rw [V_h15 j hj]; show (-1 : Int) ≤ (-1) ∧ ((-1) : Int) ≤ 3; decide))
  have g114 := g113.join g111
  refine y_aload_n (M := M_X4_init_27) 68 dX4_init_68 rfl ?_
  refine y_getR (M := M_X4_init_27) 69 dX4_init_69 f_X4_15 (tk_g (by decide) o_26) rfl f105 ?_
  refine y_iconst (M := M_X4_init_27) 72 dX4_init_72 ?_
  refine y_callS (M := M_X4_init_27) 73 dX4_init_73 (t_fill _) l_X4_33 (m_rr_of rfl) (as := [mR 28, mI (-1)]) (rest := []) (c_fill 28 6 (-1) h15 (tk_g (by decide) o_28) (by decide)) rfl rfl (Nat.le_of_ble_eq_true rfl) ⟨rfl, rfl⟩ (fun r h16 q => ?_)
  obtain ⟨rfl, V_h16, E16⟩ := q
  have g115 : gR 27 28 h15 := fun k q1 q2 => g114 k (by omega) (by omega)
  have g116 : gR 29 33 h15 := fun k q1 q2 => g114 k (by omega) (by omega)
  have f117 : h16 26 7 = 0 := ce_u E16 (by decide) f103
  have f118 : h16 26 0 = ((27 : Nat) : Int) := ce_u E16 (by decide) f104
  have f119 : h16 26 1 = ((28 : Nat) : Int) := ce_u E16 (by decide) f105
  have f120 : h16 26 2 = ((29 : Nat) : Int) := ce_u E16 (by decide) f106
  have f121 : h16 26 3 = ((30 : Nat) : Int) := ce_u E16 (by decide) f107
  have f122 : h16 26 4 = ((31 : Nat) : Int) := ce_u E16 (by decide) f108
  have f123 : h16 26 5 = ((32 : Nat) : Int) := ce_u E16 (by decide) f109
  have f124 : h16 26 6 = ((33 : Nat) : Int) := ce_u E16 (by decide) f110
  have g125 := g115.cell E16 (by decide)
  have g126 := g116.cell E16 (by decide)
  have F127 : ∀ k, k < 26 → h16 k = h0 k := frn_ce F112 E16 (by decide)
  clear f103 f104 f105 f106 f107 f108 f109 f110 g115 g116 F112 E15 g113 g111 g114
  have g128 : gR 28 29 h16 := gR_1 (gC_of bt_28 (fun j hj => by rw [V_h16 j hj]; show (-1 : Int) ≤ (-1) ∧ ((-1) : Int) ≤ 31; decide))
  have g129 := g125.join g128
  have g130 := g129.join g126
  refine y_aload_n (M := M_X4_init_27) 76 dX4_init_76 rfl ?_
  refine y_getR (M := M_X4_init_27) 77 dX4_init_77 f_X4_30 (tk_g (by decide) o_26) rfl f124 ?_
  refine y_bipush (M := M_X4_init_27) 80 dX4_init_80 ?_
  refine y_callS (M := M_X4_init_27) 82 dX4_init_82 (t_fill _) l_X4_33 (m_rr_of rfl) (as := [mR 33, mI 100]) (rest := []) (c_fill 33 16 100 h16 (tk_g (by decide) o_33) (by decide)) rfl rfl (Nat.le_of_ble_eq_true rfl) ⟨rfl, rfl⟩ (fun r h17 q => ?_)
  obtain ⟨rfl, V_h17, E17⟩ := q
  have f131 : h17 26 7 = 0 := ce_u E17 (by decide) f117
  have f132 : h17 26 0 = ((27 : Nat) : Int) := ce_u E17 (by decide) f118
  have f133 : h17 26 1 = ((28 : Nat) : Int) := ce_u E17 (by decide) f119
  have f134 : h17 26 2 = ((29 : Nat) : Int) := ce_u E17 (by decide) f120
  have f135 : h17 26 3 = ((30 : Nat) : Int) := ce_u E17 (by decide) f121
  have f136 : h17 26 4 = ((31 : Nat) : Int) := ce_u E17 (by decide) f122
  have f137 : h17 26 5 = ((32 : Nat) : Int) := ce_u E17 (by decide) f123
  have f138 : h17 26 6 = ((33 : Nat) : Int) := ce_u E17 (by decide) f124
  have g139 := g130.cell E17 (by decide)
  have F140 : ∀ k, k < 26 → h17 k = h0 k := frn_ce F127 E17 (by decide)
  clear f117 f118 f119 f120 f121 f122 f123 f124 g130 F127 E16 g125 g128 g129 g126
  have g141 : gR 33 34 h17 := gR_1 (gC_of bt_33 (fun j hj => by rw [V_h17 j hj]; show (1 : Int) ≤ 100 ∧ (100 : Int) ≤ 9999; decide))
  have g142 := g139.join g141
  have g143 : gR 26 27 h17 := gR_1 (gC_of bt_26 (fun j hj => by have q : j = 0 ∨ j = 1 ∨ j = 2 ∨ j = 3 ∨ j = 4 ∨ j = 5 ∨ j = 6 ∨ j = 7 ∨ j = 8 ∨ j = 9 := (by omega); rcases q with rfl | rfl | rfl | rfl | rfl | rfl | rfl | rfl | rfl | rfl; exact f132; exact f133; exact f134; exact f135; exact f136; exact f137; exact f138; (show (0 : Int) ≤ h17 26 7 ∧ h17 26 7 ≤ (24 : Int); rw [f131]; decide); exact trivial; exact trivial))
  have g144 := g143.join g142
  exact y_vret (M := M_X4_init_27) 85 dX4_init_85 rfl ⟨rfl, rfl, g144, F140⟩
abbrev M_X8_init_36 : m_M := mkM RX8 yX8_init cX8_init 1 1 20 36 37 none
set_option maxHeartbeats 4000000 in
set_option maxRecDepth 100000 in
theorem c_X8_init_36 (h0 : m_H) (e1 : h0 35 1 = 0) : m_D M_X8_init_36 (oF.take 36) (oF.take 37) [mR 35] h0 (fun r h' => r = none ∧ gR 35 37 h' ∧ (∀ k, k < 35 → h' k = h0 k) ∧ h' 35 1 = 0 ∧ (h' 36 = fun _ => 0)) := by
  refine tk_D (by decide) (by decide) (by decide) rfl (by decide) (ls := [some (mR 35)]) rfl ?_
  refine y_aload_n (M := M_X8_init_36) 0 dX8_init_0 rfl ?_
  refine y_objI (M := M_X8_init_36) 1 dX8_init_1 ol_X8 ow2 ow3 (by decide) (by decide) ?_
  refine y_aload_n (M := M_X8_init_36) 4 dX8_init_4 rfl ?_
  refine y_sipush (M := M_X8_init_36) 5 dX8_init_5 ?_
  refine y_newaI (M := M_X8_init_36) 8 dX8_init_8 acI (N := 400) (by decide) (tk_s o_36) (tk_l (by decide)) (tk_b (by decide) (by decide) (by decide)) (fun h1 E1 => ?_)
  have f1 : h1 35 1 = 0 := nw_u E1 (by decide) e1
  have F2 : ∀ k, k < 35 → h1 k = h0 k := frn_nw (fun k _ => rfl) E1 (by decide)
  have u3 : h1 36 = fun _ => 0 := funext (nwI E1)
  have g4 : gR 36 37 h1 := gR_1 (gC_of bt_36 (fun j hj => by rw [nwI E1]; show (0 : Int) ≤ 0 ∧ (0 : Int) ≤ 255; decide))
  refine y_putF (M := M_X8_init_36) 10 dX8_init_10 ff_X8_9 (tk_g (by decide) o_35) (fun E m t q => q.1) rfl rfp_a (fun h2 E2 => ?_)
  have f5 : h2 35 1 = 0 := (upN E2 (by decide)).trans f1
  have u6 : h2 36 = fun _ => 0 := (upo E2 (by decide)).trans u3
  have g7 := g4.put E2 (by decide)
  have F8 : ∀ k, k < 35 → h2 k = h0 k := frn_up F2 E2 (by decide)
  clear f1 g4 F2 E1 u3
  have f9 : h2 35 0 = ((36 : Nat) : Int) := upE E2
  have g10 : gR 35 36 h2 := gR_1 (gC_of bt_35 (fun j hj => by have q : j = 0 ∨ j = 1 := (by omega); rcases q with rfl | rfl; exact f9; (show (0 : Int) ≤ h2 35 1 ∧ h2 35 1 ≤ (400 : Int); rw [f5]; decide)))
  have g11 := g10.join g7
  exact y_vret (M := M_X8_init_36) 13 dX8_init_13 rfl ⟨rfl, rfl, g11, F8, f5, u6⟩
abbrev M_X1_init_38 : m_M := mkM RX1 yX1_init cX1_init 2 1 20 38 38 none
set_option maxHeartbeats 4000000 in
set_option maxRecDepth 100000 in
theorem c_X1_init_38 (h0 : m_H) (e1 : h0 37 1 = 0) (e2 : h0 37 2 = 0) : m_D M_X1_init_38 (oF.take 38) (oF.take 38) [mR 37, mR 35] h0 (fun r h' => r = none ∧ gR 37 38 h' ∧ (∀ k, k < 37 → h' k = h0 k)) := by
  refine tk_D (by decide) (by decide) (by decide) rfl (by decide) (ls := [some (mR 37), some (mR 35)]) rfl ?_
  refine y_aload_n (M := M_X1_init_38) 0 dX1_init_0 rfl ?_
  refine y_objI (M := M_X1_init_38) 1 dX1_init_1 ol_X1 ow2 ow3 (by decide) (by decide) ?_
  refine y_aload_n (M := M_X1_init_38) 4 dX1_init_4 rfl ?_
  refine y_aload_n (M := M_X1_init_38) 5 dX1_init_5 rfl ?_
  refine y_putF (M := M_X1_init_38) 6 dX1_init_6 ff_X1_9 (tk_g (by decide) o_37) (fun E m t q => q.1) rfl rfp_o (fun h1 E1 => ?_)
  have f1 : h1 37 1 = 0 := (upN E1 (by decide)).trans e1
  have f2 : h1 37 2 = 0 := (upN E1 (by decide)).trans e2
  have F3 : ∀ k, k < 37 → h1 k = h0 k := frn_up (fun k _ => rfl) E1 (by decide)
  have f4 : h1 37 0 = ((35 : Nat) : Int) := upE E1
  refine y_aload_n (M := M_X1_init_38) 9 dX1_init_9 rfl ?_
  refine y_iconst (M := M_X1_init_38) 10 dX1_init_10 ?_
  refine y_putI (M := M_X1_init_38) 11 dX1_init_11 p_X1_15 (tk_g (by decide) o_37) rfl ?_
  obtain ⟨h2, E2⟩ : ∃ x, x = m_up h1 37 3 (-1) := ⟨_, rfl⟩
  rw [← E2]
  have f5 : h2 37 1 = 0 := (upN E2 (by decide)).trans f1
  have f6 : h2 37 2 = 0 := (upN E2 (by decide)).trans f2
  have f7 : h2 37 0 = ((35 : Nat) : Int) := (upN E2 (by decide)).trans f4
  have F8 : ∀ k, k < 37 → h2 k = h0 k := frn_up F3 E2 (by decide)
  clear f1 f2 f4 F3 E1
  have f9 : h2 37 3 = (-1) := upE E2
  have g10 : gR 37 38 h2 := gR_1 (gC_of bt_37 (fun j hj => by have q : j = 0 ∨ j = 1 ∨ j = 2 ∨ j = 3 := (by omega); rcases q with rfl | rfl | rfl | rfl; exact f7; (show (0 : Int) ≤ h2 37 1 ∧ h2 37 1 ≤ (400 : Int); rw [f5]; decide); (show (0 : Int) ≤ h2 37 2 ∧ h2 37 2 ≤ (400 : Int); rw [f6]; decide); exact trivial))
  exact y_vret (M := M_X1_init_38) 14 dX1_init_14 rfl ⟨rfl, rfl, g10, F8⟩
abbrev M_X2_init_44 : m_M := M_X2i 44
set_option maxHeartbeats 4000000 in
set_option maxRecDepth 100000 in
theorem c_X2_init_44 (h0 : m_H) : m_D M_X2_init_44 (oF.take 44) (oF.take 44) [mR 43] h0 (fun r h' => r = none ∧ h0 = h') := by
  refine tk_D (by decide) (by decide) (by decide) rfl (by decide) (ls := [some (mR 43)]) rfl ?_
  refine y_aload_n (M := M_X2_init_44) 0 dX2_init_0 rfl ?_
  refine y_objI (M := M_X2_init_44) 1 dX2_init_1 ol_X2 ow2 ow3 (by decide) (by decide) ?_
  exact y_vret (M := M_X2_init_44) 4 dX2_init_4 rfl ⟨rfl, rfl, rfl⟩
abbrev M_X2_init_45 : m_M := M_X2i 45
set_option maxHeartbeats 4000000 in
set_option maxRecDepth 100000 in
theorem c_X2_init_45 (h0 : m_H) : m_D M_X2_init_45 (oF.take 45) (oF.take 45) [mR 44] h0 (fun r h' => r = none ∧ h0 = h') := by
  refine tk_D (by decide) (by decide) (by decide) rfl (by decide) (ls := [some (mR 44)]) rfl ?_
  refine y_aload_n (M := M_X2_init_45) 0 dX2_init_0 rfl ?_
  refine y_objI (M := M_X2_init_45) 1 dX2_init_1 ol_X2 ow2 ow3 (by decide) (by decide) ?_
  exact y_vret (M := M_X2_init_45) 4 dX2_init_4 rfl ⟨rfl, rfl, rfl⟩
abbrev M_X2_init_46 : m_M := M_X2i 46
set_option maxHeartbeats 4000000 in
set_option maxRecDepth 100000 in
theorem c_X2_init_46 (h0 : m_H) : m_D M_X2_init_46 (oF.take 46) (oF.take 46) [mR 45] h0 (fun r h' => r = none ∧ h0 = h') := by
  refine tk_D (by decide) (by decide) (by decide) rfl (by decide) (ls := [some (mR 45)]) rfl ?_
  refine y_aload_n (M := M_X2_init_46) 0 dX2_init_0 rfl ?_
  refine y_objI (M := M_X2_init_46) 1 dX2_init_1 ol_X2 ow2 ow3 (by decide) (by decide) ?_
  exact y_vret (M := M_X2_init_46) 4 dX2_init_4 rfl ⟨rfl, rfl, rfl⟩
abbrev M_X2_init_47 : m_M := M_X2i 47
set_option maxHeartbeats 4000000 in
set_option maxRecDepth 100000 in
theorem c_X2_init_47 (h0 : m_H) : m_D M_X2_init_47 (oF.take 47) (oF.take 47) [mR 46] h0 (fun r h' => r = none ∧ h0 = h') := by
  refine tk_D (by decide) (by decide) (by decide) rfl (by decide) (ls := [some (mR 46)]) rfl ?_
  refine y_aload_n (M := M_X2_init_47) 0 dX2_init_0 rfl ?_
  refine y_objI (M := M_X2_init_47) 1 dX2_init_1 ol_X2 ow2 ow3 (by decide) (by decide) ?_
  exact y_vret (M := M_X2_init_47) 4 dX2_init_4 rfl ⟨rfl, rfl, rfl⟩
abbrev M_X2_init_48 : m_M := M_X2i 48
set_option maxHeartbeats 4000000 in
set_option maxRecDepth 100000 in
theorem c_X2_init_48 (h0 : m_H) : m_D M_X2_init_48 (oF.take 48) (oF.take 48) [mR 47] h0 (fun r h' => r = none ∧ h0 = h') := by
  refine tk_D (by decide) (by decide) (by decide) rfl (by decide) (ls := [some (mR 47)]) rfl ?_
  refine y_aload_n (M := M_X2_init_48) 0 dX2_init_0 rfl ?_
  refine y_objI (M := M_X2_init_48) 1 dX2_init_1 ol_X2 ow2 ow3 (by decide) (by decide) ?_
  exact y_vret (M := M_X2_init_48) 4 dX2_init_4 rfl ⟨rfl, rfl, rfl⟩
abbrev M_X2_init_49 : m_M := M_X2i 49
set_option maxHeartbeats 4000000 in
set_option maxRecDepth 100000 in
theorem c_X2_init_49 (h0 : m_H) : m_D M_X2_init_49 (oF.take 49) (oF.take 49) [mR 48] h0 (fun r h' => r = none ∧ h0 = h') := by
  refine tk_D (by decide) (by decide) (by decide) rfl (by decide) (ls := [some (mR 48)]) rfl ?_
  refine y_aload_n (M := M_X2_init_49) 0 dX2_init_0 rfl ?_
  refine y_objI (M := M_X2_init_49) 1 dX2_init_1 ol_X2 ow2 ow3 (by decide) (by decide) ?_
  exact y_vret (M := M_X2_init_49) 4 dX2_init_4 rfl ⟨rfl, rfl, rfl⟩
abbrev M_X2_init_50 : m_M := M_X2i 50
set_option maxHeartbeats 4000000 in
set_option maxRecDepth 100000 in
theorem c_X2_init_50 (h0 : m_H) : m_D M_X2_init_50 (oF.take 50) (oF.take 50) [mR 49] h0 (fun r h' => r = none ∧ h0 = h') := by
  refine tk_D (by decide) (by decide) (by decide) rfl (by decide) (ls := [some (mR 49)]) rfl ?_
  refine y_aload_n (M := M_X2_init_50) 0 dX2_init_0 rfl ?_
  refine y_objI (M := M_X2_init_50) 1 dX2_init_1 ol_X2 ow2 ow3 (by decide) (by decide) ?_
  exact y_vret (M := M_X2_init_50) 4 dX2_init_4 rfl ⟨rfl, rfl, rfl⟩
abbrev M_X2_init_51 : m_M := M_X2i 51
set_option maxHeartbeats 4000000 in
set_option maxRecDepth 100000 in
theorem c_X2_init_51 (h0 : m_H) : m_D M_X2_init_51 (oF.take 51) (oF.take 51) [mR 50] h0 (fun r h' => r = none ∧ h0 = h') := by
  refine tk_D (by decide) (by decide) (by decide) rfl (by decide) (ls := [some (mR 50)]) rfl ?_
  refine y_aload_n (M := M_X2_init_51) 0 dX2_init_0 rfl ?_
  refine y_objI (M := M_X2_init_51) 1 dX2_init_1 ol_X2 ow2 ow3 (by decide) (by decide) ?_
  exact y_vret (M := M_X2_init_51) 4 dX2_init_4 rfl ⟨rfl, rfl, rfl⟩
abbrev M_X2_init_52 : m_M := M_X2i 52
set_option maxHeartbeats 4000000 in
set_option maxRecDepth 100000 in
theorem c_X2_init_52 (h0 : m_H) : m_D M_X2_init_52 (oF.take 52) (oF.take 52) [mR 51] h0 (fun r h' => r = none ∧ h0 = h') := by
  refine tk_D (by decide) (by decide) (by decide) rfl (by decide) (ls := [some (mR 51)]) rfl ?_
  refine y_aload_n (M := M_X2_init_52) 0 dX2_init_0 rfl ?_
  refine y_objI (M := M_X2_init_52) 1 dX2_init_1 ol_X2 ow2 ow3 (by decide) (by decide) ?_
  exact y_vret (M := M_X2_init_52) 4 dX2_init_4 rfl ⟨rfl, rfl, rfl⟩
abbrev M_X2_init_53 : m_M := M_X2i 53
set_option maxHeartbeats 4000000 in
set_option maxRecDepth 100000 in
theorem c_X2_init_53 (h0 : m_H) : m_D M_X2_init_53 (oF.take 53) (oF.take 53) [mR 52] h0 (fun r h' => r = none ∧ h0 = h') := by
  refine tk_D (by decide) (by decide) (by decide) rfl (by decide) (ls := [some (mR 52)]) rfl ?_
  refine y_aload_n (M := M_X2_init_53) 0 dX2_init_0 rfl ?_
  refine y_objI (M := M_X2_init_53) 1 dX2_init_1 ol_X2 ow2 ow3 (by decide) (by decide) ?_
  exact y_vret (M := M_X2_init_53) 4 dX2_init_4 rfl ⟨rfl, rfl, rfl⟩
abbrev M_X2_init_54 : m_M := M_X2i 54
set_option maxHeartbeats 4000000 in
set_option maxRecDepth 100000 in
theorem c_X2_init_54 (h0 : m_H) : m_D M_X2_init_54 (oF.take 54) (oF.take 54) [mR 53] h0 (fun r h' => r = none ∧ h0 = h') := by
  refine tk_D (by decide) (by decide) (by decide) rfl (by decide) (ls := [some (mR 53)]) rfl ?_
  refine y_aload_n (M := M_X2_init_54) 0 dX2_init_0 rfl ?_
  refine y_objI (M := M_X2_init_54) 1 dX2_init_1 ol_X2 ow2 ow3 (by decide) (by decide) ?_
  exact y_vret (M := M_X2_init_54) 4 dX2_init_4 rfl ⟨rfl, rfl, rfl⟩
abbrev M_X2_init_55 : m_M := M_X2i 55
set_option maxHeartbeats 4000000 in
set_option maxRecDepth 100000 in
theorem c_X2_init_55 (h0 : m_H) : m_D M_X2_init_55 (oF.take 55) (oF.take 55) [mR 54] h0 (fun r h' => r = none ∧ h0 = h') := by
  refine tk_D (by decide) (by decide) (by decide) rfl (by decide) (ls := [some (mR 54)]) rfl ?_
  refine y_aload_n (M := M_X2_init_55) 0 dX2_init_0 rfl ?_
  refine y_objI (M := M_X2_init_55) 1 dX2_init_1 ol_X2 ow2 ow3 (by decide) (by decide) ?_
  exact y_vret (M := M_X2_init_55) 4 dX2_init_4 rfl ⟨rfl, rfl, rfl⟩
abbrev M_X2_init_56 : m_M := M_X2i 56
set_option maxHeartbeats 4000000 in
set_option maxRecDepth 100000 in
theorem c_X2_init_56 (h0 : m_H) : m_D M_X2_init_56 (oF.take 56) (oF.take 56) [mR 55] h0 (fun r h' => r = none ∧ h0 = h') := by
  refine tk_D (by decide) (by decide) (by decide) rfl (by decide) (ls := [some (mR 55)]) rfl ?_
  refine y_aload_n (M := M_X2_init_56) 0 dX2_init_0 rfl ?_
  refine y_objI (M := M_X2_init_56) 1 dX2_init_1 ol_X2 ow2 ow3 (by decide) (by decide) ?_
  exact y_vret (M := M_X2_init_56) 4 dX2_init_4 rfl ⟨rfl, rfl, rfl⟩
abbrev M_X2_init_57 : m_M := M_X2i 57
set_option maxHeartbeats 4000000 in
set_option maxRecDepth 100000 in
theorem c_X2_init_57 (h0 : m_H) : m_D M_X2_init_57 (oF.take 57) (oF.take 57) [mR 56] h0 (fun r h' => r = none ∧ h0 = h') := by
  refine tk_D (by decide) (by decide) (by decide) rfl (by decide) (ls := [some (mR 56)]) rfl ?_
  refine y_aload_n (M := M_X2_init_57) 0 dX2_init_0 rfl ?_
  refine y_objI (M := M_X2_init_57) 1 dX2_init_1 ol_X2 ow2 ow3 (by decide) (by decide) ?_
  exact y_vret (M := M_X2_init_57) 4 dX2_init_4 rfl ⟨rfl, rfl, rfl⟩
abbrev M_X2_init_58 : m_M := M_X2i 58
set_option maxHeartbeats 4000000 in
set_option maxRecDepth 100000 in
theorem c_X2_init_58 (h0 : m_H) : m_D M_X2_init_58 (oF.take 58) (oF.take 58) [mR 57] h0 (fun r h' => r = none ∧ h0 = h') := by
  refine tk_D (by decide) (by decide) (by decide) rfl (by decide) (ls := [some (mR 57)]) rfl ?_
  refine y_aload_n (M := M_X2_init_58) 0 dX2_init_0 rfl ?_
  refine y_objI (M := M_X2_init_58) 1 dX2_init_1 ol_X2 ow2 ow3 (by decide) (by decide) ?_
  exact y_vret (M := M_X2_init_58) 4 dX2_init_4 rfl ⟨rfl, rfl, rfl⟩
abbrev M_X2_init_59 : m_M := M_X2i 59
set_option maxHeartbeats 4000000 in
set_option maxRecDepth 100000 in
theorem c_X2_init_59 (h0 : m_H) : m_D M_X2_init_59 (oF.take 59) (oF.take 59) [mR 58] h0 (fun r h' => r = none ∧ h0 = h') := by
  refine tk_D (by decide) (by decide) (by decide) rfl (by decide) (ls := [some (mR 58)]) rfl ?_
  refine y_aload_n (M := M_X2_init_59) 0 dX2_init_0 rfl ?_
  refine y_objI (M := M_X2_init_59) 1 dX2_init_1 ol_X2 ow2 ow3 (by decide) (by decide) ?_
  exact y_vret (M := M_X2_init_59) 4 dX2_init_4 rfl ⟨rfl, rfl, rfl⟩
abbrev M_X11_newBounds_42 : m_M := mkM RX11 yX11_newBounds cX11_newBounds 3 2 40 42 59 (some (.array (.object "WeekFoot$Bound")))
set_option maxHeartbeats 4000000 in
set_option maxRecDepth 100000 in
theorem c_X11_newBounds_42 (h0 : m_H) : m_D M_X11_newBounds_42 (oF.take 42) (oF.take 59) [mI 16] h0 (fun r h' => r = some (mR 42) ∧ gR 42 59 h' ∧ (∀ k, k < 42 → h' k = h0 k)) := by
  refine tk_D (by decide) (by decide) (by decide) rfl (by decide) (ls := [some (mI 16), none, none]) rfl ?_
  refine y_iconst (M := M_X11_newBounds_42) 0 dX11_newBounds_0 ?_
  refine y_iload_n (M := M_X11_newBounds_42) 1 dX11_newBounds_1 rfl ?_
  refine y_maxI (M := M_X11_newBounds_42) 2 dX11_newBounds_2 ml_X11_447 (rest := []) (by decide) (by decide) ?_
  show m_Y _ _ _ _ _ [mI 16] _ _
  refine y_newq (M := M_X11_newBounds_42) 5 dX11_newBounds_5 cl_X11_232 (N := 16) (t := 3) (by decide) (Or.inl ⟨rfl, rfl⟩) (fun E m t q => (xI_A E m t q).1) (tk_s o_42) (tk_l (by decide)) (tk_b (by decide) (by decide) (by decide)) (fun h1 E1 => ?_)
  have F1 : ∀ k, k < 42 → h1 k = h0 k := frn_nw (fun k _ => rfl) E1 (by decide)
  refine y_astore_n (M := M_X11_newBounds_42) 8 dX11_newBounds_8 (ls' := [some (mI 16), some (mR 42), none]) (by decide) rfl ?_
  refine y_iconst (M := M_X11_newBounds_42) 9 dX11_newBounds_9 ?_
  refine y_istore_n (M := M_X11_newBounds_42) 10 dX11_newBounds_10 (ls' := [some (mI 16), some (mR 42), some (mI 0)]) (by decide) rfl ?_
  refine y_iload_n (M := M_X11_newBounds_42) 11 dX11_newBounds_11 rfl ?_
  refine y_aload_n (M := M_X11_newBounds_42) 12 dX11_newBounds_12 rfl ?_
  refine y_alen (M := M_X11_newBounds_42) 13 dX11_newBounds_13 (tk_g (by decide) o_42) (by decide) (by decide) ?_
  refine y_icmp_ge_F (M := M_X11_newBounds_42) 14 dX11_newBounds_14 33 rfl (by decide) ?_
  refine y_aload_n (M := M_X11_newBounds_42) 17 dX11_newBounds_17 rfl ?_
  refine y_iload_n (M := M_X11_newBounds_42) 18 dX11_newBounds_18 rfl ?_
  refine y_new (M := M_X11_newBounds_42) 19 dX11_newBounds_19 n_X11_232 (tk_s o_43) (tk_l (by decide)) (tk_b (by decide) (by decide) (by decide)) (fun h2 E2 => ?_)
  have F2 : ∀ k, k < 42 → h2 k = h0 k := frn_nw F1 E2 (by decide)
  clear F1 E1
  have g3 : gR 43 44 h2 := gR_1 (bn_ok E2 rfl)
  refine y_dup (M := M_X11_newBounds_42) 22 dX11_newBounds_22 rfl ?_
  refine y_callIN (M := M_X11_newBounds_42) 23 dX11_newBounds_23 t_X2_init il_X11_450 (m_rr_of rfl) xI_A (as := []) (rest := [mR 43, mI 0, mR 42]) (c_X2_init_44 h2) rfl rfl (Nat.le_of_ble_eq_true rfl) (tk_c (by decide) (by decide) (by decide) (by decide)) (fun r h3 q => ?_)
  obtain ⟨rfl, rfl⟩ := q
  refine y_aast (M := M_X11_newBounds_42) 26 dX11_newBounds_26 (Or.inl ⟨rfl, rfl⟩) (tk_g (by decide) o_42) (tk_g (by decide) o_43) cl_2 (by decide) (by decide) (fun h3 E3 => ?_)
  have g4 := g3.put E3 (by decide)
  have F5 : ∀ k, k < 42 → h3 k = h0 k := frn_up F2 E3 (by decide)
  clear g3 F2 E2
  have f6 : h3 42 0 = ((43 : Nat) : Int) := upE E3
  refine y_iincN (M := M_X11_newBounds_42) 27 dX11_newBounds_27 (ls' := [some (mI 16), some (mR 42), some (mI 1)]) (by decide) rfl (by (unfold m_32; decide)) (by decide) (by decide) rfl ?_
  refine y_goto (M := M_X11_newBounds_42) 30 dX11_newBounds_30 11 rfl ?_
  refine y_iload_n (M := M_X11_newBounds_42) 11 dX11_newBounds_11 rfl ?_
  refine y_aload_n (M := M_X11_newBounds_42) 12 dX11_newBounds_12 rfl ?_
  refine y_alen (M := M_X11_newBounds_42) 13 dX11_newBounds_13 (tk_g (by decide) o_42) (by decide) (by decide) ?_
  refine y_icmp_ge_F (M := M_X11_newBounds_42) 14 dX11_newBounds_14 33 rfl (by decide) ?_
  refine y_aload_n (M := M_X11_newBounds_42) 17 dX11_newBounds_17 rfl ?_
  refine y_iload_n (M := M_X11_newBounds_42) 18 dX11_newBounds_18 rfl ?_
  refine y_new (M := M_X11_newBounds_42) 19 dX11_newBounds_19 n_X11_232 (tk_s o_44) (tk_l (by decide)) (tk_b (by decide) (by decide) (by decide)) (fun h4 E4 => ?_)
  have f7 : h4 42 0 = ((43 : Nat) : Int) := nw_u E4 (by decide) f6
  have g8 := g4.nw E4 (by decide)
  have F9 : ∀ k, k < 42 → h4 k = h0 k := frn_nw F5 E4 (by decide)
  clear f6 g4 F5 E3
  have g10 : gR 44 45 h4 := gR_1 (bn_ok E4 rfl)
  have g11 := g8.join g10
  refine y_dup (M := M_X11_newBounds_42) 22 dX11_newBounds_22 rfl ?_
  refine y_callIN (M := M_X11_newBounds_42) 23 dX11_newBounds_23 t_X2_init il_X11_450 (m_rr_of rfl) xI_A (as := []) (rest := [mR 44, mI 1, mR 42]) (c_X2_init_45 h4) rfl rfl (Nat.le_of_ble_eq_true rfl) (tk_c (by decide) (by decide) (by decide) (by decide)) (fun r h5 q => ?_)
  obtain ⟨rfl, rfl⟩ := q
  refine y_aast (M := M_X11_newBounds_42) 26 dX11_newBounds_26 (Or.inl ⟨rfl, rfl⟩) (tk_g (by decide) o_42) (tk_g (by decide) o_44) cl_2 (by decide) (by decide) (fun h5 E5 => ?_)
  have f12 : h5 42 0 = ((43 : Nat) : Int) := (upN E5 (by decide)).trans f7
  have g13 := g11.put E5 (by decide)
  have F14 : ∀ k, k < 42 → h5 k = h0 k := frn_up F9 E5 (by decide)
  clear f7 g11 F9 E4 g8 g10
  have f15 : h5 42 1 = ((44 : Nat) : Int) := upE E5
  refine y_iincN (M := M_X11_newBounds_42) 27 dX11_newBounds_27 (ls' := [some (mI 16), some (mR 42), some (mI 2)]) (by decide) rfl (by (unfold m_32; decide)) (by decide) (by decide) rfl ?_
  refine y_goto (M := M_X11_newBounds_42) 30 dX11_newBounds_30 11 rfl ?_
  refine y_iload_n (M := M_X11_newBounds_42) 11 dX11_newBounds_11 rfl ?_
  refine y_aload_n (M := M_X11_newBounds_42) 12 dX11_newBounds_12 rfl ?_
  refine y_alen (M := M_X11_newBounds_42) 13 dX11_newBounds_13 (tk_g (by decide) o_42) (by decide) (by decide) ?_
  refine y_icmp_ge_F (M := M_X11_newBounds_42) 14 dX11_newBounds_14 33 rfl (by decide) ?_
  refine y_aload_n (M := M_X11_newBounds_42) 17 dX11_newBounds_17 rfl ?_
  refine y_iload_n (M := M_X11_newBounds_42) 18 dX11_newBounds_18 rfl ?_
  refine y_new (M := M_X11_newBounds_42) 19 dX11_newBounds_19 n_X11_232 (tk_s o_45) (tk_l (by decide)) (tk_b (by decide) (by decide) (by decide)) (fun h6 E6 => ?_)
  have f16 : h6 42 0 = ((43 : Nat) : Int) := nw_u E6 (by decide) f12
  have f17 : h6 42 1 = ((44 : Nat) : Int) := nw_u E6 (by decide) f15
  have g18 := g13.nw E6 (by decide)
  have F19 : ∀ k, k < 42 → h6 k = h0 k := frn_nw F14 E6 (by decide)
  clear f12 f15 g13 F14 E5
  have g20 : gR 45 46 h6 := gR_1 (bn_ok E6 rfl)
  have g21 := g18.join g20
  refine y_dup (M := M_X11_newBounds_42) 22 dX11_newBounds_22 rfl ?_
  refine y_callIN (M := M_X11_newBounds_42) 23 dX11_newBounds_23 t_X2_init il_X11_450 (m_rr_of rfl) xI_A (as := []) (rest := [mR 45, mI 2, mR 42]) (c_X2_init_46 h6) rfl rfl (Nat.le_of_ble_eq_true rfl) (tk_c (by decide) (by decide) (by decide) (by decide)) (fun r h7 q => ?_)
  obtain ⟨rfl, rfl⟩ := q
  refine y_aast (M := M_X11_newBounds_42) 26 dX11_newBounds_26 (Or.inl ⟨rfl, rfl⟩) (tk_g (by decide) o_42) (tk_g (by decide) o_45) cl_2 (by decide) (by decide) (fun h7 E7 => ?_)
  have f22 : h7 42 0 = ((43 : Nat) : Int) := (upN E7 (by decide)).trans f16
  have f23 : h7 42 1 = ((44 : Nat) : Int) := (upN E7 (by decide)).trans f17
  have g24 := g21.put E7 (by decide)
  have F25 : ∀ k, k < 42 → h7 k = h0 k := frn_up F19 E7 (by decide)
  clear f16 f17 g21 F19 E6 g18 g20
  have f26 : h7 42 2 = ((45 : Nat) : Int) := upE E7
  refine y_iincN (M := M_X11_newBounds_42) 27 dX11_newBounds_27 (ls' := [some (mI 16), some (mR 42), some (mI 3)]) (by decide) rfl (by (unfold m_32; decide)) (by decide) (by decide) rfl ?_
  refine y_goto (M := M_X11_newBounds_42) 30 dX11_newBounds_30 11 rfl ?_
  refine y_iload_n (M := M_X11_newBounds_42) 11 dX11_newBounds_11 rfl ?_
  refine y_aload_n (M := M_X11_newBounds_42) 12 dX11_newBounds_12 rfl ?_
  refine y_alen (M := M_X11_newBounds_42) 13 dX11_newBounds_13 (tk_g (by decide) o_42) (by decide) (by decide) ?_
  refine y_icmp_ge_F (M := M_X11_newBounds_42) 14 dX11_newBounds_14 33 rfl (by decide) ?_
  refine y_aload_n (M := M_X11_newBounds_42) 17 dX11_newBounds_17 rfl ?_
  refine y_iload_n (M := M_X11_newBounds_42) 18 dX11_newBounds_18 rfl ?_
  refine y_new (M := M_X11_newBounds_42) 19 dX11_newBounds_19 n_X11_232 (tk_s o_46) (tk_l (by decide)) (tk_b (by decide) (by decide) (by decide)) (fun h8 E8 => ?_)
  have f27 : h8 42 0 = ((43 : Nat) : Int) := nw_u E8 (by decide) f22
  have f28 : h8 42 1 = ((44 : Nat) : Int) := nw_u E8 (by decide) f23
  have f29 : h8 42 2 = ((45 : Nat) : Int) := nw_u E8 (by decide) f26
  have g30 := g24.nw E8 (by decide)
  have F31 : ∀ k, k < 42 → h8 k = h0 k := frn_nw F25 E8 (by decide)
  clear f22 f23 f26 g24 F25 E7
  have g32 : gR 46 47 h8 := gR_1 (bn_ok E8 rfl)
  have g33 := g30.join g32
  refine y_dup (M := M_X11_newBounds_42) 22 dX11_newBounds_22 rfl ?_
  refine y_callIN (M := M_X11_newBounds_42) 23 dX11_newBounds_23 t_X2_init il_X11_450 (m_rr_of rfl) xI_A (as := []) (rest := [mR 46, mI 3, mR 42]) (c_X2_init_47 h8) rfl rfl (Nat.le_of_ble_eq_true rfl) (tk_c (by decide) (by decide) (by decide) (by decide)) (fun r h9 q => ?_)
  obtain ⟨rfl, rfl⟩ := q
  refine y_aast (M := M_X11_newBounds_42) 26 dX11_newBounds_26 (Or.inl ⟨rfl, rfl⟩) (tk_g (by decide) o_42) (tk_g (by decide) o_46) cl_2 (by decide) (by decide) (fun h9 E9 => ?_)
  have f34 : h9 42 0 = ((43 : Nat) : Int) := (upN E9 (by decide)).trans f27
  have f35 : h9 42 1 = ((44 : Nat) : Int) := (upN E9 (by decide)).trans f28
  have f36 : h9 42 2 = ((45 : Nat) : Int) := (upN E9 (by decide)).trans f29
  have g37 := g33.put E9 (by decide)
  have F38 : ∀ k, k < 42 → h9 k = h0 k := frn_up F31 E9 (by decide)
  clear f27 f28 f29 g33 F31 E8 g30 g32
  have f39 : h9 42 3 = ((46 : Nat) : Int) := upE E9
  refine y_iincN (M := M_X11_newBounds_42) 27 dX11_newBounds_27 (ls' := [some (mI 16), some (mR 42), some (mI 4)]) (by decide) rfl (by (unfold m_32; decide)) (by decide) (by decide) rfl ?_
  refine y_goto (M := M_X11_newBounds_42) 30 dX11_newBounds_30 11 rfl ?_
  refine y_iload_n (M := M_X11_newBounds_42) 11 dX11_newBounds_11 rfl ?_
  refine y_aload_n (M := M_X11_newBounds_42) 12 dX11_newBounds_12 rfl ?_
  refine y_alen (M := M_X11_newBounds_42) 13 dX11_newBounds_13 (tk_g (by decide) o_42) (by decide) (by decide) ?_
  refine y_icmp_ge_F (M := M_X11_newBounds_42) 14 dX11_newBounds_14 33 rfl (by decide) ?_
  refine y_aload_n (M := M_X11_newBounds_42) 17 dX11_newBounds_17 rfl ?_
  refine y_iload_n (M := M_X11_newBounds_42) 18 dX11_newBounds_18 rfl ?_
  refine y_new (M := M_X11_newBounds_42) 19 dX11_newBounds_19 n_X11_232 (tk_s o_47) (tk_l (by decide)) (tk_b (by decide) (by decide) (by decide)) (fun h10 E10 => ?_)
  have f40 : h10 42 0 = ((43 : Nat) : Int) := nw_u E10 (by decide) f34
  have f41 : h10 42 1 = ((44 : Nat) : Int) := nw_u E10 (by decide) f35
  have f42 : h10 42 2 = ((45 : Nat) : Int) := nw_u E10 (by decide) f36
  have f43 : h10 42 3 = ((46 : Nat) : Int) := nw_u E10 (by decide) f39
  have g44 := g37.nw E10 (by decide)
  have F45 : ∀ k, k < 42 → h10 k = h0 k := frn_nw F38 E10 (by decide)
  clear f34 f35 f36 f39 g37 F38 E9
  have g46 : gR 47 48 h10 := gR_1 (bn_ok E10 rfl)
  have g47 := g44.join g46
  refine y_dup (M := M_X11_newBounds_42) 22 dX11_newBounds_22 rfl ?_
  refine y_callIN (M := M_X11_newBounds_42) 23 dX11_newBounds_23 t_X2_init il_X11_450 (m_rr_of rfl) xI_A (as := []) (rest := [mR 47, mI 4, mR 42]) (c_X2_init_48 h10) rfl rfl (Nat.le_of_ble_eq_true rfl) (tk_c (by decide) (by decide) (by decide) (by decide)) (fun r h11 q => ?_)
  obtain ⟨rfl, rfl⟩ := q
  refine y_aast (M := M_X11_newBounds_42) 26 dX11_newBounds_26 (Or.inl ⟨rfl, rfl⟩) (tk_g (by decide) o_42) (tk_g (by decide) o_47) cl_2 (by decide) (by decide) (fun h11 E11 => ?_)
  have f48 : h11 42 0 = ((43 : Nat) : Int) := (upN E11 (by decide)).trans f40
  have f49 : h11 42 1 = ((44 : Nat) : Int) := (upN E11 (by decide)).trans f41
  have f50 : h11 42 2 = ((45 : Nat) : Int) := (upN E11 (by decide)).trans f42
  have f51 : h11 42 3 = ((46 : Nat) : Int) := (upN E11 (by decide)).trans f43
  have g52 := g47.put E11 (by decide)
  have F53 : ∀ k, k < 42 → h11 k = h0 k := frn_up F45 E11 (by decide)
  clear f40 f41 f42 f43 g47 F45 E10 g44 g46
  have f54 : h11 42 4 = ((47 : Nat) : Int) := upE E11
  refine y_iincN (M := M_X11_newBounds_42) 27 dX11_newBounds_27 (ls' := [some (mI 16), some (mR 42), some (mI 5)]) (by decide) rfl (by (unfold m_32; decide)) (by decide) (by decide) rfl ?_
  refine y_goto (M := M_X11_newBounds_42) 30 dX11_newBounds_30 11 rfl ?_
  refine y_iload_n (M := M_X11_newBounds_42) 11 dX11_newBounds_11 rfl ?_
  refine y_aload_n (M := M_X11_newBounds_42) 12 dX11_newBounds_12 rfl ?_
  refine y_alen (M := M_X11_newBounds_42) 13 dX11_newBounds_13 (tk_g (by decide) o_42) (by decide) (by decide) ?_
  refine y_icmp_ge_F (M := M_X11_newBounds_42) 14 dX11_newBounds_14 33 rfl (by decide) ?_
  refine y_aload_n (M := M_X11_newBounds_42) 17 dX11_newBounds_17 rfl ?_
  refine y_iload_n (M := M_X11_newBounds_42) 18 dX11_newBounds_18 rfl ?_
  refine y_new (M := M_X11_newBounds_42) 19 dX11_newBounds_19 n_X11_232 (tk_s o_48) (tk_l (by decide)) (tk_b (by decide) (by decide) (by decide)) (fun h12 E12 => ?_)
  have f55 : h12 42 0 = ((43 : Nat) : Int) := nw_u E12 (by decide) f48
  have f56 : h12 42 1 = ((44 : Nat) : Int) := nw_u E12 (by decide) f49
  have f57 : h12 42 2 = ((45 : Nat) : Int) := nw_u E12 (by decide) f50
  have f58 : h12 42 3 = ((46 : Nat) : Int) := nw_u E12 (by decide) f51
  have f59 : h12 42 4 = ((47 : Nat) : Int) := nw_u E12 (by decide) f54
  have g60 := g52.nw E12 (by decide)
  have F61 : ∀ k, k < 42 → h12 k = h0 k := frn_nw F53 E12 (by decide)
  clear f48 f49 f50 f51 f54 g52 F53 E11
  have g62 : gR 48 49 h12 := gR_1 (bn_ok E12 rfl)
  have g63 := g60.join g62
  refine y_dup (M := M_X11_newBounds_42) 22 dX11_newBounds_22 rfl ?_
  refine y_callIN (M := M_X11_newBounds_42) 23 dX11_newBounds_23 t_X2_init il_X11_450 (m_rr_of rfl) xI_A (as := []) (rest := [mR 48, mI 5, mR 42]) (c_X2_init_49 h12) rfl rfl (Nat.le_of_ble_eq_true rfl) (tk_c (by decide) (by decide) (by decide) (by decide)) (fun r h13 q => ?_)
  obtain ⟨rfl, rfl⟩ := q
  refine y_aast (M := M_X11_newBounds_42) 26 dX11_newBounds_26 (Or.inl ⟨rfl, rfl⟩) (tk_g (by decide) o_42) (tk_g (by decide) o_48) cl_2 (by decide) (by decide) (fun h13 E13 => ?_)
  have f64 : h13 42 0 = ((43 : Nat) : Int) := (upN E13 (by decide)).trans f55
  have f65 : h13 42 1 = ((44 : Nat) : Int) := (upN E13 (by decide)).trans f56
  have f66 : h13 42 2 = ((45 : Nat) : Int) := (upN E13 (by decide)).trans f57
  have f67 : h13 42 3 = ((46 : Nat) : Int) := (upN E13 (by decide)).trans f58
  have f68 : h13 42 4 = ((47 : Nat) : Int) := (upN E13 (by decide)).trans f59
  have g69 := g63.put E13 (by decide)
  have F70 : ∀ k, k < 42 → h13 k = h0 k := frn_up F61 E13 (by decide)
  clear f55 f56 f57 f58 f59 g63 F61 E12 g60 g62
  have f71 : h13 42 5 = ((48 : Nat) : Int) := upE E13
  refine y_iincN (M := M_X11_newBounds_42) 27 dX11_newBounds_27 (ls' := [some (mI 16), some (mR 42), some (mI 6)]) (by decide) rfl (by (unfold m_32; decide)) (by decide) (by decide) rfl ?_
  refine y_goto (M := M_X11_newBounds_42) 30 dX11_newBounds_30 11 rfl ?_
  refine y_iload_n (M := M_X11_newBounds_42) 11 dX11_newBounds_11 rfl ?_
  refine y_aload_n (M := M_X11_newBounds_42) 12 dX11_newBounds_12 rfl ?_
  refine y_alen (M := M_X11_newBounds_42) 13 dX11_newBounds_13 (tk_g (by decide) o_42) (by decide) (by decide) ?_
  refine y_icmp_ge_F (M := M_X11_newBounds_42) 14 dX11_newBounds_14 33 rfl (by decide) ?_
  refine y_aload_n (M := M_X11_newBounds_42) 17 dX11_newBounds_17 rfl ?_
  refine y_iload_n (M := M_X11_newBounds_42) 18 dX11_newBounds_18 rfl ?_
  refine y_new (M := M_X11_newBounds_42) 19 dX11_newBounds_19 n_X11_232 (tk_s o_49) (tk_l (by decide)) (tk_b (by decide) (by decide) (by decide)) (fun h14 E14 => ?_)
  have f72 : h14 42 0 = ((43 : Nat) : Int) := nw_u E14 (by decide) f64
  have f73 : h14 42 1 = ((44 : Nat) : Int) := nw_u E14 (by decide) f65
  have f74 : h14 42 2 = ((45 : Nat) : Int) := nw_u E14 (by decide) f66
  have f75 : h14 42 3 = ((46 : Nat) : Int) := nw_u E14 (by decide) f67
  have f76 : h14 42 4 = ((47 : Nat) : Int) := nw_u E14 (by decide) f68
  have f77 : h14 42 5 = ((48 : Nat) : Int) := nw_u E14 (by decide) f71
  have g78 := g69.nw E14 (by decide)
  have F79 : ∀ k, k < 42 → h14 k = h0 k := frn_nw F70 E14 (by decide)
  clear f64 f65 f66 f67 f68 f71 g69 F70 E13
  have g80 : gR 49 50 h14 := gR_1 (bn_ok E14 rfl)
  have g81 := g78.join g80
  refine y_dup (M := M_X11_newBounds_42) 22 dX11_newBounds_22 rfl ?_
  refine y_callIN (M := M_X11_newBounds_42) 23 dX11_newBounds_23 t_X2_init il_X11_450 (m_rr_of rfl) xI_A (as := []) (rest := [mR 49, mI 6, mR 42]) (c_X2_init_50 h14) rfl rfl (Nat.le_of_ble_eq_true rfl) (tk_c (by decide) (by decide) (by decide) (by decide)) (fun r h15 q => ?_)
  obtain ⟨rfl, rfl⟩ := q
  refine y_aast (M := M_X11_newBounds_42) 26 dX11_newBounds_26 (Or.inl ⟨rfl, rfl⟩) (tk_g (by decide) o_42) (tk_g (by decide) o_49) cl_2 (by decide) (by decide) (fun h15 E15 => ?_)
  have f82 : h15 42 0 = ((43 : Nat) : Int) := (upN E15 (by decide)).trans f72
  have f83 : h15 42 1 = ((44 : Nat) : Int) := (upN E15 (by decide)).trans f73
  have f84 : h15 42 2 = ((45 : Nat) : Int) := (upN E15 (by decide)).trans f74
  have f85 : h15 42 3 = ((46 : Nat) : Int) := (upN E15 (by decide)).trans f75
  have f86 : h15 42 4 = ((47 : Nat) : Int) := (upN E15 (by decide)).trans f76
  have f87 : h15 42 5 = ((48 : Nat) : Int) := (upN E15 (by decide)).trans f77
  have g88 := g81.put E15 (by decide)
  have F89 : ∀ k, k < 42 → h15 k = h0 k := frn_up F79 E15 (by decide)
  clear f72 f73 f74 f75 f76 f77 g81 F79 E14 g78 g80
  have f90 : h15 42 6 = ((49 : Nat) : Int) := upE E15
  refine y_iincN (M := M_X11_newBounds_42) 27 dX11_newBounds_27 (ls' := [some (mI 16), some (mR 42), some (mI 7)]) (by decide) rfl (by (unfold m_32; decide)) (by decide) (by decide) rfl ?_
  refine y_goto (M := M_X11_newBounds_42) 30 dX11_newBounds_30 11 rfl ?_
  refine y_iload_n (M := M_X11_newBounds_42) 11 dX11_newBounds_11 rfl ?_
  refine y_aload_n (M := M_X11_newBounds_42) 12 dX11_newBounds_12 rfl ?_
  refine y_alen (M := M_X11_newBounds_42) 13 dX11_newBounds_13 (tk_g (by decide) o_42) (by decide) (by decide) ?_
  refine y_icmp_ge_F (M := M_X11_newBounds_42) 14 dX11_newBounds_14 33 rfl (by decide) ?_
  refine y_aload_n (M := M_X11_newBounds_42) 17 dX11_newBounds_17 rfl ?_
  refine y_iload_n (M := M_X11_newBounds_42) 18 dX11_newBounds_18 rfl ?_
  refine y_new (M := M_X11_newBounds_42) 19 dX11_newBounds_19 n_X11_232 (tk_s o_50) (tk_l (by decide)) (tk_b (by decide) (by decide) (by decide)) (fun h16 E16 => ?_)
  have f91 : h16 42 0 = ((43 : Nat) : Int) := nw_u E16 (by decide) f82
  have f92 : h16 42 1 = ((44 : Nat) : Int) := nw_u E16 (by decide) f83
  have f93 : h16 42 2 = ((45 : Nat) : Int) := nw_u E16 (by decide) f84
  have f94 : h16 42 3 = ((46 : Nat) : Int) := nw_u E16 (by decide) f85
  have f95 : h16 42 4 = ((47 : Nat) : Int) := nw_u E16 (by decide) f86
  have f96 : h16 42 5 = ((48 : Nat) : Int) := nw_u E16 (by decide) f87
  have f97 : h16 42 6 = ((49 : Nat) : Int) := nw_u E16 (by decide) f90
  have g98 := g88.nw E16 (by decide)
  have F99 : ∀ k, k < 42 → h16 k = h0 k := frn_nw F89 E16 (by decide)
  clear f82 f83 f84 f85 f86 f87 f90 g88 F89 E15
  have g100 : gR 50 51 h16 := gR_1 (bn_ok E16 rfl)
  have g101 := g98.join g100
  refine y_dup (M := M_X11_newBounds_42) 22 dX11_newBounds_22 rfl ?_
  refine y_callIN (M := M_X11_newBounds_42) 23 dX11_newBounds_23 t_X2_init il_X11_450 (m_rr_of rfl) xI_A (as := []) (rest := [mR 50, mI 7, mR 42]) (c_X2_init_51 h16) rfl rfl (Nat.le_of_ble_eq_true rfl) (tk_c (by decide) (by decide) (by decide) (by decide)) (fun r h17 q => ?_)
  obtain ⟨rfl, rfl⟩ := q
  refine y_aast (M := M_X11_newBounds_42) 26 dX11_newBounds_26 (Or.inl ⟨rfl, rfl⟩) (tk_g (by decide) o_42) (tk_g (by decide) o_50) cl_2 (by decide) (by decide) (fun h17 E17 => ?_)
  have f102 : h17 42 0 = ((43 : Nat) : Int) := (upN E17 (by decide)).trans f91
  have f103 : h17 42 1 = ((44 : Nat) : Int) := (upN E17 (by decide)).trans f92
  have f104 : h17 42 2 = ((45 : Nat) : Int) := (upN E17 (by decide)).trans f93
  have f105 : h17 42 3 = ((46 : Nat) : Int) := (upN E17 (by decide)).trans f94
  have f106 : h17 42 4 = ((47 : Nat) : Int) := (upN E17 (by decide)).trans f95
  have f107 : h17 42 5 = ((48 : Nat) : Int) := (upN E17 (by decide)).trans f96
  have f108 : h17 42 6 = ((49 : Nat) : Int) := (upN E17 (by decide)).trans f97
  have g109 := g101.put E17 (by decide)
  have F110 : ∀ k, k < 42 → h17 k = h0 k := frn_up F99 E17 (by decide)
  clear f91 f92 f93 f94 f95 f96 f97 g101 F99 E16 g98 g100
  have f111 : h17 42 7 = ((50 : Nat) : Int) := upE E17
  refine y_iincN (M := M_X11_newBounds_42) 27 dX11_newBounds_27 (ls' := [some (mI 16), some (mR 42), some (mI 8)]) (by decide) rfl (by (unfold m_32; decide)) (by decide) (by decide) rfl ?_
  refine y_goto (M := M_X11_newBounds_42) 30 dX11_newBounds_30 11 rfl ?_
  refine y_iload_n (M := M_X11_newBounds_42) 11 dX11_newBounds_11 rfl ?_
  refine y_aload_n (M := M_X11_newBounds_42) 12 dX11_newBounds_12 rfl ?_
  refine y_alen (M := M_X11_newBounds_42) 13 dX11_newBounds_13 (tk_g (by decide) o_42) (by decide) (by decide) ?_
  refine y_icmp_ge_F (M := M_X11_newBounds_42) 14 dX11_newBounds_14 33 rfl (by decide) ?_
  refine y_aload_n (M := M_X11_newBounds_42) 17 dX11_newBounds_17 rfl ?_
  refine y_iload_n (M := M_X11_newBounds_42) 18 dX11_newBounds_18 rfl ?_
  refine y_new (M := M_X11_newBounds_42) 19 dX11_newBounds_19 n_X11_232 (tk_s o_51) (tk_l (by decide)) (tk_b (by decide) (by decide) (by decide)) (fun h18 E18 => ?_)
  have f112 : h18 42 0 = ((43 : Nat) : Int) := nw_u E18 (by decide) f102
  have f113 : h18 42 1 = ((44 : Nat) : Int) := nw_u E18 (by decide) f103
  have f114 : h18 42 2 = ((45 : Nat) : Int) := nw_u E18 (by decide) f104
  have f115 : h18 42 3 = ((46 : Nat) : Int) := nw_u E18 (by decide) f105
  have f116 : h18 42 4 = ((47 : Nat) : Int) := nw_u E18 (by decide) f106
  have f117 : h18 42 5 = ((48 : Nat) : Int) := nw_u E18 (by decide) f107
  have f118 : h18 42 6 = ((49 : Nat) : Int) := nw_u E18 (by decide) f108
  have f119 : h18 42 7 = ((50 : Nat) : Int) := nw_u E18 (by decide) f111
  have g120 := g109.nw E18 (by decide)
  have F121 : ∀ k, k < 42 → h18 k = h0 k := frn_nw F110 E18 (by decide)
  clear f102 f103 f104 f105 f106 f107 f108 f111 g109 F110 E17
  have g122 : gR 51 52 h18 := gR_1 (bn_ok E18 rfl)
  have g123 := g120.join g122
  refine y_dup (M := M_X11_newBounds_42) 22 dX11_newBounds_22 rfl ?_
  refine y_callIN (M := M_X11_newBounds_42) 23 dX11_newBounds_23 t_X2_init il_X11_450 (m_rr_of rfl) xI_A (as := []) (rest := [mR 51, mI 8, mR 42]) (c_X2_init_52 h18) rfl rfl (Nat.le_of_ble_eq_true rfl) (tk_c (by decide) (by decide) (by decide) (by decide)) (fun r h19 q => ?_)
  obtain ⟨rfl, rfl⟩ := q
  refine y_aast (M := M_X11_newBounds_42) 26 dX11_newBounds_26 (Or.inl ⟨rfl, rfl⟩) (tk_g (by decide) o_42) (tk_g (by decide) o_51) cl_2 (by decide) (by decide) (fun h19 E19 => ?_)
  have f124 : h19 42 0 = ((43 : Nat) : Int) := (upN E19 (by decide)).trans f112
  have f125 : h19 42 1 = ((44 : Nat) : Int) := (upN E19 (by decide)).trans f113
  have f126 : h19 42 2 = ((45 : Nat) : Int) := (upN E19 (by decide)).trans f114
  have f127 : h19 42 3 = ((46 : Nat) : Int) := (upN E19 (by decide)).trans f115
  have f128 : h19 42 4 = ((47 : Nat) : Int) := (upN E19 (by decide)).trans f116
  have f129 : h19 42 5 = ((48 : Nat) : Int) := (upN E19 (by decide)).trans f117
  have f130 : h19 42 6 = ((49 : Nat) : Int) := (upN E19 (by decide)).trans f118
  have f131 : h19 42 7 = ((50 : Nat) : Int) := (upN E19 (by decide)).trans f119
  have g132 := g123.put E19 (by decide)
  have F133 : ∀ k, k < 42 → h19 k = h0 k := frn_up F121 E19 (by decide)
  clear f112 f113 f114 f115 f116 f117 f118 f119 g123 F121 E18 g120 g122
  have f134 : h19 42 8 = ((51 : Nat) : Int) := upE E19
  refine y_iincN (M := M_X11_newBounds_42) 27 dX11_newBounds_27 (ls' := [some (mI 16), some (mR 42), some (mI 9)]) (by decide) rfl (by (unfold m_32; decide)) (by decide) (by decide) rfl ?_
  refine y_goto (M := M_X11_newBounds_42) 30 dX11_newBounds_30 11 rfl ?_
  refine y_iload_n (M := M_X11_newBounds_42) 11 dX11_newBounds_11 rfl ?_
  refine y_aload_n (M := M_X11_newBounds_42) 12 dX11_newBounds_12 rfl ?_
  refine y_alen (M := M_X11_newBounds_42) 13 dX11_newBounds_13 (tk_g (by decide) o_42) (by decide) (by decide) ?_
  refine y_icmp_ge_F (M := M_X11_newBounds_42) 14 dX11_newBounds_14 33 rfl (by decide) ?_
  refine y_aload_n (M := M_X11_newBounds_42) 17 dX11_newBounds_17 rfl ?_
  refine y_iload_n (M := M_X11_newBounds_42) 18 dX11_newBounds_18 rfl ?_
  refine y_new (M := M_X11_newBounds_42) 19 dX11_newBounds_19 n_X11_232 (tk_s o_52) (tk_l (by decide)) (tk_b (by decide) (by decide) (by decide)) (fun h20 E20 => ?_)
  have f135 : h20 42 0 = ((43 : Nat) : Int) := nw_u E20 (by decide) f124
  have f136 : h20 42 1 = ((44 : Nat) : Int) := nw_u E20 (by decide) f125
  have f137 : h20 42 2 = ((45 : Nat) : Int) := nw_u E20 (by decide) f126
  have f138 : h20 42 3 = ((46 : Nat) : Int) := nw_u E20 (by decide) f127
  have f139 : h20 42 4 = ((47 : Nat) : Int) := nw_u E20 (by decide) f128
  have f140 : h20 42 5 = ((48 : Nat) : Int) := nw_u E20 (by decide) f129
  have f141 : h20 42 6 = ((49 : Nat) : Int) := nw_u E20 (by decide) f130
  have f142 : h20 42 7 = ((50 : Nat) : Int) := nw_u E20 (by decide) f131
  have f143 : h20 42 8 = ((51 : Nat) : Int) := nw_u E20 (by decide) f134
  have g144 := g132.nw E20 (by decide)
  have F145 : ∀ k, k < 42 → h20 k = h0 k := frn_nw F133 E20 (by decide)
  clear f124 f125 f126 f127 f128 f129 f130 f131 f134 g132 F133 E19
  have g146 : gR 52 53 h20 := gR_1 (bn_ok E20 rfl)
  have g147 := g144.join g146
  refine y_dup (M := M_X11_newBounds_42) 22 dX11_newBounds_22 rfl ?_
  refine y_callIN (M := M_X11_newBounds_42) 23 dX11_newBounds_23 t_X2_init il_X11_450 (m_rr_of rfl) xI_A (as := []) (rest := [mR 52, mI 9, mR 42]) (c_X2_init_53 h20) rfl rfl (Nat.le_of_ble_eq_true rfl) (tk_c (by decide) (by decide) (by decide) (by decide)) (fun r h21 q => ?_)
  obtain ⟨rfl, rfl⟩ := q
  refine y_aast (M := M_X11_newBounds_42) 26 dX11_newBounds_26 (Or.inl ⟨rfl, rfl⟩) (tk_g (by decide) o_42) (tk_g (by decide) o_52) cl_2 (by decide) (by decide) (fun h21 E21 => ?_)
  have f148 : h21 42 0 = ((43 : Nat) : Int) := (upN E21 (by decide)).trans f135
  have f149 : h21 42 1 = ((44 : Nat) : Int) := (upN E21 (by decide)).trans f136
  have f150 : h21 42 2 = ((45 : Nat) : Int) := (upN E21 (by decide)).trans f137
  have f151 : h21 42 3 = ((46 : Nat) : Int) := (upN E21 (by decide)).trans f138
  have f152 : h21 42 4 = ((47 : Nat) : Int) := (upN E21 (by decide)).trans f139
  have f153 : h21 42 5 = ((48 : Nat) : Int) := (upN E21 (by decide)).trans f140
  have f154 : h21 42 6 = ((49 : Nat) : Int) := (upN E21 (by decide)).trans f141
  have f155 : h21 42 7 = ((50 : Nat) : Int) := (upN E21 (by decide)).trans f142
  have f156 : h21 42 8 = ((51 : Nat) : Int) := (upN E21 (by decide)).trans f143
  have g157 := g147.put E21 (by decide)
  have F158 : ∀ k, k < 42 → h21 k = h0 k := frn_up F145 E21 (by decide)
  clear f135 f136 f137 f138 f139 f140 f141 f142 f143 g147 F145 E20 g144 g146
  have f159 : h21 42 9 = ((52 : Nat) : Int) := upE E21
  refine y_iincN (M := M_X11_newBounds_42) 27 dX11_newBounds_27 (ls' := [some (mI 16), some (mR 42), some (mI 10)]) (by decide) rfl (by (unfold m_32; decide)) (by decide) (by decide) rfl ?_
  refine y_goto (M := M_X11_newBounds_42) 30 dX11_newBounds_30 11 rfl ?_
  refine y_iload_n (M := M_X11_newBounds_42) 11 dX11_newBounds_11 rfl ?_
  refine y_aload_n (M := M_X11_newBounds_42) 12 dX11_newBounds_12 rfl ?_
  refine y_alen (M := M_X11_newBounds_42) 13 dX11_newBounds_13 (tk_g (by decide) o_42) (by decide) (by decide) ?_
  refine y_icmp_ge_F (M := M_X11_newBounds_42) 14 dX11_newBounds_14 33 rfl (by decide) ?_
  refine y_aload_n (M := M_X11_newBounds_42) 17 dX11_newBounds_17 rfl ?_
  refine y_iload_n (M := M_X11_newBounds_42) 18 dX11_newBounds_18 rfl ?_
  refine y_new (M := M_X11_newBounds_42) 19 dX11_newBounds_19 n_X11_232 (tk_s o_53) (tk_l (by decide)) (tk_b (by decide) (by decide) (by decide)) (fun h22 E22 => ?_)
  have f160 : h22 42 0 = ((43 : Nat) : Int) := nw_u E22 (by decide) f148
  have f161 : h22 42 1 = ((44 : Nat) : Int) := nw_u E22 (by decide) f149
  have f162 : h22 42 2 = ((45 : Nat) : Int) := nw_u E22 (by decide) f150
  have f163 : h22 42 3 = ((46 : Nat) : Int) := nw_u E22 (by decide) f151
  have f164 : h22 42 4 = ((47 : Nat) : Int) := nw_u E22 (by decide) f152
  have f165 : h22 42 5 = ((48 : Nat) : Int) := nw_u E22 (by decide) f153
  have f166 : h22 42 6 = ((49 : Nat) : Int) := nw_u E22 (by decide) f154
  have f167 : h22 42 7 = ((50 : Nat) : Int) := nw_u E22 (by decide) f155
  have f168 : h22 42 8 = ((51 : Nat) : Int) := nw_u E22 (by decide) f156
  have f169 : h22 42 9 = ((52 : Nat) : Int) := nw_u E22 (by decide) f159
  have g170 := g157.nw E22 (by decide)
  have F171 : ∀ k, k < 42 → h22 k = h0 k := frn_nw F158 E22 (by decide)
  clear f148 f149 f150 f151 f152 f153 f154 f155 f156 f159 g157 F158 E21
  have g172 : gR 53 54 h22 := gR_1 (bn_ok E22 rfl)
  have g173 := g170.join g172
  refine y_dup (M := M_X11_newBounds_42) 22 dX11_newBounds_22 rfl ?_
  refine y_callIN (M := M_X11_newBounds_42) 23 dX11_newBounds_23 t_X2_init il_X11_450 (m_rr_of rfl) xI_A (as := []) (rest := [mR 53, mI 10, mR 42]) (c_X2_init_54 h22) rfl rfl (Nat.le_of_ble_eq_true rfl) (tk_c (by decide) (by decide) (by decide) (by decide)) (fun r h23 q => ?_)
  obtain ⟨rfl, rfl⟩ := q
  refine y_aast (M := M_X11_newBounds_42) 26 dX11_newBounds_26 (Or.inl ⟨rfl, rfl⟩) (tk_g (by decide) o_42) (tk_g (by decide) o_53) cl_2 (by decide) (by decide) (fun h23 E23 => ?_)
  have f174 : h23 42 0 = ((43 : Nat) : Int) := (upN E23 (by decide)).trans f160
  have f175 : h23 42 1 = ((44 : Nat) : Int) := (upN E23 (by decide)).trans f161
  have f176 : h23 42 2 = ((45 : Nat) : Int) := (upN E23 (by decide)).trans f162
  have f177 : h23 42 3 = ((46 : Nat) : Int) := (upN E23 (by decide)).trans f163
  have f178 : h23 42 4 = ((47 : Nat) : Int) := (upN E23 (by decide)).trans f164
  have f179 : h23 42 5 = ((48 : Nat) : Int) := (upN E23 (by decide)).trans f165
  have f180 : h23 42 6 = ((49 : Nat) : Int) := (upN E23 (by decide)).trans f166
  have f181 : h23 42 7 = ((50 : Nat) : Int) := (upN E23 (by decide)).trans f167
  have f182 : h23 42 8 = ((51 : Nat) : Int) := (upN E23 (by decide)).trans f168
  have f183 : h23 42 9 = ((52 : Nat) : Int) := (upN E23 (by decide)).trans f169
  have g184 := g173.put E23 (by decide)
  have F185 : ∀ k, k < 42 → h23 k = h0 k := frn_up F171 E23 (by decide)
  clear f160 f161 f162 f163 f164 f165 f166 f167 f168 f169 g173 F171 E22 g170 g172
  have f186 : h23 42 10 = ((53 : Nat) : Int) := upE E23
  refine y_iincN (M := M_X11_newBounds_42) 27 dX11_newBounds_27 (ls' := [some (mI 16), some (mR 42), some (mI 11)]) (by decide) rfl (by (unfold m_32; decide)) (by decide) (by decide) rfl ?_
  refine y_goto (M := M_X11_newBounds_42) 30 dX11_newBounds_30 11 rfl ?_
  refine y_iload_n (M := M_X11_newBounds_42) 11 dX11_newBounds_11 rfl ?_
  refine y_aload_n (M := M_X11_newBounds_42) 12 dX11_newBounds_12 rfl ?_
  refine y_alen (M := M_X11_newBounds_42) 13 dX11_newBounds_13 (tk_g (by decide) o_42) (by decide) (by decide) ?_
  refine y_icmp_ge_F (M := M_X11_newBounds_42) 14 dX11_newBounds_14 33 rfl (by decide) ?_
  refine y_aload_n (M := M_X11_newBounds_42) 17 dX11_newBounds_17 rfl ?_
  refine y_iload_n (M := M_X11_newBounds_42) 18 dX11_newBounds_18 rfl ?_
  refine y_new (M := M_X11_newBounds_42) 19 dX11_newBounds_19 n_X11_232 (tk_s o_54) (tk_l (by decide)) (tk_b (by decide) (by decide) (by decide)) (fun h24 E24 => ?_)
  have f187 : h24 42 0 = ((43 : Nat) : Int) := nw_u E24 (by decide) f174
  have f188 : h24 42 1 = ((44 : Nat) : Int) := nw_u E24 (by decide) f175
  have f189 : h24 42 2 = ((45 : Nat) : Int) := nw_u E24 (by decide) f176
  have f190 : h24 42 3 = ((46 : Nat) : Int) := nw_u E24 (by decide) f177
  have f191 : h24 42 4 = ((47 : Nat) : Int) := nw_u E24 (by decide) f178
  have f192 : h24 42 5 = ((48 : Nat) : Int) := nw_u E24 (by decide) f179
  have f193 : h24 42 6 = ((49 : Nat) : Int) := nw_u E24 (by decide) f180
  have f194 : h24 42 7 = ((50 : Nat) : Int) := nw_u E24 (by decide) f181
  have f195 : h24 42 8 = ((51 : Nat) : Int) := nw_u E24 (by decide) f182
  have f196 : h24 42 9 = ((52 : Nat) : Int) := nw_u E24 (by decide) f183
  have f197 : h24 42 10 = ((53 : Nat) : Int) := nw_u E24 (by decide) f186
  have g198 := g184.nw E24 (by decide)
  have F199 : ∀ k, k < 42 → h24 k = h0 k := frn_nw F185 E24 (by decide)
  clear f174 f175 f176 f177 f178 f179 f180 f181 f182 f183 f186 g184 F185 E23
  have g200 : gR 54 55 h24 := gR_1 (bn_ok E24 rfl)
  have g201 := g198.join g200
  refine y_dup (M := M_X11_newBounds_42) 22 dX11_newBounds_22 rfl ?_
  refine y_callIN (M := M_X11_newBounds_42) 23 dX11_newBounds_23 t_X2_init il_X11_450 (m_rr_of rfl) xI_A (as := []) (rest := [mR 54, mI 11, mR 42]) (c_X2_init_55 h24) rfl rfl (Nat.le_of_ble_eq_true rfl) (tk_c (by decide) (by decide) (by decide) (by decide)) (fun r h25 q => ?_)
  obtain ⟨rfl, rfl⟩ := q
  refine y_aast (M := M_X11_newBounds_42) 26 dX11_newBounds_26 (Or.inl ⟨rfl, rfl⟩) (tk_g (by decide) o_42) (tk_g (by decide) o_54) cl_2 (by decide) (by decide) (fun h25 E25 => ?_)
  have f202 : h25 42 0 = ((43 : Nat) : Int) := (upN E25 (by decide)).trans f187
  have f203 : h25 42 1 = ((44 : Nat) : Int) := (upN E25 (by decide)).trans f188
  have f204 : h25 42 2 = ((45 : Nat) : Int) := (upN E25 (by decide)).trans f189
  have f205 : h25 42 3 = ((46 : Nat) : Int) := (upN E25 (by decide)).trans f190
  have f206 : h25 42 4 = ((47 : Nat) : Int) := (upN E25 (by decide)).trans f191
  have f207 : h25 42 5 = ((48 : Nat) : Int) := (upN E25 (by decide)).trans f192
  have f208 : h25 42 6 = ((49 : Nat) : Int) := (upN E25 (by decide)).trans f193
  have f209 : h25 42 7 = ((50 : Nat) : Int) := (upN E25 (by decide)).trans f194
  have f210 : h25 42 8 = ((51 : Nat) : Int) := (upN E25 (by decide)).trans f195
  have f211 : h25 42 9 = ((52 : Nat) : Int) := (upN E25 (by decide)).trans f196
  have f212 : h25 42 10 = ((53 : Nat) : Int) := (upN E25 (by decide)).trans f197
  have g213 := g201.put E25 (by decide)
  have F214 : ∀ k, k < 42 → h25 k = h0 k := frn_up F199 E25 (by decide)
  clear f187 f188 f189 f190 f191 f192 f193 f194 f195 f196 f197 g201 F199 E24 g198 g200
  have f215 : h25 42 11 = ((54 : Nat) : Int) := upE E25
  refine y_iincN (M := M_X11_newBounds_42) 27 dX11_newBounds_27 (ls' := [some (mI 16), some (mR 42), some (mI 12)]) (by decide) rfl (by (unfold m_32; decide)) (by decide) (by decide) rfl ?_
  refine y_goto (M := M_X11_newBounds_42) 30 dX11_newBounds_30 11 rfl ?_
  refine y_iload_n (M := M_X11_newBounds_42) 11 dX11_newBounds_11 rfl ?_
  refine y_aload_n (M := M_X11_newBounds_42) 12 dX11_newBounds_12 rfl ?_
  refine y_alen (M := M_X11_newBounds_42) 13 dX11_newBounds_13 (tk_g (by decide) o_42) (by decide) (by decide) ?_
  refine y_icmp_ge_F (M := M_X11_newBounds_42) 14 dX11_newBounds_14 33 rfl (by decide) ?_
  refine y_aload_n (M := M_X11_newBounds_42) 17 dX11_newBounds_17 rfl ?_
  refine y_iload_n (M := M_X11_newBounds_42) 18 dX11_newBounds_18 rfl ?_
  refine y_new (M := M_X11_newBounds_42) 19 dX11_newBounds_19 n_X11_232 (tk_s o_55) (tk_l (by decide)) (tk_b (by decide) (by decide) (by decide)) (fun h26 E26 => ?_)
  have f216 : h26 42 0 = ((43 : Nat) : Int) := nw_u E26 (by decide) f202
  have f217 : h26 42 1 = ((44 : Nat) : Int) := nw_u E26 (by decide) f203
  have f218 : h26 42 2 = ((45 : Nat) : Int) := nw_u E26 (by decide) f204
  have f219 : h26 42 3 = ((46 : Nat) : Int) := nw_u E26 (by decide) f205
  have f220 : h26 42 4 = ((47 : Nat) : Int) := nw_u E26 (by decide) f206
  have f221 : h26 42 5 = ((48 : Nat) : Int) := nw_u E26 (by decide) f207
  have f222 : h26 42 6 = ((49 : Nat) : Int) := nw_u E26 (by decide) f208
  have f223 : h26 42 7 = ((50 : Nat) : Int) := nw_u E26 (by decide) f209
  have f224 : h26 42 8 = ((51 : Nat) : Int) := nw_u E26 (by decide) f210
  have f225 : h26 42 9 = ((52 : Nat) : Int) := nw_u E26 (by decide) f211
  have f226 : h26 42 10 = ((53 : Nat) : Int) := nw_u E26 (by decide) f212
  have f227 : h26 42 11 = ((54 : Nat) : Int) := nw_u E26 (by decide) f215
  have g228 := g213.nw E26 (by decide)
  have F229 : ∀ k, k < 42 → h26 k = h0 k := frn_nw F214 E26 (by decide)
  clear f202 f203 f204 f205 f206 f207 f208 f209 f210 f211 f212 f215 g213 F214 E25
  have g230 : gR 55 56 h26 := gR_1 (bn_ok E26 rfl)
  have g231 := g228.join g230
  refine y_dup (M := M_X11_newBounds_42) 22 dX11_newBounds_22 rfl ?_
  refine y_callIN (M := M_X11_newBounds_42) 23 dX11_newBounds_23 t_X2_init il_X11_450 (m_rr_of rfl) xI_A (as := []) (rest := [mR 55, mI 12, mR 42]) (c_X2_init_56 h26) rfl rfl (Nat.le_of_ble_eq_true rfl) (tk_c (by decide) (by decide) (by decide) (by decide)) (fun r h27 q => ?_)
  obtain ⟨rfl, rfl⟩ := q
  refine y_aast (M := M_X11_newBounds_42) 26 dX11_newBounds_26 (Or.inl ⟨rfl, rfl⟩) (tk_g (by decide) o_42) (tk_g (by decide) o_55) cl_2 (by decide) (by decide) (fun h27 E27 => ?_)
  have f232 : h27 42 0 = ((43 : Nat) : Int) := (upN E27 (by decide)).trans f216
  have f233 : h27 42 1 = ((44 : Nat) : Int) := (upN E27 (by decide)).trans f217
  have f234 : h27 42 2 = ((45 : Nat) : Int) := (upN E27 (by decide)).trans f218
  have f235 : h27 42 3 = ((46 : Nat) : Int) := (upN E27 (by decide)).trans f219
  have f236 : h27 42 4 = ((47 : Nat) : Int) := (upN E27 (by decide)).trans f220
  have f237 : h27 42 5 = ((48 : Nat) : Int) := (upN E27 (by decide)).trans f221
  have f238 : h27 42 6 = ((49 : Nat) : Int) := (upN E27 (by decide)).trans f222
  have f239 : h27 42 7 = ((50 : Nat) : Int) := (upN E27 (by decide)).trans f223
  have f240 : h27 42 8 = ((51 : Nat) : Int) := (upN E27 (by decide)).trans f224
  have f241 : h27 42 9 = ((52 : Nat) : Int) := (upN E27 (by decide)).trans f225
  have f242 : h27 42 10 = ((53 : Nat) : Int) := (upN E27 (by decide)).trans f226
  have f243 : h27 42 11 = ((54 : Nat) : Int) := (upN E27 (by decide)).trans f227
  have g244 := g231.put E27 (by decide)
  have F245 : ∀ k, k < 42 → h27 k = h0 k := frn_up F229 E27 (by decide)
  clear f216 f217 f218 f219 f220 f221 f222 f223 f224 f225 f226 f227 g231 F229 E26 g228 g230
  have f246 : h27 42 12 = ((55 : Nat) : Int) := upE E27
  refine y_iincN (M := M_X11_newBounds_42) 27 dX11_newBounds_27 (ls' := [some (mI 16), some (mR 42), some (mI 13)]) (by decide) rfl (by (unfold m_32; decide)) (by decide) (by decide) rfl ?_
  refine y_goto (M := M_X11_newBounds_42) 30 dX11_newBounds_30 11 rfl ?_
  refine y_iload_n (M := M_X11_newBounds_42) 11 dX11_newBounds_11 rfl ?_
  refine y_aload_n (M := M_X11_newBounds_42) 12 dX11_newBounds_12 rfl ?_
  refine y_alen (M := M_X11_newBounds_42) 13 dX11_newBounds_13 (tk_g (by decide) o_42) (by decide) (by decide) ?_
  refine y_icmp_ge_F (M := M_X11_newBounds_42) 14 dX11_newBounds_14 33 rfl (by decide) ?_
  refine y_aload_n (M := M_X11_newBounds_42) 17 dX11_newBounds_17 rfl ?_
  refine y_iload_n (M := M_X11_newBounds_42) 18 dX11_newBounds_18 rfl ?_
  refine y_new (M := M_X11_newBounds_42) 19 dX11_newBounds_19 n_X11_232 (tk_s o_56) (tk_l (by decide)) (tk_b (by decide) (by decide) (by decide)) (fun h28 E28 => ?_)
  have f247 : h28 42 0 = ((43 : Nat) : Int) := nw_u E28 (by decide) f232
  have f248 : h28 42 1 = ((44 : Nat) : Int) := nw_u E28 (by decide) f233
  have f249 : h28 42 2 = ((45 : Nat) : Int) := nw_u E28 (by decide) f234
  have f250 : h28 42 3 = ((46 : Nat) : Int) := nw_u E28 (by decide) f235
  have f251 : h28 42 4 = ((47 : Nat) : Int) := nw_u E28 (by decide) f236
  have f252 : h28 42 5 = ((48 : Nat) : Int) := nw_u E28 (by decide) f237
  have f253 : h28 42 6 = ((49 : Nat) : Int) := nw_u E28 (by decide) f238
  have f254 : h28 42 7 = ((50 : Nat) : Int) := nw_u E28 (by decide) f239
  have f255 : h28 42 8 = ((51 : Nat) : Int) := nw_u E28 (by decide) f240
  have f256 : h28 42 9 = ((52 : Nat) : Int) := nw_u E28 (by decide) f241
  have f257 : h28 42 10 = ((53 : Nat) : Int) := nw_u E28 (by decide) f242
  have f258 : h28 42 11 = ((54 : Nat) : Int) := nw_u E28 (by decide) f243
  have f259 : h28 42 12 = ((55 : Nat) : Int) := nw_u E28 (by decide) f246
  have g260 := g244.nw E28 (by decide)
  have F261 : ∀ k, k < 42 → h28 k = h0 k := frn_nw F245 E28 (by decide)
  clear f232 f233 f234 f235 f236 f237 f238 f239 f240 f241 f242 f243 f246 g244 F245 E27
  have g262 : gR 56 57 h28 := gR_1 (bn_ok E28 rfl)
  have g263 := g260.join g262
  refine y_dup (M := M_X11_newBounds_42) 22 dX11_newBounds_22 rfl ?_
  refine y_callIN (M := M_X11_newBounds_42) 23 dX11_newBounds_23 t_X2_init il_X11_450 (m_rr_of rfl) xI_A (as := []) (rest := [mR 56, mI 13, mR 42]) (c_X2_init_57 h28) rfl rfl (Nat.le_of_ble_eq_true rfl) (tk_c (by decide) (by decide) (by decide) (by decide)) (fun r h29 q => ?_)
  obtain ⟨rfl, rfl⟩ := q
  refine y_aast (M := M_X11_newBounds_42) 26 dX11_newBounds_26 (Or.inl ⟨rfl, rfl⟩) (tk_g (by decide) o_42) (tk_g (by decide) o_56) cl_2 (by decide) (by decide) (fun h29 E29 => ?_)
  have f264 : h29 42 0 = ((43 : Nat) : Int) := (upN E29 (by decide)).trans f247
  have f265 : h29 42 1 = ((44 : Nat) : Int) := (upN E29 (by decide)).trans f248
  have f266 : h29 42 2 = ((45 : Nat) : Int) := (upN E29 (by decide)).trans f249
  have f267 : h29 42 3 = ((46 : Nat) : Int) := (upN E29 (by decide)).trans f250
  have f268 : h29 42 4 = ((47 : Nat) : Int) := (upN E29 (by decide)).trans f251
  have f269 : h29 42 5 = ((48 : Nat) : Int) := (upN E29 (by decide)).trans f252
  have f270 : h29 42 6 = ((49 : Nat) : Int) := (upN E29 (by decide)).trans f253
  have f271 : h29 42 7 = ((50 : Nat) : Int) := (upN E29 (by decide)).trans f254
  have f272 : h29 42 8 = ((51 : Nat) : Int) := (upN E29 (by decide)).trans f255
  have f273 : h29 42 9 = ((52 : Nat) : Int) := (upN E29 (by decide)).trans f256
  have f274 : h29 42 10 = ((53 : Nat) : Int) := (upN E29 (by decide)).trans f257
  have f275 : h29 42 11 = ((54 : Nat) : Int) := (upN E29 (by decide)).trans f258
  have f276 : h29 42 12 = ((55 : Nat) : Int) := (upN E29 (by decide)).trans f259
  have g277 := g263.put E29 (by decide)
  have F278 : ∀ k, k < 42 → h29 k = h0 k := frn_up F261 E29 (by decide)
  clear f247 f248 f249 f250 f251 f252 f253 f254 f255 f256 f257 f258 f259 g263 F261 E28 g260 g262
  have f279 : h29 42 13 = ((56 : Nat) : Int) := upE E29
  refine y_iincN (M := M_X11_newBounds_42) 27 dX11_newBounds_27 (ls' := [some (mI 16), some (mR 42), some (mI 14)]) (by decide) rfl (by (unfold m_32; decide)) (by decide) (by decide) rfl ?_
  refine y_goto (M := M_X11_newBounds_42) 30 dX11_newBounds_30 11 rfl ?_
  refine y_iload_n (M := M_X11_newBounds_42) 11 dX11_newBounds_11 rfl ?_
  refine y_aload_n (M := M_X11_newBounds_42) 12 dX11_newBounds_12 rfl ?_
  refine y_alen (M := M_X11_newBounds_42) 13 dX11_newBounds_13 (tk_g (by decide) o_42) (by decide) (by decide) ?_
  refine y_icmp_ge_F (M := M_X11_newBounds_42) 14 dX11_newBounds_14 33 rfl (by decide) ?_
  refine y_aload_n (M := M_X11_newBounds_42) 17 dX11_newBounds_17 rfl ?_
  refine y_iload_n (M := M_X11_newBounds_42) 18 dX11_newBounds_18 rfl ?_
  refine y_new (M := M_X11_newBounds_42) 19 dX11_newBounds_19 n_X11_232 (tk_s o_57) (tk_l (by decide)) (tk_b (by decide) (by decide) (by decide)) (fun h30 E30 => ?_)
  have f280 : h30 42 0 = ((43 : Nat) : Int) := nw_u E30 (by decide) f264
  have f281 : h30 42 1 = ((44 : Nat) : Int) := nw_u E30 (by decide) f265
  have f282 : h30 42 2 = ((45 : Nat) : Int) := nw_u E30 (by decide) f266
  have f283 : h30 42 3 = ((46 : Nat) : Int) := nw_u E30 (by decide) f267
  have f284 : h30 42 4 = ((47 : Nat) : Int) := nw_u E30 (by decide) f268
  have f285 : h30 42 5 = ((48 : Nat) : Int) := nw_u E30 (by decide) f269
  have f286 : h30 42 6 = ((49 : Nat) : Int) := nw_u E30 (by decide) f270
  have f287 : h30 42 7 = ((50 : Nat) : Int) := nw_u E30 (by decide) f271
  have f288 : h30 42 8 = ((51 : Nat) : Int) := nw_u E30 (by decide) f272
  have f289 : h30 42 9 = ((52 : Nat) : Int) := nw_u E30 (by decide) f273
  have f290 : h30 42 10 = ((53 : Nat) : Int) := nw_u E30 (by decide) f274
  have f291 : h30 42 11 = ((54 : Nat) : Int) := nw_u E30 (by decide) f275
  have f292 : h30 42 12 = ((55 : Nat) : Int) := nw_u E30 (by decide) f276
  have f293 : h30 42 13 = ((56 : Nat) : Int) := nw_u E30 (by decide) f279
  have g294 := g277.nw E30 (by decide)
  have F295 : ∀ k, k < 42 → h30 k = h0 k := frn_nw F278 E30 (by decide)
  clear f264 f265 f266 f267 f268 f269 f270 f271 f272 f273 f274 f275 f276 f279 g277 F278 E29
  have g296 : gR 57 58 h30 := gR_1 (bn_ok E30 rfl)
  have g297 := g294.join g296
  refine y_dup (M := M_X11_newBounds_42) 22 dX11_newBounds_22 rfl ?_
  refine y_callIN (M := M_X11_newBounds_42) 23 dX11_newBounds_23 t_X2_init il_X11_450 (m_rr_of rfl) xI_A (as := []) (rest := [mR 57, mI 14, mR 42]) (c_X2_init_58 h30) rfl rfl (Nat.le_of_ble_eq_true rfl) (tk_c (by decide) (by decide) (by decide) (by decide)) (fun r h31 q => ?_)
  obtain ⟨rfl, rfl⟩ := q
  refine y_aast (M := M_X11_newBounds_42) 26 dX11_newBounds_26 (Or.inl ⟨rfl, rfl⟩) (tk_g (by decide) o_42) (tk_g (by decide) o_57) cl_2 (by decide) (by decide) (fun h31 E31 => ?_)
  have f298 : h31 42 0 = ((43 : Nat) : Int) := (upN E31 (by decide)).trans f280
  have f299 : h31 42 1 = ((44 : Nat) : Int) := (upN E31 (by decide)).trans f281
  have f300 : h31 42 2 = ((45 : Nat) : Int) := (upN E31 (by decide)).trans f282
  have f301 : h31 42 3 = ((46 : Nat) : Int) := (upN E31 (by decide)).trans f283
  have f302 : h31 42 4 = ((47 : Nat) : Int) := (upN E31 (by decide)).trans f284
  have f303 : h31 42 5 = ((48 : Nat) : Int) := (upN E31 (by decide)).trans f285
  have f304 : h31 42 6 = ((49 : Nat) : Int) := (upN E31 (by decide)).trans f286
  have f305 : h31 42 7 = ((50 : Nat) : Int) := (upN E31 (by decide)).trans f287
  have f306 : h31 42 8 = ((51 : Nat) : Int) := (upN E31 (by decide)).trans f288
  have f307 : h31 42 9 = ((52 : Nat) : Int) := (upN E31 (by decide)).trans f289
  have f308 : h31 42 10 = ((53 : Nat) : Int) := (upN E31 (by decide)).trans f290
  have f309 : h31 42 11 = ((54 : Nat) : Int) := (upN E31 (by decide)).trans f291
  have f310 : h31 42 12 = ((55 : Nat) : Int) := (upN E31 (by decide)).trans f292
  have f311 : h31 42 13 = ((56 : Nat) : Int) := (upN E31 (by decide)).trans f293
  have g312 := g297.put E31 (by decide)
  have F313 : ∀ k, k < 42 → h31 k = h0 k := frn_up F295 E31 (by decide)
  clear f280 f281 f282 f283 f284 f285 f286 f287 f288 f289 f290 f291 f292 f293 g297 F295 E30 g294 g296
  have f314 : h31 42 14 = ((57 : Nat) : Int) := upE E31
  refine y_iincN (M := M_X11_newBounds_42) 27 dX11_newBounds_27 (ls' := [some (mI 16), some (mR 42), some (mI 15)]) (by decide) rfl (by (unfold m_32; decide)) (by decide) (by decide) rfl ?_
  refine y_goto (M := M_X11_newBounds_42) 30 dX11_newBounds_30 11 rfl ?_
  refine y_iload_n (M := M_X11_newBounds_42) 11 dX11_newBounds_11 rfl ?_
  refine y_aload_n (M := M_X11_newBounds_42) 12 dX11_newBounds_12 rfl ?_
  refine y_alen (M := M_X11_newBounds_42) 13 dX11_newBounds_13 (tk_g (by decide) o_42) (by decide) (by decide) ?_
  refine y_icmp_ge_F (M := M_X11_newBounds_42) 14 dX11_newBounds_14 33 rfl (by decide) ?_
  refine y_aload_n (M := M_X11_newBounds_42) 17 dX11_newBounds_17 rfl ?_
  refine y_iload_n (M := M_X11_newBounds_42) 18 dX11_newBounds_18 rfl ?_
  refine y_new (M := M_X11_newBounds_42) 19 dX11_newBounds_19 n_X11_232 (tk_s o_58) (tk_l (by decide)) (tk_b (by decide) (by decide) (by decide)) (fun h32 E32 => ?_)
  have f315 : h32 42 0 = ((43 : Nat) : Int) := nw_u E32 (by decide) f298
  have f316 : h32 42 1 = ((44 : Nat) : Int) := nw_u E32 (by decide) f299
  have f317 : h32 42 2 = ((45 : Nat) : Int) := nw_u E32 (by decide) f300
  have f318 : h32 42 3 = ((46 : Nat) : Int) := nw_u E32 (by decide) f301
  have f319 : h32 42 4 = ((47 : Nat) : Int) := nw_u E32 (by decide) f302
  have f320 : h32 42 5 = ((48 : Nat) : Int) := nw_u E32 (by decide) f303
  have f321 : h32 42 6 = ((49 : Nat) : Int) := nw_u E32 (by decide) f304
  have f322 : h32 42 7 = ((50 : Nat) : Int) := nw_u E32 (by decide) f305
  have f323 : h32 42 8 = ((51 : Nat) : Int) := nw_u E32 (by decide) f306
  have f324 : h32 42 9 = ((52 : Nat) : Int) := nw_u E32 (by decide) f307
  have f325 : h32 42 10 = ((53 : Nat) : Int) := nw_u E32 (by decide) f308
  have f326 : h32 42 11 = ((54 : Nat) : Int) := nw_u E32 (by decide) f309
  have f327 : h32 42 12 = ((55 : Nat) : Int) := nw_u E32 (by decide) f310
  have f328 : h32 42 13 = ((56 : Nat) : Int) := nw_u E32 (by decide) f311
  have f329 : h32 42 14 = ((57 : Nat) : Int) := nw_u E32 (by decide) f314
  have g330 := g312.nw E32 (by decide)
  have F331 : ∀ k, k < 42 → h32 k = h0 k := frn_nw F313 E32 (by decide)
  clear f298 f299 f300 f301 f302 f303 f304 f305 f306 f307 f308 f309 f310 f311 f314 g312 F313 E31
  have g332 : gR 58 59 h32 := gR_1 (bn_ok E32 rfl)
  have g333 := g330.join g332
  refine y_dup (M := M_X11_newBounds_42) 22 dX11_newBounds_22 rfl ?_
  refine y_callIN (M := M_X11_newBounds_42) 23 dX11_newBounds_23 t_X2_init il_X11_450 (m_rr_of rfl) xI_A (as := []) (rest := [mR 58, mI 15, mR 42]) (c_X2_init_59 h32) rfl rfl (Nat.le_of_ble_eq_true rfl) (tk_c (by decide) (by decide) (by decide) (by decide)) (fun r h33 q => ?_)
  obtain ⟨rfl, rfl⟩ := q
  refine y_aast (M := M_X11_newBounds_42) 26 dX11_newBounds_26 (Or.inl ⟨rfl, rfl⟩) (tk_g (by decide) o_42) (tk_g (by decide) o_58) cl_2 (by decide) (by decide) (fun h33 E33 => ?_)
  have f334 : h33 42 0 = ((43 : Nat) : Int) := (upN E33 (by decide)).trans f315
  have f335 : h33 42 1 = ((44 : Nat) : Int) := (upN E33 (by decide)).trans f316
  have f336 : h33 42 2 = ((45 : Nat) : Int) := (upN E33 (by decide)).trans f317
  have f337 : h33 42 3 = ((46 : Nat) : Int) := (upN E33 (by decide)).trans f318
  have f338 : h33 42 4 = ((47 : Nat) : Int) := (upN E33 (by decide)).trans f319
  have f339 : h33 42 5 = ((48 : Nat) : Int) := (upN E33 (by decide)).trans f320
  have f340 : h33 42 6 = ((49 : Nat) : Int) := (upN E33 (by decide)).trans f321
  have f341 : h33 42 7 = ((50 : Nat) : Int) := (upN E33 (by decide)).trans f322
  have f342 : h33 42 8 = ((51 : Nat) : Int) := (upN E33 (by decide)).trans f323
  have f343 : h33 42 9 = ((52 : Nat) : Int) := (upN E33 (by decide)).trans f324
  have f344 : h33 42 10 = ((53 : Nat) : Int) := (upN E33 (by decide)).trans f325
  have f345 : h33 42 11 = ((54 : Nat) : Int) := (upN E33 (by decide)).trans f326
  have f346 : h33 42 12 = ((55 : Nat) : Int) := (upN E33 (by decide)).trans f327
  have f347 : h33 42 13 = ((56 : Nat) : Int) := (upN E33 (by decide)).trans f328
  have f348 : h33 42 14 = ((57 : Nat) : Int) := (upN E33 (by decide)).trans f329
  have g349 := g333.put E33 (by decide)
  have F350 : ∀ k, k < 42 → h33 k = h0 k := frn_up F331 E33 (by decide)
  clear f315 f316 f317 f318 f319 f320 f321 f322 f323 f324 f325 f326 f327 f328 f329 g333 F331 E32 g330 g332
  have f351 : h33 42 15 = ((58 : Nat) : Int) := upE E33
  have g352 : gR 42 43 h33 := gR_1 (gC_of bt_42 (fun j hj => by have q : j = 0 ∨ j = 1 ∨ j = 2 ∨ j = 3 ∨ j = 4 ∨ j = 5 ∨ j = 6 ∨ j = 7 ∨ j = 8 ∨ j = 9 ∨ j = 10 ∨ j = 11 ∨ j = 12 ∨ j = 13 ∨ j = 14 ∨ j = 15 := (by omega); rcases q with rfl | rfl | rfl | rfl | rfl | rfl | rfl | rfl | rfl | rfl | rfl | rfl | rfl | rfl | rfl | rfl; exact f334; exact f335; exact f336; exact f337; exact f338; exact f339; exact f340; exact f341; exact f342; exact f343; exact f344; exact f345; exact f346; exact f347; exact f348; exact f351))
  have g353 := g352.join g349
  refine y_iincN (M := M_X11_newBounds_42) 27 dX11_newBounds_27 (ls' := [some (mI 16), some (mR 42), some (mI 16)]) (by decide) rfl (by (unfold m_32; decide)) (by decide) (by decide) rfl ?_
  refine y_goto (M := M_X11_newBounds_42) 30 dX11_newBounds_30 11 rfl ?_
  refine y_iload_n (M := M_X11_newBounds_42) 11 dX11_newBounds_11 rfl ?_
  refine y_aload_n (M := M_X11_newBounds_42) 12 dX11_newBounds_12 rfl ?_
  refine y_alen (M := M_X11_newBounds_42) 13 dX11_newBounds_13 (tk_g (by decide) o_42) (by decide) (by decide) ?_
  refine y_icmp_ge_T (M := M_X11_newBounds_42) 14 dX11_newBounds_14 33 rfl (by decide) ?_
  refine y_aload_n (M := M_X11_newBounds_42) 33 dX11_newBounds_33 rfl ?_
  exact y_aret (M := M_X11_newBounds_42) 34 dX11_newBounds_34 rfl ⟨rfl, rfl, g353, F350⟩
abbrev M_X2_init_61 : m_M := M_X2i 61
set_option maxHeartbeats 4000000 in
set_option maxRecDepth 100000 in
theorem c_X2_init_61 (h0 : m_H) : m_D M_X2_init_61 (oF.take 61) (oF.take 61) [mR 60] h0 (fun r h' => r = none ∧ h0 = h') := by
  refine tk_D (by decide) (by decide) (by decide) rfl (by decide) (ls := [some (mR 60)]) rfl ?_
  refine y_aload_n (M := M_X2_init_61) 0 dX2_init_0 rfl ?_
  refine y_objI (M := M_X2_init_61) 1 dX2_init_1 ol_X2 ow2 ow3 (by decide) (by decide) ?_
  exact y_vret (M := M_X2_init_61) 4 dX2_init_4 rfl ⟨rfl, rfl, rfl⟩
abbrev M_X2_init_62 : m_M := M_X2i 62
set_option maxHeartbeats 4000000 in
set_option maxRecDepth 100000 in
theorem c_X2_init_62 (h0 : m_H) : m_D M_X2_init_62 (oF.take 62) (oF.take 62) [mR 61] h0 (fun r h' => r = none ∧ h0 = h') := by
  refine tk_D (by decide) (by decide) (by decide) rfl (by decide) (ls := [some (mR 61)]) rfl ?_
  refine y_aload_n (M := M_X2_init_62) 0 dX2_init_0 rfl ?_
  refine y_objI (M := M_X2_init_62) 1 dX2_init_1 ol_X2 ow2 ow3 (by decide) (by decide) ?_
  exact y_vret (M := M_X2_init_62) 4 dX2_init_4 rfl ⟨rfl, rfl, rfl⟩
abbrev M_X2_init_63 : m_M := M_X2i 63
set_option maxHeartbeats 4000000 in
set_option maxRecDepth 100000 in
theorem c_X2_init_63 (h0 : m_H) : m_D M_X2_init_63 (oF.take 63) (oF.take 63) [mR 62] h0 (fun r h' => r = none ∧ h0 = h') := by
  refine tk_D (by decide) (by decide) (by decide) rfl (by decide) (ls := [some (mR 62)]) rfl ?_
  refine y_aload_n (M := M_X2_init_63) 0 dX2_init_0 rfl ?_
  refine y_objI (M := M_X2_init_63) 1 dX2_init_1 ol_X2 ow2 ow3 (by decide) (by decide) ?_
  exact y_vret (M := M_X2_init_63) 4 dX2_init_4 rfl ⟨rfl, rfl, rfl⟩
abbrev M_X2_init_64 : m_M := M_X2i 64
set_option maxHeartbeats 4000000 in
set_option maxRecDepth 100000 in
theorem c_X2_init_64 (h0 : m_H) : m_D M_X2_init_64 (oF.take 64) (oF.take 64) [mR 63] h0 (fun r h' => r = none ∧ h0 = h') := by
  refine tk_D (by decide) (by decide) (by decide) rfl (by decide) (ls := [some (mR 63)]) rfl ?_
  refine y_aload_n (M := M_X2_init_64) 0 dX2_init_0 rfl ?_
  refine y_objI (M := M_X2_init_64) 1 dX2_init_1 ol_X2 ow2 ow3 (by decide) (by decide) ?_
  exact y_vret (M := M_X2_init_64) 4 dX2_init_4 rfl ⟨rfl, rfl, rfl⟩
abbrev M_X2_init_65 : m_M := M_X2i 65
set_option maxHeartbeats 4000000 in
set_option maxRecDepth 100000 in
theorem c_X2_init_65 (h0 : m_H) : m_D M_X2_init_65 (oF.take 65) (oF.take 65) [mR 64] h0 (fun r h' => r = none ∧ h0 = h') := by
  refine tk_D (by decide) (by decide) (by decide) rfl (by decide) (ls := [some (mR 64)]) rfl ?_
  refine y_aload_n (M := M_X2_init_65) 0 dX2_init_0 rfl ?_
  refine y_objI (M := M_X2_init_65) 1 dX2_init_1 ol_X2 ow2 ow3 (by decide) (by decide) ?_
  exact y_vret (M := M_X2_init_65) 4 dX2_init_4 rfl ⟨rfl, rfl, rfl⟩
abbrev M_X2_init_66 : m_M := M_X2i 66
set_option maxHeartbeats 4000000 in
set_option maxRecDepth 100000 in
theorem c_X2_init_66 (h0 : m_H) : m_D M_X2_init_66 (oF.take 66) (oF.take 66) [mR 65] h0 (fun r h' => r = none ∧ h0 = h') := by
  refine tk_D (by decide) (by decide) (by decide) rfl (by decide) (ls := [some (mR 65)]) rfl ?_
  refine y_aload_n (M := M_X2_init_66) 0 dX2_init_0 rfl ?_
  refine y_objI (M := M_X2_init_66) 1 dX2_init_1 ol_X2 ow2 ow3 (by decide) (by decide) ?_
  exact y_vret (M := M_X2_init_66) 4 dX2_init_4 rfl ⟨rfl, rfl, rfl⟩
abbrev M_X2_init_67 : m_M := M_X2i 67
set_option maxHeartbeats 4000000 in
set_option maxRecDepth 100000 in
theorem c_X2_init_67 (h0 : m_H) : m_D M_X2_init_67 (oF.take 67) (oF.take 67) [mR 66] h0 (fun r h' => r = none ∧ h0 = h') := by
  refine tk_D (by decide) (by decide) (by decide) rfl (by decide) (ls := [some (mR 66)]) rfl ?_
  refine y_aload_n (M := M_X2_init_67) 0 dX2_init_0 rfl ?_
  refine y_objI (M := M_X2_init_67) 1 dX2_init_1 ol_X2 ow2 ow3 (by decide) (by decide) ?_
  exact y_vret (M := M_X2_init_67) 4 dX2_init_4 rfl ⟨rfl, rfl, rfl⟩
abbrev M_X2_init_68 : m_M := M_X2i 68
set_option maxHeartbeats 4000000 in
set_option maxRecDepth 100000 in
theorem c_X2_init_68 (h0 : m_H) : m_D M_X2_init_68 (oF.take 68) (oF.take 68) [mR 67] h0 (fun r h' => r = none ∧ h0 = h') := by
  refine tk_D (by decide) (by decide) (by decide) rfl (by decide) (ls := [some (mR 67)]) rfl ?_
  refine y_aload_n (M := M_X2_init_68) 0 dX2_init_0 rfl ?_
  refine y_objI (M := M_X2_init_68) 1 dX2_init_1 ol_X2 ow2 ow3 (by decide) (by decide) ?_
  exact y_vret (M := M_X2_init_68) 4 dX2_init_4 rfl ⟨rfl, rfl, rfl⟩
abbrev M_X2_init_69 : m_M := M_X2i 69
set_option maxHeartbeats 4000000 in
set_option maxRecDepth 100000 in
theorem c_X2_init_69 (h0 : m_H) : m_D M_X2_init_69 (oF.take 69) (oF.take 69) [mR 68] h0 (fun r h' => r = none ∧ h0 = h') := by
  refine tk_D (by decide) (by decide) (by decide) rfl (by decide) (ls := [some (mR 68)]) rfl ?_
  refine y_aload_n (M := M_X2_init_69) 0 dX2_init_0 rfl ?_
  refine y_objI (M := M_X2_init_69) 1 dX2_init_1 ol_X2 ow2 ow3 (by decide) (by decide) ?_
  exact y_vret (M := M_X2_init_69) 4 dX2_init_4 rfl ⟨rfl, rfl, rfl⟩
abbrev M_X2_init_70 : m_M := M_X2i 70
set_option maxHeartbeats 4000000 in
set_option maxRecDepth 100000 in
theorem c_X2_init_70 (h0 : m_H) : m_D M_X2_init_70 (oF.take 70) (oF.take 70) [mR 69] h0 (fun r h' => r = none ∧ h0 = h') := by
  refine tk_D (by decide) (by decide) (by decide) rfl (by decide) (ls := [some (mR 69)]) rfl ?_
  refine y_aload_n (M := M_X2_init_70) 0 dX2_init_0 rfl ?_
  refine y_objI (M := M_X2_init_70) 1 dX2_init_1 ol_X2 ow2 ow3 (by decide) (by decide) ?_
  exact y_vret (M := M_X2_init_70) 4 dX2_init_4 rfl ⟨rfl, rfl, rfl⟩
abbrev M_X2_init_71 : m_M := M_X2i 71
set_option maxHeartbeats 4000000 in
set_option maxRecDepth 100000 in
theorem c_X2_init_71 (h0 : m_H) : m_D M_X2_init_71 (oF.take 71) (oF.take 71) [mR 70] h0 (fun r h' => r = none ∧ h0 = h') := by
  refine tk_D (by decide) (by decide) (by decide) rfl (by decide) (ls := [some (mR 70)]) rfl ?_
  refine y_aload_n (M := M_X2_init_71) 0 dX2_init_0 rfl ?_
  refine y_objI (M := M_X2_init_71) 1 dX2_init_1 ol_X2 ow2 ow3 (by decide) (by decide) ?_
  exact y_vret (M := M_X2_init_71) 4 dX2_init_4 rfl ⟨rfl, rfl, rfl⟩
abbrev M_X2_init_72 : m_M := M_X2i 72
set_option maxHeartbeats 4000000 in
set_option maxRecDepth 100000 in
theorem c_X2_init_72 (h0 : m_H) : m_D M_X2_init_72 (oF.take 72) (oF.take 72) [mR 71] h0 (fun r h' => r = none ∧ h0 = h') := by
  refine tk_D (by decide) (by decide) (by decide) rfl (by decide) (ls := [some (mR 71)]) rfl ?_
  refine y_aload_n (M := M_X2_init_72) 0 dX2_init_0 rfl ?_
  refine y_objI (M := M_X2_init_72) 1 dX2_init_1 ol_X2 ow2 ow3 (by decide) (by decide) ?_
  exact y_vret (M := M_X2_init_72) 4 dX2_init_4 rfl ⟨rfl, rfl, rfl⟩
abbrev M_X2_init_73 : m_M := M_X2i 73
set_option maxHeartbeats 4000000 in
set_option maxRecDepth 100000 in
theorem c_X2_init_73 (h0 : m_H) : m_D M_X2_init_73 (oF.take 73) (oF.take 73) [mR 72] h0 (fun r h' => r = none ∧ h0 = h') := by
  refine tk_D (by decide) (by decide) (by decide) rfl (by decide) (ls := [some (mR 72)]) rfl ?_
  refine y_aload_n (M := M_X2_init_73) 0 dX2_init_0 rfl ?_
  refine y_objI (M := M_X2_init_73) 1 dX2_init_1 ol_X2 ow2 ow3 (by decide) (by decide) ?_
  exact y_vret (M := M_X2_init_73) 4 dX2_init_4 rfl ⟨rfl, rfl, rfl⟩
abbrev M_X2_init_74 : m_M := M_X2i 74
set_option maxHeartbeats 4000000 in
set_option maxRecDepth 100000 in
theorem c_X2_init_74 (h0 : m_H) : m_D M_X2_init_74 (oF.take 74) (oF.take 74) [mR 73] h0 (fun r h' => r = none ∧ h0 = h') := by
  refine tk_D (by decide) (by decide) (by decide) rfl (by decide) (ls := [some (mR 73)]) rfl ?_
  refine y_aload_n (M := M_X2_init_74) 0 dX2_init_0 rfl ?_
  refine y_objI (M := M_X2_init_74) 1 dX2_init_1 ol_X2 ow2 ow3 (by decide) (by decide) ?_
  exact y_vret (M := M_X2_init_74) 4 dX2_init_4 rfl ⟨rfl, rfl, rfl⟩
abbrev M_X2_init_75 : m_M := M_X2i 75
set_option maxHeartbeats 4000000 in
set_option maxRecDepth 100000 in
theorem c_X2_init_75 (h0 : m_H) : m_D M_X2_init_75 (oF.take 75) (oF.take 75) [mR 74] h0 (fun r h' => r = none ∧ h0 = h') := by
  refine tk_D (by decide) (by decide) (by decide) rfl (by decide) (ls := [some (mR 74)]) rfl ?_
  refine y_aload_n (M := M_X2_init_75) 0 dX2_init_0 rfl ?_
  refine y_objI (M := M_X2_init_75) 1 dX2_init_1 ol_X2 ow2 ow3 (by decide) (by decide) ?_
  exact y_vret (M := M_X2_init_75) 4 dX2_init_4 rfl ⟨rfl, rfl, rfl⟩
abbrev M_X2_init_76 : m_M := M_X2i 76
set_option maxHeartbeats 4000000 in
set_option maxRecDepth 100000 in
theorem c_X2_init_76 (h0 : m_H) : m_D M_X2_init_76 (oF.take 76) (oF.take 76) [mR 75] h0 (fun r h' => r = none ∧ h0 = h') := by
  refine tk_D (by decide) (by decide) (by decide) rfl (by decide) (ls := [some (mR 75)]) rfl ?_
  refine y_aload_n (M := M_X2_init_76) 0 dX2_init_0 rfl ?_
  refine y_objI (M := M_X2_init_76) 1 dX2_init_1 ol_X2 ow2 ow3 (by decide) (by decide) ?_
  exact y_vret (M := M_X2_init_76) 4 dX2_init_4 rfl ⟨rfl, rfl, rfl⟩
abbrev M_X11_newBounds_59 : m_M := mkM RX11 yX11_newBounds cX11_newBounds 3 2 40 59 76 (some (.array (.object "WeekFoot$Bound")))
set_option maxHeartbeats 4000000 in
set_option maxRecDepth 100000 in
theorem c_X11_newBounds_59 (h0 : m_H) : m_D M_X11_newBounds_59 (oF.take 59) (oF.take 76) [mI 16] h0 (fun r h' => r = some (mR 59) ∧ gR 59 76 h' ∧ (∀ k, k < 59 → h' k = h0 k)) := by
  refine tk_D (by decide) (by decide) (by decide) rfl (by decide) (ls := [some (mI 16), none, none]) rfl ?_
  refine y_iconst (M := M_X11_newBounds_59) 0 dX11_newBounds_0 ?_
  refine y_iload_n (M := M_X11_newBounds_59) 1 dX11_newBounds_1 rfl ?_
  refine y_maxI (M := M_X11_newBounds_59) 2 dX11_newBounds_2 ml_X11_447 (rest := []) (by decide) (by decide) ?_
  show m_Y _ _ _ _ _ [mI 16] _ _
  refine y_newq (M := M_X11_newBounds_59) 5 dX11_newBounds_5 cl_X11_232 (N := 16) (t := 3) (by decide) (Or.inl ⟨rfl, rfl⟩) (fun E m t q => (xI_A E m t q).1) (tk_s o_59) (tk_l (by decide)) (tk_b (by decide) (by decide) (by decide)) (fun h1 E1 => ?_)
  have F1 : ∀ k, k < 59 → h1 k = h0 k := frn_nw (fun k _ => rfl) E1 (by decide)
  refine y_astore_n (M := M_X11_newBounds_59) 8 dX11_newBounds_8 (ls' := [some (mI 16), some (mR 59), none]) (by decide) rfl ?_
  refine y_iconst (M := M_X11_newBounds_59) 9 dX11_newBounds_9 ?_
  refine y_istore_n (M := M_X11_newBounds_59) 10 dX11_newBounds_10 (ls' := [some (mI 16), some (mR 59), some (mI 0)]) (by decide) rfl ?_
  refine y_iload_n (M := M_X11_newBounds_59) 11 dX11_newBounds_11 rfl ?_
  refine y_aload_n (M := M_X11_newBounds_59) 12 dX11_newBounds_12 rfl ?_
  refine y_alen (M := M_X11_newBounds_59) 13 dX11_newBounds_13 (tk_g (by decide) o_59) (by decide) (by decide) ?_
  refine y_icmp_ge_F (M := M_X11_newBounds_59) 14 dX11_newBounds_14 33 rfl (by decide) ?_
  refine y_aload_n (M := M_X11_newBounds_59) 17 dX11_newBounds_17 rfl ?_
  refine y_iload_n (M := M_X11_newBounds_59) 18 dX11_newBounds_18 rfl ?_
  refine y_new (M := M_X11_newBounds_59) 19 dX11_newBounds_19 n_X11_232 (tk_s o_60) (tk_l (by decide)) (tk_b (by decide) (by decide) (by decide)) (fun h2 E2 => ?_)
  have F2 : ∀ k, k < 59 → h2 k = h0 k := frn_nw F1 E2 (by decide)
  clear F1 E1
  have g3 : gR 60 61 h2 := gR_1 (bn_ok E2 rfl)
  refine y_dup (M := M_X11_newBounds_59) 22 dX11_newBounds_22 rfl ?_
  refine y_callIN (M := M_X11_newBounds_59) 23 dX11_newBounds_23 t_X2_init il_X11_450 (m_rr_of rfl) xI_A (as := []) (rest := [mR 60, mI 0, mR 59]) (c_X2_init_61 h2) rfl rfl (Nat.le_of_ble_eq_true rfl) (tk_c (by decide) (by decide) (by decide) (by decide)) (fun r h3 q => ?_)
  obtain ⟨rfl, rfl⟩ := q
  refine y_aast (M := M_X11_newBounds_59) 26 dX11_newBounds_26 (Or.inl ⟨rfl, rfl⟩) (tk_g (by decide) o_59) (tk_g (by decide) o_60) cl_2 (by decide) (by decide) (fun h3 E3 => ?_)
  have g4 := g3.put E3 (by decide)
  have F5 : ∀ k, k < 59 → h3 k = h0 k := frn_up F2 E3 (by decide)
  clear g3 F2 E2
  have f6 : h3 59 0 = ((60 : Nat) : Int) := upE E3
  refine y_iincN (M := M_X11_newBounds_59) 27 dX11_newBounds_27 (ls' := [some (mI 16), some (mR 59), some (mI 1)]) (by decide) rfl (by (unfold m_32; decide)) (by decide) (by decide) rfl ?_
  refine y_goto (M := M_X11_newBounds_59) 30 dX11_newBounds_30 11 rfl ?_
  refine y_iload_n (M := M_X11_newBounds_59) 11 dX11_newBounds_11 rfl ?_
  refine y_aload_n (M := M_X11_newBounds_59) 12 dX11_newBounds_12 rfl ?_
  refine y_alen (M := M_X11_newBounds_59) 13 dX11_newBounds_13 (tk_g (by decide) o_59) (by decide) (by decide) ?_
  refine y_icmp_ge_F (M := M_X11_newBounds_59) 14 dX11_newBounds_14 33 rfl (by decide) ?_
  refine y_aload_n (M := M_X11_newBounds_59) 17 dX11_newBounds_17 rfl ?_
  refine y_iload_n (M := M_X11_newBounds_59) 18 dX11_newBounds_18 rfl ?_
  refine y_new (M := M_X11_newBounds_59) 19 dX11_newBounds_19 n_X11_232 (tk_s o_61) (tk_l (by decide)) (tk_b (by decide) (by decide) (by decide)) (fun h4 E4 => ?_)
  have f7 : h4 59 0 = ((60 : Nat) : Int) := nw_u E4 (by decide) f6
  have g8 := g4.nw E4 (by decide)
  have F9 : ∀ k, k < 59 → h4 k = h0 k := frn_nw F5 E4 (by decide)
  clear f6 g4 F5 E3
  have g10 : gR 61 62 h4 := gR_1 (bn_ok E4 rfl)
  have g11 := g8.join g10
  refine y_dup (M := M_X11_newBounds_59) 22 dX11_newBounds_22 rfl ?_
  refine y_callIN (M := M_X11_newBounds_59) 23 dX11_newBounds_23 t_X2_init il_X11_450 (m_rr_of rfl) xI_A (as := []) (rest := [mR 61, mI 1, mR 59]) (c_X2_init_62 h4) rfl rfl (Nat.le_of_ble_eq_true rfl) (tk_c (by decide) (by decide) (by decide) (by decide)) (fun r h5 q => ?_)
  obtain ⟨rfl, rfl⟩ := q
  refine y_aast (M := M_X11_newBounds_59) 26 dX11_newBounds_26 (Or.inl ⟨rfl, rfl⟩) (tk_g (by decide) o_59) (tk_g (by decide) o_61) cl_2 (by decide) (by decide) (fun h5 E5 => ?_)
  have f12 : h5 59 0 = ((60 : Nat) : Int) := (upN E5 (by decide)).trans f7
  have g13 := g11.put E5 (by decide)
  have F14 : ∀ k, k < 59 → h5 k = h0 k := frn_up F9 E5 (by decide)
  clear f7 g11 F9 E4 g8 g10
  have f15 : h5 59 1 = ((61 : Nat) : Int) := upE E5
  refine y_iincN (M := M_X11_newBounds_59) 27 dX11_newBounds_27 (ls' := [some (mI 16), some (mR 59), some (mI 2)]) (by decide) rfl (by (unfold m_32; decide)) (by decide) (by decide) rfl ?_
  refine y_goto (M := M_X11_newBounds_59) 30 dX11_newBounds_30 11 rfl ?_
  refine y_iload_n (M := M_X11_newBounds_59) 11 dX11_newBounds_11 rfl ?_
  refine y_aload_n (M := M_X11_newBounds_59) 12 dX11_newBounds_12 rfl ?_
  refine y_alen (M := M_X11_newBounds_59) 13 dX11_newBounds_13 (tk_g (by decide) o_59) (by decide) (by decide) ?_
  refine y_icmp_ge_F (M := M_X11_newBounds_59) 14 dX11_newBounds_14 33 rfl (by decide) ?_
  refine y_aload_n (M := M_X11_newBounds_59) 17 dX11_newBounds_17 rfl ?_
  refine y_iload_n (M := M_X11_newBounds_59) 18 dX11_newBounds_18 rfl ?_
  refine y_new (M := M_X11_newBounds_59) 19 dX11_newBounds_19 n_X11_232 (tk_s o_62) (tk_l (by decide)) (tk_b (by decide) (by decide) (by decide)) (fun h6 E6 => ?_)
  have f16 : h6 59 0 = ((60 : Nat) : Int) := nw_u E6 (by decide) f12
  have f17 : h6 59 1 = ((61 : Nat) : Int) := nw_u E6 (by decide) f15
  have g18 := g13.nw E6 (by decide)
  have F19 : ∀ k, k < 59 → h6 k = h0 k := frn_nw F14 E6 (by decide)
  clear f12 f15 g13 F14 E5
  have g20 : gR 62 63 h6 := gR_1 (bn_ok E6 rfl)
  have g21 := g18.join g20
  refine y_dup (M := M_X11_newBounds_59) 22 dX11_newBounds_22 rfl ?_
  refine y_callIN (M := M_X11_newBounds_59) 23 dX11_newBounds_23 t_X2_init il_X11_450 (m_rr_of rfl) xI_A (as := []) (rest := [mR 62, mI 2, mR 59]) (c_X2_init_63 h6) rfl rfl (Nat.le_of_ble_eq_true rfl) (tk_c (by decide) (by decide) (by decide) (by decide)) (fun r h7 q => ?_)
  obtain ⟨rfl, rfl⟩ := q
  refine y_aast (M := M_X11_newBounds_59) 26 dX11_newBounds_26 (Or.inl ⟨rfl, rfl⟩) (tk_g (by decide) o_59) (tk_g (by decide) o_62) cl_2 (by decide) (by decide) (fun h7 E7 => ?_)
  have f22 : h7 59 0 = ((60 : Nat) : Int) := (upN E7 (by decide)).trans f16
  have f23 : h7 59 1 = ((61 : Nat) : Int) := (upN E7 (by decide)).trans f17
  have g24 := g21.put E7 (by decide)
  have F25 : ∀ k, k < 59 → h7 k = h0 k := frn_up F19 E7 (by decide)
  clear f16 f17 g21 F19 E6 g18 g20
  have f26 : h7 59 2 = ((62 : Nat) : Int) := upE E7
  refine y_iincN (M := M_X11_newBounds_59) 27 dX11_newBounds_27 (ls' := [some (mI 16), some (mR 59), some (mI 3)]) (by decide) rfl (by (unfold m_32; decide)) (by decide) (by decide) rfl ?_
  refine y_goto (M := M_X11_newBounds_59) 30 dX11_newBounds_30 11 rfl ?_
  refine y_iload_n (M := M_X11_newBounds_59) 11 dX11_newBounds_11 rfl ?_
  refine y_aload_n (M := M_X11_newBounds_59) 12 dX11_newBounds_12 rfl ?_
  refine y_alen (M := M_X11_newBounds_59) 13 dX11_newBounds_13 (tk_g (by decide) o_59) (by decide) (by decide) ?_
  refine y_icmp_ge_F (M := M_X11_newBounds_59) 14 dX11_newBounds_14 33 rfl (by decide) ?_
  refine y_aload_n (M := M_X11_newBounds_59) 17 dX11_newBounds_17 rfl ?_
  refine y_iload_n (M := M_X11_newBounds_59) 18 dX11_newBounds_18 rfl ?_
  refine y_new (M := M_X11_newBounds_59) 19 dX11_newBounds_19 n_X11_232 (tk_s o_63) (tk_l (by decide)) (tk_b (by decide) (by decide) (by decide)) (fun h8 E8 => ?_)
  have f27 : h8 59 0 = ((60 : Nat) : Int) := nw_u E8 (by decide) f22
  have f28 : h8 59 1 = ((61 : Nat) : Int) := nw_u E8 (by decide) f23
  have f29 : h8 59 2 = ((62 : Nat) : Int) := nw_u E8 (by decide) f26
  have g30 := g24.nw E8 (by decide)
  have F31 : ∀ k, k < 59 → h8 k = h0 k := frn_nw F25 E8 (by decide)
  clear f22 f23 f26 g24 F25 E7
  have g32 : gR 63 64 h8 := gR_1 (bn_ok E8 rfl)
  have g33 := g30.join g32
  refine y_dup (M := M_X11_newBounds_59) 22 dX11_newBounds_22 rfl ?_
  refine y_callIN (M := M_X11_newBounds_59) 23 dX11_newBounds_23 t_X2_init il_X11_450 (m_rr_of rfl) xI_A (as := []) (rest := [mR 63, mI 3, mR 59]) (c_X2_init_64 h8) rfl rfl (Nat.le_of_ble_eq_true rfl) (tk_c (by decide) (by decide) (by decide) (by decide)) (fun r h9 q => ?_)
  obtain ⟨rfl, rfl⟩ := q
  refine y_aast (M := M_X11_newBounds_59) 26 dX11_newBounds_26 (Or.inl ⟨rfl, rfl⟩) (tk_g (by decide) o_59) (tk_g (by decide) o_63) cl_2 (by decide) (by decide) (fun h9 E9 => ?_)
  have f34 : h9 59 0 = ((60 : Nat) : Int) := (upN E9 (by decide)).trans f27
  have f35 : h9 59 1 = ((61 : Nat) : Int) := (upN E9 (by decide)).trans f28
  have f36 : h9 59 2 = ((62 : Nat) : Int) := (upN E9 (by decide)).trans f29
  have g37 := g33.put E9 (by decide)
  have F38 : ∀ k, k < 59 → h9 k = h0 k := frn_up F31 E9 (by decide)
  clear f27 f28 f29 g33 F31 E8 g30 g32
  have f39 : h9 59 3 = ((63 : Nat) : Int) := upE E9
  refine y_iincN (M := M_X11_newBounds_59) 27 dX11_newBounds_27 (ls' := [some (mI 16), some (mR 59), some (mI 4)]) (by decide) rfl (by (unfold m_32; decide)) (by decide) (by decide) rfl ?_
  refine y_goto (M := M_X11_newBounds_59) 30 dX11_newBounds_30 11 rfl ?_
  refine y_iload_n (M := M_X11_newBounds_59) 11 dX11_newBounds_11 rfl ?_
  refine y_aload_n (M := M_X11_newBounds_59) 12 dX11_newBounds_12 rfl ?_
  refine y_alen (M := M_X11_newBounds_59) 13 dX11_newBounds_13 (tk_g (by decide) o_59) (by decide) (by decide) ?_
  refine y_icmp_ge_F (M := M_X11_newBounds_59) 14 dX11_newBounds_14 33 rfl (by decide) ?_
  refine y_aload_n (M := M_X11_newBounds_59) 17 dX11_newBounds_17 rfl ?_
  refine y_iload_n (M := M_X11_newBounds_59) 18 dX11_newBounds_18 rfl ?_
  refine y_new (M := M_X11_newBounds_59) 19 dX11_newBounds_19 n_X11_232 (tk_s o_64) (tk_l (by decide)) (tk_b (by decide) (by decide) (by decide)) (fun h10 E10 => ?_)
  have f40 : h10 59 0 = ((60 : Nat) : Int) := nw_u E10 (by decide) f34
  have f41 : h10 59 1 = ((61 : Nat) : Int) := nw_u E10 (by decide) f35
  have f42 : h10 59 2 = ((62 : Nat) : Int) := nw_u E10 (by decide) f36
  have f43 : h10 59 3 = ((63 : Nat) : Int) := nw_u E10 (by decide) f39
  have g44 := g37.nw E10 (by decide)
  have F45 : ∀ k, k < 59 → h10 k = h0 k := frn_nw F38 E10 (by decide)
  clear f34 f35 f36 f39 g37 F38 E9
  have g46 : gR 64 65 h10 := gR_1 (bn_ok E10 rfl)
  have g47 := g44.join g46
  refine y_dup (M := M_X11_newBounds_59) 22 dX11_newBounds_22 rfl ?_
  refine y_callIN (M := M_X11_newBounds_59) 23 dX11_newBounds_23 t_X2_init il_X11_450 (m_rr_of rfl) xI_A (as := []) (rest := [mR 64, mI 4, mR 59]) (c_X2_init_65 h10) rfl rfl (Nat.le_of_ble_eq_true rfl) (tk_c (by decide) (by decide) (by decide) (by decide)) (fun r h11 q => ?_)
  obtain ⟨rfl, rfl⟩ := q
  refine y_aast (M := M_X11_newBounds_59) 26 dX11_newBounds_26 (Or.inl ⟨rfl, rfl⟩) (tk_g (by decide) o_59) (tk_g (by decide) o_64) cl_2 (by decide) (by decide) (fun h11 E11 => ?_)
  have f48 : h11 59 0 = ((60 : Nat) : Int) := (upN E11 (by decide)).trans f40
  have f49 : h11 59 1 = ((61 : Nat) : Int) := (upN E11 (by decide)).trans f41
  have f50 : h11 59 2 = ((62 : Nat) : Int) := (upN E11 (by decide)).trans f42
  have f51 : h11 59 3 = ((63 : Nat) : Int) := (upN E11 (by decide)).trans f43
  have g52 := g47.put E11 (by decide)
  have F53 : ∀ k, k < 59 → h11 k = h0 k := frn_up F45 E11 (by decide)
  clear f40 f41 f42 f43 g47 F45 E10 g44 g46
  have f54 : h11 59 4 = ((64 : Nat) : Int) := upE E11
  refine y_iincN (M := M_X11_newBounds_59) 27 dX11_newBounds_27 (ls' := [some (mI 16), some (mR 59), some (mI 5)]) (by decide) rfl (by (unfold m_32; decide)) (by decide) (by decide) rfl ?_
  refine y_goto (M := M_X11_newBounds_59) 30 dX11_newBounds_30 11 rfl ?_
  refine y_iload_n (M := M_X11_newBounds_59) 11 dX11_newBounds_11 rfl ?_
  refine y_aload_n (M := M_X11_newBounds_59) 12 dX11_newBounds_12 rfl ?_
  refine y_alen (M := M_X11_newBounds_59) 13 dX11_newBounds_13 (tk_g (by decide) o_59) (by decide) (by decide) ?_
  refine y_icmp_ge_F (M := M_X11_newBounds_59) 14 dX11_newBounds_14 33 rfl (by decide) ?_
  refine y_aload_n (M := M_X11_newBounds_59) 17 dX11_newBounds_17 rfl ?_
  refine y_iload_n (M := M_X11_newBounds_59) 18 dX11_newBounds_18 rfl ?_
  refine y_new (M := M_X11_newBounds_59) 19 dX11_newBounds_19 n_X11_232 (tk_s o_65) (tk_l (by decide)) (tk_b (by decide) (by decide) (by decide)) (fun h12 E12 => ?_)
  have f55 : h12 59 0 = ((60 : Nat) : Int) := nw_u E12 (by decide) f48
  have f56 : h12 59 1 = ((61 : Nat) : Int) := nw_u E12 (by decide) f49
  have f57 : h12 59 2 = ((62 : Nat) : Int) := nw_u E12 (by decide) f50
  have f58 : h12 59 3 = ((63 : Nat) : Int) := nw_u E12 (by decide) f51
  have f59 : h12 59 4 = ((64 : Nat) : Int) := nw_u E12 (by decide) f54
  have g60 := g52.nw E12 (by decide)
  have F61 : ∀ k, k < 59 → h12 k = h0 k := frn_nw F53 E12 (by decide)
  clear f48 f49 f50 f51 f54 g52 F53 E11
  have g62 : gR 65 66 h12 := gR_1 (bn_ok E12 rfl)
  have g63 := g60.join g62
  refine y_dup (M := M_X11_newBounds_59) 22 dX11_newBounds_22 rfl ?_
  refine y_callIN (M := M_X11_newBounds_59) 23 dX11_newBounds_23 t_X2_init il_X11_450 (m_rr_of rfl) xI_A (as := []) (rest := [mR 65, mI 5, mR 59]) (c_X2_init_66 h12) rfl rfl (Nat.le_of_ble_eq_true rfl) (tk_c (by decide) (by decide) (by decide) (by decide)) (fun r h13 q => ?_)
  obtain ⟨rfl, rfl⟩ := q
  refine y_aast (M := M_X11_newBounds_59) 26 dX11_newBounds_26 (Or.inl ⟨rfl, rfl⟩) (tk_g (by decide) o_59) (tk_g (by decide) o_65) cl_2 (by decide) (by decide) (fun h13 E13 => ?_)
  have f64 : h13 59 0 = ((60 : Nat) : Int) := (upN E13 (by decide)).trans f55
  have f65 : h13 59 1 = ((61 : Nat) : Int) := (upN E13 (by decide)).trans f56
  have f66 : h13 59 2 = ((62 : Nat) : Int) := (upN E13 (by decide)).trans f57
  have f67 : h13 59 3 = ((63 : Nat) : Int) := (upN E13 (by decide)).trans f58
  have f68 : h13 59 4 = ((64 : Nat) : Int) := (upN E13 (by decide)).trans f59
  have g69 := g63.put E13 (by decide)
  have F70 : ∀ k, k < 59 → h13 k = h0 k := frn_up F61 E13 (by decide)
  clear f55 f56 f57 f58 f59 g63 F61 E12 g60 g62
  have f71 : h13 59 5 = ((65 : Nat) : Int) := upE E13
  refine y_iincN (M := M_X11_newBounds_59) 27 dX11_newBounds_27 (ls' := [some (mI 16), some (mR 59), some (mI 6)]) (by decide) rfl (by (unfold m_32; decide)) (by decide) (by decide) rfl ?_
  refine y_goto (M := M_X11_newBounds_59) 30 dX11_newBounds_30 11 rfl ?_
  refine y_iload_n (M := M_X11_newBounds_59) 11 dX11_newBounds_11 rfl ?_
  refine y_aload_n (M := M_X11_newBounds_59) 12 dX11_newBounds_12 rfl ?_
  refine y_alen (M := M_X11_newBounds_59) 13 dX11_newBounds_13 (tk_g (by decide) o_59) (by decide) (by decide) ?_
  refine y_icmp_ge_F (M := M_X11_newBounds_59) 14 dX11_newBounds_14 33 rfl (by decide) ?_
  refine y_aload_n (M := M_X11_newBounds_59) 17 dX11_newBounds_17 rfl ?_
  refine y_iload_n (M := M_X11_newBounds_59) 18 dX11_newBounds_18 rfl ?_
  refine y_new (M := M_X11_newBounds_59) 19 dX11_newBounds_19 n_X11_232 (tk_s o_66) (tk_l (by decide)) (tk_b (by decide) (by decide) (by decide)) (fun h14 E14 => ?_)
  have f72 : h14 59 0 = ((60 : Nat) : Int) := nw_u E14 (by decide) f64
  have f73 : h14 59 1 = ((61 : Nat) : Int) := nw_u E14 (by decide) f65
  have f74 : h14 59 2 = ((62 : Nat) : Int) := nw_u E14 (by decide) f66
  have f75 : h14 59 3 = ((63 : Nat) : Int) := nw_u E14 (by decide) f67
  have f76 : h14 59 4 = ((64 : Nat) : Int) := nw_u E14 (by decide) f68
  have f77 : h14 59 5 = ((65 : Nat) : Int) := nw_u E14 (by decide) f71
  have g78 := g69.nw E14 (by decide)
  have F79 : ∀ k, k < 59 → h14 k = h0 k := frn_nw F70 E14 (by decide)
  clear f64 f65 f66 f67 f68 f71 g69 F70 E13
  have g80 : gR 66 67 h14 := gR_1 (bn_ok E14 rfl)
  have g81 := g78.join g80
  refine y_dup (M := M_X11_newBounds_59) 22 dX11_newBounds_22 rfl ?_
  refine y_callIN (M := M_X11_newBounds_59) 23 dX11_newBounds_23 t_X2_init il_X11_450 (m_rr_of rfl) xI_A (as := []) (rest := [mR 66, mI 6, mR 59]) (c_X2_init_67 h14) rfl rfl (Nat.le_of_ble_eq_true rfl) (tk_c (by decide) (by decide) (by decide) (by decide)) (fun r h15 q => ?_)
  obtain ⟨rfl, rfl⟩ := q
  refine y_aast (M := M_X11_newBounds_59) 26 dX11_newBounds_26 (Or.inl ⟨rfl, rfl⟩) (tk_g (by decide) o_59) (tk_g (by decide) o_66) cl_2 (by decide) (by decide) (fun h15 E15 => ?_)
  have f82 : h15 59 0 = ((60 : Nat) : Int) := (upN E15 (by decide)).trans f72
  have f83 : h15 59 1 = ((61 : Nat) : Int) := (upN E15 (by decide)).trans f73
  have f84 : h15 59 2 = ((62 : Nat) : Int) := (upN E15 (by decide)).trans f74
  have f85 : h15 59 3 = ((63 : Nat) : Int) := (upN E15 (by decide)).trans f75
  have f86 : h15 59 4 = ((64 : Nat) : Int) := (upN E15 (by decide)).trans f76
  have f87 : h15 59 5 = ((65 : Nat) : Int) := (upN E15 (by decide)).trans f77
  have g88 := g81.put E15 (by decide)
  have F89 : ∀ k, k < 59 → h15 k = h0 k := frn_up F79 E15 (by decide)
  clear f72 f73 f74 f75 f76 f77 g81 F79 E14 g78 g80
  have f90 : h15 59 6 = ((66 : Nat) : Int) := upE E15
  refine y_iincN (M := M_X11_newBounds_59) 27 dX11_newBounds_27 (ls' := [some (mI 16), some (mR 59), some (mI 7)]) (by decide) rfl (by (unfold m_32; decide)) (by decide) (by decide) rfl ?_
  refine y_goto (M := M_X11_newBounds_59) 30 dX11_newBounds_30 11 rfl ?_
  refine y_iload_n (M := M_X11_newBounds_59) 11 dX11_newBounds_11 rfl ?_
  refine y_aload_n (M := M_X11_newBounds_59) 12 dX11_newBounds_12 rfl ?_
  refine y_alen (M := M_X11_newBounds_59) 13 dX11_newBounds_13 (tk_g (by decide) o_59) (by decide) (by decide) ?_
  refine y_icmp_ge_F (M := M_X11_newBounds_59) 14 dX11_newBounds_14 33 rfl (by decide) ?_
  refine y_aload_n (M := M_X11_newBounds_59) 17 dX11_newBounds_17 rfl ?_
  refine y_iload_n (M := M_X11_newBounds_59) 18 dX11_newBounds_18 rfl ?_
  refine y_new (M := M_X11_newBounds_59) 19 dX11_newBounds_19 n_X11_232 (tk_s o_67) (tk_l (by decide)) (tk_b (by decide) (by decide) (by decide)) (fun h16 E16 => ?_)
  have f91 : h16 59 0 = ((60 : Nat) : Int) := nw_u E16 (by decide) f82
  have f92 : h16 59 1 = ((61 : Nat) : Int) := nw_u E16 (by decide) f83
  have f93 : h16 59 2 = ((62 : Nat) : Int) := nw_u E16 (by decide) f84
  have f94 : h16 59 3 = ((63 : Nat) : Int) := nw_u E16 (by decide) f85
  have f95 : h16 59 4 = ((64 : Nat) : Int) := nw_u E16 (by decide) f86
  have f96 : h16 59 5 = ((65 : Nat) : Int) := nw_u E16 (by decide) f87
  have f97 : h16 59 6 = ((66 : Nat) : Int) := nw_u E16 (by decide) f90
  have g98 := g88.nw E16 (by decide)
  have F99 : ∀ k, k < 59 → h16 k = h0 k := frn_nw F89 E16 (by decide)
  clear f82 f83 f84 f85 f86 f87 f90 g88 F89 E15
  have g100 : gR 67 68 h16 := gR_1 (bn_ok E16 rfl)
  have g101 := g98.join g100
  refine y_dup (M := M_X11_newBounds_59) 22 dX11_newBounds_22 rfl ?_
  refine y_callIN (M := M_X11_newBounds_59) 23 dX11_newBounds_23 t_X2_init il_X11_450 (m_rr_of rfl) xI_A (as := []) (rest := [mR 67, mI 7, mR 59]) (c_X2_init_68 h16) rfl rfl (Nat.le_of_ble_eq_true rfl) (tk_c (by decide) (by decide) (by decide) (by decide)) (fun r h17 q => ?_)
  obtain ⟨rfl, rfl⟩ := q
  refine y_aast (M := M_X11_newBounds_59) 26 dX11_newBounds_26 (Or.inl ⟨rfl, rfl⟩) (tk_g (by decide) o_59) (tk_g (by decide) o_67) cl_2 (by decide) (by decide) (fun h17 E17 => ?_)
  have f102 : h17 59 0 = ((60 : Nat) : Int) := (upN E17 (by decide)).trans f91
  have f103 : h17 59 1 = ((61 : Nat) : Int) := (upN E17 (by decide)).trans f92
  have f104 : h17 59 2 = ((62 : Nat) : Int) := (upN E17 (by decide)).trans f93
  have f105 : h17 59 3 = ((63 : Nat) : Int) := (upN E17 (by decide)).trans f94
  have f106 : h17 59 4 = ((64 : Nat) : Int) := (upN E17 (by decide)).trans f95
  have f107 : h17 59 5 = ((65 : Nat) : Int) := (upN E17 (by decide)).trans f96
  have f108 : h17 59 6 = ((66 : Nat) : Int) := (upN E17 (by decide)).trans f97
  have g109 := g101.put E17 (by decide)
  have F110 : ∀ k, k < 59 → h17 k = h0 k := frn_up F99 E17 (by decide)
  clear f91 f92 f93 f94 f95 f96 f97 g101 F99 E16 g98 g100
  have f111 : h17 59 7 = ((67 : Nat) : Int) := upE E17
  refine y_iincN (M := M_X11_newBounds_59) 27 dX11_newBounds_27 (ls' := [some (mI 16), some (mR 59), some (mI 8)]) (by decide) rfl (by (unfold m_32; decide)) (by decide) (by decide) rfl ?_
  refine y_goto (M := M_X11_newBounds_59) 30 dX11_newBounds_30 11 rfl ?_
  refine y_iload_n (M := M_X11_newBounds_59) 11 dX11_newBounds_11 rfl ?_
  refine y_aload_n (M := M_X11_newBounds_59) 12 dX11_newBounds_12 rfl ?_
  refine y_alen (M := M_X11_newBounds_59) 13 dX11_newBounds_13 (tk_g (by decide) o_59) (by decide) (by decide) ?_
  refine y_icmp_ge_F (M := M_X11_newBounds_59) 14 dX11_newBounds_14 33 rfl (by decide) ?_
  refine y_aload_n (M := M_X11_newBounds_59) 17 dX11_newBounds_17 rfl ?_
  refine y_iload_n (M := M_X11_newBounds_59) 18 dX11_newBounds_18 rfl ?_
  refine y_new (M := M_X11_newBounds_59) 19 dX11_newBounds_19 n_X11_232 (tk_s o_68) (tk_l (by decide)) (tk_b (by decide) (by decide) (by decide)) (fun h18 E18 => ?_)
  have f112 : h18 59 0 = ((60 : Nat) : Int) := nw_u E18 (by decide) f102
  have f113 : h18 59 1 = ((61 : Nat) : Int) := nw_u E18 (by decide) f103
  have f114 : h18 59 2 = ((62 : Nat) : Int) := nw_u E18 (by decide) f104
  have f115 : h18 59 3 = ((63 : Nat) : Int) := nw_u E18 (by decide) f105
  have f116 : h18 59 4 = ((64 : Nat) : Int) := nw_u E18 (by decide) f106
  have f117 : h18 59 5 = ((65 : Nat) : Int) := nw_u E18 (by decide) f107
  have f118 : h18 59 6 = ((66 : Nat) : Int) := nw_u E18 (by decide) f108
  have f119 : h18 59 7 = ((67 : Nat) : Int) := nw_u E18 (by decide) f111
  have g120 := g109.nw E18 (by decide)
  have F121 : ∀ k, k < 59 → h18 k = h0 k := frn_nw F110 E18 (by decide)
  clear f102 f103 f104 f105 f106 f107 f108 f111 g109 F110 E17
  have g122 : gR 68 69 h18 := gR_1 (bn_ok E18 rfl)
  have g123 := g120.join g122
  refine y_dup (M := M_X11_newBounds_59) 22 dX11_newBounds_22 rfl ?_
  refine y_callIN (M := M_X11_newBounds_59) 23 dX11_newBounds_23 t_X2_init il_X11_450 (m_rr_of rfl) xI_A (as := []) (rest := [mR 68, mI 8, mR 59]) (c_X2_init_69 h18) rfl rfl (Nat.le_of_ble_eq_true rfl) (tk_c (by decide) (by decide) (by decide) (by decide)) (fun r h19 q => ?_)
  obtain ⟨rfl, rfl⟩ := q
  refine y_aast (M := M_X11_newBounds_59) 26 dX11_newBounds_26 (Or.inl ⟨rfl, rfl⟩) (tk_g (by decide) o_59) (tk_g (by decide) o_68) cl_2 (by decide) (by decide) (fun h19 E19 => ?_)
  have f124 : h19 59 0 = ((60 : Nat) : Int) := (upN E19 (by decide)).trans f112
  have f125 : h19 59 1 = ((61 : Nat) : Int) := (upN E19 (by decide)).trans f113
  have f126 : h19 59 2 = ((62 : Nat) : Int) := (upN E19 (by decide)).trans f114
  have f127 : h19 59 3 = ((63 : Nat) : Int) := (upN E19 (by decide)).trans f115
  have f128 : h19 59 4 = ((64 : Nat) : Int) := (upN E19 (by decide)).trans f116
  have f129 : h19 59 5 = ((65 : Nat) : Int) := (upN E19 (by decide)).trans f117
  have f130 : h19 59 6 = ((66 : Nat) : Int) := (upN E19 (by decide)).trans f118
  have f131 : h19 59 7 = ((67 : Nat) : Int) := (upN E19 (by decide)).trans f119
  have g132 := g123.put E19 (by decide)
  have F133 : ∀ k, k < 59 → h19 k = h0 k := frn_up F121 E19 (by decide)
  clear f112 f113 f114 f115 f116 f117 f118 f119 g123 F121 E18 g120 g122
  have f134 : h19 59 8 = ((68 : Nat) : Int) := upE E19
  refine y_iincN (M := M_X11_newBounds_59) 27 dX11_newBounds_27 (ls' := [some (mI 16), some (mR 59), some (mI 9)]) (by decide) rfl (by (unfold m_32; decide)) (by decide) (by decide) rfl ?_
  refine y_goto (M := M_X11_newBounds_59) 30 dX11_newBounds_30 11 rfl ?_
  refine y_iload_n (M := M_X11_newBounds_59) 11 dX11_newBounds_11 rfl ?_
  refine y_aload_n (M := M_X11_newBounds_59) 12 dX11_newBounds_12 rfl ?_
  refine y_alen (M := M_X11_newBounds_59) 13 dX11_newBounds_13 (tk_g (by decide) o_59) (by decide) (by decide) ?_
  refine y_icmp_ge_F (M := M_X11_newBounds_59) 14 dX11_newBounds_14 33 rfl (by decide) ?_
  refine y_aload_n (M := M_X11_newBounds_59) 17 dX11_newBounds_17 rfl ?_
  refine y_iload_n (M := M_X11_newBounds_59) 18 dX11_newBounds_18 rfl ?_
  refine y_new (M := M_X11_newBounds_59) 19 dX11_newBounds_19 n_X11_232 (tk_s o_69) (tk_l (by decide)) (tk_b (by decide) (by decide) (by decide)) (fun h20 E20 => ?_)
  have f135 : h20 59 0 = ((60 : Nat) : Int) := nw_u E20 (by decide) f124
  have f136 : h20 59 1 = ((61 : Nat) : Int) := nw_u E20 (by decide) f125
  have f137 : h20 59 2 = ((62 : Nat) : Int) := nw_u E20 (by decide) f126
  have f138 : h20 59 3 = ((63 : Nat) : Int) := nw_u E20 (by decide) f127
  have f139 : h20 59 4 = ((64 : Nat) : Int) := nw_u E20 (by decide) f128
  have f140 : h20 59 5 = ((65 : Nat) : Int) := nw_u E20 (by decide) f129
  have f141 : h20 59 6 = ((66 : Nat) : Int) := nw_u E20 (by decide) f130
  have f142 : h20 59 7 = ((67 : Nat) : Int) := nw_u E20 (by decide) f131
  have f143 : h20 59 8 = ((68 : Nat) : Int) := nw_u E20 (by decide) f134
  have g144 := g132.nw E20 (by decide)
  have F145 : ∀ k, k < 59 → h20 k = h0 k := frn_nw F133 E20 (by decide)
  clear f124 f125 f126 f127 f128 f129 f130 f131 f134 g132 F133 E19
  have g146 : gR 69 70 h20 := gR_1 (bn_ok E20 rfl)
  have g147 := g144.join g146
  refine y_dup (M := M_X11_newBounds_59) 22 dX11_newBounds_22 rfl ?_
  refine y_callIN (M := M_X11_newBounds_59) 23 dX11_newBounds_23 t_X2_init il_X11_450 (m_rr_of rfl) xI_A (as := []) (rest := [mR 69, mI 9, mR 59]) (c_X2_init_70 h20) rfl rfl (Nat.le_of_ble_eq_true rfl) (tk_c (by decide) (by decide) (by decide) (by decide)) (fun r h21 q => ?_)
  obtain ⟨rfl, rfl⟩ := q
  refine y_aast (M := M_X11_newBounds_59) 26 dX11_newBounds_26 (Or.inl ⟨rfl, rfl⟩) (tk_g (by decide) o_59) (tk_g (by decide) o_69) cl_2 (by decide) (by decide) (fun h21 E21 => ?_)
  have f148 : h21 59 0 = ((60 : Nat) : Int) := (upN E21 (by decide)).trans f135
  have f149 : h21 59 1 = ((61 : Nat) : Int) := (upN E21 (by decide)).trans f136
  have f150 : h21 59 2 = ((62 : Nat) : Int) := (upN E21 (by decide)).trans f137
  have f151 : h21 59 3 = ((63 : Nat) : Int) := (upN E21 (by decide)).trans f138
  have f152 : h21 59 4 = ((64 : Nat) : Int) := (upN E21 (by decide)).trans f139
  have f153 : h21 59 5 = ((65 : Nat) : Int) := (upN E21 (by decide)).trans f140
  have f154 : h21 59 6 = ((66 : Nat) : Int) := (upN E21 (by decide)).trans f141
  have f155 : h21 59 7 = ((67 : Nat) : Int) := (upN E21 (by decide)).trans f142
  have f156 : h21 59 8 = ((68 : Nat) : Int) := (upN E21 (by decide)).trans f143
  have g157 := g147.put E21 (by decide)
  have F158 : ∀ k, k < 59 → h21 k = h0 k := frn_up F145 E21 (by decide)
  clear f135 f136 f137 f138 f139 f140 f141 f142 f143 g147 F145 E20 g144 g146
  have f159 : h21 59 9 = ((69 : Nat) : Int) := upE E21
  refine y_iincN (M := M_X11_newBounds_59) 27 dX11_newBounds_27 (ls' := [some (mI 16), some (mR 59), some (mI 10)]) (by decide) rfl (by (unfold m_32; decide)) (by decide) (by decide) rfl ?_
  refine y_goto (M := M_X11_newBounds_59) 30 dX11_newBounds_30 11 rfl ?_
  refine y_iload_n (M := M_X11_newBounds_59) 11 dX11_newBounds_11 rfl ?_
  refine y_aload_n (M := M_X11_newBounds_59) 12 dX11_newBounds_12 rfl ?_
  refine y_alen (M := M_X11_newBounds_59) 13 dX11_newBounds_13 (tk_g (by decide) o_59) (by decide) (by decide) ?_
  refine y_icmp_ge_F (M := M_X11_newBounds_59) 14 dX11_newBounds_14 33 rfl (by decide) ?_
  refine y_aload_n (M := M_X11_newBounds_59) 17 dX11_newBounds_17 rfl ?_
  refine y_iload_n (M := M_X11_newBounds_59) 18 dX11_newBounds_18 rfl ?_
  refine y_new (M := M_X11_newBounds_59) 19 dX11_newBounds_19 n_X11_232 (tk_s o_70) (tk_l (by decide)) (tk_b (by decide) (by decide) (by decide)) (fun h22 E22 => ?_)
  have f160 : h22 59 0 = ((60 : Nat) : Int) := nw_u E22 (by decide) f148
  have f161 : h22 59 1 = ((61 : Nat) : Int) := nw_u E22 (by decide) f149
  have f162 : h22 59 2 = ((62 : Nat) : Int) := nw_u E22 (by decide) f150
  have f163 : h22 59 3 = ((63 : Nat) : Int) := nw_u E22 (by decide) f151
  have f164 : h22 59 4 = ((64 : Nat) : Int) := nw_u E22 (by decide) f152
  have f165 : h22 59 5 = ((65 : Nat) : Int) := nw_u E22 (by decide) f153
  have f166 : h22 59 6 = ((66 : Nat) : Int) := nw_u E22 (by decide) f154
  have f167 : h22 59 7 = ((67 : Nat) : Int) := nw_u E22 (by decide) f155
  have f168 : h22 59 8 = ((68 : Nat) : Int) := nw_u E22 (by decide) f156
  have f169 : h22 59 9 = ((69 : Nat) : Int) := nw_u E22 (by decide) f159
  have g170 := g157.nw E22 (by decide)
  have F171 : ∀ k, k < 59 → h22 k = h0 k := frn_nw F158 E22 (by decide)
  clear f148 f149 f150 f151 f152 f153 f154 f155 f156 f159 g157 F158 E21
  have g172 : gR 70 71 h22 := gR_1 (bn_ok E22 rfl)
  have g173 := g170.join g172
  refine y_dup (M := M_X11_newBounds_59) 22 dX11_newBounds_22 rfl ?_
  refine y_callIN (M := M_X11_newBounds_59) 23 dX11_newBounds_23 t_X2_init il_X11_450 (m_rr_of rfl) xI_A (as := []) (rest := [mR 70, mI 10, mR 59]) (c_X2_init_71 h22) rfl rfl (Nat.le_of_ble_eq_true rfl) (tk_c (by decide) (by decide) (by decide) (by decide)) (fun r h23 q => ?_)
  obtain ⟨rfl, rfl⟩ := q
  refine y_aast (M := M_X11_newBounds_59) 26 dX11_newBounds_26 (Or.inl ⟨rfl, rfl⟩) (tk_g (by decide) o_59) (tk_g (by decide) o_70) cl_2 (by decide) (by decide) (fun h23 E23 => ?_)
  have f174 : h23 59 0 = ((60 : Nat) : Int) := (upN E23 (by decide)).trans f160
  have f175 : h23 59 1 = ((61 : Nat) : Int) := (upN E23 (by decide)).trans f161
  have f176 : h23 59 2 = ((62 : Nat) : Int) := (upN E23 (by decide)).trans f162
  have f177 : h23 59 3 = ((63 : Nat) : Int) := (upN E23 (by decide)).trans f163
  have f178 : h23 59 4 = ((64 : Nat) : Int) := (upN E23 (by decide)).trans f164
  have f179 : h23 59 5 = ((65 : Nat) : Int) := (upN E23 (by decide)).trans f165
  have f180 : h23 59 6 = ((66 : Nat) : Int) := (upN E23 (by decide)).trans f166
  have f181 : h23 59 7 = ((67 : Nat) : Int) := (upN E23 (by decide)).trans f167
  have f182 : h23 59 8 = ((68 : Nat) : Int) := (upN E23 (by decide)).trans f168
  have f183 : h23 59 9 = ((69 : Nat) : Int) := (upN E23 (by decide)).trans f169
  have g184 := g173.put E23 (by decide)
  have F185 : ∀ k, k < 59 → h23 k = h0 k := frn_up F171 E23 (by decide)
  clear f160 f161 f162 f163 f164 f165 f166 f167 f168 f169 g173 F171 E22 g170 g172
  have f186 : h23 59 10 = ((70 : Nat) : Int) := upE E23
  refine y_iincN (M := M_X11_newBounds_59) 27 dX11_newBounds_27 (ls' := [some (mI 16), some (mR 59), some (mI 11)]) (by decide) rfl (by (unfold m_32; decide)) (by decide) (by decide) rfl ?_
  refine y_goto (M := M_X11_newBounds_59) 30 dX11_newBounds_30 11 rfl ?_
  refine y_iload_n (M := M_X11_newBounds_59) 11 dX11_newBounds_11 rfl ?_
  refine y_aload_n (M := M_X11_newBounds_59) 12 dX11_newBounds_12 rfl ?_
  refine y_alen (M := M_X11_newBounds_59) 13 dX11_newBounds_13 (tk_g (by decide) o_59) (by decide) (by decide) ?_
  refine y_icmp_ge_F (M := M_X11_newBounds_59) 14 dX11_newBounds_14 33 rfl (by decide) ?_
  refine y_aload_n (M := M_X11_newBounds_59) 17 dX11_newBounds_17 rfl ?_
  refine y_iload_n (M := M_X11_newBounds_59) 18 dX11_newBounds_18 rfl ?_
  refine y_new (M := M_X11_newBounds_59) 19 dX11_newBounds_19 n_X11_232 (tk_s o_71) (tk_l (by decide)) (tk_b (by decide) (by decide) (by decide)) (fun h24 E24 => ?_)
  have f187 : h24 59 0 = ((60 : Nat) : Int) := nw_u E24 (by decide) f174
  have f188 : h24 59 1 = ((61 : Nat) : Int) := nw_u E24 (by decide) f175
  have f189 : h24 59 2 = ((62 : Nat) : Int) := nw_u E24 (by decide) f176
  have f190 : h24 59 3 = ((63 : Nat) : Int) := nw_u E24 (by decide) f177
  have f191 : h24 59 4 = ((64 : Nat) : Int) := nw_u E24 (by decide) f178
  have f192 : h24 59 5 = ((65 : Nat) : Int) := nw_u E24 (by decide) f179
  have f193 : h24 59 6 = ((66 : Nat) : Int) := nw_u E24 (by decide) f180
  have f194 : h24 59 7 = ((67 : Nat) : Int) := nw_u E24 (by decide) f181
  have f195 : h24 59 8 = ((68 : Nat) : Int) := nw_u E24 (by decide) f182
  have f196 : h24 59 9 = ((69 : Nat) : Int) := nw_u E24 (by decide) f183
  have f197 : h24 59 10 = ((70 : Nat) : Int) := nw_u E24 (by decide) f186
  have g198 := g184.nw E24 (by decide)
  have F199 : ∀ k, k < 59 → h24 k = h0 k := frn_nw F185 E24 (by decide)
  clear f174 f175 f176 f177 f178 f179 f180 f181 f182 f183 f186 g184 F185 E23
  have g200 : gR 71 72 h24 := gR_1 (bn_ok E24 rfl)
  have g201 := g198.join g200
  refine y_dup (M := M_X11_newBounds_59) 22 dX11_newBounds_22 rfl ?_
  refine y_callIN (M := M_X11_newBounds_59) 23 dX11_newBounds_23 t_X2_init il_X11_450 (m_rr_of rfl) xI_A (as := []) (rest := [mR 71, mI 11, mR 59]) (c_X2_init_72 h24) rfl rfl (Nat.le_of_ble_eq_true rfl) (tk_c (by decide) (by decide) (by decide) (by decide)) (fun r h25 q => ?_)
  obtain ⟨rfl, rfl⟩ := q
  refine y_aast (M := M_X11_newBounds_59) 26 dX11_newBounds_26 (Or.inl ⟨rfl, rfl⟩) (tk_g (by decide) o_59) (tk_g (by decide) o_71) cl_2 (by decide) (by decide) (fun h25 E25 => ?_)
  have f202 : h25 59 0 = ((60 : Nat) : Int) := (upN E25 (by decide)).trans f187
  have f203 : h25 59 1 = ((61 : Nat) : Int) := (upN E25 (by decide)).trans f188
  have f204 : h25 59 2 = ((62 : Nat) : Int) := (upN E25 (by decide)).trans f189
  have f205 : h25 59 3 = ((63 : Nat) : Int) := (upN E25 (by decide)).trans f190
  have f206 : h25 59 4 = ((64 : Nat) : Int) := (upN E25 (by decide)).trans f191
  have f207 : h25 59 5 = ((65 : Nat) : Int) := (upN E25 (by decide)).trans f192
  have f208 : h25 59 6 = ((66 : Nat) : Int) := (upN E25 (by decide)).trans f193
  have f209 : h25 59 7 = ((67 : Nat) : Int) := (upN E25 (by decide)).trans f194
  have f210 : h25 59 8 = ((68 : Nat) : Int) := (upN E25 (by decide)).trans f195
  have f211 : h25 59 9 = ((69 : Nat) : Int) := (upN E25 (by decide)).trans f196
  have f212 : h25 59 10 = ((70 : Nat) : Int) := (upN E25 (by decide)).trans f197
  have g213 := g201.put E25 (by decide)
  have F214 : ∀ k, k < 59 → h25 k = h0 k := frn_up F199 E25 (by decide)
  clear f187 f188 f189 f190 f191 f192 f193 f194 f195 f196 f197 g201 F199 E24 g198 g200
  have f215 : h25 59 11 = ((71 : Nat) : Int) := upE E25
  refine y_iincN (M := M_X11_newBounds_59) 27 dX11_newBounds_27 (ls' := [some (mI 16), some (mR 59), some (mI 12)]) (by decide) rfl (by (unfold m_32; decide)) (by decide) (by decide) rfl ?_
  refine y_goto (M := M_X11_newBounds_59) 30 dX11_newBounds_30 11 rfl ?_
  refine y_iload_n (M := M_X11_newBounds_59) 11 dX11_newBounds_11 rfl ?_
  refine y_aload_n (M := M_X11_newBounds_59) 12 dX11_newBounds_12 rfl ?_
  refine y_alen (M := M_X11_newBounds_59) 13 dX11_newBounds_13 (tk_g (by decide) o_59) (by decide) (by decide) ?_
  refine y_icmp_ge_F (M := M_X11_newBounds_59) 14 dX11_newBounds_14 33 rfl (by decide) ?_
  refine y_aload_n (M := M_X11_newBounds_59) 17 dX11_newBounds_17 rfl ?_
  refine y_iload_n (M := M_X11_newBounds_59) 18 dX11_newBounds_18 rfl ?_
  refine y_new (M := M_X11_newBounds_59) 19 dX11_newBounds_19 n_X11_232 (tk_s o_72) (tk_l (by decide)) (tk_b (by decide) (by decide) (by decide)) (fun h26 E26 => ?_)
  have f216 : h26 59 0 = ((60 : Nat) : Int) := nw_u E26 (by decide) f202
  have f217 : h26 59 1 = ((61 : Nat) : Int) := nw_u E26 (by decide) f203
  have f218 : h26 59 2 = ((62 : Nat) : Int) := nw_u E26 (by decide) f204
  have f219 : h26 59 3 = ((63 : Nat) : Int) := nw_u E26 (by decide) f205
  have f220 : h26 59 4 = ((64 : Nat) : Int) := nw_u E26 (by decide) f206
  have f221 : h26 59 5 = ((65 : Nat) : Int) := nw_u E26 (by decide) f207
  have f222 : h26 59 6 = ((66 : Nat) : Int) := nw_u E26 (by decide) f208
  have f223 : h26 59 7 = ((67 : Nat) : Int) := nw_u E26 (by decide) f209
  have f224 : h26 59 8 = ((68 : Nat) : Int) := nw_u E26 (by decide) f210
  have f225 : h26 59 9 = ((69 : Nat) : Int) := nw_u E26 (by decide) f211
  have f226 : h26 59 10 = ((70 : Nat) : Int) := nw_u E26 (by decide) f212
  have f227 : h26 59 11 = ((71 : Nat) : Int) := nw_u E26 (by decide) f215
  have g228 := g213.nw E26 (by decide)
  have F229 : ∀ k, k < 59 → h26 k = h0 k := frn_nw F214 E26 (by decide)
  clear f202 f203 f204 f205 f206 f207 f208 f209 f210 f211 f212 f215 g213 F214 E25
  have g230 : gR 72 73 h26 := gR_1 (bn_ok E26 rfl)
  have g231 := g228.join g230
  refine y_dup (M := M_X11_newBounds_59) 22 dX11_newBounds_22 rfl ?_
  refine y_callIN (M := M_X11_newBounds_59) 23 dX11_newBounds_23 t_X2_init il_X11_450 (m_rr_of rfl) xI_A (as := []) (rest := [mR 72, mI 12, mR 59]) (c_X2_init_73 h26) rfl rfl (Nat.le_of_ble_eq_true rfl) (tk_c (by decide) (by decide) (by decide) (by decide)) (fun r h27 q => ?_)
  obtain ⟨rfl, rfl⟩ := q
  refine y_aast (M := M_X11_newBounds_59) 26 dX11_newBounds_26 (Or.inl ⟨rfl, rfl⟩) (tk_g (by decide) o_59) (tk_g (by decide) o_72) cl_2 (by decide) (by decide) (fun h27 E27 => ?_)
  have f232 : h27 59 0 = ((60 : Nat) : Int) := (upN E27 (by decide)).trans f216
  have f233 : h27 59 1 = ((61 : Nat) : Int) := (upN E27 (by decide)).trans f217
  have f234 : h27 59 2 = ((62 : Nat) : Int) := (upN E27 (by decide)).trans f218
  have f235 : h27 59 3 = ((63 : Nat) : Int) := (upN E27 (by decide)).trans f219
  have f236 : h27 59 4 = ((64 : Nat) : Int) := (upN E27 (by decide)).trans f220
  have f237 : h27 59 5 = ((65 : Nat) : Int) := (upN E27 (by decide)).trans f221
  have f238 : h27 59 6 = ((66 : Nat) : Int) := (upN E27 (by decide)).trans f222
  have f239 : h27 59 7 = ((67 : Nat) : Int) := (upN E27 (by decide)).trans f223
  have f240 : h27 59 8 = ((68 : Nat) : Int) := (upN E27 (by decide)).trans f224
  have f241 : h27 59 9 = ((69 : Nat) : Int) := (upN E27 (by decide)).trans f225
  have f242 : h27 59 10 = ((70 : Nat) : Int) := (upN E27 (by decide)).trans f226
  have f243 : h27 59 11 = ((71 : Nat) : Int) := (upN E27 (by decide)).trans f227
  have g244 := g231.put E27 (by decide)
  have F245 : ∀ k, k < 59 → h27 k = h0 k := frn_up F229 E27 (by decide)
  clear f216 f217 f218 f219 f220 f221 f222 f223 f224 f225 f226 f227 g231 F229 E26 g228 g230
  have f246 : h27 59 12 = ((72 : Nat) : Int) := upE E27
  refine y_iincN (M := M_X11_newBounds_59) 27 dX11_newBounds_27 (ls' := [some (mI 16), some (mR 59), some (mI 13)]) (by decide) rfl (by (unfold m_32; decide)) (by decide) (by decide) rfl ?_
  refine y_goto (M := M_X11_newBounds_59) 30 dX11_newBounds_30 11 rfl ?_
  refine y_iload_n (M := M_X11_newBounds_59) 11 dX11_newBounds_11 rfl ?_
  refine y_aload_n (M := M_X11_newBounds_59) 12 dX11_newBounds_12 rfl ?_
  refine y_alen (M := M_X11_newBounds_59) 13 dX11_newBounds_13 (tk_g (by decide) o_59) (by decide) (by decide) ?_
  refine y_icmp_ge_F (M := M_X11_newBounds_59) 14 dX11_newBounds_14 33 rfl (by decide) ?_
  refine y_aload_n (M := M_X11_newBounds_59) 17 dX11_newBounds_17 rfl ?_
  refine y_iload_n (M := M_X11_newBounds_59) 18 dX11_newBounds_18 rfl ?_
  refine y_new (M := M_X11_newBounds_59) 19 dX11_newBounds_19 n_X11_232 (tk_s o_73) (tk_l (by decide)) (tk_b (by decide) (by decide) (by decide)) (fun h28 E28 => ?_)
  have f247 : h28 59 0 = ((60 : Nat) : Int) := nw_u E28 (by decide) f232
  have f248 : h28 59 1 = ((61 : Nat) : Int) := nw_u E28 (by decide) f233
  have f249 : h28 59 2 = ((62 : Nat) : Int) := nw_u E28 (by decide) f234
  have f250 : h28 59 3 = ((63 : Nat) : Int) := nw_u E28 (by decide) f235
  have f251 : h28 59 4 = ((64 : Nat) : Int) := nw_u E28 (by decide) f236
  have f252 : h28 59 5 = ((65 : Nat) : Int) := nw_u E28 (by decide) f237
  have f253 : h28 59 6 = ((66 : Nat) : Int) := nw_u E28 (by decide) f238
  have f254 : h28 59 7 = ((67 : Nat) : Int) := nw_u E28 (by decide) f239
  have f255 : h28 59 8 = ((68 : Nat) : Int) := nw_u E28 (by decide) f240
  have f256 : h28 59 9 = ((69 : Nat) : Int) := nw_u E28 (by decide) f241
  have f257 : h28 59 10 = ((70 : Nat) : Int) := nw_u E28 (by decide) f242
  have f258 : h28 59 11 = ((71 : Nat) : Int) := nw_u E28 (by decide) f243
  have f259 : h28 59 12 = ((72 : Nat) : Int) := nw_u E28 (by decide) f246
  have g260 := g244.nw E28 (by decide)
  have F261 : ∀ k, k < 59 → h28 k = h0 k := frn_nw F245 E28 (by decide)
  clear f232 f233 f234 f235 f236 f237 f238 f239 f240 f241 f242 f243 f246 g244 F245 E27
  have g262 : gR 73 74 h28 := gR_1 (bn_ok E28 rfl)
  have g263 := g260.join g262
  refine y_dup (M := M_X11_newBounds_59) 22 dX11_newBounds_22 rfl ?_
  refine y_callIN (M := M_X11_newBounds_59) 23 dX11_newBounds_23 t_X2_init il_X11_450 (m_rr_of rfl) xI_A (as := []) (rest := [mR 73, mI 13, mR 59]) (c_X2_init_74 h28) rfl rfl (Nat.le_of_ble_eq_true rfl) (tk_c (by decide) (by decide) (by decide) (by decide)) (fun r h29 q => ?_)
  obtain ⟨rfl, rfl⟩ := q
  refine y_aast (M := M_X11_newBounds_59) 26 dX11_newBounds_26 (Or.inl ⟨rfl, rfl⟩) (tk_g (by decide) o_59) (tk_g (by decide) o_73) cl_2 (by decide) (by decide) (fun h29 E29 => ?_)
  have f264 : h29 59 0 = ((60 : Nat) : Int) := (upN E29 (by decide)).trans f247
  have f265 : h29 59 1 = ((61 : Nat) : Int) := (upN E29 (by decide)).trans f248
  have f266 : h29 59 2 = ((62 : Nat) : Int) := (upN E29 (by decide)).trans f249
  have f267 : h29 59 3 = ((63 : Nat) : Int) := (upN E29 (by decide)).trans f250
  have f268 : h29 59 4 = ((64 : Nat) : Int) := (upN E29 (by decide)).trans f251
  have f269 : h29 59 5 = ((65 : Nat) : Int) := (upN E29 (by decide)).trans f252
  have f270 : h29 59 6 = ((66 : Nat) : Int) := (upN E29 (by decide)).trans f253
  have f271 : h29 59 7 = ((67 : Nat) : Int) := (upN E29 (by decide)).trans f254
  have f272 : h29 59 8 = ((68 : Nat) : Int) := (upN E29 (by decide)).trans f255
  have f273 : h29 59 9 = ((69 : Nat) : Int) := (upN E29 (by decide)).trans f256
  have f274 : h29 59 10 = ((70 : Nat) : Int) := (upN E29 (by decide)).trans f257
  have f275 : h29 59 11 = ((71 : Nat) : Int) := (upN E29 (by decide)).trans f258
  have f276 : h29 59 12 = ((72 : Nat) : Int) := (upN E29 (by decide)).trans f259
  have g277 := g263.put E29 (by decide)
  have F278 : ∀ k, k < 59 → h29 k = h0 k := frn_up F261 E29 (by decide)
  clear f247 f248 f249 f250 f251 f252 f253 f254 f255 f256 f257 f258 f259 g263 F261 E28 g260 g262
  have f279 : h29 59 13 = ((73 : Nat) : Int) := upE E29
  refine y_iincN (M := M_X11_newBounds_59) 27 dX11_newBounds_27 (ls' := [some (mI 16), some (mR 59), some (mI 14)]) (by decide) rfl (by (unfold m_32; decide)) (by decide) (by decide) rfl ?_
  refine y_goto (M := M_X11_newBounds_59) 30 dX11_newBounds_30 11 rfl ?_
  refine y_iload_n (M := M_X11_newBounds_59) 11 dX11_newBounds_11 rfl ?_
  refine y_aload_n (M := M_X11_newBounds_59) 12 dX11_newBounds_12 rfl ?_
  refine y_alen (M := M_X11_newBounds_59) 13 dX11_newBounds_13 (tk_g (by decide) o_59) (by decide) (by decide) ?_
  refine y_icmp_ge_F (M := M_X11_newBounds_59) 14 dX11_newBounds_14 33 rfl (by decide) ?_
  refine y_aload_n (M := M_X11_newBounds_59) 17 dX11_newBounds_17 rfl ?_
  refine y_iload_n (M := M_X11_newBounds_59) 18 dX11_newBounds_18 rfl ?_
  refine y_new (M := M_X11_newBounds_59) 19 dX11_newBounds_19 n_X11_232 (tk_s o_74) (tk_l (by decide)) (tk_b (by decide) (by decide) (by decide)) (fun h30 E30 => ?_)
  have f280 : h30 59 0 = ((60 : Nat) : Int) := nw_u E30 (by decide) f264
  have f281 : h30 59 1 = ((61 : Nat) : Int) := nw_u E30 (by decide) f265
  have f282 : h30 59 2 = ((62 : Nat) : Int) := nw_u E30 (by decide) f266
  have f283 : h30 59 3 = ((63 : Nat) : Int) := nw_u E30 (by decide) f267
  have f284 : h30 59 4 = ((64 : Nat) : Int) := nw_u E30 (by decide) f268
  have f285 : h30 59 5 = ((65 : Nat) : Int) := nw_u E30 (by decide) f269
  have f286 : h30 59 6 = ((66 : Nat) : Int) := nw_u E30 (by decide) f270
  have f287 : h30 59 7 = ((67 : Nat) : Int) := nw_u E30 (by decide) f271
  have f288 : h30 59 8 = ((68 : Nat) : Int) := nw_u E30 (by decide) f272
  have f289 : h30 59 9 = ((69 : Nat) : Int) := nw_u E30 (by decide) f273
  have f290 : h30 59 10 = ((70 : Nat) : Int) := nw_u E30 (by decide) f274
  have f291 : h30 59 11 = ((71 : Nat) : Int) := nw_u E30 (by decide) f275
  have f292 : h30 59 12 = ((72 : Nat) : Int) := nw_u E30 (by decide) f276
  have f293 : h30 59 13 = ((73 : Nat) : Int) := nw_u E30 (by decide) f279
  have g294 := g277.nw E30 (by decide)
  have F295 : ∀ k, k < 59 → h30 k = h0 k := frn_nw F278 E30 (by decide)
  clear f264 f265 f266 f267 f268 f269 f270 f271 f272 f273 f274 f275 f276 f279 g277 F278 E29
  have g296 : gR 74 75 h30 := gR_1 (bn_ok E30 rfl)
  have g297 := g294.join g296
  refine y_dup (M := M_X11_newBounds_59) 22 dX11_newBounds_22 rfl ?_
  refine y_callIN (M := M_X11_newBounds_59) 23 dX11_newBounds_23 t_X2_init il_X11_450 (m_rr_of rfl) xI_A (as := []) (rest := [mR 74, mI 14, mR 59]) (c_X2_init_75 h30) rfl rfl (Nat.le_of_ble_eq_true rfl) (tk_c (by decide) (by decide) (by decide) (by decide)) (fun r h31 q => ?_)
  obtain ⟨rfl, rfl⟩ := q
  refine y_aast (M := M_X11_newBounds_59) 26 dX11_newBounds_26 (Or.inl ⟨rfl, rfl⟩) (tk_g (by decide) o_59) (tk_g (by decide) o_74) cl_2 (by decide) (by decide) (fun h31 E31 => ?_)
  have f298 : h31 59 0 = ((60 : Nat) : Int) := (upN E31 (by decide)).trans f280
  have f299 : h31 59 1 = ((61 : Nat) : Int) := (upN E31 (by decide)).trans f281
  have f300 : h31 59 2 = ((62 : Nat) : Int) := (upN E31 (by decide)).trans f282
  have f301 : h31 59 3 = ((63 : Nat) : Int) := (upN E31 (by decide)).trans f283
  have f302 : h31 59 4 = ((64 : Nat) : Int) := (upN E31 (by decide)).trans f284
  have f303 : h31 59 5 = ((65 : Nat) : Int) := (upN E31 (by decide)).trans f285
  have f304 : h31 59 6 = ((66 : Nat) : Int) := (upN E31 (by decide)).trans f286
  have f305 : h31 59 7 = ((67 : Nat) : Int) := (upN E31 (by decide)).trans f287
  have f306 : h31 59 8 = ((68 : Nat) : Int) := (upN E31 (by decide)).trans f288
  have f307 : h31 59 9 = ((69 : Nat) : Int) := (upN E31 (by decide)).trans f289
  have f308 : h31 59 10 = ((70 : Nat) : Int) := (upN E31 (by decide)).trans f290
  have f309 : h31 59 11 = ((71 : Nat) : Int) := (upN E31 (by decide)).trans f291
  have f310 : h31 59 12 = ((72 : Nat) : Int) := (upN E31 (by decide)).trans f292
  have f311 : h31 59 13 = ((73 : Nat) : Int) := (upN E31 (by decide)).trans f293
  have g312 := g297.put E31 (by decide)
  have F313 : ∀ k, k < 59 → h31 k = h0 k := frn_up F295 E31 (by decide)
  clear f280 f281 f282 f283 f284 f285 f286 f287 f288 f289 f290 f291 f292 f293 g297 F295 E30 g294 g296
  have f314 : h31 59 14 = ((74 : Nat) : Int) := upE E31
  refine y_iincN (M := M_X11_newBounds_59) 27 dX11_newBounds_27 (ls' := [some (mI 16), some (mR 59), some (mI 15)]) (by decide) rfl (by (unfold m_32; decide)) (by decide) (by decide) rfl ?_
  refine y_goto (M := M_X11_newBounds_59) 30 dX11_newBounds_30 11 rfl ?_
  refine y_iload_n (M := M_X11_newBounds_59) 11 dX11_newBounds_11 rfl ?_
  refine y_aload_n (M := M_X11_newBounds_59) 12 dX11_newBounds_12 rfl ?_
  refine y_alen (M := M_X11_newBounds_59) 13 dX11_newBounds_13 (tk_g (by decide) o_59) (by decide) (by decide) ?_
  refine y_icmp_ge_F (M := M_X11_newBounds_59) 14 dX11_newBounds_14 33 rfl (by decide) ?_
  refine y_aload_n (M := M_X11_newBounds_59) 17 dX11_newBounds_17 rfl ?_
  refine y_iload_n (M := M_X11_newBounds_59) 18 dX11_newBounds_18 rfl ?_
  refine y_new (M := M_X11_newBounds_59) 19 dX11_newBounds_19 n_X11_232 (tk_s o_75) (tk_l (by decide)) (tk_b (by decide) (by decide) (by decide)) (fun h32 E32 => ?_)
  have f315 : h32 59 0 = ((60 : Nat) : Int) := nw_u E32 (by decide) f298
  have f316 : h32 59 1 = ((61 : Nat) : Int) := nw_u E32 (by decide) f299
  have f317 : h32 59 2 = ((62 : Nat) : Int) := nw_u E32 (by decide) f300
  have f318 : h32 59 3 = ((63 : Nat) : Int) := nw_u E32 (by decide) f301
  have f319 : h32 59 4 = ((64 : Nat) : Int) := nw_u E32 (by decide) f302
  have f320 : h32 59 5 = ((65 : Nat) : Int) := nw_u E32 (by decide) f303
  have f321 : h32 59 6 = ((66 : Nat) : Int) := nw_u E32 (by decide) f304
  have f322 : h32 59 7 = ((67 : Nat) : Int) := nw_u E32 (by decide) f305
  have f323 : h32 59 8 = ((68 : Nat) : Int) := nw_u E32 (by decide) f306
  have f324 : h32 59 9 = ((69 : Nat) : Int) := nw_u E32 (by decide) f307
  have f325 : h32 59 10 = ((70 : Nat) : Int) := nw_u E32 (by decide) f308
  have f326 : h32 59 11 = ((71 : Nat) : Int) := nw_u E32 (by decide) f309
  have f327 : h32 59 12 = ((72 : Nat) : Int) := nw_u E32 (by decide) f310
  have f328 : h32 59 13 = ((73 : Nat) : Int) := nw_u E32 (by decide) f311
  have f329 : h32 59 14 = ((74 : Nat) : Int) := nw_u E32 (by decide) f314
  have g330 := g312.nw E32 (by decide)
  have F331 : ∀ k, k < 59 → h32 k = h0 k := frn_nw F313 E32 (by decide)
  clear f298 f299 f300 f301 f302 f303 f304 f305 f306 f307 f308 f309 f310 f311 f314 g312 F313 E31
  have g332 : gR 75 76 h32 := gR_1 (bn_ok E32 rfl)
  have g333 := g330.join g332
  refine y_dup (M := M_X11_newBounds_59) 22 dX11_newBounds_22 rfl ?_
  refine y_callIN (M := M_X11_newBounds_59) 23 dX11_newBounds_23 t_X2_init il_X11_450 (m_rr_of rfl) xI_A (as := []) (rest := [mR 75, mI 15, mR 59]) (c_X2_init_76 h32) rfl rfl (Nat.le_of_ble_eq_true rfl) (tk_c (by decide) (by decide) (by decide) (by decide)) (fun r h33 q => ?_)
  obtain ⟨rfl, rfl⟩ := q
  refine y_aast (M := M_X11_newBounds_59) 26 dX11_newBounds_26 (Or.inl ⟨rfl, rfl⟩) (tk_g (by decide) o_59) (tk_g (by decide) o_75) cl_2 (by decide) (by decide) (fun h33 E33 => ?_)
  have f334 : h33 59 0 = ((60 : Nat) : Int) := (upN E33 (by decide)).trans f315
  have f335 : h33 59 1 = ((61 : Nat) : Int) := (upN E33 (by decide)).trans f316
  have f336 : h33 59 2 = ((62 : Nat) : Int) := (upN E33 (by decide)).trans f317
  have f337 : h33 59 3 = ((63 : Nat) : Int) := (upN E33 (by decide)).trans f318
  have f338 : h33 59 4 = ((64 : Nat) : Int) := (upN E33 (by decide)).trans f319
  have f339 : h33 59 5 = ((65 : Nat) : Int) := (upN E33 (by decide)).trans f320
  have f340 : h33 59 6 = ((66 : Nat) : Int) := (upN E33 (by decide)).trans f321
  have f341 : h33 59 7 = ((67 : Nat) : Int) := (upN E33 (by decide)).trans f322
  have f342 : h33 59 8 = ((68 : Nat) : Int) := (upN E33 (by decide)).trans f323
  have f343 : h33 59 9 = ((69 : Nat) : Int) := (upN E33 (by decide)).trans f324
  have f344 : h33 59 10 = ((70 : Nat) : Int) := (upN E33 (by decide)).trans f325
  have f345 : h33 59 11 = ((71 : Nat) : Int) := (upN E33 (by decide)).trans f326
  have f346 : h33 59 12 = ((72 : Nat) : Int) := (upN E33 (by decide)).trans f327
  have f347 : h33 59 13 = ((73 : Nat) : Int) := (upN E33 (by decide)).trans f328
  have f348 : h33 59 14 = ((74 : Nat) : Int) := (upN E33 (by decide)).trans f329
  have g349 := g333.put E33 (by decide)
  have F350 : ∀ k, k < 59 → h33 k = h0 k := frn_up F331 E33 (by decide)
  clear f315 f316 f317 f318 f319 f320 f321 f322 f323 f324 f325 f326 f327 f328 f329 g333 F331 E32 g330 g332
  have f351 : h33 59 15 = ((75 : Nat) : Int) := upE E33
  have g352 : gR 59 60 h33 := gR_1 (gC_of bt_59 (fun j hj => by have q : j = 0 ∨ j = 1 ∨ j = 2 ∨ j = 3 ∨ j = 4 ∨ j = 5 ∨ j = 6 ∨ j = 7 ∨ j = 8 ∨ j = 9 ∨ j = 10 ∨ j = 11 ∨ j = 12 ∨ j = 13 ∨ j = 14 ∨ j = 15 := (by omega); rcases q with rfl | rfl | rfl | rfl | rfl | rfl | rfl | rfl | rfl | rfl | rfl | rfl | rfl | rfl | rfl | rfl; exact f334; exact f335; exact f336; exact f337; exact f338; exact f339; exact f340; exact f341; exact f342; exact f343; exact f344; exact f345; exact f346; exact f347; exact f348; exact f351))
  have g353 := g352.join g349
  refine y_iincN (M := M_X11_newBounds_59) 27 dX11_newBounds_27 (ls' := [some (mI 16), some (mR 59), some (mI 16)]) (by decide) rfl (by (unfold m_32; decide)) (by decide) (by decide) rfl ?_
  refine y_goto (M := M_X11_newBounds_59) 30 dX11_newBounds_30 11 rfl ?_
  refine y_iload_n (M := M_X11_newBounds_59) 11 dX11_newBounds_11 rfl ?_
  refine y_aload_n (M := M_X11_newBounds_59) 12 dX11_newBounds_12 rfl ?_
  refine y_alen (M := M_X11_newBounds_59) 13 dX11_newBounds_13 (tk_g (by decide) o_59) (by decide) (by decide) ?_
  refine y_icmp_ge_T (M := M_X11_newBounds_59) 14 dX11_newBounds_14 33 rfl (by decide) ?_
  refine y_aload_n (M := M_X11_newBounds_59) 33 dX11_newBounds_33 rfl ?_
  exact y_aret (M := M_X11_newBounds_59) 34 dX11_newBounds_34 rfl ⟨rfl, rfl, g353, F350⟩
abbrev M_X2_init_78 : m_M := M_X2i 78
set_option maxHeartbeats 4000000 in
set_option maxRecDepth 100000 in
theorem c_X2_init_78 (h0 : m_H) : m_D M_X2_init_78 (oF.take 78) (oF.take 78) [mR 77] h0 (fun r h' => r = none ∧ h0 = h') := by
  refine tk_D (by decide) (by decide) (by decide) rfl (by decide) (ls := [some (mR 77)]) rfl ?_
  refine y_aload_n (M := M_X2_init_78) 0 dX2_init_0 rfl ?_
  refine y_objI (M := M_X2_init_78) 1 dX2_init_1 ol_X2 ow2 ow3 (by decide) (by decide) ?_
  exact y_vret (M := M_X2_init_78) 4 dX2_init_4 rfl ⟨rfl, rfl, rfl⟩
abbrev M_X2_init_79 : m_M := M_X2i 79
set_option maxHeartbeats 4000000 in
set_option maxRecDepth 100000 in
theorem c_X2_init_79 (h0 : m_H) : m_D M_X2_init_79 (oF.take 79) (oF.take 79) [mR 78] h0 (fun r h' => r = none ∧ h0 = h') := by
  refine tk_D (by decide) (by decide) (by decide) rfl (by decide) (ls := [some (mR 78)]) rfl ?_
  refine y_aload_n (M := M_X2_init_79) 0 dX2_init_0 rfl ?_
  refine y_objI (M := M_X2_init_79) 1 dX2_init_1 ol_X2 ow2 ow3 (by decide) (by decide) ?_
  exact y_vret (M := M_X2_init_79) 4 dX2_init_4 rfl ⟨rfl, rfl, rfl⟩
abbrev M_X2_init_80 : m_M := M_X2i 80
set_option maxHeartbeats 4000000 in
set_option maxRecDepth 100000 in
theorem c_X2_init_80 (h0 : m_H) : m_D M_X2_init_80 (oF.take 80) (oF.take 80) [mR 79] h0 (fun r h' => r = none ∧ h0 = h') := by
  refine tk_D (by decide) (by decide) (by decide) rfl (by decide) (ls := [some (mR 79)]) rfl ?_
  refine y_aload_n (M := M_X2_init_80) 0 dX2_init_0 rfl ?_
  refine y_objI (M := M_X2_init_80) 1 dX2_init_1 ol_X2 ow2 ow3 (by decide) (by decide) ?_
  exact y_vret (M := M_X2_init_80) 4 dX2_init_4 rfl ⟨rfl, rfl, rfl⟩
abbrev M_X2_init_81 : m_M := M_X2i 81
set_option maxHeartbeats 4000000 in
set_option maxRecDepth 100000 in
theorem c_X2_init_81 (h0 : m_H) : m_D M_X2_init_81 (oF.take 81) (oF.take 81) [mR 80] h0 (fun r h' => r = none ∧ h0 = h') := by
  refine tk_D (by decide) (by decide) (by decide) rfl (by decide) (ls := [some (mR 80)]) rfl ?_
  refine y_aload_n (M := M_X2_init_81) 0 dX2_init_0 rfl ?_
  refine y_objI (M := M_X2_init_81) 1 dX2_init_1 ol_X2 ow2 ow3 (by decide) (by decide) ?_
  exact y_vret (M := M_X2_init_81) 4 dX2_init_4 rfl ⟨rfl, rfl, rfl⟩
abbrev M_X2_init_82 : m_M := M_X2i 82
set_option maxHeartbeats 4000000 in
set_option maxRecDepth 100000 in
theorem c_X2_init_82 (h0 : m_H) : m_D M_X2_init_82 (oF.take 82) (oF.take 82) [mR 81] h0 (fun r h' => r = none ∧ h0 = h') := by
  refine tk_D (by decide) (by decide) (by decide) rfl (by decide) (ls := [some (mR 81)]) rfl ?_
  refine y_aload_n (M := M_X2_init_82) 0 dX2_init_0 rfl ?_
  refine y_objI (M := M_X2_init_82) 1 dX2_init_1 ol_X2 ow2 ow3 (by decide) (by decide) ?_
  exact y_vret (M := M_X2_init_82) 4 dX2_init_4 rfl ⟨rfl, rfl, rfl⟩
abbrev M_X2_init_83 : m_M := M_X2i 83
set_option maxHeartbeats 4000000 in
set_option maxRecDepth 100000 in
theorem c_X2_init_83 (h0 : m_H) : m_D M_X2_init_83 (oF.take 83) (oF.take 83) [mR 82] h0 (fun r h' => r = none ∧ h0 = h') := by
  refine tk_D (by decide) (by decide) (by decide) rfl (by decide) (ls := [some (mR 82)]) rfl ?_
  refine y_aload_n (M := M_X2_init_83) 0 dX2_init_0 rfl ?_
  refine y_objI (M := M_X2_init_83) 1 dX2_init_1 ol_X2 ow2 ow3 (by decide) (by decide) ?_
  exact y_vret (M := M_X2_init_83) 4 dX2_init_4 rfl ⟨rfl, rfl, rfl⟩
abbrev M_X2_init_84 : m_M := M_X2i 84
set_option maxHeartbeats 4000000 in
set_option maxRecDepth 100000 in
theorem c_X2_init_84 (h0 : m_H) : m_D M_X2_init_84 (oF.take 84) (oF.take 84) [mR 83] h0 (fun r h' => r = none ∧ h0 = h') := by
  refine tk_D (by decide) (by decide) (by decide) rfl (by decide) (ls := [some (mR 83)]) rfl ?_
  refine y_aload_n (M := M_X2_init_84) 0 dX2_init_0 rfl ?_
  refine y_objI (M := M_X2_init_84) 1 dX2_init_1 ol_X2 ow2 ow3 (by decide) (by decide) ?_
  exact y_vret (M := M_X2_init_84) 4 dX2_init_4 rfl ⟨rfl, rfl, rfl⟩
abbrev M_X2_init_85 : m_M := M_X2i 85
set_option maxHeartbeats 4000000 in
set_option maxRecDepth 100000 in
theorem c_X2_init_85 (h0 : m_H) : m_D M_X2_init_85 (oF.take 85) (oF.take 85) [mR 84] h0 (fun r h' => r = none ∧ h0 = h') := by
  refine tk_D (by decide) (by decide) (by decide) rfl (by decide) (ls := [some (mR 84)]) rfl ?_
  refine y_aload_n (M := M_X2_init_85) 0 dX2_init_0 rfl ?_
  refine y_objI (M := M_X2_init_85) 1 dX2_init_1 ol_X2 ow2 ow3 (by decide) (by decide) ?_
  exact y_vret (M := M_X2_init_85) 4 dX2_init_4 rfl ⟨rfl, rfl, rfl⟩
abbrev M_X2_init_86 : m_M := M_X2i 86
set_option maxHeartbeats 4000000 in
set_option maxRecDepth 100000 in
theorem c_X2_init_86 (h0 : m_H) : m_D M_X2_init_86 (oF.take 86) (oF.take 86) [mR 85] h0 (fun r h' => r = none ∧ h0 = h') := by
  refine tk_D (by decide) (by decide) (by decide) rfl (by decide) (ls := [some (mR 85)]) rfl ?_
  refine y_aload_n (M := M_X2_init_86) 0 dX2_init_0 rfl ?_
  refine y_objI (M := M_X2_init_86) 1 dX2_init_1 ol_X2 ow2 ow3 (by decide) (by decide) ?_
  exact y_vret (M := M_X2_init_86) 4 dX2_init_4 rfl ⟨rfl, rfl, rfl⟩
abbrev M_X2_init_87 : m_M := M_X2i 87
set_option maxHeartbeats 4000000 in
set_option maxRecDepth 100000 in
theorem c_X2_init_87 (h0 : m_H) : m_D M_X2_init_87 (oF.take 87) (oF.take 87) [mR 86] h0 (fun r h' => r = none ∧ h0 = h') := by
  refine tk_D (by decide) (by decide) (by decide) rfl (by decide) (ls := [some (mR 86)]) rfl ?_
  refine y_aload_n (M := M_X2_init_87) 0 dX2_init_0 rfl ?_
  refine y_objI (M := M_X2_init_87) 1 dX2_init_1 ol_X2 ow2 ow3 (by decide) (by decide) ?_
  exact y_vret (M := M_X2_init_87) 4 dX2_init_4 rfl ⟨rfl, rfl, rfl⟩
abbrev M_X2_init_88 : m_M := M_X2i 88
set_option maxHeartbeats 4000000 in
set_option maxRecDepth 100000 in
theorem c_X2_init_88 (h0 : m_H) : m_D M_X2_init_88 (oF.take 88) (oF.take 88) [mR 87] h0 (fun r h' => r = none ∧ h0 = h') := by
  refine tk_D (by decide) (by decide) (by decide) rfl (by decide) (ls := [some (mR 87)]) rfl ?_
  refine y_aload_n (M := M_X2_init_88) 0 dX2_init_0 rfl ?_
  refine y_objI (M := M_X2_init_88) 1 dX2_init_1 ol_X2 ow2 ow3 (by decide) (by decide) ?_
  exact y_vret (M := M_X2_init_88) 4 dX2_init_4 rfl ⟨rfl, rfl, rfl⟩
abbrev M_X2_init_89 : m_M := M_X2i 89
set_option maxHeartbeats 4000000 in
set_option maxRecDepth 100000 in
theorem c_X2_init_89 (h0 : m_H) : m_D M_X2_init_89 (oF.take 89) (oF.take 89) [mR 88] h0 (fun r h' => r = none ∧ h0 = h') := by
  refine tk_D (by decide) (by decide) (by decide) rfl (by decide) (ls := [some (mR 88)]) rfl ?_
  refine y_aload_n (M := M_X2_init_89) 0 dX2_init_0 rfl ?_
  refine y_objI (M := M_X2_init_89) 1 dX2_init_1 ol_X2 ow2 ow3 (by decide) (by decide) ?_
  exact y_vret (M := M_X2_init_89) 4 dX2_init_4 rfl ⟨rfl, rfl, rfl⟩
abbrev M_X2_init_90 : m_M := M_X2i 90
set_option maxHeartbeats 4000000 in
set_option maxRecDepth 100000 in
theorem c_X2_init_90 (h0 : m_H) : m_D M_X2_init_90 (oF.take 90) (oF.take 90) [mR 89] h0 (fun r h' => r = none ∧ h0 = h') := by
  refine tk_D (by decide) (by decide) (by decide) rfl (by decide) (ls := [some (mR 89)]) rfl ?_
  refine y_aload_n (M := M_X2_init_90) 0 dX2_init_0 rfl ?_
  refine y_objI (M := M_X2_init_90) 1 dX2_init_1 ol_X2 ow2 ow3 (by decide) (by decide) ?_
  exact y_vret (M := M_X2_init_90) 4 dX2_init_4 rfl ⟨rfl, rfl, rfl⟩
abbrev M_X2_init_91 : m_M := M_X2i 91
set_option maxHeartbeats 4000000 in
set_option maxRecDepth 100000 in
theorem c_X2_init_91 (h0 : m_H) : m_D M_X2_init_91 (oF.take 91) (oF.take 91) [mR 90] h0 (fun r h' => r = none ∧ h0 = h') := by
  refine tk_D (by decide) (by decide) (by decide) rfl (by decide) (ls := [some (mR 90)]) rfl ?_
  refine y_aload_n (M := M_X2_init_91) 0 dX2_init_0 rfl ?_
  refine y_objI (M := M_X2_init_91) 1 dX2_init_1 ol_X2 ow2 ow3 (by decide) (by decide) ?_
  exact y_vret (M := M_X2_init_91) 4 dX2_init_4 rfl ⟨rfl, rfl, rfl⟩
abbrev M_X2_init_92 : m_M := M_X2i 92
set_option maxHeartbeats 4000000 in
set_option maxRecDepth 100000 in
theorem c_X2_init_92 (h0 : m_H) : m_D M_X2_init_92 (oF.take 92) (oF.take 92) [mR 91] h0 (fun r h' => r = none ∧ h0 = h') := by
  refine tk_D (by decide) (by decide) (by decide) rfl (by decide) (ls := [some (mR 91)]) rfl ?_
  refine y_aload_n (M := M_X2_init_92) 0 dX2_init_0 rfl ?_
  refine y_objI (M := M_X2_init_92) 1 dX2_init_1 ol_X2 ow2 ow3 (by decide) (by decide) ?_
  exact y_vret (M := M_X2_init_92) 4 dX2_init_4 rfl ⟨rfl, rfl, rfl⟩
abbrev M_X2_init_93 : m_M := M_X2i 93
set_option maxHeartbeats 4000000 in
set_option maxRecDepth 100000 in
theorem c_X2_init_93 (h0 : m_H) : m_D M_X2_init_93 (oF.take 93) (oF.take 93) [mR 92] h0 (fun r h' => r = none ∧ h0 = h') := by
  refine tk_D (by decide) (by decide) (by decide) rfl (by decide) (ls := [some (mR 92)]) rfl ?_
  refine y_aload_n (M := M_X2_init_93) 0 dX2_init_0 rfl ?_
  refine y_objI (M := M_X2_init_93) 1 dX2_init_1 ol_X2 ow2 ow3 (by decide) (by decide) ?_
  exact y_vret (M := M_X2_init_93) 4 dX2_init_4 rfl ⟨rfl, rfl, rfl⟩
abbrev M_X11_newBounds_76 : m_M := mkM RX11 yX11_newBounds cX11_newBounds 3 2 40 76 93 (some (.array (.object "WeekFoot$Bound")))
set_option maxHeartbeats 4000000 in
set_option maxRecDepth 100000 in
theorem c_X11_newBounds_76 (h0 : m_H) : m_D M_X11_newBounds_76 (oF.take 76) (oF.take 93) [mI 16] h0 (fun r h' => r = some (mR 76) ∧ gR 76 93 h' ∧ (∀ k, k < 76 → h' k = h0 k)) := by
  refine tk_D (by decide) (by decide) (by decide) rfl (by decide) (ls := [some (mI 16), none, none]) rfl ?_
  refine y_iconst (M := M_X11_newBounds_76) 0 dX11_newBounds_0 ?_
  refine y_iload_n (M := M_X11_newBounds_76) 1 dX11_newBounds_1 rfl ?_
  refine y_maxI (M := M_X11_newBounds_76) 2 dX11_newBounds_2 ml_X11_447 (rest := []) (by decide) (by decide) ?_
  show m_Y _ _ _ _ _ [mI 16] _ _
  refine y_newq (M := M_X11_newBounds_76) 5 dX11_newBounds_5 cl_X11_232 (N := 16) (t := 3) (by decide) (Or.inl ⟨rfl, rfl⟩) (fun E m t q => (xI_A E m t q).1) (tk_s o_76) (tk_l (by decide)) (tk_b (by decide) (by decide) (by decide)) (fun h1 E1 => ?_)
  have F1 : ∀ k, k < 76 → h1 k = h0 k := frn_nw (fun k _ => rfl) E1 (by decide)
  refine y_astore_n (M := M_X11_newBounds_76) 8 dX11_newBounds_8 (ls' := [some (mI 16), some (mR 76), none]) (by decide) rfl ?_
  refine y_iconst (M := M_X11_newBounds_76) 9 dX11_newBounds_9 ?_
  refine y_istore_n (M := M_X11_newBounds_76) 10 dX11_newBounds_10 (ls' := [some (mI 16), some (mR 76), some (mI 0)]) (by decide) rfl ?_
  refine y_iload_n (M := M_X11_newBounds_76) 11 dX11_newBounds_11 rfl ?_
  refine y_aload_n (M := M_X11_newBounds_76) 12 dX11_newBounds_12 rfl ?_
  refine y_alen (M := M_X11_newBounds_76) 13 dX11_newBounds_13 (tk_g (by decide) o_76) (by decide) (by decide) ?_
  refine y_icmp_ge_F (M := M_X11_newBounds_76) 14 dX11_newBounds_14 33 rfl (by decide) ?_
  refine y_aload_n (M := M_X11_newBounds_76) 17 dX11_newBounds_17 rfl ?_
  refine y_iload_n (M := M_X11_newBounds_76) 18 dX11_newBounds_18 rfl ?_
  refine y_new (M := M_X11_newBounds_76) 19 dX11_newBounds_19 n_X11_232 (tk_s o_77) (tk_l (by decide)) (tk_b (by decide) (by decide) (by decide)) (fun h2 E2 => ?_)
  have F2 : ∀ k, k < 76 → h2 k = h0 k := frn_nw F1 E2 (by decide)
  clear F1 E1
  have g3 : gR 77 78 h2 := gR_1 (bn_ok E2 rfl)
  refine y_dup (M := M_X11_newBounds_76) 22 dX11_newBounds_22 rfl ?_
  refine y_callIN (M := M_X11_newBounds_76) 23 dX11_newBounds_23 t_X2_init il_X11_450 (m_rr_of rfl) xI_A (as := []) (rest := [mR 77, mI 0, mR 76]) (c_X2_init_78 h2) rfl rfl (Nat.le_of_ble_eq_true rfl) (tk_c (by decide) (by decide) (by decide) (by decide)) (fun r h3 q => ?_)
  obtain ⟨rfl, rfl⟩ := q
  refine y_aast (M := M_X11_newBounds_76) 26 dX11_newBounds_26 (Or.inl ⟨rfl, rfl⟩) (tk_g (by decide) o_76) (tk_g (by decide) o_77) cl_2 (by decide) (by decide) (fun h3 E3 => ?_)
  have g4 := g3.put E3 (by decide)
  have F5 : ∀ k, k < 76 → h3 k = h0 k := frn_up F2 E3 (by decide)
  clear g3 F2 E2
  have f6 : h3 76 0 = ((77 : Nat) : Int) := upE E3
  refine y_iincN (M := M_X11_newBounds_76) 27 dX11_newBounds_27 (ls' := [some (mI 16), some (mR 76), some (mI 1)]) (by decide) rfl (by (unfold m_32; decide)) (by decide) (by decide) rfl ?_
  refine y_goto (M := M_X11_newBounds_76) 30 dX11_newBounds_30 11 rfl ?_
  refine y_iload_n (M := M_X11_newBounds_76) 11 dX11_newBounds_11 rfl ?_
  refine y_aload_n (M := M_X11_newBounds_76) 12 dX11_newBounds_12 rfl ?_
  refine y_alen (M := M_X11_newBounds_76) 13 dX11_newBounds_13 (tk_g (by decide) o_76) (by decide) (by decide) ?_
  refine y_icmp_ge_F (M := M_X11_newBounds_76) 14 dX11_newBounds_14 33 rfl (by decide) ?_
  refine y_aload_n (M := M_X11_newBounds_76) 17 dX11_newBounds_17 rfl ?_
  refine y_iload_n (M := M_X11_newBounds_76) 18 dX11_newBounds_18 rfl ?_
  refine y_new (M := M_X11_newBounds_76) 19 dX11_newBounds_19 n_X11_232 (tk_s o_78) (tk_l (by decide)) (tk_b (by decide) (by decide) (by decide)) (fun h4 E4 => ?_)
  have f7 : h4 76 0 = ((77 : Nat) : Int) := nw_u E4 (by decide) f6
  have g8 := g4.nw E4 (by decide)
  have F9 : ∀ k, k < 76 → h4 k = h0 k := frn_nw F5 E4 (by decide)
  clear f6 g4 F5 E3
  have g10 : gR 78 79 h4 := gR_1 (bn_ok E4 rfl)
  have g11 := g8.join g10
  refine y_dup (M := M_X11_newBounds_76) 22 dX11_newBounds_22 rfl ?_
  refine y_callIN (M := M_X11_newBounds_76) 23 dX11_newBounds_23 t_X2_init il_X11_450 (m_rr_of rfl) xI_A (as := []) (rest := [mR 78, mI 1, mR 76]) (c_X2_init_79 h4) rfl rfl (Nat.le_of_ble_eq_true rfl) (tk_c (by decide) (by decide) (by decide) (by decide)) (fun r h5 q => ?_)
  obtain ⟨rfl, rfl⟩ := q
  refine y_aast (M := M_X11_newBounds_76) 26 dX11_newBounds_26 (Or.inl ⟨rfl, rfl⟩) (tk_g (by decide) o_76) (tk_g (by decide) o_78) cl_2 (by decide) (by decide) (fun h5 E5 => ?_)
  have f12 : h5 76 0 = ((77 : Nat) : Int) := (upN E5 (by decide)).trans f7
  have g13 := g11.put E5 (by decide)
  have F14 : ∀ k, k < 76 → h5 k = h0 k := frn_up F9 E5 (by decide)
  clear f7 g11 F9 E4 g8 g10
  have f15 : h5 76 1 = ((78 : Nat) : Int) := upE E5
  refine y_iincN (M := M_X11_newBounds_76) 27 dX11_newBounds_27 (ls' := [some (mI 16), some (mR 76), some (mI 2)]) (by decide) rfl (by (unfold m_32; decide)) (by decide) (by decide) rfl ?_
  refine y_goto (M := M_X11_newBounds_76) 30 dX11_newBounds_30 11 rfl ?_
  refine y_iload_n (M := M_X11_newBounds_76) 11 dX11_newBounds_11 rfl ?_
  refine y_aload_n (M := M_X11_newBounds_76) 12 dX11_newBounds_12 rfl ?_
  refine y_alen (M := M_X11_newBounds_76) 13 dX11_newBounds_13 (tk_g (by decide) o_76) (by decide) (by decide) ?_
  refine y_icmp_ge_F (M := M_X11_newBounds_76) 14 dX11_newBounds_14 33 rfl (by decide) ?_
  refine y_aload_n (M := M_X11_newBounds_76) 17 dX11_newBounds_17 rfl ?_
  refine y_iload_n (M := M_X11_newBounds_76) 18 dX11_newBounds_18 rfl ?_
  refine y_new (M := M_X11_newBounds_76) 19 dX11_newBounds_19 n_X11_232 (tk_s o_79) (tk_l (by decide)) (tk_b (by decide) (by decide) (by decide)) (fun h6 E6 => ?_)
  have f16 : h6 76 0 = ((77 : Nat) : Int) := nw_u E6 (by decide) f12
  have f17 : h6 76 1 = ((78 : Nat) : Int) := nw_u E6 (by decide) f15
  have g18 := g13.nw E6 (by decide)
  have F19 : ∀ k, k < 76 → h6 k = h0 k := frn_nw F14 E6 (by decide)
  clear f12 f15 g13 F14 E5
  have g20 : gR 79 80 h6 := gR_1 (bn_ok E6 rfl)
  have g21 := g18.join g20
  refine y_dup (M := M_X11_newBounds_76) 22 dX11_newBounds_22 rfl ?_
  refine y_callIN (M := M_X11_newBounds_76) 23 dX11_newBounds_23 t_X2_init il_X11_450 (m_rr_of rfl) xI_A (as := []) (rest := [mR 79, mI 2, mR 76]) (c_X2_init_80 h6) rfl rfl (Nat.le_of_ble_eq_true rfl) (tk_c (by decide) (by decide) (by decide) (by decide)) (fun r h7 q => ?_)
  obtain ⟨rfl, rfl⟩ := q
  refine y_aast (M := M_X11_newBounds_76) 26 dX11_newBounds_26 (Or.inl ⟨rfl, rfl⟩) (tk_g (by decide) o_76) (tk_g (by decide) o_79) cl_2 (by decide) (by decide) (fun h7 E7 => ?_)
  have f22 : h7 76 0 = ((77 : Nat) : Int) := (upN E7 (by decide)).trans f16
  have f23 : h7 76 1 = ((78 : Nat) : Int) := (upN E7 (by decide)).trans f17
  have g24 := g21.put E7 (by decide)
  have F25 : ∀ k, k < 76 → h7 k = h0 k := frn_up F19 E7 (by decide)
  clear f16 f17 g21 F19 E6 g18 g20
  have f26 : h7 76 2 = ((79 : Nat) : Int) := upE E7
  refine y_iincN (M := M_X11_newBounds_76) 27 dX11_newBounds_27 (ls' := [some (mI 16), some (mR 76), some (mI 3)]) (by decide) rfl (by (unfold m_32; decide)) (by decide) (by decide) rfl ?_
  refine y_goto (M := M_X11_newBounds_76) 30 dX11_newBounds_30 11 rfl ?_
  refine y_iload_n (M := M_X11_newBounds_76) 11 dX11_newBounds_11 rfl ?_
  refine y_aload_n (M := M_X11_newBounds_76) 12 dX11_newBounds_12 rfl ?_
  refine y_alen (M := M_X11_newBounds_76) 13 dX11_newBounds_13 (tk_g (by decide) o_76) (by decide) (by decide) ?_
  refine y_icmp_ge_F (M := M_X11_newBounds_76) 14 dX11_newBounds_14 33 rfl (by decide) ?_
  refine y_aload_n (M := M_X11_newBounds_76) 17 dX11_newBounds_17 rfl ?_
  refine y_iload_n (M := M_X11_newBounds_76) 18 dX11_newBounds_18 rfl ?_
  refine y_new (M := M_X11_newBounds_76) 19 dX11_newBounds_19 n_X11_232 (tk_s o_80) (tk_l (by decide)) (tk_b (by decide) (by decide) (by decide)) (fun h8 E8 => ?_)
  have f27 : h8 76 0 = ((77 : Nat) : Int) := nw_u E8 (by decide) f22
  have f28 : h8 76 1 = ((78 : Nat) : Int) := nw_u E8 (by decide) f23
  have f29 : h8 76 2 = ((79 : Nat) : Int) := nw_u E8 (by decide) f26
  have g30 := g24.nw E8 (by decide)
  have F31 : ∀ k, k < 76 → h8 k = h0 k := frn_nw F25 E8 (by decide)
  clear f22 f23 f26 g24 F25 E7
  have g32 : gR 80 81 h8 := gR_1 (bn_ok E8 rfl)
  have g33 := g30.join g32
  refine y_dup (M := M_X11_newBounds_76) 22 dX11_newBounds_22 rfl ?_
  refine y_callIN (M := M_X11_newBounds_76) 23 dX11_newBounds_23 t_X2_init il_X11_450 (m_rr_of rfl) xI_A (as := []) (rest := [mR 80, mI 3, mR 76]) (c_X2_init_81 h8) rfl rfl (Nat.le_of_ble_eq_true rfl) (tk_c (by decide) (by decide) (by decide) (by decide)) (fun r h9 q => ?_)
  obtain ⟨rfl, rfl⟩ := q
  refine y_aast (M := M_X11_newBounds_76) 26 dX11_newBounds_26 (Or.inl ⟨rfl, rfl⟩) (tk_g (by decide) o_76) (tk_g (by decide) o_80) cl_2 (by decide) (by decide) (fun h9 E9 => ?_)
  have f34 : h9 76 0 = ((77 : Nat) : Int) := (upN E9 (by decide)).trans f27
  have f35 : h9 76 1 = ((78 : Nat) : Int) := (upN E9 (by decide)).trans f28
  have f36 : h9 76 2 = ((79 : Nat) : Int) := (upN E9 (by decide)).trans f29
  have g37 := g33.put E9 (by decide)
  have F38 : ∀ k, k < 76 → h9 k = h0 k := frn_up F31 E9 (by decide)
  clear f27 f28 f29 g33 F31 E8 g30 g32
  have f39 : h9 76 3 = ((80 : Nat) : Int) := upE E9
  refine y_iincN (M := M_X11_newBounds_76) 27 dX11_newBounds_27 (ls' := [some (mI 16), some (mR 76), some (mI 4)]) (by decide) rfl (by (unfold m_32; decide)) (by decide) (by decide) rfl ?_
  refine y_goto (M := M_X11_newBounds_76) 30 dX11_newBounds_30 11 rfl ?_
  refine y_iload_n (M := M_X11_newBounds_76) 11 dX11_newBounds_11 rfl ?_
  refine y_aload_n (M := M_X11_newBounds_76) 12 dX11_newBounds_12 rfl ?_
  refine y_alen (M := M_X11_newBounds_76) 13 dX11_newBounds_13 (tk_g (by decide) o_76) (by decide) (by decide) ?_
  refine y_icmp_ge_F (M := M_X11_newBounds_76) 14 dX11_newBounds_14 33 rfl (by decide) ?_
  refine y_aload_n (M := M_X11_newBounds_76) 17 dX11_newBounds_17 rfl ?_
  refine y_iload_n (M := M_X11_newBounds_76) 18 dX11_newBounds_18 rfl ?_
  refine y_new (M := M_X11_newBounds_76) 19 dX11_newBounds_19 n_X11_232 (tk_s o_81) (tk_l (by decide)) (tk_b (by decide) (by decide) (by decide)) (fun h10 E10 => ?_)
  have f40 : h10 76 0 = ((77 : Nat) : Int) := nw_u E10 (by decide) f34
  have f41 : h10 76 1 = ((78 : Nat) : Int) := nw_u E10 (by decide) f35
  have f42 : h10 76 2 = ((79 : Nat) : Int) := nw_u E10 (by decide) f36
  have f43 : h10 76 3 = ((80 : Nat) : Int) := nw_u E10 (by decide) f39
  have g44 := g37.nw E10 (by decide)
  have F45 : ∀ k, k < 76 → h10 k = h0 k := frn_nw F38 E10 (by decide)
  clear f34 f35 f36 f39 g37 F38 E9
  have g46 : gR 81 82 h10 := gR_1 (bn_ok E10 rfl)
  have g47 := g44.join g46
  refine y_dup (M := M_X11_newBounds_76) 22 dX11_newBounds_22 rfl ?_
  refine y_callIN (M := M_X11_newBounds_76) 23 dX11_newBounds_23 t_X2_init il_X11_450 (m_rr_of rfl) xI_A (as := []) (rest := [mR 81, mI 4, mR 76]) (c_X2_init_82 h10) rfl rfl (Nat.le_of_ble_eq_true rfl) (tk_c (by decide) (by decide) (by decide) (by decide)) (fun r h11 q => ?_)
  obtain ⟨rfl, rfl⟩ := q
  refine y_aast (M := M_X11_newBounds_76) 26 dX11_newBounds_26 (Or.inl ⟨rfl, rfl⟩) (tk_g (by decide) o_76) (tk_g (by decide) o_81) cl_2 (by decide) (by decide) (fun h11 E11 => ?_)
  have f48 : h11 76 0 = ((77 : Nat) : Int) := (upN E11 (by decide)).trans f40
  have f49 : h11 76 1 = ((78 : Nat) : Int) := (upN E11 (by decide)).trans f41
  have f50 : h11 76 2 = ((79 : Nat) : Int) := (upN E11 (by decide)).trans f42
  have f51 : h11 76 3 = ((80 : Nat) : Int) := (upN E11 (by decide)).trans f43
  have g52 := g47.put E11 (by decide)
  have F53 : ∀ k, k < 76 → h11 k = h0 k := frn_up F45 E11 (by decide)
  clear f40 f41 f42 f43 g47 F45 E10 g44 g46
  have f54 : h11 76 4 = ((81 : Nat) : Int) := upE E11
  refine y_iincN (M := M_X11_newBounds_76) 27 dX11_newBounds_27 (ls' := [some (mI 16), some (mR 76), some (mI 5)]) (by decide) rfl (by (unfold m_32; decide)) (by decide) (by decide) rfl ?_
  refine y_goto (M := M_X11_newBounds_76) 30 dX11_newBounds_30 11 rfl ?_
  refine y_iload_n (M := M_X11_newBounds_76) 11 dX11_newBounds_11 rfl ?_
  refine y_aload_n (M := M_X11_newBounds_76) 12 dX11_newBounds_12 rfl ?_
  refine y_alen (M := M_X11_newBounds_76) 13 dX11_newBounds_13 (tk_g (by decide) o_76) (by decide) (by decide) ?_
  refine y_icmp_ge_F (M := M_X11_newBounds_76) 14 dX11_newBounds_14 33 rfl (by decide) ?_
  refine y_aload_n (M := M_X11_newBounds_76) 17 dX11_newBounds_17 rfl ?_
  refine y_iload_n (M := M_X11_newBounds_76) 18 dX11_newBounds_18 rfl ?_
  refine y_new (M := M_X11_newBounds_76) 19 dX11_newBounds_19 n_X11_232 (tk_s o_82) (tk_l (by decide)) (tk_b (by decide) (by decide) (by decide)) (fun h12 E12 => ?_)
  have f55 : h12 76 0 = ((77 : Nat) : Int) := nw_u E12 (by decide) f48
  have f56 : h12 76 1 = ((78 : Nat) : Int) := nw_u E12 (by decide) f49
  have f57 : h12 76 2 = ((79 : Nat) : Int) := nw_u E12 (by decide) f50
  have f58 : h12 76 3 = ((80 : Nat) : Int) := nw_u E12 (by decide) f51
  have f59 : h12 76 4 = ((81 : Nat) : Int) := nw_u E12 (by decide) f54
  have g60 := g52.nw E12 (by decide)
  have F61 : ∀ k, k < 76 → h12 k = h0 k := frn_nw F53 E12 (by decide)
  clear f48 f49 f50 f51 f54 g52 F53 E11
  have g62 : gR 82 83 h12 := gR_1 (bn_ok E12 rfl)
  have g63 := g60.join g62
  refine y_dup (M := M_X11_newBounds_76) 22 dX11_newBounds_22 rfl ?_
  refine y_callIN (M := M_X11_newBounds_76) 23 dX11_newBounds_23 t_X2_init il_X11_450 (m_rr_of rfl) xI_A (as := []) (rest := [mR 82, mI 5, mR 76]) (c_X2_init_83 h12) rfl rfl (Nat.le_of_ble_eq_true rfl) (tk_c (by decide) (by decide) (by decide) (by decide)) (fun r h13 q => ?_)
  obtain ⟨rfl, rfl⟩ := q
  refine y_aast (M := M_X11_newBounds_76) 26 dX11_newBounds_26 (Or.inl ⟨rfl, rfl⟩) (tk_g (by decide) o_76) (tk_g (by decide) o_82) cl_2 (by decide) (by decide) (fun h13 E13 => ?_)
  have f64 : h13 76 0 = ((77 : Nat) : Int) := (upN E13 (by decide)).trans f55
  have f65 : h13 76 1 = ((78 : Nat) : Int) := (upN E13 (by decide)).trans f56
  have f66 : h13 76 2 = ((79 : Nat) : Int) := (upN E13 (by decide)).trans f57
  have f67 : h13 76 3 = ((80 : Nat) : Int) := (upN E13 (by decide)).trans f58
  have f68 : h13 76 4 = ((81 : Nat) : Int) := (upN E13 (by decide)).trans f59
  have g69 := g63.put E13 (by decide)
  have F70 : ∀ k, k < 76 → h13 k = h0 k := frn_up F61 E13 (by decide)
  clear f55 f56 f57 f58 f59 g63 F61 E12 g60 g62
  have f71 : h13 76 5 = ((82 : Nat) : Int) := upE E13
  refine y_iincN (M := M_X11_newBounds_76) 27 dX11_newBounds_27 (ls' := [some (mI 16), some (mR 76), some (mI 6)]) (by decide) rfl (by (unfold m_32; decide)) (by decide) (by decide) rfl ?_
  refine y_goto (M := M_X11_newBounds_76) 30 dX11_newBounds_30 11 rfl ?_
  refine y_iload_n (M := M_X11_newBounds_76) 11 dX11_newBounds_11 rfl ?_
  refine y_aload_n (M := M_X11_newBounds_76) 12 dX11_newBounds_12 rfl ?_
  refine y_alen (M := M_X11_newBounds_76) 13 dX11_newBounds_13 (tk_g (by decide) o_76) (by decide) (by decide) ?_
  refine y_icmp_ge_F (M := M_X11_newBounds_76) 14 dX11_newBounds_14 33 rfl (by decide) ?_
  refine y_aload_n (M := M_X11_newBounds_76) 17 dX11_newBounds_17 rfl ?_
  refine y_iload_n (M := M_X11_newBounds_76) 18 dX11_newBounds_18 rfl ?_
  refine y_new (M := M_X11_newBounds_76) 19 dX11_newBounds_19 n_X11_232 (tk_s o_83) (tk_l (by decide)) (tk_b (by decide) (by decide) (by decide)) (fun h14 E14 => ?_)
  have f72 : h14 76 0 = ((77 : Nat) : Int) := nw_u E14 (by decide) f64
  have f73 : h14 76 1 = ((78 : Nat) : Int) := nw_u E14 (by decide) f65
  have f74 : h14 76 2 = ((79 : Nat) : Int) := nw_u E14 (by decide) f66
  have f75 : h14 76 3 = ((80 : Nat) : Int) := nw_u E14 (by decide) f67
  have f76 : h14 76 4 = ((81 : Nat) : Int) := nw_u E14 (by decide) f68
  have f77 : h14 76 5 = ((82 : Nat) : Int) := nw_u E14 (by decide) f71
  have g78 := g69.nw E14 (by decide)
  have F79 : ∀ k, k < 76 → h14 k = h0 k := frn_nw F70 E14 (by decide)
  clear f64 f65 f66 f67 f68 f71 g69 F70 E13
  have g80 : gR 83 84 h14 := gR_1 (bn_ok E14 rfl)
  have g81 := g78.join g80
  refine y_dup (M := M_X11_newBounds_76) 22 dX11_newBounds_22 rfl ?_
  refine y_callIN (M := M_X11_newBounds_76) 23 dX11_newBounds_23 t_X2_init il_X11_450 (m_rr_of rfl) xI_A (as := []) (rest := [mR 83, mI 6, mR 76]) (c_X2_init_84 h14) rfl rfl (Nat.le_of_ble_eq_true rfl) (tk_c (by decide) (by decide) (by decide) (by decide)) (fun r h15 q => ?_)
  obtain ⟨rfl, rfl⟩ := q
  refine y_aast (M := M_X11_newBounds_76) 26 dX11_newBounds_26 (Or.inl ⟨rfl, rfl⟩) (tk_g (by decide) o_76) (tk_g (by decide) o_83) cl_2 (by decide) (by decide) (fun h15 E15 => ?_)
  have f82 : h15 76 0 = ((77 : Nat) : Int) := (upN E15 (by decide)).trans f72
  have f83 : h15 76 1 = ((78 : Nat) : Int) := (upN E15 (by decide)).trans f73
  have f84 : h15 76 2 = ((79 : Nat) : Int) := (upN E15 (by decide)).trans f74
  have f85 : h15 76 3 = ((80 : Nat) : Int) := (upN E15 (by decide)).trans f75
  have f86 : h15 76 4 = ((81 : Nat) : Int) := (upN E15 (by decide)).trans f76
  have f87 : h15 76 5 = ((82 : Nat) : Int) := (upN E15 (by decide)).trans f77
  have g88 := g81.put E15 (by decide)
  have F89 : ∀ k, k < 76 → h15 k = h0 k := frn_up F79 E15 (by decide)
  clear f72 f73 f74 f75 f76 f77 g81 F79 E14 g78 g80
  have f90 : h15 76 6 = ((83 : Nat) : Int) := upE E15
  refine y_iincN (M := M_X11_newBounds_76) 27 dX11_newBounds_27 (ls' := [some (mI 16), some (mR 76), some (mI 7)]) (by decide) rfl (by (unfold m_32; decide)) (by decide) (by decide) rfl ?_
  refine y_goto (M := M_X11_newBounds_76) 30 dX11_newBounds_30 11 rfl ?_
  refine y_iload_n (M := M_X11_newBounds_76) 11 dX11_newBounds_11 rfl ?_
  refine y_aload_n (M := M_X11_newBounds_76) 12 dX11_newBounds_12 rfl ?_
  refine y_alen (M := M_X11_newBounds_76) 13 dX11_newBounds_13 (tk_g (by decide) o_76) (by decide) (by decide) ?_
  refine y_icmp_ge_F (M := M_X11_newBounds_76) 14 dX11_newBounds_14 33 rfl (by decide) ?_
  refine y_aload_n (M := M_X11_newBounds_76) 17 dX11_newBounds_17 rfl ?_
  refine y_iload_n (M := M_X11_newBounds_76) 18 dX11_newBounds_18 rfl ?_
  refine y_new (M := M_X11_newBounds_76) 19 dX11_newBounds_19 n_X11_232 (tk_s o_84) (tk_l (by decide)) (tk_b (by decide) (by decide) (by decide)) (fun h16 E16 => ?_)
  have f91 : h16 76 0 = ((77 : Nat) : Int) := nw_u E16 (by decide) f82
  have f92 : h16 76 1 = ((78 : Nat) : Int) := nw_u E16 (by decide) f83
  have f93 : h16 76 2 = ((79 : Nat) : Int) := nw_u E16 (by decide) f84
  have f94 : h16 76 3 = ((80 : Nat) : Int) := nw_u E16 (by decide) f85
  have f95 : h16 76 4 = ((81 : Nat) : Int) := nw_u E16 (by decide) f86
  have f96 : h16 76 5 = ((82 : Nat) : Int) := nw_u E16 (by decide) f87
  have f97 : h16 76 6 = ((83 : Nat) : Int) := nw_u E16 (by decide) f90
  have g98 := g88.nw E16 (by decide)
  have F99 : ∀ k, k < 76 → h16 k = h0 k := frn_nw F89 E16 (by decide)
  clear f82 f83 f84 f85 f86 f87 f90 g88 F89 E15
  have g100 : gR 84 85 h16 := gR_1 (bn_ok E16 rfl)
  have g101 := g98.join g100
  refine y_dup (M := M_X11_newBounds_76) 22 dX11_newBounds_22 rfl ?_
  refine y_callIN (M := M_X11_newBounds_76) 23 dX11_newBounds_23 t_X2_init il_X11_450 (m_rr_of rfl) xI_A (as := []) (rest := [mR 84, mI 7, mR 76]) (c_X2_init_85 h16) rfl rfl (Nat.le_of_ble_eq_true rfl) (tk_c (by decide) (by decide) (by decide) (by decide)) (fun r h17 q => ?_)
  obtain ⟨rfl, rfl⟩ := q
  refine y_aast (M := M_X11_newBounds_76) 26 dX11_newBounds_26 (Or.inl ⟨rfl, rfl⟩) (tk_g (by decide) o_76) (tk_g (by decide) o_84) cl_2 (by decide) (by decide) (fun h17 E17 => ?_)
  have f102 : h17 76 0 = ((77 : Nat) : Int) := (upN E17 (by decide)).trans f91
  have f103 : h17 76 1 = ((78 : Nat) : Int) := (upN E17 (by decide)).trans f92
  have f104 : h17 76 2 = ((79 : Nat) : Int) := (upN E17 (by decide)).trans f93
  have f105 : h17 76 3 = ((80 : Nat) : Int) := (upN E17 (by decide)).trans f94
  have f106 : h17 76 4 = ((81 : Nat) : Int) := (upN E17 (by decide)).trans f95
  have f107 : h17 76 5 = ((82 : Nat) : Int) := (upN E17 (by decide)).trans f96
  have f108 : h17 76 6 = ((83 : Nat) : Int) := (upN E17 (by decide)).trans f97
  have g109 := g101.put E17 (by decide)
  have F110 : ∀ k, k < 76 → h17 k = h0 k := frn_up F99 E17 (by decide)
  clear f91 f92 f93 f94 f95 f96 f97 g101 F99 E16 g98 g100
  have f111 : h17 76 7 = ((84 : Nat) : Int) := upE E17
  refine y_iincN (M := M_X11_newBounds_76) 27 dX11_newBounds_27 (ls' := [some (mI 16), some (mR 76), some (mI 8)]) (by decide) rfl (by (unfold m_32; decide)) (by decide) (by decide) rfl ?_
  refine y_goto (M := M_X11_newBounds_76) 30 dX11_newBounds_30 11 rfl ?_
  refine y_iload_n (M := M_X11_newBounds_76) 11 dX11_newBounds_11 rfl ?_
  refine y_aload_n (M := M_X11_newBounds_76) 12 dX11_newBounds_12 rfl ?_
  refine y_alen (M := M_X11_newBounds_76) 13 dX11_newBounds_13 (tk_g (by decide) o_76) (by decide) (by decide) ?_
  refine y_icmp_ge_F (M := M_X11_newBounds_76) 14 dX11_newBounds_14 33 rfl (by decide) ?_
  refine y_aload_n (M := M_X11_newBounds_76) 17 dX11_newBounds_17 rfl ?_
  refine y_iload_n (M := M_X11_newBounds_76) 18 dX11_newBounds_18 rfl ?_
  refine y_new (M := M_X11_newBounds_76) 19 dX11_newBounds_19 n_X11_232 (tk_s o_85) (tk_l (by decide)) (tk_b (by decide) (by decide) (by decide)) (fun h18 E18 => ?_)
  have f112 : h18 76 0 = ((77 : Nat) : Int) := nw_u E18 (by decide) f102
  have f113 : h18 76 1 = ((78 : Nat) : Int) := nw_u E18 (by decide) f103
  have f114 : h18 76 2 = ((79 : Nat) : Int) := nw_u E18 (by decide) f104
  have f115 : h18 76 3 = ((80 : Nat) : Int) := nw_u E18 (by decide) f105
  have f116 : h18 76 4 = ((81 : Nat) : Int) := nw_u E18 (by decide) f106
  have f117 : h18 76 5 = ((82 : Nat) : Int) := nw_u E18 (by decide) f107
  have f118 : h18 76 6 = ((83 : Nat) : Int) := nw_u E18 (by decide) f108
  have f119 : h18 76 7 = ((84 : Nat) : Int) := nw_u E18 (by decide) f111
  have g120 := g109.nw E18 (by decide)
  have F121 : ∀ k, k < 76 → h18 k = h0 k := frn_nw F110 E18 (by decide)
  clear f102 f103 f104 f105 f106 f107 f108 f111 g109 F110 E17
  have g122 : gR 85 86 h18 := gR_1 (bn_ok E18 rfl)
  have g123 := g120.join g122
  refine y_dup (M := M_X11_newBounds_76) 22 dX11_newBounds_22 rfl ?_
  refine y_callIN (M := M_X11_newBounds_76) 23 dX11_newBounds_23 t_X2_init il_X11_450 (m_rr_of rfl) xI_A (as := []) (rest := [mR 85, mI 8, mR 76]) (c_X2_init_86 h18) rfl rfl (Nat.le_of_ble_eq_true rfl) (tk_c (by decide) (by decide) (by decide) (by decide)) (fun r h19 q => ?_)
  obtain ⟨rfl, rfl⟩ := q
  refine y_aast (M := M_X11_newBounds_76) 26 dX11_newBounds_26 (Or.inl ⟨rfl, rfl⟩) (tk_g (by decide) o_76) (tk_g (by decide) o_85) cl_2 (by decide) (by decide) (fun h19 E19 => ?_)
  have f124 : h19 76 0 = ((77 : Nat) : Int) := (upN E19 (by decide)).trans f112
  have f125 : h19 76 1 = ((78 : Nat) : Int) := (upN E19 (by decide)).trans f113
  have f126 : h19 76 2 = ((79 : Nat) : Int) := (upN E19 (by decide)).trans f114
  have f127 : h19 76 3 = ((80 : Nat) : Int) := (upN E19 (by decide)).trans f115
  have f128 : h19 76 4 = ((81 : Nat) : Int) := (upN E19 (by decide)).trans f116
  have f129 : h19 76 5 = ((82 : Nat) : Int) := (upN E19 (by decide)).trans f117
  have f130 : h19 76 6 = ((83 : Nat) : Int) := (upN E19 (by decide)).trans f118
  have f131 : h19 76 7 = ((84 : Nat) : Int) := (upN E19 (by decide)).trans f119
  have g132 := g123.put E19 (by decide)
  have F133 : ∀ k, k < 76 → h19 k = h0 k := frn_up F121 E19 (by decide)
  clear f112 f113 f114 f115 f116 f117 f118 f119 g123 F121 E18 g120 g122
  have f134 : h19 76 8 = ((85 : Nat) : Int) := upE E19
  refine y_iincN (M := M_X11_newBounds_76) 27 dX11_newBounds_27 (ls' := [some (mI 16), some (mR 76), some (mI 9)]) (by decide) rfl (by (unfold m_32; decide)) (by decide) (by decide) rfl ?_
  refine y_goto (M := M_X11_newBounds_76) 30 dX11_newBounds_30 11 rfl ?_
  refine y_iload_n (M := M_X11_newBounds_76) 11 dX11_newBounds_11 rfl ?_
  refine y_aload_n (M := M_X11_newBounds_76) 12 dX11_newBounds_12 rfl ?_
  refine y_alen (M := M_X11_newBounds_76) 13 dX11_newBounds_13 (tk_g (by decide) o_76) (by decide) (by decide) ?_
  refine y_icmp_ge_F (M := M_X11_newBounds_76) 14 dX11_newBounds_14 33 rfl (by decide) ?_
  refine y_aload_n (M := M_X11_newBounds_76) 17 dX11_newBounds_17 rfl ?_
  refine y_iload_n (M := M_X11_newBounds_76) 18 dX11_newBounds_18 rfl ?_
  refine y_new (M := M_X11_newBounds_76) 19 dX11_newBounds_19 n_X11_232 (tk_s o_86) (tk_l (by decide)) (tk_b (by decide) (by decide) (by decide)) (fun h20 E20 => ?_)
  have f135 : h20 76 0 = ((77 : Nat) : Int) := nw_u E20 (by decide) f124
  have f136 : h20 76 1 = ((78 : Nat) : Int) := nw_u E20 (by decide) f125
  have f137 : h20 76 2 = ((79 : Nat) : Int) := nw_u E20 (by decide) f126
  have f138 : h20 76 3 = ((80 : Nat) : Int) := nw_u E20 (by decide) f127
  have f139 : h20 76 4 = ((81 : Nat) : Int) := nw_u E20 (by decide) f128
  have f140 : h20 76 5 = ((82 : Nat) : Int) := nw_u E20 (by decide) f129
  have f141 : h20 76 6 = ((83 : Nat) : Int) := nw_u E20 (by decide) f130
  have f142 : h20 76 7 = ((84 : Nat) : Int) := nw_u E20 (by decide) f131
  have f143 : h20 76 8 = ((85 : Nat) : Int) := nw_u E20 (by decide) f134
  have g144 := g132.nw E20 (by decide)
  have F145 : ∀ k, k < 76 → h20 k = h0 k := frn_nw F133 E20 (by decide)
  clear f124 f125 f126 f127 f128 f129 f130 f131 f134 g132 F133 E19
  have g146 : gR 86 87 h20 := gR_1 (bn_ok E20 rfl)
  have g147 := g144.join g146
  refine y_dup (M := M_X11_newBounds_76) 22 dX11_newBounds_22 rfl ?_
  refine y_callIN (M := M_X11_newBounds_76) 23 dX11_newBounds_23 t_X2_init il_X11_450 (m_rr_of rfl) xI_A (as := []) (rest := [mR 86, mI 9, mR 76]) (c_X2_init_87 h20) rfl rfl (Nat.le_of_ble_eq_true rfl) (tk_c (by decide) (by decide) (by decide) (by decide)) (fun r h21 q => ?_)
  obtain ⟨rfl, rfl⟩ := q
  refine y_aast (M := M_X11_newBounds_76) 26 dX11_newBounds_26 (Or.inl ⟨rfl, rfl⟩) (tk_g (by decide) o_76) (tk_g (by decide) o_86) cl_2 (by decide) (by decide) (fun h21 E21 => ?_)
  have f148 : h21 76 0 = ((77 : Nat) : Int) := (upN E21 (by decide)).trans f135
  have f149 : h21 76 1 = ((78 : Nat) : Int) := (upN E21 (by decide)).trans f136
  have f150 : h21 76 2 = ((79 : Nat) : Int) := (upN E21 (by decide)).trans f137
  have f151 : h21 76 3 = ((80 : Nat) : Int) := (upN E21 (by decide)).trans f138
  have f152 : h21 76 4 = ((81 : Nat) : Int) := (upN E21 (by decide)).trans f139
  have f153 : h21 76 5 = ((82 : Nat) : Int) := (upN E21 (by decide)).trans f140
  have f154 : h21 76 6 = ((83 : Nat) : Int) := (upN E21 (by decide)).trans f141
  have f155 : h21 76 7 = ((84 : Nat) : Int) := (upN E21 (by decide)).trans f142
  have f156 : h21 76 8 = ((85 : Nat) : Int) := (upN E21 (by decide)).trans f143
  have g157 := g147.put E21 (by decide)
  have F158 : ∀ k, k < 76 → h21 k = h0 k := frn_up F145 E21 (by decide)
  clear f135 f136 f137 f138 f139 f140 f141 f142 f143 g147 F145 E20 g144 g146
  have f159 : h21 76 9 = ((86 : Nat) : Int) := upE E21
  refine y_iincN (M := M_X11_newBounds_76) 27 dX11_newBounds_27 (ls' := [some (mI 16), some (mR 76), some (mI 10)]) (by decide) rfl (by (unfold m_32; decide)) (by decide) (by decide) rfl ?_
  refine y_goto (M := M_X11_newBounds_76) 30 dX11_newBounds_30 11 rfl ?_
  refine y_iload_n (M := M_X11_newBounds_76) 11 dX11_newBounds_11 rfl ?_
  refine y_aload_n (M := M_X11_newBounds_76) 12 dX11_newBounds_12 rfl ?_
  refine y_alen (M := M_X11_newBounds_76) 13 dX11_newBounds_13 (tk_g (by decide) o_76) (by decide) (by decide) ?_
  refine y_icmp_ge_F (M := M_X11_newBounds_76) 14 dX11_newBounds_14 33 rfl (by decide) ?_
  refine y_aload_n (M := M_X11_newBounds_76) 17 dX11_newBounds_17 rfl ?_
  refine y_iload_n (M := M_X11_newBounds_76) 18 dX11_newBounds_18 rfl ?_
  refine y_new (M := M_X11_newBounds_76) 19 dX11_newBounds_19 n_X11_232 (tk_s o_87) (tk_l (by decide)) (tk_b (by decide) (by decide) (by decide)) (fun h22 E22 => ?_)
  have f160 : h22 76 0 = ((77 : Nat) : Int) := nw_u E22 (by decide) f148
  have f161 : h22 76 1 = ((78 : Nat) : Int) := nw_u E22 (by decide) f149
  have f162 : h22 76 2 = ((79 : Nat) : Int) := nw_u E22 (by decide) f150
  have f163 : h22 76 3 = ((80 : Nat) : Int) := nw_u E22 (by decide) f151
  have f164 : h22 76 4 = ((81 : Nat) : Int) := nw_u E22 (by decide) f152
  have f165 : h22 76 5 = ((82 : Nat) : Int) := nw_u E22 (by decide) f153
  have f166 : h22 76 6 = ((83 : Nat) : Int) := nw_u E22 (by decide) f154
  have f167 : h22 76 7 = ((84 : Nat) : Int) := nw_u E22 (by decide) f155
  have f168 : h22 76 8 = ((85 : Nat) : Int) := nw_u E22 (by decide) f156
  have f169 : h22 76 9 = ((86 : Nat) : Int) := nw_u E22 (by decide) f159
  have g170 := g157.nw E22 (by decide)
  have F171 : ∀ k, k < 76 → h22 k = h0 k := frn_nw F158 E22 (by decide)
  clear f148 f149 f150 f151 f152 f153 f154 f155 f156 f159 g157 F158 E21
  have g172 : gR 87 88 h22 := gR_1 (bn_ok E22 rfl)
  have g173 := g170.join g172
  refine y_dup (M := M_X11_newBounds_76) 22 dX11_newBounds_22 rfl ?_
  refine y_callIN (M := M_X11_newBounds_76) 23 dX11_newBounds_23 t_X2_init il_X11_450 (m_rr_of rfl) xI_A (as := []) (rest := [mR 87, mI 10, mR 76]) (c_X2_init_88 h22) rfl rfl (Nat.le_of_ble_eq_true rfl) (tk_c (by decide) (by decide) (by decide) (by decide)) (fun r h23 q => ?_)
  obtain ⟨rfl, rfl⟩ := q
  refine y_aast (M := M_X11_newBounds_76) 26 dX11_newBounds_26 (Or.inl ⟨rfl, rfl⟩) (tk_g (by decide) o_76) (tk_g (by decide) o_87) cl_2 (by decide) (by decide) (fun h23 E23 => ?_)
  have f174 : h23 76 0 = ((77 : Nat) : Int) := (upN E23 (by decide)).trans f160
  have f175 : h23 76 1 = ((78 : Nat) : Int) := (upN E23 (by decide)).trans f161
  have f176 : h23 76 2 = ((79 : Nat) : Int) := (upN E23 (by decide)).trans f162
  have f177 : h23 76 3 = ((80 : Nat) : Int) := (upN E23 (by decide)).trans f163
  have f178 : h23 76 4 = ((81 : Nat) : Int) := (upN E23 (by decide)).trans f164
  have f179 : h23 76 5 = ((82 : Nat) : Int) := (upN E23 (by decide)).trans f165
  have f180 : h23 76 6 = ((83 : Nat) : Int) := (upN E23 (by decide)).trans f166
  have f181 : h23 76 7 = ((84 : Nat) : Int) := (upN E23 (by decide)).trans f167
  have f182 : h23 76 8 = ((85 : Nat) : Int) := (upN E23 (by decide)).trans f168
  have f183 : h23 76 9 = ((86 : Nat) : Int) := (upN E23 (by decide)).trans f169
  have g184 := g173.put E23 (by decide)
  have F185 : ∀ k, k < 76 → h23 k = h0 k := frn_up F171 E23 (by decide)
  clear f160 f161 f162 f163 f164 f165 f166 f167 f168 f169 g173 F171 E22 g170 g172
  have f186 : h23 76 10 = ((87 : Nat) : Int) := upE E23
  refine y_iincN (M := M_X11_newBounds_76) 27 dX11_newBounds_27 (ls' := [some (mI 16), some (mR 76), some (mI 11)]) (by decide) rfl (by (unfold m_32; decide)) (by decide) (by decide) rfl ?_
  refine y_goto (M := M_X11_newBounds_76) 30 dX11_newBounds_30 11 rfl ?_
  refine y_iload_n (M := M_X11_newBounds_76) 11 dX11_newBounds_11 rfl ?_
  refine y_aload_n (M := M_X11_newBounds_76) 12 dX11_newBounds_12 rfl ?_
  refine y_alen (M := M_X11_newBounds_76) 13 dX11_newBounds_13 (tk_g (by decide) o_76) (by decide) (by decide) ?_
  refine y_icmp_ge_F (M := M_X11_newBounds_76) 14 dX11_newBounds_14 33 rfl (by decide) ?_
  refine y_aload_n (M := M_X11_newBounds_76) 17 dX11_newBounds_17 rfl ?_
  refine y_iload_n (M := M_X11_newBounds_76) 18 dX11_newBounds_18 rfl ?_
  refine y_new (M := M_X11_newBounds_76) 19 dX11_newBounds_19 n_X11_232 (tk_s o_88) (tk_l (by decide)) (tk_b (by decide) (by decide) (by decide)) (fun h24 E24 => ?_)
  have f187 : h24 76 0 = ((77 : Nat) : Int) := nw_u E24 (by decide) f174
  have f188 : h24 76 1 = ((78 : Nat) : Int) := nw_u E24 (by decide) f175
  have f189 : h24 76 2 = ((79 : Nat) : Int) := nw_u E24 (by decide) f176
  have f190 : h24 76 3 = ((80 : Nat) : Int) := nw_u E24 (by decide) f177
  have f191 : h24 76 4 = ((81 : Nat) : Int) := nw_u E24 (by decide) f178
  have f192 : h24 76 5 = ((82 : Nat) : Int) := nw_u E24 (by decide) f179
  have f193 : h24 76 6 = ((83 : Nat) : Int) := nw_u E24 (by decide) f180
  have f194 : h24 76 7 = ((84 : Nat) : Int) := nw_u E24 (by decide) f181
  have f195 : h24 76 8 = ((85 : Nat) : Int) := nw_u E24 (by decide) f182
  have f196 : h24 76 9 = ((86 : Nat) : Int) := nw_u E24 (by decide) f183
  have f197 : h24 76 10 = ((87 : Nat) : Int) := nw_u E24 (by decide) f186
  have g198 := g184.nw E24 (by decide)
  have F199 : ∀ k, k < 76 → h24 k = h0 k := frn_nw F185 E24 (by decide)
  clear f174 f175 f176 f177 f178 f179 f180 f181 f182 f183 f186 g184 F185 E23
  have g200 : gR 88 89 h24 := gR_1 (bn_ok E24 rfl)
  have g201 := g198.join g200
  refine y_dup (M := M_X11_newBounds_76) 22 dX11_newBounds_22 rfl ?_
  refine y_callIN (M := M_X11_newBounds_76) 23 dX11_newBounds_23 t_X2_init il_X11_450 (m_rr_of rfl) xI_A (as := []) (rest := [mR 88, mI 11, mR 76]) (c_X2_init_89 h24) rfl rfl (Nat.le_of_ble_eq_true rfl) (tk_c (by decide) (by decide) (by decide) (by decide)) (fun r h25 q => ?_)
  obtain ⟨rfl, rfl⟩ := q
  refine y_aast (M := M_X11_newBounds_76) 26 dX11_newBounds_26 (Or.inl ⟨rfl, rfl⟩) (tk_g (by decide) o_76) (tk_g (by decide) o_88) cl_2 (by decide) (by decide) (fun h25 E25 => ?_)
  have f202 : h25 76 0 = ((77 : Nat) : Int) := (upN E25 (by decide)).trans f187
  have f203 : h25 76 1 = ((78 : Nat) : Int) := (upN E25 (by decide)).trans f188
  have f204 : h25 76 2 = ((79 : Nat) : Int) := (upN E25 (by decide)).trans f189
  have f205 : h25 76 3 = ((80 : Nat) : Int) := (upN E25 (by decide)).trans f190
  have f206 : h25 76 4 = ((81 : Nat) : Int) := (upN E25 (by decide)).trans f191
  have f207 : h25 76 5 = ((82 : Nat) : Int) := (upN E25 (by decide)).trans f192
  have f208 : h25 76 6 = ((83 : Nat) : Int) := (upN E25 (by decide)).trans f193
  have f209 : h25 76 7 = ((84 : Nat) : Int) := (upN E25 (by decide)).trans f194
  have f210 : h25 76 8 = ((85 : Nat) : Int) := (upN E25 (by decide)).trans f195
  have f211 : h25 76 9 = ((86 : Nat) : Int) := (upN E25 (by decide)).trans f196
  have f212 : h25 76 10 = ((87 : Nat) : Int) := (upN E25 (by decide)).trans f197
  have g213 := g201.put E25 (by decide)
  have F214 : ∀ k, k < 76 → h25 k = h0 k := frn_up F199 E25 (by decide)
  clear f187 f188 f189 f190 f191 f192 f193 f194 f195 f196 f197 g201 F199 E24 g198 g200
  have f215 : h25 76 11 = ((88 : Nat) : Int) := upE E25
  refine y_iincN (M := M_X11_newBounds_76) 27 dX11_newBounds_27 (ls' := [some (mI 16), some (mR 76), some (mI 12)]) (by decide) rfl (by (unfold m_32; decide)) (by decide) (by decide) rfl ?_
  refine y_goto (M := M_X11_newBounds_76) 30 dX11_newBounds_30 11 rfl ?_
  refine y_iload_n (M := M_X11_newBounds_76) 11 dX11_newBounds_11 rfl ?_
  refine y_aload_n (M := M_X11_newBounds_76) 12 dX11_newBounds_12 rfl ?_
  refine y_alen (M := M_X11_newBounds_76) 13 dX11_newBounds_13 (tk_g (by decide) o_76) (by decide) (by decide) ?_
  refine y_icmp_ge_F (M := M_X11_newBounds_76) 14 dX11_newBounds_14 33 rfl (by decide) ?_
  refine y_aload_n (M := M_X11_newBounds_76) 17 dX11_newBounds_17 rfl ?_
  refine y_iload_n (M := M_X11_newBounds_76) 18 dX11_newBounds_18 rfl ?_
  refine y_new (M := M_X11_newBounds_76) 19 dX11_newBounds_19 n_X11_232 (tk_s o_89) (tk_l (by decide)) (tk_b (by decide) (by decide) (by decide)) (fun h26 E26 => ?_)
  have f216 : h26 76 0 = ((77 : Nat) : Int) := nw_u E26 (by decide) f202
  have f217 : h26 76 1 = ((78 : Nat) : Int) := nw_u E26 (by decide) f203
  have f218 : h26 76 2 = ((79 : Nat) : Int) := nw_u E26 (by decide) f204
  have f219 : h26 76 3 = ((80 : Nat) : Int) := nw_u E26 (by decide) f205
  have f220 : h26 76 4 = ((81 : Nat) : Int) := nw_u E26 (by decide) f206
  have f221 : h26 76 5 = ((82 : Nat) : Int) := nw_u E26 (by decide) f207
  have f222 : h26 76 6 = ((83 : Nat) : Int) := nw_u E26 (by decide) f208
  have f223 : h26 76 7 = ((84 : Nat) : Int) := nw_u E26 (by decide) f209
  have f224 : h26 76 8 = ((85 : Nat) : Int) := nw_u E26 (by decide) f210
  have f225 : h26 76 9 = ((86 : Nat) : Int) := nw_u E26 (by decide) f211
  have f226 : h26 76 10 = ((87 : Nat) : Int) := nw_u E26 (by decide) f212
  have f227 : h26 76 11 = ((88 : Nat) : Int) := nw_u E26 (by decide) f215
  have g228 := g213.nw E26 (by decide)
  have F229 : ∀ k, k < 76 → h26 k = h0 k := frn_nw F214 E26 (by decide)
  clear f202 f203 f204 f205 f206 f207 f208 f209 f210 f211 f212 f215 g213 F214 E25
  have g230 : gR 89 90 h26 := gR_1 (bn_ok E26 rfl)
  have g231 := g228.join g230
  refine y_dup (M := M_X11_newBounds_76) 22 dX11_newBounds_22 rfl ?_
  refine y_callIN (M := M_X11_newBounds_76) 23 dX11_newBounds_23 t_X2_init il_X11_450 (m_rr_of rfl) xI_A (as := []) (rest := [mR 89, mI 12, mR 76]) (c_X2_init_90 h26) rfl rfl (Nat.le_of_ble_eq_true rfl) (tk_c (by decide) (by decide) (by decide) (by decide)) (fun r h27 q => ?_)
  obtain ⟨rfl, rfl⟩ := q
  refine y_aast (M := M_X11_newBounds_76) 26 dX11_newBounds_26 (Or.inl ⟨rfl, rfl⟩) (tk_g (by decide) o_76) (tk_g (by decide) o_89) cl_2 (by decide) (by decide) (fun h27 E27 => ?_)
  have f232 : h27 76 0 = ((77 : Nat) : Int) := (upN E27 (by decide)).trans f216
  have f233 : h27 76 1 = ((78 : Nat) : Int) := (upN E27 (by decide)).trans f217
  have f234 : h27 76 2 = ((79 : Nat) : Int) := (upN E27 (by decide)).trans f218
  have f235 : h27 76 3 = ((80 : Nat) : Int) := (upN E27 (by decide)).trans f219
  have f236 : h27 76 4 = ((81 : Nat) : Int) := (upN E27 (by decide)).trans f220
  have f237 : h27 76 5 = ((82 : Nat) : Int) := (upN E27 (by decide)).trans f221
  have f238 : h27 76 6 = ((83 : Nat) : Int) := (upN E27 (by decide)).trans f222
  have f239 : h27 76 7 = ((84 : Nat) : Int) := (upN E27 (by decide)).trans f223
  have f240 : h27 76 8 = ((85 : Nat) : Int) := (upN E27 (by decide)).trans f224
  have f241 : h27 76 9 = ((86 : Nat) : Int) := (upN E27 (by decide)).trans f225
  have f242 : h27 76 10 = ((87 : Nat) : Int) := (upN E27 (by decide)).trans f226
  have f243 : h27 76 11 = ((88 : Nat) : Int) := (upN E27 (by decide)).trans f227
  have g244 := g231.put E27 (by decide)
  have F245 : ∀ k, k < 76 → h27 k = h0 k := frn_up F229 E27 (by decide)
  clear f216 f217 f218 f219 f220 f221 f222 f223 f224 f225 f226 f227 g231 F229 E26 g228 g230
  have f246 : h27 76 12 = ((89 : Nat) : Int) := upE E27
  refine y_iincN (M := M_X11_newBounds_76) 27 dX11_newBounds_27 (ls' := [some (mI 16), some (mR 76), some (mI 13)]) (by decide) rfl (by (unfold m_32; decide)) (by decide) (by decide) rfl ?_
  refine y_goto (M := M_X11_newBounds_76) 30 dX11_newBounds_30 11 rfl ?_
  refine y_iload_n (M := M_X11_newBounds_76) 11 dX11_newBounds_11 rfl ?_
  refine y_aload_n (M := M_X11_newBounds_76) 12 dX11_newBounds_12 rfl ?_
  refine y_alen (M := M_X11_newBounds_76) 13 dX11_newBounds_13 (tk_g (by decide) o_76) (by decide) (by decide) ?_
  refine y_icmp_ge_F (M := M_X11_newBounds_76) 14 dX11_newBounds_14 33 rfl (by decide) ?_
  refine y_aload_n (M := M_X11_newBounds_76) 17 dX11_newBounds_17 rfl ?_
  refine y_iload_n (M := M_X11_newBounds_76) 18 dX11_newBounds_18 rfl ?_
  refine y_new (M := M_X11_newBounds_76) 19 dX11_newBounds_19 n_X11_232 (tk_s o_90) (tk_l (by decide)) (tk_b (by decide) (by decide) (by decide)) (fun h28 E28 => ?_)
  have f247 : h28 76 0 = ((77 : Nat) : Int) := nw_u E28 (by decide) f232
  have f248 : h28 76 1 = ((78 : Nat) : Int) := nw_u E28 (by decide) f233
  have f249 : h28 76 2 = ((79 : Nat) : Int) := nw_u E28 (by decide) f234
  have f250 : h28 76 3 = ((80 : Nat) : Int) := nw_u E28 (by decide) f235
  have f251 : h28 76 4 = ((81 : Nat) : Int) := nw_u E28 (by decide) f236
  have f252 : h28 76 5 = ((82 : Nat) : Int) := nw_u E28 (by decide) f237
  have f253 : h28 76 6 = ((83 : Nat) : Int) := nw_u E28 (by decide) f238
  have f254 : h28 76 7 = ((84 : Nat) : Int) := nw_u E28 (by decide) f239
  have f255 : h28 76 8 = ((85 : Nat) : Int) := nw_u E28 (by decide) f240
  have f256 : h28 76 9 = ((86 : Nat) : Int) := nw_u E28 (by decide) f241
  have f257 : h28 76 10 = ((87 : Nat) : Int) := nw_u E28 (by decide) f242
  have f258 : h28 76 11 = ((88 : Nat) : Int) := nw_u E28 (by decide) f243
  have f259 : h28 76 12 = ((89 : Nat) : Int) := nw_u E28 (by decide) f246
  have g260 := g244.nw E28 (by decide)
  have F261 : ∀ k, k < 76 → h28 k = h0 k := frn_nw F245 E28 (by decide)
  clear f232 f233 f234 f235 f236 f237 f238 f239 f240 f241 f242 f243 f246 g244 F245 E27
  have g262 : gR 90 91 h28 := gR_1 (bn_ok E28 rfl)
  have g263 := g260.join g262
  refine y_dup (M := M_X11_newBounds_76) 22 dX11_newBounds_22 rfl ?_
  refine y_callIN (M := M_X11_newBounds_76) 23 dX11_newBounds_23 t_X2_init il_X11_450 (m_rr_of rfl) xI_A (as := []) (rest := [mR 90, mI 13, mR 76]) (c_X2_init_91 h28) rfl rfl (Nat.le_of_ble_eq_true rfl) (tk_c (by decide) (by decide) (by decide) (by decide)) (fun r h29 q => ?_)
  obtain ⟨rfl, rfl⟩ := q
  refine y_aast (M := M_X11_newBounds_76) 26 dX11_newBounds_26 (Or.inl ⟨rfl, rfl⟩) (tk_g (by decide) o_76) (tk_g (by decide) o_90) cl_2 (by decide) (by decide) (fun h29 E29 => ?_)
  have f264 : h29 76 0 = ((77 : Nat) : Int) := (upN E29 (by decide)).trans f247
  have f265 : h29 76 1 = ((78 : Nat) : Int) := (upN E29 (by decide)).trans f248
  have f266 : h29 76 2 = ((79 : Nat) : Int) := (upN E29 (by decide)).trans f249
  have f267 : h29 76 3 = ((80 : Nat) : Int) := (upN E29 (by decide)).trans f250
  have f268 : h29 76 4 = ((81 : Nat) : Int) := (upN E29 (by decide)).trans f251
  have f269 : h29 76 5 = ((82 : Nat) : Int) := (upN E29 (by decide)).trans f252
  have f270 : h29 76 6 = ((83 : Nat) : Int) := (upN E29 (by decide)).trans f253
  have f271 : h29 76 7 = ((84 : Nat) : Int) := (upN E29 (by decide)).trans f254
  have f272 : h29 76 8 = ((85 : Nat) : Int) := (upN E29 (by decide)).trans f255
  have f273 : h29 76 9 = ((86 : Nat) : Int) := (upN E29 (by decide)).trans f256
  have f274 : h29 76 10 = ((87 : Nat) : Int) := (upN E29 (by decide)).trans f257
  have f275 : h29 76 11 = ((88 : Nat) : Int) := (upN E29 (by decide)).trans f258
  have f276 : h29 76 12 = ((89 : Nat) : Int) := (upN E29 (by decide)).trans f259
  have g277 := g263.put E29 (by decide)
  have F278 : ∀ k, k < 76 → h29 k = h0 k := frn_up F261 E29 (by decide)
  clear f247 f248 f249 f250 f251 f252 f253 f254 f255 f256 f257 f258 f259 g263 F261 E28 g260 g262
  have f279 : h29 76 13 = ((90 : Nat) : Int) := upE E29
  refine y_iincN (M := M_X11_newBounds_76) 27 dX11_newBounds_27 (ls' := [some (mI 16), some (mR 76), some (mI 14)]) (by decide) rfl (by (unfold m_32; decide)) (by decide) (by decide) rfl ?_
  refine y_goto (M := M_X11_newBounds_76) 30 dX11_newBounds_30 11 rfl ?_
  refine y_iload_n (M := M_X11_newBounds_76) 11 dX11_newBounds_11 rfl ?_
  refine y_aload_n (M := M_X11_newBounds_76) 12 dX11_newBounds_12 rfl ?_
  refine y_alen (M := M_X11_newBounds_76) 13 dX11_newBounds_13 (tk_g (by decide) o_76) (by decide) (by decide) ?_
  refine y_icmp_ge_F (M := M_X11_newBounds_76) 14 dX11_newBounds_14 33 rfl (by decide) ?_
  refine y_aload_n (M := M_X11_newBounds_76) 17 dX11_newBounds_17 rfl ?_
  refine y_iload_n (M := M_X11_newBounds_76) 18 dX11_newBounds_18 rfl ?_
  refine y_new (M := M_X11_newBounds_76) 19 dX11_newBounds_19 n_X11_232 (tk_s o_91) (tk_l (by decide)) (tk_b (by decide) (by decide) (by decide)) (fun h30 E30 => ?_)
  have f280 : h30 76 0 = ((77 : Nat) : Int) := nw_u E30 (by decide) f264
  have f281 : h30 76 1 = ((78 : Nat) : Int) := nw_u E30 (by decide) f265
  have f282 : h30 76 2 = ((79 : Nat) : Int) := nw_u E30 (by decide) f266
  have f283 : h30 76 3 = ((80 : Nat) : Int) := nw_u E30 (by decide) f267
  have f284 : h30 76 4 = ((81 : Nat) : Int) := nw_u E30 (by decide) f268
  have f285 : h30 76 5 = ((82 : Nat) : Int) := nw_u E30 (by decide) f269
  have f286 : h30 76 6 = ((83 : Nat) : Int) := nw_u E30 (by decide) f270
  have f287 : h30 76 7 = ((84 : Nat) : Int) := nw_u E30 (by decide) f271
  have f288 : h30 76 8 = ((85 : Nat) : Int) := nw_u E30 (by decide) f272
  have f289 : h30 76 9 = ((86 : Nat) : Int) := nw_u E30 (by decide) f273
  have f290 : h30 76 10 = ((87 : Nat) : Int) := nw_u E30 (by decide) f274
  have f291 : h30 76 11 = ((88 : Nat) : Int) := nw_u E30 (by decide) f275
  have f292 : h30 76 12 = ((89 : Nat) : Int) := nw_u E30 (by decide) f276
  have f293 : h30 76 13 = ((90 : Nat) : Int) := nw_u E30 (by decide) f279
  have g294 := g277.nw E30 (by decide)
  have F295 : ∀ k, k < 76 → h30 k = h0 k := frn_nw F278 E30 (by decide)
  clear f264 f265 f266 f267 f268 f269 f270 f271 f272 f273 f274 f275 f276 f279 g277 F278 E29
  have g296 : gR 91 92 h30 := gR_1 (bn_ok E30 rfl)
  have g297 := g294.join g296
  refine y_dup (M := M_X11_newBounds_76) 22 dX11_newBounds_22 rfl ?_
  refine y_callIN (M := M_X11_newBounds_76) 23 dX11_newBounds_23 t_X2_init il_X11_450 (m_rr_of rfl) xI_A (as := []) (rest := [mR 91, mI 14, mR 76]) (c_X2_init_92 h30) rfl rfl (Nat.le_of_ble_eq_true rfl) (tk_c (by decide) (by decide) (by decide) (by decide)) (fun r h31 q => ?_)
  obtain ⟨rfl, rfl⟩ := q
  refine y_aast (M := M_X11_newBounds_76) 26 dX11_newBounds_26 (Or.inl ⟨rfl, rfl⟩) (tk_g (by decide) o_76) (tk_g (by decide) o_91) cl_2 (by decide) (by decide) (fun h31 E31 => ?_)
  have f298 : h31 76 0 = ((77 : Nat) : Int) := (upN E31 (by decide)).trans f280
  have f299 : h31 76 1 = ((78 : Nat) : Int) := (upN E31 (by decide)).trans f281
  have f300 : h31 76 2 = ((79 : Nat) : Int) := (upN E31 (by decide)).trans f282
  have f301 : h31 76 3 = ((80 : Nat) : Int) := (upN E31 (by decide)).trans f283
  have f302 : h31 76 4 = ((81 : Nat) : Int) := (upN E31 (by decide)).trans f284
  have f303 : h31 76 5 = ((82 : Nat) : Int) := (upN E31 (by decide)).trans f285
  have f304 : h31 76 6 = ((83 : Nat) : Int) := (upN E31 (by decide)).trans f286
  have f305 : h31 76 7 = ((84 : Nat) : Int) := (upN E31 (by decide)).trans f287
  have f306 : h31 76 8 = ((85 : Nat) : Int) := (upN E31 (by decide)).trans f288
  have f307 : h31 76 9 = ((86 : Nat) : Int) := (upN E31 (by decide)).trans f289
  have f308 : h31 76 10 = ((87 : Nat) : Int) := (upN E31 (by decide)).trans f290
  have f309 : h31 76 11 = ((88 : Nat) : Int) := (upN E31 (by decide)).trans f291
  have f310 : h31 76 12 = ((89 : Nat) : Int) := (upN E31 (by decide)).trans f292
  have f311 : h31 76 13 = ((90 : Nat) : Int) := (upN E31 (by decide)).trans f293
  have g312 := g297.put E31 (by decide)
  have F313 : ∀ k, k < 76 → h31 k = h0 k := frn_up F295 E31 (by decide)
  clear f280 f281 f282 f283 f284 f285 f286 f287 f288 f289 f290 f291 f292 f293 g297 F295 E30 g294 g296
  have f314 : h31 76 14 = ((91 : Nat) : Int) := upE E31
  refine y_iincN (M := M_X11_newBounds_76) 27 dX11_newBounds_27 (ls' := [some (mI 16), some (mR 76), some (mI 15)]) (by decide) rfl (by (unfold m_32; decide)) (by decide) (by decide) rfl ?_
  refine y_goto (M := M_X11_newBounds_76) 30 dX11_newBounds_30 11 rfl ?_
  refine y_iload_n (M := M_X11_newBounds_76) 11 dX11_newBounds_11 rfl ?_
  refine y_aload_n (M := M_X11_newBounds_76) 12 dX11_newBounds_12 rfl ?_
  refine y_alen (M := M_X11_newBounds_76) 13 dX11_newBounds_13 (tk_g (by decide) o_76) (by decide) (by decide) ?_
  refine y_icmp_ge_F (M := M_X11_newBounds_76) 14 dX11_newBounds_14 33 rfl (by decide) ?_
  refine y_aload_n (M := M_X11_newBounds_76) 17 dX11_newBounds_17 rfl ?_
  refine y_iload_n (M := M_X11_newBounds_76) 18 dX11_newBounds_18 rfl ?_
  refine y_new (M := M_X11_newBounds_76) 19 dX11_newBounds_19 n_X11_232 (tk_s o_92) (tk_l (by decide)) (tk_b (by decide) (by decide) (by decide)) (fun h32 E32 => ?_)
  have f315 : h32 76 0 = ((77 : Nat) : Int) := nw_u E32 (by decide) f298
  have f316 : h32 76 1 = ((78 : Nat) : Int) := nw_u E32 (by decide) f299
  have f317 : h32 76 2 = ((79 : Nat) : Int) := nw_u E32 (by decide) f300
  have f318 : h32 76 3 = ((80 : Nat) : Int) := nw_u E32 (by decide) f301
  have f319 : h32 76 4 = ((81 : Nat) : Int) := nw_u E32 (by decide) f302
  have f320 : h32 76 5 = ((82 : Nat) : Int) := nw_u E32 (by decide) f303
  have f321 : h32 76 6 = ((83 : Nat) : Int) := nw_u E32 (by decide) f304
  have f322 : h32 76 7 = ((84 : Nat) : Int) := nw_u E32 (by decide) f305
  have f323 : h32 76 8 = ((85 : Nat) : Int) := nw_u E32 (by decide) f306
  have f324 : h32 76 9 = ((86 : Nat) : Int) := nw_u E32 (by decide) f307
  have f325 : h32 76 10 = ((87 : Nat) : Int) := nw_u E32 (by decide) f308
  have f326 : h32 76 11 = ((88 : Nat) : Int) := nw_u E32 (by decide) f309
  have f327 : h32 76 12 = ((89 : Nat) : Int) := nw_u E32 (by decide) f310
  have f328 : h32 76 13 = ((90 : Nat) : Int) := nw_u E32 (by decide) f311
  have f329 : h32 76 14 = ((91 : Nat) : Int) := nw_u E32 (by decide) f314
  have g330 := g312.nw E32 (by decide)
  have F331 : ∀ k, k < 76 → h32 k = h0 k := frn_nw F313 E32 (by decide)
  clear f298 f299 f300 f301 f302 f303 f304 f305 f306 f307 f308 f309 f310 f311 f314 g312 F313 E31
  have g332 : gR 92 93 h32 := gR_1 (bn_ok E32 rfl)
  have g333 := g330.join g332
  refine y_dup (M := M_X11_newBounds_76) 22 dX11_newBounds_22 rfl ?_
  refine y_callIN (M := M_X11_newBounds_76) 23 dX11_newBounds_23 t_X2_init il_X11_450 (m_rr_of rfl) xI_A (as := []) (rest := [mR 92, mI 15, mR 76]) (c_X2_init_93 h32) rfl rfl (Nat.le_of_ble_eq_true rfl) (tk_c (by decide) (by decide) (by decide) (by decide)) (fun r h33 q => ?_)
  obtain ⟨rfl, rfl⟩ := q
  refine y_aast (M := M_X11_newBounds_76) 26 dX11_newBounds_26 (Or.inl ⟨rfl, rfl⟩) (tk_g (by decide) o_76) (tk_g (by decide) o_92) cl_2 (by decide) (by decide) (fun h33 E33 => ?_)
  have f334 : h33 76 0 = ((77 : Nat) : Int) := (upN E33 (by decide)).trans f315
  have f335 : h33 76 1 = ((78 : Nat) : Int) := (upN E33 (by decide)).trans f316
  have f336 : h33 76 2 = ((79 : Nat) : Int) := (upN E33 (by decide)).trans f317
  have f337 : h33 76 3 = ((80 : Nat) : Int) := (upN E33 (by decide)).trans f318
  have f338 : h33 76 4 = ((81 : Nat) : Int) := (upN E33 (by decide)).trans f319
  have f339 : h33 76 5 = ((82 : Nat) : Int) := (upN E33 (by decide)).trans f320
  have f340 : h33 76 6 = ((83 : Nat) : Int) := (upN E33 (by decide)).trans f321
  have f341 : h33 76 7 = ((84 : Nat) : Int) := (upN E33 (by decide)).trans f322
  have f342 : h33 76 8 = ((85 : Nat) : Int) := (upN E33 (by decide)).trans f323
  have f343 : h33 76 9 = ((86 : Nat) : Int) := (upN E33 (by decide)).trans f324
  have f344 : h33 76 10 = ((87 : Nat) : Int) := (upN E33 (by decide)).trans f325
  have f345 : h33 76 11 = ((88 : Nat) : Int) := (upN E33 (by decide)).trans f326
  have f346 : h33 76 12 = ((89 : Nat) : Int) := (upN E33 (by decide)).trans f327
  have f347 : h33 76 13 = ((90 : Nat) : Int) := (upN E33 (by decide)).trans f328
  have f348 : h33 76 14 = ((91 : Nat) : Int) := (upN E33 (by decide)).trans f329
  have g349 := g333.put E33 (by decide)
  have F350 : ∀ k, k < 76 → h33 k = h0 k := frn_up F331 E33 (by decide)
  clear f315 f316 f317 f318 f319 f320 f321 f322 f323 f324 f325 f326 f327 f328 f329 g333 F331 E32 g330 g332
  have f351 : h33 76 15 = ((92 : Nat) : Int) := upE E33
  have g352 : gR 76 77 h33 := gR_1 (gC_of bt_76 (fun j hj => by have q : j = 0 ∨ j = 1 ∨ j = 2 ∨ j = 3 ∨ j = 4 ∨ j = 5 ∨ j = 6 ∨ j = 7 ∨ j = 8 ∨ j = 9 ∨ j = 10 ∨ j = 11 ∨ j = 12 ∨ j = 13 ∨ j = 14 ∨ j = 15 := (by omega); rcases q with rfl | rfl | rfl | rfl | rfl | rfl | rfl | rfl | rfl | rfl | rfl | rfl | rfl | rfl | rfl | rfl; exact f334; exact f335; exact f336; exact f337; exact f338; exact f339; exact f340; exact f341; exact f342; exact f343; exact f344; exact f345; exact f346; exact f347; exact f348; exact f351))
  have g353 := g352.join g349
  refine y_iincN (M := M_X11_newBounds_76) 27 dX11_newBounds_27 (ls' := [some (mI 16), some (mR 76), some (mI 16)]) (by decide) rfl (by (unfold m_32; decide)) (by decide) (by decide) rfl ?_
  refine y_goto (M := M_X11_newBounds_76) 30 dX11_newBounds_30 11 rfl ?_
  refine y_iload_n (M := M_X11_newBounds_76) 11 dX11_newBounds_11 rfl ?_
  refine y_aload_n (M := M_X11_newBounds_76) 12 dX11_newBounds_12 rfl ?_
  refine y_alen (M := M_X11_newBounds_76) 13 dX11_newBounds_13 (tk_g (by decide) o_76) (by decide) (by decide) ?_
  refine y_icmp_ge_T (M := M_X11_newBounds_76) 14 dX11_newBounds_14 33 rfl (by decide) ?_
  refine y_aload_n (M := M_X11_newBounds_76) 33 dX11_newBounds_33 rfl ?_
  exact y_aret (M := M_X11_newBounds_76) 34 dX11_newBounds_34 rfl ⟨rfl, rfl, g353, F350⟩
abbrev M_X9_init_39 : m_M := mkM RX9 yX9_init cX9_init 1 3 62 39 93 none
set_option maxHeartbeats 4000000 in
set_option maxRecDepth 100000 in
theorem c_X9_init_39 (h0 : m_H) : m_D M_X9_init_39 (oF.take 39) (oF.take 93) [mR 38] h0 (fun r h' => r = none ∧ gR 38 93 h' ∧ (∀ k, k < 38 → h' k = h0 k)) := by
  refine tk_D (by decide) (by decide) (by decide) rfl (by decide) (ls := [some (mR 38)]) rfl ?_
  refine y_aload_n (M := M_X9_init_39) 0 dX9_init_0 rfl ?_
  refine y_objI (M := M_X9_init_39) 1 dX9_init_1 ol_X9 ow2 ow3 (by decide) (by decide) ?_
  refine y_aload_n (M := M_X9_init_39) 4 dX9_init_4 rfl ?_
  refine y_bipush (M := M_X9_init_39) 5 dX9_init_5 ?_
  refine y_newaI (M := M_X9_init_39) 7 dX9_init_7 acI (N := 48) (by decide) (tk_s o_39) (tk_l (by decide)) (tk_b (by decide) (by decide) (by decide)) (fun h1 E1 => ?_)
  have F1 : ∀ k, k < 38 → h1 k = h0 k := frn_nw (fun k _ => rfl) E1 (by decide)
  have g2 : gR 39 40 h1 := gR_1 (gC_of bt_39 (fun j hj => by rw [nwI E1]; exact trivial))
  refine y_putF (M := M_X9_init_39) 9 dX9_init_9 ff_X9_9 (tk_g (by decide) o_38) (fun E m t q => q.1) rfl rfp_a (fun h2 E2 => ?_)
  have g3 := g2.put E2 (by decide)
  have F4 : ∀ k, k < 38 → h2 k = h0 k := frn_up F1 E2 (by decide)
  clear g2 F1 E1
  have f5 : h2 38 0 = ((39 : Nat) : Int) := upE E2
  refine y_aload_n (M := M_X9_init_39) 12 dX9_init_12 rfl ?_
  refine y_bipush (M := M_X9_init_39) 13 dX9_init_13 ?_
  refine y_newaZ (M := M_X9_init_39) 15 dX9_init_15 acZ (N := 48) (by decide) (tk_s o_40) (tk_l (by decide)) (tk_b (by decide) (by decide) (by decide)) (fun h3 E3 => ?_)
  have f6 : h3 38 0 = ((39 : Nat) : Int) := nw_u E3 (by decide) f5
  have g7 := g3.nw E3 (by decide)
  have F8 : ∀ k, k < 38 → h3 k = h0 k := frn_nw F4 E3 (by decide)
  clear f5 g3 F4 E2
  have g9 : gR 40 41 h3 := gR_1 (gC_of bt_40 (fun j hj => by rw [nwZ E3]; show (0 : Int) ≤ 0 ∧ (0 : Int) ≤ 1; decide))
  have g10 := g7.join g9
  refine y_putF (M := M_X9_init_39) 17 dX9_init_17 ff_X9_15 (tk_g (by decide) o_38) (fun E m t q => q.1) rfl rfp_a (fun h4 E4 => ?_)
  have f11 : h4 38 0 = ((39 : Nat) : Int) := (upN E4 (by decide)).trans f6
  have g12 := g10.put E4 (by decide)
  have F13 : ∀ k, k < 38 → h4 k = h0 k := frn_up F8 E4 (by decide)
  clear f6 g10 F8 E3 g7 g9
  have f14 : h4 38 1 = ((40 : Nat) : Int) := upE E4
  refine y_aload_n (M := M_X9_init_39) 20 dX9_init_20 rfl ?_
  refine y_bipush (M := M_X9_init_39) 21 dX9_init_21 ?_
  refine y_newaI (M := M_X9_init_39) 23 dX9_init_23 acI (N := 48) (by decide) (tk_s o_41) (tk_l (by decide)) (tk_b (by decide) (by decide) (by decide)) (fun h5 E5 => ?_)
  have f15 : h5 38 0 = ((39 : Nat) : Int) := nw_u E5 (by decide) f11
  have f16 : h5 38 1 = ((40 : Nat) : Int) := nw_u E5 (by decide) f14
  have g17 := g12.nw E5 (by decide)
  have F18 : ∀ k, k < 38 → h5 k = h0 k := frn_nw F13 E5 (by decide)
  clear f11 f14 g12 F13 E4
  have g19 : gR 41 42 h5 := gR_1 (gC_of bt_41 (fun j hj => by rw [nwI E5]; exact trivial))
  have g20 := g17.join g19
  refine y_putF (M := M_X9_init_39) 25 dX9_init_25 ff_X9_19 (tk_g (by decide) o_38) (fun E m t q => q.1) rfl rfp_a (fun h6 E6 => ?_)
  have f21 : h6 38 0 = ((39 : Nat) : Int) := (upN E6 (by decide)).trans f15
  have f22 : h6 38 1 = ((40 : Nat) : Int) := (upN E6 (by decide)).trans f16
  have g23 := g20.put E6 (by decide)
  have F24 : ∀ k, k < 38 → h6 k = h0 k := frn_up F18 E6 (by decide)
  clear f15 f16 g20 F18 E5 g17 g19
  have f25 : h6 38 2 = ((41 : Nat) : Int) := upE E6
  refine y_aload_n (M := M_X9_init_39) 28 dX9_init_28 rfl ?_
  refine y_bipush (M := M_X9_init_39) 29 dX9_init_29 ?_
  refine y_callSND (M := M_X9_init_39) 31 dX9_init_31 t_X11_newBounds il_X9_22 (m_rr_of rfl) xI_A (as := [mI 16]) (rest := [mR 38]) (c_X11_newBounds_42 h6) rfl rfl (Nat.le_of_ble_eq_true rfl) (tk_c (by decide) (by decide) (by decide) (by decide)) (fun r h7 q => ?_)
  obtain ⟨rfl, G_h7, E7⟩ := q
  have f26 : h7 38 0 = ((39 : Nat) : Int) := fr_u E7 (by decide) f21
  have f27 : h7 38 1 = ((40 : Nat) : Int) := fr_u E7 (by decide) f22
  have f28 : h7 38 2 = ((41 : Nat) : Int) := fr_u E7 (by decide) f25
  have g29 := g23.fr E7 (by decide)
  have F30 : ∀ k, k < 38 → h7 k = h0 k := frn_fr F24 E7 (by decide)
  clear f21 f22 f25 g23 F24 E6
  have g31 := g29.join G_h7
  refine y_putF (M := M_X9_init_39) 34 dX9_init_34 ff_X9_26 (tk_g (by decide) o_38) (fun E m t q => q.1) rfl rfp_a (fun h8 E8 => ?_)
  have f32 : h8 38 0 = ((39 : Nat) : Int) := (upN E8 (by decide)).trans f26
  have f33 : h8 38 1 = ((40 : Nat) : Int) := (upN E8 (by decide)).trans f27
  have f34 : h8 38 2 = ((41 : Nat) : Int) := (upN E8 (by decide)).trans f28
  have g35 := g31.put E8 (by decide)
  have F36 : ∀ k, k < 38 → h8 k = h0 k := frn_up F30 E8 (by decide)
  clear f26 f27 f28 g31 F30 E7 g29 G_h7
  have f37 : h8 38 3 = ((42 : Nat) : Int) := upE E8
  refine y_aload_n (M := M_X9_init_39) 37 dX9_init_37 rfl ?_
  refine y_bipush (M := M_X9_init_39) 38 dX9_init_38 ?_
  refine y_callSND (M := M_X9_init_39) 40 dX9_init_40 t_X11_newBounds il_X9_22 (m_rr_of rfl) xI_A (as := [mI 16]) (rest := [mR 38]) (c_X11_newBounds_59 h8) rfl rfl (Nat.le_of_ble_eq_true rfl) (tk_c (by decide) (by decide) (by decide) (by decide)) (fun r h9 q => ?_)
  obtain ⟨rfl, G_h9, E9⟩ := q
  have f38 : h9 38 0 = ((39 : Nat) : Int) := fr_u E9 (by decide) f32
  have f39 : h9 38 1 = ((40 : Nat) : Int) := fr_u E9 (by decide) f33
  have f40 : h9 38 2 = ((41 : Nat) : Int) := fr_u E9 (by decide) f34
  have f41 : h9 38 3 = ((42 : Nat) : Int) := fr_u E9 (by decide) f37
  have g42 := g35.fr E9 (by decide)
  have F43 : ∀ k, k < 38 → h9 k = h0 k := frn_fr F36 E9 (by decide)
  clear f32 f33 f34 f37 g35 F36 E8
  have g44 := g42.join G_h9
  refine y_putF (M := M_X9_init_39) 43 dX9_init_43 ff_X9_30 (tk_g (by decide) o_38) (fun E m t q => q.1) rfl rfp_a (fun h10 E10 => ?_)
  have f45 : h10 38 0 = ((39 : Nat) : Int) := (upN E10 (by decide)).trans f38
  have f46 : h10 38 1 = ((40 : Nat) : Int) := (upN E10 (by decide)).trans f39
  have f47 : h10 38 2 = ((41 : Nat) : Int) := (upN E10 (by decide)).trans f40
  have f48 : h10 38 3 = ((42 : Nat) : Int) := (upN E10 (by decide)).trans f41
  have g49 := g44.put E10 (by decide)
  have F50 : ∀ k, k < 38 → h10 k = h0 k := frn_up F43 E10 (by decide)
  clear f38 f39 f40 f41 g44 F43 E9 g42 G_h9
  have f51 : h10 38 4 = ((59 : Nat) : Int) := upE E10
  refine y_aload_n (M := M_X9_init_39) 46 dX9_init_46 rfl ?_
  refine y_bipush (M := M_X9_init_39) 47 dX9_init_47 ?_
  refine y_callSND (M := M_X9_init_39) 49 dX9_init_49 t_X11_newBounds il_X9_22 (m_rr_of rfl) xI_A (as := [mI 16]) (rest := [mR 38]) (c_X11_newBounds_76 h10) rfl rfl (Nat.le_of_ble_eq_true rfl) (tk_c (by decide) (by decide) (by decide) (by decide)) (fun r h11 q => ?_)
  obtain ⟨rfl, G_h11, E11⟩ := q
  have f52 : h11 38 0 = ((39 : Nat) : Int) := fr_u E11 (by decide) f45
  have f53 : h11 38 1 = ((40 : Nat) : Int) := fr_u E11 (by decide) f46
  have f54 : h11 38 2 = ((41 : Nat) : Int) := fr_u E11 (by decide) f47
  have f55 : h11 38 3 = ((42 : Nat) : Int) := fr_u E11 (by decide) f48
  have f56 : h11 38 4 = ((59 : Nat) : Int) := fr_u E11 (by decide) f51
  have g57 := g49.fr E11 (by decide)
  have F58 : ∀ k, k < 38 → h11 k = h0 k := frn_fr F50 E11 (by decide)
  clear f45 f46 f47 f48 f51 g49 F50 E10
  have g59 := g57.join G_h11
  refine y_putF (M := M_X9_init_39) 52 dX9_init_52 ff_X9_33 (tk_g (by decide) o_38) (fun E m t q => q.1) rfl rfp_a (fun h12 E12 => ?_)
  have f60 : h12 38 0 = ((39 : Nat) : Int) := (upN E12 (by decide)).trans f52
  have f61 : h12 38 1 = ((40 : Nat) : Int) := (upN E12 (by decide)).trans f53
  have f62 : h12 38 2 = ((41 : Nat) : Int) := (upN E12 (by decide)).trans f54
  have f63 : h12 38 3 = ((42 : Nat) : Int) := (upN E12 (by decide)).trans f55
  have f64 : h12 38 4 = ((59 : Nat) : Int) := (upN E12 (by decide)).trans f56
  have g65 := g59.put E12 (by decide)
  have F66 : ∀ k, k < 38 → h12 k = h0 k := frn_up F58 E12 (by decide)
  clear f52 f53 f54 f55 f56 g59 F58 E11 g57 G_h11
  have f67 : h12 38 5 = ((76 : Nat) : Int) := upE E12
  have g68 : gR 38 39 h12 := gR_1 (gC_of bt_38 (fun j hj => by have q : j = 0 ∨ j = 1 ∨ j = 2 ∨ j = 3 ∨ j = 4 ∨ j = 5 := (by omega); rcases q with rfl | rfl | rfl | rfl | rfl | rfl; exact f60; exact f61; exact f62; exact f63; exact f64; exact f67))
  have g69 := g68.join g65
  exact y_vret (M := M_X9_init_39) 55 dX9_init_55 rfl ⟨rfl, rfl, g69, F66⟩
abbrev M_X2_init_95 : m_M := M_X2i 95
set_option maxHeartbeats 4000000 in
set_option maxRecDepth 100000 in
theorem c_X2_init_95 (h0 : m_H) : m_D M_X2_init_95 (oF.take 95) (oF.take 95) [mR 94] h0 (fun r h' => r = none ∧ h0 = h') := by
  refine tk_D (by decide) (by decide) (by decide) rfl (by decide) (ls := [some (mR 94)]) rfl ?_
  refine y_aload_n (M := M_X2_init_95) 0 dX2_init_0 rfl ?_
  refine y_objI (M := M_X2_init_95) 1 dX2_init_1 ol_X2 ow2 ow3 (by decide) (by decide) ?_
  exact y_vret (M := M_X2_init_95) 4 dX2_init_4 rfl ⟨rfl, rfl, rfl⟩
abbrev M_X2_init_96 : m_M := M_X2i 96
set_option maxHeartbeats 4000000 in
set_option maxRecDepth 100000 in
theorem c_X2_init_96 (h0 : m_H) : m_D M_X2_init_96 (oF.take 96) (oF.take 96) [mR 95] h0 (fun r h' => r = none ∧ h0 = h') := by
  refine tk_D (by decide) (by decide) (by decide) rfl (by decide) (ls := [some (mR 95)]) rfl ?_
  refine y_aload_n (M := M_X2_init_96) 0 dX2_init_0 rfl ?_
  refine y_objI (M := M_X2_init_96) 1 dX2_init_1 ol_X2 ow2 ow3 (by decide) (by decide) ?_
  exact y_vret (M := M_X2_init_96) 4 dX2_init_4 rfl ⟨rfl, rfl, rfl⟩
abbrev M_X7_init_94 : m_M := mkM RX7 yX7_init cX7_init 1 2 40 94 96 none
set_option maxHeartbeats 4000000 in
set_option maxRecDepth 100000 in
theorem c_X7_init_94 (h0 : m_H) : m_D M_X7_init_94 (oF.take 94) (oF.take 96) [mR 93] h0 (fun r h' => r = none ∧ gR 93 96 h' ∧ (∀ k, k < 93 → h' k = h0 k)) := by
  refine tk_D (by decide) (by decide) (by decide) rfl (by decide) (ls := [some (mR 93)]) rfl ?_
  refine y_aload_n (M := M_X7_init_94) 0 dX7_init_0 rfl ?_
  refine y_objI (M := M_X7_init_94) 1 dX7_init_1 ol_X7 ow2 ow3 (by decide) (by decide) ?_
  refine y_aload_n (M := M_X7_init_94) 4 dX7_init_4 rfl ?_
  refine y_new (M := M_X7_init_94) 5 dX7_init_5 n_X7_9 (tk_s o_94) (tk_l (by decide)) (tk_b (by decide) (by decide) (by decide)) (fun h1 E1 => ?_)
  have F1 : ∀ k, k < 93 → h1 k = h0 k := frn_nw (fun k _ => rfl) E1 (by decide)
  have g2 : gR 94 95 h1 := gR_1 (bn_ok E1 rfl)
  refine y_dup (M := M_X7_init_94) 8 dX7_init_8 rfl ?_
  refine y_callIN (M := M_X7_init_94) 9 dX7_init_9 t_X2_init il_X7_11 (m_rr_of rfl) xI_A (as := []) (rest := [mR 94, mR 93]) (c_X2_init_95 h1) rfl rfl (Nat.le_of_ble_eq_true rfl) (tk_c (by decide) (by decide) (by decide) (by decide)) (fun r h2 q => ?_)
  obtain ⟨rfl, rfl⟩ := q
  refine y_putF (M := M_X7_init_94) 12 dX7_init_12 ff_X7_12 (tk_g (by decide) o_93) (fun E m t q => q.1) rfl rfp_o (fun h2 E2 => ?_)
  have g3 := g2.put E2 (by decide)
  have F4 : ∀ k, k < 93 → h2 k = h0 k := frn_up F1 E2 (by decide)
  clear g2 F1 E1
  have f5 : h2 93 0 = ((94 : Nat) : Int) := upE E2
  refine y_aload_n (M := M_X7_init_94) 15 dX7_init_15 rfl ?_
  refine y_new (M := M_X7_init_94) 16 dX7_init_16 n_X7_9 (tk_s o_95) (tk_l (by decide)) (tk_b (by decide) (by decide) (by decide)) (fun h3 E3 => ?_)
  have f6 : h3 93 0 = ((94 : Nat) : Int) := nw_u E3 (by decide) f5
  have g7 := g3.nw E3 (by decide)
  have F8 : ∀ k, k < 93 → h3 k = h0 k := frn_nw F4 E3 (by decide)
  clear f5 g3 F4 E2
  have g9 : gR 95 96 h3 := gR_1 (bn_ok E3 rfl)
  have g10 := g7.join g9
  refine y_dup (M := M_X7_init_94) 19 dX7_init_19 rfl ?_
  refine y_callIN (M := M_X7_init_94) 20 dX7_init_20 t_X2_init il_X7_11 (m_rr_of rfl) xI_A (as := []) (rest := [mR 95, mR 93]) (c_X2_init_96 h3) rfl rfl (Nat.le_of_ble_eq_true rfl) (tk_c (by decide) (by decide) (by decide) (by decide)) (fun r h4 q => ?_)
  obtain ⟨rfl, rfl⟩ := q
  refine y_putF (M := M_X7_init_94) 23 dX7_init_23 ff_X7_18 (tk_g (by decide) o_93) (fun E m t q => q.1) rfl rfp_o (fun h4 E4 => ?_)
  have f11 : h4 93 0 = ((94 : Nat) : Int) := (upN E4 (by decide)).trans f6
  have g12 := g10.put E4 (by decide)
  have F13 : ∀ k, k < 93 → h4 k = h0 k := frn_up F8 E4 (by decide)
  clear f6 g10 F8 E3 g7 g9
  have f14 : h4 93 1 = ((95 : Nat) : Int) := upE E4
  have g15 : gR 93 94 h4 := gR_1 (gC_of bt_93 (fun j hj => by have q : j = 0 ∨ j = 1 := (by omega); rcases q with rfl | rfl; exact f11; exact f14))
  have g16 := g15.join g12
  exact y_vret (M := M_X7_init_94) 26 dX7_init_26 rfl ⟨rfl, rfl, g16, F13⟩
abbrev M_X10_init_97 : m_M := mkM RX10 yX10_init cX10_init 1 1 20 97 99 none
set_option maxHeartbeats 4000000 in
set_option maxRecDepth 100000 in
theorem c_X10_init_97 (h0 : m_H) (e2 : h0 96 2 = 0) (e3 : h0 96 3 = 0) (e4 : h0 96 4 = 0) : m_D M_X10_init_97 (oF.take 97) (oF.take 99) [mR 96] h0 (fun r h' => r = none ∧ gR 96 99 h' ∧ (∀ k, k < 96 → h' k = h0 k)) := by
  refine tk_D (by decide) (by decide) (by decide) rfl (by decide) (ls := [some (mR 96)]) rfl ?_
  refine y_aload_n (M := M_X10_init_97) 0 dX10_init_0 rfl ?_
  refine y_objI (M := M_X10_init_97) 1 dX10_init_1 ol_X10 ow2 ow3 (by decide) (by decide) ?_
  refine y_aload_n (M := M_X10_init_97) 4 dX10_init_4 rfl ?_
  refine y_iconst (M := M_X10_init_97) 5 dX10_init_5 ?_
  refine y_newaJ (M := M_X10_init_97) 6 dX10_init_6 acJ (N := 3) (by decide) (tk_s o_97) (tk_l (by decide)) (tk_b (by decide) (by decide) (by decide)) (fun h1 E1 => ?_)
  have f1 : h1 96 2 = 0 := nw_u E1 (by decide) e2
  have f2 : h1 96 3 = 0 := nw_u E1 (by decide) e3
  have f3 : h1 96 4 = 0 := nw_u E1 (by decide) e4
  have F4 : ∀ k, k < 96 → h1 k = h0 k := frn_nw (fun k _ => rfl) E1 (by decide)
  have g5 : gR 97 98 h1 := gR_1 (gC_of bt_97 (fun j hj => by rw [nwJ E1]; exact trivial))
  refine y_putF (M := M_X10_init_97) 8 dX10_init_8 ff_X10_9 (tk_g (by decide) o_96) (fun E m t q => q.1) rfl rfp_a (fun h2 E2 => ?_)
  have f6 : h2 96 2 = 0 := (upN E2 (by decide)).trans f1
  have f7 : h2 96 3 = 0 := (upN E2 (by decide)).trans f2
  have f8 : h2 96 4 = 0 := (upN E2 (by decide)).trans f3
  have g9 := g5.put E2 (by decide)
  have F10 : ∀ k, k < 96 → h2 k = h0 k := frn_up F4 E2 (by decide)
  clear f1 f2 f3 g5 F4 E1
  have f11 : h2 96 0 = ((97 : Nat) : Int) := upE E2
  refine y_aload_n (M := M_X10_init_97) 11 dX10_init_11 rfl ?_
  refine y_iconst (M := M_X10_init_97) 12 dX10_init_12 ?_
  refine y_newaJ (M := M_X10_init_97) 13 dX10_init_13 acJ (N := 3) (by decide) (tk_s o_98) (tk_l (by decide)) (tk_b (by decide) (by decide) (by decide)) (fun h3 E3 => ?_)
  have f12 : h3 96 2 = 0 := nw_u E3 (by decide) f6
  have f13 : h3 96 3 = 0 := nw_u E3 (by decide) f7
  have f14 : h3 96 4 = 0 := nw_u E3 (by decide) f8
  have f15 : h3 96 0 = ((97 : Nat) : Int) := nw_u E3 (by decide) f11
  have g16 := g9.nw E3 (by decide)
  have F17 : ∀ k, k < 96 → h3 k = h0 k := frn_nw F10 E3 (by decide)
  clear f6 f7 f8 f11 g9 F10 E2
  have g18 : gR 98 99 h3 := gR_1 (gC_of bt_98 (fun j hj => by rw [nwJ E3]; exact trivial))
  have g19 := g16.join g18
  refine y_putF (M := M_X10_init_97) 15 dX10_init_15 ff_X10_15 (tk_g (by decide) o_96) (fun E m t q => q.1) rfl rfp_a (fun h4 E4 => ?_)
  have f20 : h4 96 2 = 0 := (upN E4 (by decide)).trans f12
  have f21 : h4 96 3 = 0 := (upN E4 (by decide)).trans f13
  have f22 : h4 96 4 = 0 := (upN E4 (by decide)).trans f14
  have f23 : h4 96 0 = ((97 : Nat) : Int) := (upN E4 (by decide)).trans f15
  have g24 := g19.put E4 (by decide)
  have F25 : ∀ k, k < 96 → h4 k = h0 k := frn_up F17 E4 (by decide)
  clear f12 f13 f14 f15 g19 F17 E3 g16 g18
  have f26 : h4 96 1 = ((98 : Nat) : Int) := upE E4
  have g27 : gR 96 97 h4 := gR_1 (gC_of bt_96 (fun j hj => by have q : j = 0 ∨ j = 1 ∨ j = 2 ∨ j = 3 ∨ j = 4 := (by omega); rcases q with rfl | rfl | rfl | rfl | rfl; exact f23; exact f26; (show (0 : Int) ≤ h4 96 2 ∧ h4 96 2 ≤ (3 : Int); rw [f20]; decide); (show (0 : Int) ≤ h4 96 3 ∧ h4 96 3 ≤ (1 : Int); rw [f21]; decide); (show (0 : Int) ≤ h4 96 4 ∧ h4 96 4 ≤ (1 : Int); rw [f22]; decide)))
  have g28 := g27.join g24
  exact y_vret (M := M_X10_init_97) 18 dX10_init_18 rfl ⟨rfl, rfl, g28, F25⟩
abbrev M_X0_init_100 : m_M := mkM RX0 yX0_init cX0_init 1 1 20 100 101 none
set_option maxHeartbeats 4000000 in
set_option maxRecDepth 100000 in
theorem c_X0_init_100 (h0 : m_H) : m_D M_X0_init_100 (oF.take 100) (oF.take 101) [mR 99] h0 (fun r h' => r = none ∧ gR 99 101 h' ∧ (∀ k, k < 99 → h' k = h0 k)) := by
  refine tk_D (by decide) (by decide) (by decide) rfl (by decide) (ls := [some (mR 99)]) rfl ?_
  refine y_aload_n (M := M_X0_init_100) 0 dX0_init_0 rfl ?_
  refine y_objI (M := M_X0_init_100) 1 dX0_init_1 ol_X0 ow2 ow3 (by decide) (by decide) ?_
  refine y_aload_n (M := M_X0_init_100) 4 dX0_init_4 rfl ?_
  refine y_bipush (M := M_X0_init_100) 5 dX0_init_5 ?_
  refine y_newaI (M := M_X0_init_100) 7 dX0_init_7 acI (N := 16) (by decide) (tk_s o_100) (tk_l (by decide)) (tk_b (by decide) (by decide) (by decide)) (fun h1 E1 => ?_)
  have F1 : ∀ k, k < 99 → h1 k = h0 k := frn_nw (fun k _ => rfl) E1 (by decide)
  have g2 : gR 100 101 h1 := gR_1 (gC_of bt_100 (fun j hj => by rw [nwI E1]; exact trivial))
  refine y_putF (M := M_X0_init_100) 9 dX0_init_9 ff_X0_9 (tk_g (by decide) o_99) (fun E m t q => q.1) rfl rfp_a (fun h2 E2 => ?_)
  have g3 := g2.put E2 (by decide)
  have F4 : ∀ k, k < 99 → h2 k = h0 k := frn_up F1 E2 (by decide)
  clear g2 F1 E1
  have f5 : h2 99 0 = ((100 : Nat) : Int) := upE E2
  have g6 : gR 99 100 h2 := gR_1 (gC_of bt_99 (fun j hj => by have q : j = 0 := (by omega); rcases q with rfl; exact f5))
  have g7 := g6.join g3
  exact y_vret (M := M_X0_init_100) 12 dX0_init_12 rfl ⟨rfl, rfl, g7, F4⟩
abbrev M_X3_init_102 : m_M := mkM RX3 yX3_init cX3_init 2 1 20 102 102 none
set_option maxHeartbeats 4000000 in
set_option maxRecDepth 100000 in
theorem c_X3_init_102 (h0 : m_H) : m_D M_X3_init_102 (oF.take 102) (oF.take 102) [mR 101, mR 38] h0 (fun r h' => r = none ∧ gR 101 102 h' ∧ (∀ k, k < 101 → h' k = h0 k)) := by
  refine tk_D (by decide) (by decide) (by decide) rfl (by decide) (ls := [some (mR 101), some (mR 38)]) rfl ?_
  refine y_aload_n (M := M_X3_init_102) 0 dX3_init_0 rfl ?_
  refine y_objI (M := M_X3_init_102) 1 dX3_init_1 ol_X3 ow2 ow3 (by decide) (by decide) ?_
  refine y_aload_n (M := M_X3_init_102) 4 dX3_init_4 rfl ?_
  refine y_aload_n (M := M_X3_init_102) 5 dX3_init_5 rfl ?_
  refine y_putF (M := M_X3_init_102) 6 dX3_init_6 ff_X3_9 (tk_g (by decide) o_101) (fun E m t q => q.1) rfl rfp_o (fun h1 E1 => ?_)
  have F1 : ∀ k, k < 101 → h1 k = h0 k := frn_up (fun k _ => rfl) E1 (by decide)
  have f2 : h1 101 0 = ((38 : Nat) : Int) := upE E1
  have g3 : gR 101 102 h1 := gR_1 (gC_of bt_101 (fun j hj => by have q : j = 0 ∨ j = 1 ∨ j = 2 ∨ j = 3 := (by omega); rcases q with rfl | rfl | rfl | rfl; exact f2; exact trivial; exact trivial; exact trivial))
  exact y_vret (M := M_X3_init_102) 9 dX3_init_9 rfl ⟨rfl, rfl, g3, F1⟩
abbrev M_X6_init_103 : m_M := mkM RX6 yX6_init cX6_init 2 1 20 103 105 none
set_option maxHeartbeats 4000000 in
set_option maxRecDepth 100000 in
theorem c_X6_init_103 (h0 : m_H) (e3 : h0 102 3 = 0) : m_D M_X6_init_103 (oF.take 103) (oF.take 105) [mR 102, mR 38] h0 (fun r h' => r = none ∧ gR 102 105 h' ∧ (∀ k, k < 102 → h' k = h0 k)) := by
  refine tk_D (by decide) (by decide) (by decide) rfl (by decide) (ls := [some (mR 102), some (mR 38)]) rfl ?_
  refine y_aload_n (M := M_X6_init_103) 0 dX6_init_0 rfl ?_
  refine y_objI (M := M_X6_init_103) 1 dX6_init_1 ol_X6 ow2 ow3 (by decide) (by decide) ?_
  refine y_aload_n (M := M_X6_init_103) 4 dX6_init_4 rfl ?_
  refine y_iconst (M := M_X6_init_103) 5 dX6_init_5 ?_
  refine y_newaI (M := M_X6_init_103) 6 dX6_init_6 acI (N := 3) (by decide) (tk_s o_103) (tk_l (by decide)) (tk_b (by decide) (by decide) (by decide)) (fun h1 E1 => ?_)
  have f1 : h1 102 3 = 0 := nw_u E1 (by decide) e3
  have F2 : ∀ k, k < 102 → h1 k = h0 k := frn_nw (fun k _ => rfl) E1 (by decide)
  have g3 : gR 103 104 h1 := gR_1 (gC_of bt_103 (fun j hj => by rw [nwI E1]; show (0 : Int) ≤ 0 ∧ (0 : Int) ≤ 31; decide))
  refine y_putF (M := M_X6_init_103) 8 dX6_init_8 ff_X6_9 (tk_g (by decide) o_102) (fun E m t q => q.1) rfl rfp_a (fun h2 E2 => ?_)
  have f4 : h2 102 3 = 0 := (upN E2 (by decide)).trans f1
  have g5 := g3.put E2 (by decide)
  have F6 : ∀ k, k < 102 → h2 k = h0 k := frn_up F2 E2 (by decide)
  clear f1 g3 F2 E1
  have f7 : h2 102 1 = ((103 : Nat) : Int) := upE E2
  refine y_aload_n (M := M_X6_init_103) 11 dX6_init_11 rfl ?_
  refine y_bipush (M := M_X6_init_103) 12 dX6_init_12 ?_
  refine y_newaI (M := M_X6_init_103) 14 dX6_init_14 acI (N := 12) (by decide) (tk_s o_104) (tk_l (by decide)) (tk_b (by decide) (by decide) (by decide)) (fun h3 E3 => ?_)
  have f8 : h3 102 3 = 0 := nw_u E3 (by decide) f4
  have f9 : h3 102 1 = ((103 : Nat) : Int) := nw_u E3 (by decide) f7
  have g10 := g5.nw E3 (by decide)
  have F11 : ∀ k, k < 102 → h3 k = h0 k := frn_nw F6 E3 (by decide)
  clear f4 f7 g5 F6 E2
  have g12 : gR 104 105 h3 := gR_1 (gC_of bt_104 (fun j hj => by rw [nwI E3]; exact trivial))
  have g13 := g10.join g12
  refine y_putF (M := M_X6_init_103) 16 dX6_init_16 ff_X6_15 (tk_g (by decide) o_102) (fun E m t q => q.1) rfl rfp_a (fun h4 E4 => ?_)
  have f14 : h4 102 3 = 0 := (upN E4 (by decide)).trans f8
  have f15 : h4 102 1 = ((103 : Nat) : Int) := (upN E4 (by decide)).trans f9
  have g16 := g13.put E4 (by decide)
  have F17 : ∀ k, k < 102 → h4 k = h0 k := frn_up F11 E4 (by decide)
  clear f8 f9 g13 F11 E3 g10 g12
  have f18 : h4 102 2 = ((104 : Nat) : Int) := upE E4
  refine y_aload_n (M := M_X6_init_103) 19 dX6_init_19 rfl ?_
  refine y_aload_n (M := M_X6_init_103) 20 dX6_init_20 rfl ?_
  refine y_putF (M := M_X6_init_103) 21 dX6_init_21 ff_X6_18 (tk_g (by decide) o_102) (fun E m t q => q.1) rfl rfp_o (fun h5 E5 => ?_)
  have f19 : h5 102 3 = 0 := (upN E5 (by decide)).trans f14
  have f20 : h5 102 1 = ((103 : Nat) : Int) := (upN E5 (by decide)).trans f15
  have f21 : h5 102 2 = ((104 : Nat) : Int) := (upN E5 (by decide)).trans f18
  have g22 := g16.put E5 (by decide)
  have F23 : ∀ k, k < 102 → h5 k = h0 k := frn_up F17 E5 (by decide)
  clear f14 f15 f18 g16 F17 E4
  have f24 : h5 102 0 = ((38 : Nat) : Int) := upE E5
  have g25 : gR 102 103 h5 := gR_1 (gC_of bt_102 (fun j hj => by have q : j = 0 ∨ j = 1 ∨ j = 2 ∨ j = 3 ∨ j = 4 := (by omega); rcases q with rfl | rfl | rfl | rfl | rfl; exact f24; exact f20; exact f21; (show (0 : Int) ≤ h5 102 3 ∧ h5 102 3 ≤ (3 : Int); rw [f19]; decide); exact trivial))
  have g26 := g25.join g22
  exact y_vret (M := M_X6_init_103) 24 dX6_init_24 rfl ⟨rfl, rfl, g26, F23⟩
abbrev M_X5_init_106 : m_M := mkM RX5 yX5_init cX5_init 1 1 20 106 107 none
set_option maxHeartbeats 4000000 in
set_option maxRecDepth 100000 in
theorem c_X5_init_106 (h0 : m_H) (e1 : h0 105 1 = 0) : m_D M_X5_init_106 (oF.take 106) (oF.take 107) [mR 105] h0 (fun r h' => r = none ∧ gR 105 107 h' ∧ (∀ k, k < 105 → h' k = h0 k) ∧ h' 105 1 = 0) := by
  refine tk_D (by decide) (by decide) (by decide) rfl (by decide) (ls := [some (mR 105)]) rfl ?_
  refine y_aload_n (M := M_X5_init_106) 0 dX5_init_0 rfl ?_
  refine y_objI (M := M_X5_init_106) 1 dX5_init_1 ol_X5 ow2 ow3 (by decide) (by decide) ?_
  refine y_aload_n (M := M_X5_init_106) 4 dX5_init_4 rfl ?_
  refine y_bipush (M := M_X5_init_106) 5 dX5_init_5 ?_
  refine y_newaI (M := M_X5_init_106) 7 dX5_init_7 acI (N := 32) (by decide) (tk_s o_106) (tk_l (by decide)) (tk_b (by decide) (by decide) (by decide)) (fun h1 E1 => ?_)
  have f1 : h1 105 1 = 0 := nw_u E1 (by decide) e1
  have F2 : ∀ k, k < 105 → h1 k = h0 k := frn_nw (fun k _ => rfl) E1 (by decide)
  have g3 : gR 106 107 h1 := gR_1 (gC_of bt_106 (fun j hj => by rw [nwI E1]; show (0 : Int) ≤ 0 ∧ (0 : Int) ≤ 3; decide))
  refine y_putF (M := M_X5_init_106) 9 dX5_init_9 ff_X5_9 (tk_g (by decide) o_105) (fun E m t q => q.1) rfl rfp_a (fun h2 E2 => ?_)
  have f4 : h2 105 1 = 0 := (upN E2 (by decide)).trans f1
  have g5 := g3.put E2 (by decide)
  have F6 : ∀ k, k < 105 → h2 k = h0 k := frn_up F2 E2 (by decide)
  clear f1 g3 F2 E1
  have f7 : h2 105 0 = ((106 : Nat) : Int) := upE E2
  have g8 : gR 105 106 h2 := gR_1 (gC_of bt_105 (fun j hj => by have q : j = 0 ∨ j = 1 ∨ j = 2 ∨ j = 3 := (by omega); rcases q with rfl | rfl | rfl | rfl; exact f7; (show (0 : Int) ≤ h2 105 1 ∧ h2 105 1 ≤ (1 : Int); rw [f4]; decide); exact trivial; exact trivial))
  have g9 := g8.join g5
  exact y_vret (M := M_X5_init_106) 12 dX5_init_12 rfl ⟨rfl, rfl, g9, F6, f4⟩
abbrev M_X11_init_1 : m_M := mkM RX11 yX11_init cX11_init 2 4 82 1 108 none
set_option maxHeartbeats 4000000 in
set_option maxRecDepth 100000 in
theorem c_X11_init_1 (h0 : m_H) : m_D M_X11_init_1 (oF.take 1) (oF.take 108) [mR 0] h0 (fun r h' => r = none ∧ gR 0 108 h' ∧ (∀ k, k < 0 → h' k = h0 k) ∧ h' 35 1 = 0 ∧ h' 34 0 = 0 ∧ h' 34 1 = 0 ∧ h' 1 7 = 0 ∧ h' 1 8 = 0 ∧ h' 1 9 = 0 ∧ h' 105 1 = 0 ∧ h' 0 15 = 0 ∧ h' 0 16 = (-1) ∧ (∀ j, j < 32 → h' 2 j = (-1)) ∧ (∀ j, j < 6 → h' 3 j = (-1)) ∧ (∀ j, j < 16 → h' 8 j = 100) ∧ (h' 36 = fun _ => 0)) := by
  refine tk_D (by decide) (by decide) (by decide) rfl (by decide) (ls := [some (mR 0), none]) rfl ?_
  refine y_aload_n (M := M_X11_init_1) 0 dX11_init_0 rfl ?_
  refine y_objI (M := M_X11_init_1) 1 dX11_init_1 ol_X11 ow2 ow3 (by decide) (by decide) ?_
  refine y_aload_n (M := M_X11_init_1) 4 dX11_init_4 rfl ?_
  refine y_new (M := M_X11_init_1) 5 dX11_init_5 n_X11_9 (tk_s o_1) (tk_l (by decide)) (tk_b (by decide) (by decide) (by decide)) (fun h1 E1 => ?_)
  have F1 : ∀ k, k < 0 → h1 k = h0 k := frn_nw (fun k _ => rfl) E1 (by decide)
  have f2 : h1 1 7 = 0 := (m_nw_at E1 7).trans rfl
  have f3 : h1 1 8 = 0 := (m_nw_at E1 8).trans rfl
  have f4 : h1 1 9 = 0 := (m_nw_at E1 9).trans rfl
  refine y_dup (M := M_X11_init_1) 8 dX11_init_8 rfl ?_
  refine y_callI (M := M_X11_init_1) 9 dX11_init_9 t_X4_init il_X11_11 (m_rr_of rfl) xI_A (as := []) (rest := [mR 1, mR 0]) (c_X4_init_2 h1 f2 f3 f4) rfl rfl (Nat.le_of_ble_eq_true rfl) (tk_c (by decide) (by decide) (by decide) (by decide)) (fun r h2 q => ?_)
  obtain ⟨rfl, G_h2, E2, xh2_0, xh2_1, xh2_2, xh2_3, xh2_4, xh2_5⟩ := q
  have F5 : ∀ k, k < 0 → h2 k = h0 k := frn_fr F1 E2 (by decide)
  clear f2 f3 f4 F1 E1
  refine y_putF (M := M_X11_init_1) 12 dX11_init_12 ff_X11_12 (tk_g (by decide) o_0) (fun E m t q => q.1) rfl rfp_o (fun h3 E3 => ?_)
  have f6 : h3 1 7 = 0 := (upN E3 (by decide)).trans xh2_0
  have f7 : h3 1 8 = 0 := (upN E3 (by decide)).trans xh2_1
  have f8 : h3 1 9 = 0 := (upN E3 (by decide)).trans xh2_2
  have v9 : ∀ j, j < 32 → h3 2 j = (-1) := fun j hj => (upN E3 (fun z => absurd z.1 (by decide))).trans (xh2_3 j hj)
  have v10 : ∀ j, j < 6 → h3 3 j = (-1) := fun j hj => (upN E3 (fun z => absurd z.1 (by decide))).trans (xh2_4 j hj)
  have v11 : ∀ j, j < 16 → h3 8 j = 100 := fun j hj => (upN E3 (fun z => absurd z.1 (by decide))).trans (xh2_5 j hj)
  have g12 := G_h2.put E3 (by decide)
  have F13 : ∀ k, k < 0 → h3 k = h0 k := frn_up F5 E3 (by decide)
  clear xh2_0 xh2_1 xh2_2 G_h2 F5 E2 xh2_3 xh2_4 xh2_5
  have f14 : h3 0 0 = ((1 : Nat) : Int) := upE E3
  refine y_aload_n (M := M_X11_init_1) 15 dX11_init_15 rfl ?_
  refine y_new (M := M_X11_init_1) 16 dX11_init_16 n_X11_9 (tk_s o_9) (tk_l (by decide)) (tk_b (by decide) (by decide) (by decide)) (fun h4 E4 => ?_)
  have f15 : h4 1 7 = 0 := nw_u E4 (by decide) f6
  have f16 : h4 1 8 = 0 := nw_u E4 (by decide) f7
  have f17 : h4 1 9 = 0 := nw_u E4 (by decide) f8
  have f18 : h4 0 0 = ((1 : Nat) : Int) := nw_u E4 (by decide) f14
  have v19 : ∀ j, j < 32 → h4 2 j = (-1) := fun j hj => nw_u E4 (by decide) (v9 j hj)
  have v20 : ∀ j, j < 6 → h4 3 j = (-1) := fun j hj => nw_u E4 (by decide) (v10 j hj)
  have v21 : ∀ j, j < 16 → h4 8 j = 100 := fun j hj => nw_u E4 (by decide) (v11 j hj)
  have g22 := g12.nw E4 (by decide)
  have F23 : ∀ k, k < 0 → h4 k = h0 k := frn_nw F13 E4 (by decide)
  clear f6 f7 f8 f14 g12 F13 E3 v9 v10 v11
  have f24 : h4 9 7 = 0 := (m_nw_at E4 7).trans rfl
  refine y_dup (M := M_X11_init_1) 19 dX11_init_19 rfl ?_
  refine y_callI (M := M_X11_init_1) 20 dX11_init_20 t_X4_init il_X11_11 (m_rr_of rfl) xI_A (as := []) (rest := [mR 9, mR 0]) (c_X4_init_10 h4 f24) rfl rfl (Nat.le_of_ble_eq_true rfl) (tk_c (by decide) (by decide) (by decide) (by decide)) (fun r h5 q => ?_)
  obtain ⟨rfl, G_h5, E5⟩ := q
  have f25 : h5 1 7 = 0 := fr_u E5 (by decide) f15
  have f26 : h5 1 8 = 0 := fr_u E5 (by decide) f16
  have f27 : h5 1 9 = 0 := fr_u E5 (by decide) f17
  have f28 : h5 0 0 = ((1 : Nat) : Int) := fr_u E5 (by decide) f18
  have v29 : ∀ j, j < 32 → h5 2 j = (-1) := fun j hj => fr_u E5 (by decide) (v19 j hj)
  have v30 : ∀ j, j < 6 → h5 3 j = (-1) := fun j hj => fr_u E5 (by decide) (v20 j hj)
  have v31 : ∀ j, j < 16 → h5 8 j = 100 := fun j hj => fr_u E5 (by decide) (v21 j hj)
  have g32 := g22.fr E5 (by decide)
  have F33 : ∀ k, k < 0 → h5 k = h0 k := frn_fr F23 E5 (by decide)
  clear f15 f16 f17 f18 f24 g22 F23 E4 v19 v20 v21
  have g34 := g32.join G_h5
  refine y_putF (M := M_X11_init_1) 23 dX11_init_23 ff_X11_16 (tk_g (by decide) o_0) (fun E m t q => q.1) rfl rfp_o (fun h6 E6 => ?_)
  have f35 : h6 1 7 = 0 := (upN E6 (by decide)).trans f25
  have f36 : h6 1 8 = 0 := (upN E6 (by decide)).trans f26
  have f37 : h6 1 9 = 0 := (upN E6 (by decide)).trans f27
  have f38 : h6 0 0 = ((1 : Nat) : Int) := (upN E6 (by decide)).trans f28
  have v39 : ∀ j, j < 32 → h6 2 j = (-1) := fun j hj => (upN E6 (fun z => absurd z.1 (by decide))).trans (v29 j hj)
  have v40 : ∀ j, j < 6 → h6 3 j = (-1) := fun j hj => (upN E6 (fun z => absurd z.1 (by decide))).trans (v30 j hj)
  have v41 : ∀ j, j < 16 → h6 8 j = 100 := fun j hj => (upN E6 (fun z => absurd z.1 (by decide))).trans (v31 j hj)
  have g42 := g34.put E6 (by decide)
  have F43 : ∀ k, k < 0 → h6 k = h0 k := frn_up F33 E6 (by decide)
  clear f25 f26 f27 f28 g34 F33 E5 g32 G_h5 v29 v30 v31
  have f44 : h6 0 1 = ((9 : Nat) : Int) := upE E6
  refine y_aload_n (M := M_X11_init_1) 26 dX11_init_26 rfl ?_
  refine y_iconst (M := M_X11_init_1) 27 dX11_init_27 ?_
  refine y_newq (M := M_X11_init_1) 28 dX11_init_28 cl_X11_9 (N := 2) (t := 4) (by decide) (Or.inr ⟨rfl, rfl⟩) (fun E m t q => (xI_A E m t q).2) (tk_s o_17) (tk_l (by decide)) (tk_b (by decide) (by decide) (by decide)) (fun h7 E7 => ?_)
  have f45 : h7 1 7 = 0 := nw_u E7 (by decide) f35
  have f46 : h7 1 8 = 0 := nw_u E7 (by decide) f36
  have f47 : h7 1 9 = 0 := nw_u E7 (by decide) f37
  have f48 : h7 0 0 = ((1 : Nat) : Int) := nw_u E7 (by decide) f38
  have f49 : h7 0 1 = ((9 : Nat) : Int) := nw_u E7 (by decide) f44
  have v50 : ∀ j, j < 32 → h7 2 j = (-1) := fun j hj => nw_u E7 (by decide) (v39 j hj)
  have v51 : ∀ j, j < 6 → h7 3 j = (-1) := fun j hj => nw_u E7 (by decide) (v40 j hj)
  have v52 : ∀ j, j < 16 → h7 8 j = 100 := fun j hj => nw_u E7 (by decide) (v41 j hj)
  have g53 := g42.nw E7 (by decide)
  have F54 : ∀ k, k < 0 → h7 k = h0 k := frn_nw F43 E7 (by decide)
  clear f35 f36 f37 f38 f44 g42 F43 E6 v39 v40 v41
  refine y_putF (M := M_X11_init_1) 31 dX11_init_31 ff_X11_19 (tk_g (by decide) o_0) (fun E m t q => q.1) rfl rfp_a (fun h8 E8 => ?_)
  have f55 : h8 1 7 = 0 := (upN E8 (by decide)).trans f45
  have f56 : h8 1 8 = 0 := (upN E8 (by decide)).trans f46
  have f57 : h8 1 9 = 0 := (upN E8 (by decide)).trans f47
  have f58 : h8 0 0 = ((1 : Nat) : Int) := (upN E8 (by decide)).trans f48
  have f59 : h8 0 1 = ((9 : Nat) : Int) := (upN E8 (by decide)).trans f49
  have v60 : ∀ j, j < 32 → h8 2 j = (-1) := fun j hj => (upN E8 (fun z => absurd z.1 (by decide))).trans (v50 j hj)
  have v61 : ∀ j, j < 6 → h8 3 j = (-1) := fun j hj => (upN E8 (fun z => absurd z.1 (by decide))).trans (v51 j hj)
  have v62 : ∀ j, j < 16 → h8 8 j = 100 := fun j hj => (upN E8 (fun z => absurd z.1 (by decide))).trans (v52 j hj)
  have g63 := g53.put E8 (by decide)
  have F64 : ∀ k, k < 0 → h8 k = h0 k := frn_up F54 E8 (by decide)
  clear f45 f46 f47 f48 f49 g53 F54 E7 v50 v51 v52
  have f65 : h8 0 2 = ((17 : Nat) : Int) := upE E8
  refine y_iconst (M := M_X11_init_1) 34 dX11_init_34 ?_
  refine y_istore_n (M := M_X11_init_1) 35 dX11_init_35 (ls' := [some (mR 0), some (mI 0)]) (by decide) rfl ?_
  refine y_iload_n (M := M_X11_init_1) 36 dX11_init_36 rfl ?_
  refine y_iconst (M := M_X11_init_1) 37 dX11_init_37 ?_
  refine y_icmp_ge_F (M := M_X11_init_1) 38 dX11_init_38 60 rfl (by decide) ?_
  refine y_aload_n (M := M_X11_init_1) 41 dX11_init_41 rfl ?_
  refine y_getR (M := M_X11_init_1) 42 dX11_init_42 f_X11_19 (tk_g (by decide) o_0) rfl f65 ?_
  refine y_iload_n (M := M_X11_init_1) 45 dX11_init_45 rfl ?_
  refine y_new (M := M_X11_init_1) 46 dX11_init_46 n_X11_9 (tk_s o_18) (tk_l (by decide)) (tk_b (by decide) (by decide) (by decide)) (fun h9 E9 => ?_)
  have f66 : h9 1 7 = 0 := nw_u E9 (by decide) f55
  have f67 : h9 1 8 = 0 := nw_u E9 (by decide) f56
  have f68 : h9 1 9 = 0 := nw_u E9 (by decide) f57
  have f69 : h9 0 0 = ((1 : Nat) : Int) := nw_u E9 (by decide) f58
  have f70 : h9 0 1 = ((9 : Nat) : Int) := nw_u E9 (by decide) f59
  have f71 : h9 0 2 = ((17 : Nat) : Int) := nw_u E9 (by decide) f65
  have v72 : ∀ j, j < 32 → h9 2 j = (-1) := fun j hj => nw_u E9 (by decide) (v60 j hj)
  have v73 : ∀ j, j < 6 → h9 3 j = (-1) := fun j hj => nw_u E9 (by decide) (v61 j hj)
  have v74 : ∀ j, j < 16 → h9 8 j = 100 := fun j hj => nw_u E9 (by decide) (v62 j hj)
  have g75 := g63.nw E9 (by decide)
  have F76 : ∀ k, k < 0 → h9 k = h0 k := frn_nw F64 E9 (by decide)
  clear f55 f56 f57 f58 f59 f65 g63 F64 E8 v60 v61 v62
  have f77 : h9 18 7 = 0 := (m_nw_at E9 7).trans rfl
  refine y_dup (M := M_X11_init_1) 49 dX11_init_49 rfl ?_
  refine y_callI (M := M_X11_init_1) 50 dX11_init_50 t_X4_init il_X11_11 (m_rr_of rfl) xI_A (as := []) (rest := [mR 18, mI 0, mR 17]) (c_X4_init_19 h9 f77) rfl rfl (Nat.le_of_ble_eq_true rfl) (tk_c (by decide) (by decide) (by decide) (by decide)) (fun r h10 q => ?_)
  obtain ⟨rfl, G_h10, E10⟩ := q
  have f78 : h10 1 7 = 0 := fr_u E10 (by decide) f66
  have f79 : h10 1 8 = 0 := fr_u E10 (by decide) f67
  have f80 : h10 1 9 = 0 := fr_u E10 (by decide) f68
  have f81 : h10 0 0 = ((1 : Nat) : Int) := fr_u E10 (by decide) f69
  have f82 : h10 0 1 = ((9 : Nat) : Int) := fr_u E10 (by decide) f70
  have f83 : h10 0 2 = ((17 : Nat) : Int) := fr_u E10 (by decide) f71
  have v84 : ∀ j, j < 32 → h10 2 j = (-1) := fun j hj => fr_u E10 (by decide) (v72 j hj)
  have v85 : ∀ j, j < 6 → h10 3 j = (-1) := fun j hj => fr_u E10 (by decide) (v73 j hj)
  have v86 : ∀ j, j < 16 → h10 8 j = 100 := fun j hj => fr_u E10 (by decide) (v74 j hj)
  have g87 := g75.fr E10 (by decide)
  have F88 : ∀ k, k < 0 → h10 k = h0 k := frn_fr F76 E10 (by decide)
  clear f66 f67 f68 f69 f70 f71 f77 g75 F76 E9 v72 v73 v74
  refine y_aast (M := M_X11_init_1) 53 dX11_init_53 (Or.inr ⟨rfl, rfl⟩) (tk_g (by decide) o_17) (tk_g (by decide) o_18) cl_4 (by decide) (by decide) (fun h11 E11 => ?_)
  have f89 : h11 1 7 = 0 := (upN E11 (by decide)).trans f78
  have f90 : h11 1 8 = 0 := (upN E11 (by decide)).trans f79
  have f91 : h11 1 9 = 0 := (upN E11 (by decide)).trans f80
  have f92 : h11 0 0 = ((1 : Nat) : Int) := (upN E11 (by decide)).trans f81
  have f93 : h11 0 1 = ((9 : Nat) : Int) := (upN E11 (by decide)).trans f82
  have f94 : h11 0 2 = ((17 : Nat) : Int) := (upN E11 (by decide)).trans f83
  have v95 : ∀ j, j < 32 → h11 2 j = (-1) := fun j hj => (upN E11 (fun z => absurd z.1 (by decide))).trans (v84 j hj)
  have v96 : ∀ j, j < 6 → h11 3 j = (-1) := fun j hj => (upN E11 (fun z => absurd z.1 (by decide))).trans (v85 j hj)
  have v97 : ∀ j, j < 16 → h11 8 j = 100 := fun j hj => (upN E11 (fun z => absurd z.1 (by decide))).trans (v86 j hj)
  have g98 := g87.put E11 (by decide)
  have g99 := G_h10.put E11 (by decide)
  have F100 : ∀ k, k < 0 → h11 k = h0 k := frn_up F88 E11 (by decide)
  clear f78 f79 f80 f81 f82 f83 g87 G_h10 F88 E10 v84 v85 v86
  have f101 : h11 17 0 = ((18 : Nat) : Int) := upE E11
  refine y_iincN (M := M_X11_init_1) 54 dX11_init_54 (ls' := [some (mR 0), some (mI 1)]) (by decide) rfl (by (unfold m_32; decide)) (by decide) (by decide) rfl ?_
  refine y_goto (M := M_X11_init_1) 57 dX11_init_57 36 rfl ?_
  refine y_iload_n (M := M_X11_init_1) 36 dX11_init_36 rfl ?_
  refine y_iconst (M := M_X11_init_1) 37 dX11_init_37 ?_
  refine y_icmp_ge_F (M := M_X11_init_1) 38 dX11_init_38 60 rfl (by decide) ?_
  refine y_aload_n (M := M_X11_init_1) 41 dX11_init_41 rfl ?_
  refine y_getR (M := M_X11_init_1) 42 dX11_init_42 f_X11_19 (tk_g (by decide) o_0) rfl f94 ?_
  refine y_iload_n (M := M_X11_init_1) 45 dX11_init_45 rfl ?_
  refine y_new (M := M_X11_init_1) 46 dX11_init_46 n_X11_9 (tk_s o_26) (tk_l (by decide)) (tk_b (by decide) (by decide) (by decide)) (fun h12 E12 => ?_)
  have f102 : h12 1 7 = 0 := nw_u E12 (by decide) f89
  have f103 : h12 1 8 = 0 := nw_u E12 (by decide) f90
  have f104 : h12 1 9 = 0 := nw_u E12 (by decide) f91
  have f105 : h12 0 0 = ((1 : Nat) : Int) := nw_u E12 (by decide) f92
  have f106 : h12 0 1 = ((9 : Nat) : Int) := nw_u E12 (by decide) f93
  have f107 : h12 0 2 = ((17 : Nat) : Int) := nw_u E12 (by decide) f94
  have f108 : h12 17 0 = ((18 : Nat) : Int) := nw_u E12 (by decide) f101
  have v109 : ∀ j, j < 32 → h12 2 j = (-1) := fun j hj => nw_u E12 (by decide) (v95 j hj)
  have v110 : ∀ j, j < 6 → h12 3 j = (-1) := fun j hj => nw_u E12 (by decide) (v96 j hj)
  have v111 : ∀ j, j < 16 → h12 8 j = 100 := fun j hj => nw_u E12 (by decide) (v97 j hj)
  have g112 := g98.nw E12 (by decide)
  have g113 := g99.nw E12 (by decide)
  have F114 : ∀ k, k < 0 → h12 k = h0 k := frn_nw F100 E12 (by decide)
  clear f89 f90 f91 f92 f93 f94 f101 g98 g99 F100 E11 v95 v96 v97
  have f115 : h12 26 7 = 0 := (m_nw_at E12 7).trans rfl
  refine y_dup (M := M_X11_init_1) 49 dX11_init_49 rfl ?_
  refine y_callI (M := M_X11_init_1) 50 dX11_init_50 t_X4_init il_X11_11 (m_rr_of rfl) xI_A (as := []) (rest := [mR 26, mI 1, mR 17]) (c_X4_init_27 h12 f115) rfl rfl (Nat.le_of_ble_eq_true rfl) (tk_c (by decide) (by decide) (by decide) (by decide)) (fun r h13 q => ?_)
  obtain ⟨rfl, G_h13, E13⟩ := q
  have f116 : h13 1 7 = 0 := fr_u E13 (by decide) f102
  have f117 : h13 1 8 = 0 := fr_u E13 (by decide) f103
  have f118 : h13 1 9 = 0 := fr_u E13 (by decide) f104
  have f119 : h13 0 0 = ((1 : Nat) : Int) := fr_u E13 (by decide) f105
  have f120 : h13 0 1 = ((9 : Nat) : Int) := fr_u E13 (by decide) f106
  have f121 : h13 0 2 = ((17 : Nat) : Int) := fr_u E13 (by decide) f107
  have f122 : h13 17 0 = ((18 : Nat) : Int) := fr_u E13 (by decide) f108
  have v123 : ∀ j, j < 32 → h13 2 j = (-1) := fun j hj => fr_u E13 (by decide) (v109 j hj)
  have v124 : ∀ j, j < 6 → h13 3 j = (-1) := fun j hj => fr_u E13 (by decide) (v110 j hj)
  have v125 : ∀ j, j < 16 → h13 8 j = 100 := fun j hj => fr_u E13 (by decide) (v111 j hj)
  have g126 := g112.fr E13 (by decide)
  have g127 := g113.fr E13 (by decide)
  have F128 : ∀ k, k < 0 → h13 k = h0 k := frn_fr F114 E13 (by decide)
  clear f102 f103 f104 f105 f106 f107 f108 f115 g112 g113 F114 E12 v109 v110 v111
  have g129 := g127.join G_h13
  refine y_aast (M := M_X11_init_1) 53 dX11_init_53 (Or.inr ⟨rfl, rfl⟩) (tk_g (by decide) o_17) (tk_g (by decide) o_26) cl_4 (by decide) (by decide) (fun h14 E14 => ?_)
  have f130 : h14 1 7 = 0 := (upN E14 (by decide)).trans f116
  have f131 : h14 1 8 = 0 := (upN E14 (by decide)).trans f117
  have f132 : h14 1 9 = 0 := (upN E14 (by decide)).trans f118
  have f133 : h14 0 0 = ((1 : Nat) : Int) := (upN E14 (by decide)).trans f119
  have f134 : h14 0 1 = ((9 : Nat) : Int) := (upN E14 (by decide)).trans f120
  have f135 : h14 0 2 = ((17 : Nat) : Int) := (upN E14 (by decide)).trans f121
  have f136 : h14 17 0 = ((18 : Nat) : Int) := (upN E14 (by decide)).trans f122
  have v137 : ∀ j, j < 32 → h14 2 j = (-1) := fun j hj => (upN E14 (fun z => absurd z.1 (by decide))).trans (v123 j hj)
  have v138 : ∀ j, j < 6 → h14 3 j = (-1) := fun j hj => (upN E14 (fun z => absurd z.1 (by decide))).trans (v124 j hj)
  have v139 : ∀ j, j < 16 → h14 8 j = 100 := fun j hj => (upN E14 (fun z => absurd z.1 (by decide))).trans (v125 j hj)
  have g140 := g126.put E14 (by decide)
  have g141 := g129.put E14 (by decide)
  have F142 : ∀ k, k < 0 → h14 k = h0 k := frn_up F128 E14 (by decide)
  clear f116 f117 f118 f119 f120 f121 f122 g126 g129 F128 E13 g127 G_h13 v123 v124 v125
  have f143 : h14 17 1 = ((26 : Nat) : Int) := upE E14
  have g144 : gR 17 18 h14 := gR_1 (gC_of bt_17 (fun j hj => by have q : j = 0 ∨ j = 1 := (by omega); rcases q with rfl | rfl; exact f136; exact f143))
  have g145 := g140.join g144
  have g146 := g145.join g141
  refine y_iincN (M := M_X11_init_1) 54 dX11_init_54 (ls' := [some (mR 0), some (mI 2)]) (by decide) rfl (by (unfold m_32; decide)) (by decide) (by decide) rfl ?_
  refine y_goto (M := M_X11_init_1) 57 dX11_init_57 36 rfl ?_
  refine y_iload_n (M := M_X11_init_1) 36 dX11_init_36 rfl ?_
  refine y_iconst (M := M_X11_init_1) 37 dX11_init_37 ?_
  refine y_icmp_ge_T (M := M_X11_init_1) 38 dX11_init_38 60 rfl (by decide) ?_
  refine y_aload_n (M := M_X11_init_1) 60 dX11_init_60 rfl ?_
  refine y_iconst (M := M_X11_init_1) 61 dX11_init_61 ?_
  refine y_newaZ (M := M_X11_init_1) 62 dX11_init_62 acZ (N := 2) (by decide) (tk_s o_34) (tk_l (by decide)) (tk_b (by decide) (by decide) (by decide)) (fun h15 E15 => ?_)
  have f147 : h15 1 7 = 0 := nw_u E15 (by decide) f130
  have f148 : h15 1 8 = 0 := nw_u E15 (by decide) f131
  have f149 : h15 1 9 = 0 := nw_u E15 (by decide) f132
  have f150 : h15 0 0 = ((1 : Nat) : Int) := nw_u E15 (by decide) f133
  have f151 : h15 0 1 = ((9 : Nat) : Int) := nw_u E15 (by decide) f134
  have f152 : h15 0 2 = ((17 : Nat) : Int) := nw_u E15 (by decide) f135
  have v153 : ∀ j, j < 32 → h15 2 j = (-1) := fun j hj => nw_u E15 (by decide) (v137 j hj)
  have v154 : ∀ j, j < 6 → h15 3 j = (-1) := fun j hj => nw_u E15 (by decide) (v138 j hj)
  have v155 : ∀ j, j < 16 → h15 8 j = 100 := fun j hj => nw_u E15 (by decide) (v139 j hj)
  have g156 := g146.nw E15 (by decide)
  have F157 : ∀ k, k < 0 → h15 k = h0 k := frn_nw F142 E15 (by decide)
  clear f130 f131 f132 f133 f134 f135 g146 F142 E14 g140 g144 g145 g141 v137 v138 v139
  have f158 : h15 34 0 = 0 := nwZ E15 0
  have f159 : h15 34 1 = 0 := nwZ E15 1
  have g160 : gR 34 35 h15 := gR_1 (gC_of bt_34 (fun j hj => by rw [nwZ E15]; show (0 : Int) ≤ 0 ∧ (0 : Int) ≤ 1; decide))
  have g161 := g156.join g160
  refine y_putF (M := M_X11_init_1) 64 dX11_init_64 ff_X11_23 (tk_g (by decide) o_0) (fun E m t q => q.1) rfl rfp_a (fun h16 E16 => ?_)
  have f162 : h16 1 7 = 0 := (upN E16 (by decide)).trans f147
  have f163 : h16 1 8 = 0 := (upN E16 (by decide)).trans f148
  have f164 : h16 1 9 = 0 := (upN E16 (by decide)).trans f149
  have f165 : h16 0 0 = ((1 : Nat) : Int) := (upN E16 (by decide)).trans f150
  have f166 : h16 0 1 = ((9 : Nat) : Int) := (upN E16 (by decide)).trans f151
  have f167 : h16 0 2 = ((17 : Nat) : Int) := (upN E16 (by decide)).trans f152
  have f168 : h16 34 0 = 0 := (upN E16 (by decide)).trans f158
  have f169 : h16 34 1 = 0 := (upN E16 (by decide)).trans f159
  have v170 : ∀ j, j < 32 → h16 2 j = (-1) := fun j hj => (upN E16 (fun z => absurd z.1 (by decide))).trans (v153 j hj)
  have v171 : ∀ j, j < 6 → h16 3 j = (-1) := fun j hj => (upN E16 (fun z => absurd z.1 (by decide))).trans (v154 j hj)
  have v172 : ∀ j, j < 16 → h16 8 j = 100 := fun j hj => (upN E16 (fun z => absurd z.1 (by decide))).trans (v155 j hj)
  have g173 := g161.put E16 (by decide)
  have F174 : ∀ k, k < 0 → h16 k = h0 k := frn_up F157 E16 (by decide)
  clear f147 f148 f149 f150 f151 f152 f158 f159 g161 F157 E15 g156 g160 v153 v154 v155
  have f175 : h16 0 3 = ((34 : Nat) : Int) := upE E16
  refine y_aload_n (M := M_X11_init_1) 67 dX11_init_67 rfl ?_
  refine y_new (M := M_X11_init_1) 68 dX11_init_68 n_X11_27 (tk_s o_35) (tk_l (by decide)) (tk_b (by decide) (by decide) (by decide)) (fun h17 E17 => ?_)
  have f176 : h17 1 7 = 0 := nw_u E17 (by decide) f162
  have f177 : h17 1 8 = 0 := nw_u E17 (by decide) f163
  have f178 : h17 1 9 = 0 := nw_u E17 (by decide) f164
  have f179 : h17 0 0 = ((1 : Nat) : Int) := nw_u E17 (by decide) f165
  have f180 : h17 0 1 = ((9 : Nat) : Int) := nw_u E17 (by decide) f166
  have f181 : h17 0 2 = ((17 : Nat) : Int) := nw_u E17 (by decide) f167
  have f182 : h17 34 0 = 0 := nw_u E17 (by decide) f168
  have f183 : h17 34 1 = 0 := nw_u E17 (by decide) f169
  have f184 : h17 0 3 = ((34 : Nat) : Int) := nw_u E17 (by decide) f175
  have v185 : ∀ j, j < 32 → h17 2 j = (-1) := fun j hj => nw_u E17 (by decide) (v170 j hj)
  have v186 : ∀ j, j < 6 → h17 3 j = (-1) := fun j hj => nw_u E17 (by decide) (v171 j hj)
  have v187 : ∀ j, j < 16 → h17 8 j = 100 := fun j hj => nw_u E17 (by decide) (v172 j hj)
  have g188 := g173.nw E17 (by decide)
  have F189 : ∀ k, k < 0 → h17 k = h0 k := frn_nw F174 E17 (by decide)
  clear f162 f163 f164 f165 f166 f167 f168 f169 f175 g173 F174 E16 v170 v171 v172
  have f190 : h17 35 1 = 0 := (m_nw_at E17 1).trans rfl
  refine y_dup (M := M_X11_init_1) 71 dX11_init_71 rfl ?_
  refine y_callIN (M := M_X11_init_1) 72 dX11_init_72 t_X8_init il_X11_29 (m_rr_of rfl) xI_A (as := []) (rest := [mR 35, mR 0]) (c_X8_init_36 h17 f190) rfl rfl (Nat.le_of_ble_eq_true rfl) (tk_c (by decide) (by decide) (by decide) (by decide)) (fun r h18 q => ?_)
  obtain ⟨rfl, G_h18, E18, xh18_0, xh18_1⟩ := q
  have f191 : h18 1 7 = 0 := fr_u E18 (by decide) f176
  have f192 : h18 1 8 = 0 := fr_u E18 (by decide) f177
  have f193 : h18 1 9 = 0 := fr_u E18 (by decide) f178
  have f194 : h18 0 0 = ((1 : Nat) : Int) := fr_u E18 (by decide) f179
  have f195 : h18 0 1 = ((9 : Nat) : Int) := fr_u E18 (by decide) f180
  have f196 : h18 0 2 = ((17 : Nat) : Int) := fr_u E18 (by decide) f181
  have f197 : h18 34 0 = 0 := fr_u E18 (by decide) f182
  have f198 : h18 34 1 = 0 := fr_u E18 (by decide) f183
  have f199 : h18 0 3 = ((34 : Nat) : Int) := fr_u E18 (by decide) f184
  have v200 : ∀ j, j < 32 → h18 2 j = (-1) := fun j hj => fr_u E18 (by decide) (v185 j hj)
  have v201 : ∀ j, j < 6 → h18 3 j = (-1) := fun j hj => fr_u E18 (by decide) (v186 j hj)
  have v202 : ∀ j, j < 16 → h18 8 j = 100 := fun j hj => fr_u E18 (by decide) (v187 j hj)
  have g203 := g188.fr E18 (by decide)
  have F204 : ∀ k, k < 0 → h18 k = h0 k := frn_fr F189 E18 (by decide)
  clear f176 f177 f178 f179 f180 f181 f182 f183 f184 f190 g188 F189 E17 v185 v186 v187
  have g205 := g203.join G_h18
  refine y_putF (M := M_X11_init_1) 75 dX11_init_75 ff_X11_30 (tk_g (by decide) o_0) (fun E m t q => q.1) rfl rfp_o (fun h19 E19 => ?_)
  have f206 : h19 1 7 = 0 := (upN E19 (by decide)).trans f191
  have f207 : h19 1 8 = 0 := (upN E19 (by decide)).trans f192
  have f208 : h19 1 9 = 0 := (upN E19 (by decide)).trans f193
  have f209 : h19 0 0 = ((1 : Nat) : Int) := (upN E19 (by decide)).trans f194
  have f210 : h19 0 1 = ((9 : Nat) : Int) := (upN E19 (by decide)).trans f195
  have f211 : h19 0 2 = ((17 : Nat) : Int) := (upN E19 (by decide)).trans f196
  have f212 : h19 34 0 = 0 := (upN E19 (by decide)).trans f197
  have f213 : h19 34 1 = 0 := (upN E19 (by decide)).trans f198
  have f214 : h19 0 3 = ((34 : Nat) : Int) := (upN E19 (by decide)).trans f199
  have f215 : h19 35 1 = 0 := (upN E19 (by decide)).trans xh18_0
  have v216 : ∀ j, j < 32 → h19 2 j = (-1) := fun j hj => (upN E19 (fun z => absurd z.1 (by decide))).trans (v200 j hj)
  have v217 : ∀ j, j < 6 → h19 3 j = (-1) := fun j hj => (upN E19 (fun z => absurd z.1 (by decide))).trans (v201 j hj)
  have v218 : ∀ j, j < 16 → h19 8 j = 100 := fun j hj => (upN E19 (fun z => absurd z.1 (by decide))).trans (v202 j hj)
  have u219 : h19 36 = fun _ => 0 := (upo E19 (by decide)).trans xh18_1
  have g220 := g205.put E19 (by decide)
  have F221 : ∀ k, k < 0 → h19 k = h0 k := frn_up F204 E19 (by decide)
  clear f191 f192 f193 f194 f195 f196 f197 f198 f199 xh18_0 g205 F204 E18 g203 G_h18 v200 v201 v202 xh18_1
  have f222 : h19 0 4 = ((35 : Nat) : Int) := upE E19
  refine y_aload_n (M := M_X11_init_1) 78 dX11_init_78 rfl ?_
  refine y_new (M := M_X11_init_1) 79 dX11_init_79 n_X11_34 (tk_s o_37) (tk_l (by decide)) (tk_b (by decide) (by decide) (by decide)) (fun h20 E20 => ?_)
  have f223 : h20 1 7 = 0 := nw_u E20 (by decide) f206
  have f224 : h20 1 8 = 0 := nw_u E20 (by decide) f207
  have f225 : h20 1 9 = 0 := nw_u E20 (by decide) f208
  have f226 : h20 0 0 = ((1 : Nat) : Int) := nw_u E20 (by decide) f209
  have f227 : h20 0 1 = ((9 : Nat) : Int) := nw_u E20 (by decide) f210
  have f228 : h20 0 2 = ((17 : Nat) : Int) := nw_u E20 (by decide) f211
  have f229 : h20 34 0 = 0 := nw_u E20 (by decide) f212
  have f230 : h20 34 1 = 0 := nw_u E20 (by decide) f213
  have f231 : h20 0 3 = ((34 : Nat) : Int) := nw_u E20 (by decide) f214
  have f232 : h20 35 1 = 0 := nw_u E20 (by decide) f215
  have f233 : h20 0 4 = ((35 : Nat) : Int) := nw_u E20 (by decide) f222
  have v234 : ∀ j, j < 32 → h20 2 j = (-1) := fun j hj => nw_u E20 (by decide) (v216 j hj)
  have v235 : ∀ j, j < 6 → h20 3 j = (-1) := fun j hj => nw_u E20 (by decide) (v217 j hj)
  have v236 : ∀ j, j < 16 → h20 8 j = 100 := fun j hj => nw_u E20 (by decide) (v218 j hj)
  have u237 : h20 36 = fun _ => 0 := (m_nw_ne E20 (by decide)).trans u219
  have g238 := g220.nw E20 (by decide)
  have F239 : ∀ k, k < 0 → h20 k = h0 k := frn_nw F221 E20 (by decide)
  clear f206 f207 f208 f209 f210 f211 f212 f213 f214 f215 f222 g220 F221 E19 v216 v217 v218 u219
  have f240 : h20 37 1 = 0 := (m_nw_at E20 1).trans rfl
  have f241 : h20 37 2 = 0 := (m_nw_at E20 2).trans rfl
  refine y_dup (M := M_X11_init_1) 82 dX11_init_82 rfl ?_
  refine y_aload_n (M := M_X11_init_1) 83 dX11_init_83 rfl ?_
  refine y_getR (M := M_X11_init_1) 84 dX11_init_84 f_X11_30 (tk_g (by decide) o_0) rfl f233 ?_
  refine y_callI (M := M_X11_init_1) 87 dX11_init_87 t_X1_init il_X11_36 (m_rr_of rfl) xI_A (as := [mR 35]) (rest := [mR 37, mR 0]) (c_X1_init_38 h20 f240 f241) rfl rfl (Nat.le_of_ble_eq_true rfl) (tk_c (by decide) (by decide) (by decide) (by decide)) (fun r h21 q => ?_)
  obtain ⟨rfl, G_h21, E21⟩ := q
  have f242 : h21 1 7 = 0 := fr_u E21 (by decide) f223
  have f243 : h21 1 8 = 0 := fr_u E21 (by decide) f224
  have f244 : h21 1 9 = 0 := fr_u E21 (by decide) f225
  have f245 : h21 0 0 = ((1 : Nat) : Int) := fr_u E21 (by decide) f226
  have f246 : h21 0 1 = ((9 : Nat) : Int) := fr_u E21 (by decide) f227
  have f247 : h21 0 2 = ((17 : Nat) : Int) := fr_u E21 (by decide) f228
  have f248 : h21 34 0 = 0 := fr_u E21 (by decide) f229
  have f249 : h21 34 1 = 0 := fr_u E21 (by decide) f230
  have f250 : h21 0 3 = ((34 : Nat) : Int) := fr_u E21 (by decide) f231
  have f251 : h21 35 1 = 0 := fr_u E21 (by decide) f232
  have f252 : h21 0 4 = ((35 : Nat) : Int) := fr_u E21 (by decide) f233
  have v253 : ∀ j, j < 32 → h21 2 j = (-1) := fun j hj => fr_u E21 (by decide) (v234 j hj)
  have v254 : ∀ j, j < 6 → h21 3 j = (-1) := fun j hj => fr_u E21 (by decide) (v235 j hj)
  have v255 : ∀ j, j < 16 → h21 8 j = 100 := fun j hj => fr_u E21 (by decide) (v236 j hj)
  have u256 : h21 36 = fun _ => 0 := (E21 36 (by decide)).trans u237
  have g257 := g238.fr E21 (by decide)
  have F258 : ∀ k, k < 0 → h21 k = h0 k := frn_fr F239 E21 (by decide)
  clear f223 f224 f225 f226 f227 f228 f229 f230 f231 f232 f233 f240 f241 g238 F239 E20 v234 v235 v236 u237
  have g259 := g257.join G_h21
  refine y_putF (M := M_X11_init_1) 90 dX11_init_90 ff_X11_39 (tk_g (by decide) o_0) (fun E m t q => q.1) rfl rfp_o (fun h22 E22 => ?_)
  have f260 : h22 1 7 = 0 := (upN E22 (by decide)).trans f242
  have f261 : h22 1 8 = 0 := (upN E22 (by decide)).trans f243
  have f262 : h22 1 9 = 0 := (upN E22 (by decide)).trans f244
  have f263 : h22 0 0 = ((1 : Nat) : Int) := (upN E22 (by decide)).trans f245
  have f264 : h22 0 1 = ((9 : Nat) : Int) := (upN E22 (by decide)).trans f246
  have f265 : h22 0 2 = ((17 : Nat) : Int) := (upN E22 (by decide)).trans f247
  have f266 : h22 34 0 = 0 := (upN E22 (by decide)).trans f248
  have f267 : h22 34 1 = 0 := (upN E22 (by decide)).trans f249
  have f268 : h22 0 3 = ((34 : Nat) : Int) := (upN E22 (by decide)).trans f250
  have f269 : h22 35 1 = 0 := (upN E22 (by decide)).trans f251
  have f270 : h22 0 4 = ((35 : Nat) : Int) := (upN E22 (by decide)).trans f252
  have v271 : ∀ j, j < 32 → h22 2 j = (-1) := fun j hj => (upN E22 (fun z => absurd z.1 (by decide))).trans (v253 j hj)
  have v272 : ∀ j, j < 6 → h22 3 j = (-1) := fun j hj => (upN E22 (fun z => absurd z.1 (by decide))).trans (v254 j hj)
  have v273 : ∀ j, j < 16 → h22 8 j = 100 := fun j hj => (upN E22 (fun z => absurd z.1 (by decide))).trans (v255 j hj)
  have u274 : h22 36 = fun _ => 0 := (upo E22 (by decide)).trans u256
  have g275 := g259.put E22 (by decide)
  have F276 : ∀ k, k < 0 → h22 k = h0 k := frn_up F258 E22 (by decide)
  clear f242 f243 f244 f245 f246 f247 f248 f249 f250 f251 f252 g259 F258 E21 g257 G_h21 v253 v254 v255 u256
  have f277 : h22 0 5 = ((37 : Nat) : Int) := upE E22
  refine y_aload_n (M := M_X11_init_1) 93 dX11_init_93 rfl ?_
  refine y_new (M := M_X11_init_1) 94 dX11_init_94 n_X11_43 (tk_s o_38) (tk_l (by decide)) (tk_b (by decide) (by decide) (by decide)) (fun h23 E23 => ?_)
  have f278 : h23 1 7 = 0 := nw_u E23 (by decide) f260
  have f279 : h23 1 8 = 0 := nw_u E23 (by decide) f261
  have f280 : h23 1 9 = 0 := nw_u E23 (by decide) f262
  have f281 : h23 0 0 = ((1 : Nat) : Int) := nw_u E23 (by decide) f263
  have f282 : h23 0 1 = ((9 : Nat) : Int) := nw_u E23 (by decide) f264
  have f283 : h23 0 2 = ((17 : Nat) : Int) := nw_u E23 (by decide) f265
  have f284 : h23 34 0 = 0 := nw_u E23 (by decide) f266
  have f285 : h23 34 1 = 0 := nw_u E23 (by decide) f267
  have f286 : h23 0 3 = ((34 : Nat) : Int) := nw_u E23 (by decide) f268
  have f287 : h23 35 1 = 0 := nw_u E23 (by decide) f269
  have f288 : h23 0 4 = ((35 : Nat) : Int) := nw_u E23 (by decide) f270
  have f289 : h23 0 5 = ((37 : Nat) : Int) := nw_u E23 (by decide) f277
  have v290 : ∀ j, j < 32 → h23 2 j = (-1) := fun j hj => nw_u E23 (by decide) (v271 j hj)
  have v291 : ∀ j, j < 6 → h23 3 j = (-1) := fun j hj => nw_u E23 (by decide) (v272 j hj)
  have v292 : ∀ j, j < 16 → h23 8 j = 100 := fun j hj => nw_u E23 (by decide) (v273 j hj)
  have u293 : h23 36 = fun _ => 0 := (m_nw_ne E23 (by decide)).trans u274
  have g294 := g275.nw E23 (by decide)
  have F295 : ∀ k, k < 0 → h23 k = h0 k := frn_nw F276 E23 (by decide)
  clear f260 f261 f262 f263 f264 f265 f266 f267 f268 f269 f270 f277 g275 F276 E22 v271 v272 v273 u274
  refine y_dup (M := M_X11_init_1) 97 dX11_init_97 rfl ?_
  refine y_callIN (M := M_X11_init_1) 98 dX11_init_98 t_X9_init il_X11_45 (m_rr_of rfl) xI_A (as := []) (rest := [mR 38, mR 0]) (c_X9_init_39 h23) rfl rfl (Nat.le_of_ble_eq_true rfl) (tk_c (by decide) (by decide) (by decide) (by decide)) (fun r h24 q => ?_)
  obtain ⟨rfl, G_h24, E24⟩ := q
  have f296 : h24 1 7 = 0 := fr_u E24 (by decide) f278
  have f297 : h24 1 8 = 0 := fr_u E24 (by decide) f279
  have f298 : h24 1 9 = 0 := fr_u E24 (by decide) f280
  have f299 : h24 0 0 = ((1 : Nat) : Int) := fr_u E24 (by decide) f281
  have f300 : h24 0 1 = ((9 : Nat) : Int) := fr_u E24 (by decide) f282
  have f301 : h24 0 2 = ((17 : Nat) : Int) := fr_u E24 (by decide) f283
  have f302 : h24 34 0 = 0 := fr_u E24 (by decide) f284
  have f303 : h24 34 1 = 0 := fr_u E24 (by decide) f285
  have f304 : h24 0 3 = ((34 : Nat) : Int) := fr_u E24 (by decide) f286
  have f305 : h24 35 1 = 0 := fr_u E24 (by decide) f287
  have f306 : h24 0 4 = ((35 : Nat) : Int) := fr_u E24 (by decide) f288
  have f307 : h24 0 5 = ((37 : Nat) : Int) := fr_u E24 (by decide) f289
  have v308 : ∀ j, j < 32 → h24 2 j = (-1) := fun j hj => fr_u E24 (by decide) (v290 j hj)
  have v309 : ∀ j, j < 6 → h24 3 j = (-1) := fun j hj => fr_u E24 (by decide) (v291 j hj)
  have v310 : ∀ j, j < 16 → h24 8 j = 100 := fun j hj => fr_u E24 (by decide) (v292 j hj)
  have u311 : h24 36 = fun _ => 0 := (E24 36 (by decide)).trans u293
  have g312 := g294.fr E24 (by decide)
  have F313 : ∀ k, k < 0 → h24 k = h0 k := frn_fr F295 E24 (by decide)
  clear f278 f279 f280 f281 f282 f283 f284 f285 f286 f287 f288 f289 g294 F295 E23 v290 v291 v292 u293
  have g314 := g312.join G_h24
  refine y_putF (M := M_X11_init_1) 101 dX11_init_101 ff_X11_46 (tk_g (by decide) o_0) (fun E m t q => q.1) rfl rfp_o (fun h25 E25 => ?_)
  have f315 : h25 1 7 = 0 := (upN E25 (by decide)).trans f296
  have f316 : h25 1 8 = 0 := (upN E25 (by decide)).trans f297
  have f317 : h25 1 9 = 0 := (upN E25 (by decide)).trans f298
  have f318 : h25 0 0 = ((1 : Nat) : Int) := (upN E25 (by decide)).trans f299
  have f319 : h25 0 1 = ((9 : Nat) : Int) := (upN E25 (by decide)).trans f300
  have f320 : h25 0 2 = ((17 : Nat) : Int) := (upN E25 (by decide)).trans f301
  have f321 : h25 34 0 = 0 := (upN E25 (by decide)).trans f302
  have f322 : h25 34 1 = 0 := (upN E25 (by decide)).trans f303
  have f323 : h25 0 3 = ((34 : Nat) : Int) := (upN E25 (by decide)).trans f304
  have f324 : h25 35 1 = 0 := (upN E25 (by decide)).trans f305
  have f325 : h25 0 4 = ((35 : Nat) : Int) := (upN E25 (by decide)).trans f306
  have f326 : h25 0 5 = ((37 : Nat) : Int) := (upN E25 (by decide)).trans f307
  have v327 : ∀ j, j < 32 → h25 2 j = (-1) := fun j hj => (upN E25 (fun z => absurd z.1 (by decide))).trans (v308 j hj)
  have v328 : ∀ j, j < 6 → h25 3 j = (-1) := fun j hj => (upN E25 (fun z => absurd z.1 (by decide))).trans (v309 j hj)
  have v329 : ∀ j, j < 16 → h25 8 j = 100 := fun j hj => (upN E25 (fun z => absurd z.1 (by decide))).trans (v310 j hj)
  have u330 : h25 36 = fun _ => 0 := (upo E25 (by decide)).trans u311
  have g331 := g314.put E25 (by decide)
  have F332 : ∀ k, k < 0 → h25 k = h0 k := frn_up F313 E25 (by decide)
  clear f296 f297 f298 f299 f300 f301 f302 f303 f304 f305 f306 f307 g314 F313 E24 g312 G_h24 v308 v309 v310 u311
  have f333 : h25 0 6 = ((38 : Nat) : Int) := upE E25
  refine y_aload_n (M := M_X11_init_1) 104 dX11_init_104 rfl ?_
  refine y_new (M := M_X11_init_1) 105 dX11_init_105 n_X11_50 (tk_s o_93) (tk_l (by decide)) (tk_b (by decide) (by decide) (by decide)) (fun h26 E26 => ?_)
  have f334 : h26 1 7 = 0 := nw_u E26 (by decide) f315
  have f335 : h26 1 8 = 0 := nw_u E26 (by decide) f316
  have f336 : h26 1 9 = 0 := nw_u E26 (by decide) f317
  have f337 : h26 0 0 = ((1 : Nat) : Int) := nw_u E26 (by decide) f318
  have f338 : h26 0 1 = ((9 : Nat) : Int) := nw_u E26 (by decide) f319
  have f339 : h26 0 2 = ((17 : Nat) : Int) := nw_u E26 (by decide) f320
  have f340 : h26 34 0 = 0 := nw_u E26 (by decide) f321
  have f341 : h26 34 1 = 0 := nw_u E26 (by decide) f322
  have f342 : h26 0 3 = ((34 : Nat) : Int) := nw_u E26 (by decide) f323
  have f343 : h26 35 1 = 0 := nw_u E26 (by decide) f324
  have f344 : h26 0 4 = ((35 : Nat) : Int) := nw_u E26 (by decide) f325
  have f345 : h26 0 5 = ((37 : Nat) : Int) := nw_u E26 (by decide) f326
  have f346 : h26 0 6 = ((38 : Nat) : Int) := nw_u E26 (by decide) f333
  have v347 : ∀ j, j < 32 → h26 2 j = (-1) := fun j hj => nw_u E26 (by decide) (v327 j hj)
  have v348 : ∀ j, j < 6 → h26 3 j = (-1) := fun j hj => nw_u E26 (by decide) (v328 j hj)
  have v349 : ∀ j, j < 16 → h26 8 j = 100 := fun j hj => nw_u E26 (by decide) (v329 j hj)
  have u350 : h26 36 = fun _ => 0 := (m_nw_ne E26 (by decide)).trans u330
  have g351 := g331.nw E26 (by decide)
  have F352 : ∀ k, k < 0 → h26 k = h0 k := frn_nw F332 E26 (by decide)
  clear f315 f316 f317 f318 f319 f320 f321 f322 f323 f324 f325 f326 f333 g331 F332 E25 v327 v328 v329 u330
  refine y_dup (M := M_X11_init_1) 108 dX11_init_108 rfl ?_
  refine y_callIN (M := M_X11_init_1) 109 dX11_init_109 t_X7_init il_X11_52 (m_rr_of rfl) xI_A (as := []) (rest := [mR 93, mR 0]) (c_X7_init_94 h26) rfl rfl (Nat.le_of_ble_eq_true rfl) (tk_c (by decide) (by decide) (by decide) (by decide)) (fun r h27 q => ?_)
  obtain ⟨rfl, G_h27, E27⟩ := q
  have f353 : h27 1 7 = 0 := fr_u E27 (by decide) f334
  have f354 : h27 1 8 = 0 := fr_u E27 (by decide) f335
  have f355 : h27 1 9 = 0 := fr_u E27 (by decide) f336
  have f356 : h27 0 0 = ((1 : Nat) : Int) := fr_u E27 (by decide) f337
  have f357 : h27 0 1 = ((9 : Nat) : Int) := fr_u E27 (by decide) f338
  have f358 : h27 0 2 = ((17 : Nat) : Int) := fr_u E27 (by decide) f339
  have f359 : h27 34 0 = 0 := fr_u E27 (by decide) f340
  have f360 : h27 34 1 = 0 := fr_u E27 (by decide) f341
  have f361 : h27 0 3 = ((34 : Nat) : Int) := fr_u E27 (by decide) f342
  have f362 : h27 35 1 = 0 := fr_u E27 (by decide) f343
  have f363 : h27 0 4 = ((35 : Nat) : Int) := fr_u E27 (by decide) f344
  have f364 : h27 0 5 = ((37 : Nat) : Int) := fr_u E27 (by decide) f345
  have f365 : h27 0 6 = ((38 : Nat) : Int) := fr_u E27 (by decide) f346
  have v366 : ∀ j, j < 32 → h27 2 j = (-1) := fun j hj => fr_u E27 (by decide) (v347 j hj)
  have v367 : ∀ j, j < 6 → h27 3 j = (-1) := fun j hj => fr_u E27 (by decide) (v348 j hj)
  have v368 : ∀ j, j < 16 → h27 8 j = 100 := fun j hj => fr_u E27 (by decide) (v349 j hj)
  have u369 : h27 36 = fun _ => 0 := (E27 36 (by decide)).trans u350
  have g370 := g351.fr E27 (by decide)
  have F371 : ∀ k, k < 0 → h27 k = h0 k := frn_fr F352 E27 (by decide)
  clear f334 f335 f336 f337 f338 f339 f340 f341 f342 f343 f344 f345 f346 g351 F352 E26 v347 v348 v349 u350
  have g372 := g370.join G_h27
  refine y_putF (M := M_X11_init_1) 112 dX11_init_112 ff_X11_53 (tk_g (by decide) o_0) (fun E m t q => q.1) rfl rfp_o (fun h28 E28 => ?_)
  have f373 : h28 1 7 = 0 := (upN E28 (by decide)).trans f353
  have f374 : h28 1 8 = 0 := (upN E28 (by decide)).trans f354
  have f375 : h28 1 9 = 0 := (upN E28 (by decide)).trans f355
  have f376 : h28 0 0 = ((1 : Nat) : Int) := (upN E28 (by decide)).trans f356
  have f377 : h28 0 1 = ((9 : Nat) : Int) := (upN E28 (by decide)).trans f357
  have f378 : h28 0 2 = ((17 : Nat) : Int) := (upN E28 (by decide)).trans f358
  have f379 : h28 34 0 = 0 := (upN E28 (by decide)).trans f359
  have f380 : h28 34 1 = 0 := (upN E28 (by decide)).trans f360
  have f381 : h28 0 3 = ((34 : Nat) : Int) := (upN E28 (by decide)).trans f361
  have f382 : h28 35 1 = 0 := (upN E28 (by decide)).trans f362
  have f383 : h28 0 4 = ((35 : Nat) : Int) := (upN E28 (by decide)).trans f363
  have f384 : h28 0 5 = ((37 : Nat) : Int) := (upN E28 (by decide)).trans f364
  have f385 : h28 0 6 = ((38 : Nat) : Int) := (upN E28 (by decide)).trans f365
  have v386 : ∀ j, j < 32 → h28 2 j = (-1) := fun j hj => (upN E28 (fun z => absurd z.1 (by decide))).trans (v366 j hj)
  have v387 : ∀ j, j < 6 → h28 3 j = (-1) := fun j hj => (upN E28 (fun z => absurd z.1 (by decide))).trans (v367 j hj)
  have v388 : ∀ j, j < 16 → h28 8 j = 100 := fun j hj => (upN E28 (fun z => absurd z.1 (by decide))).trans (v368 j hj)
  have u389 : h28 36 = fun _ => 0 := (upo E28 (by decide)).trans u369
  have g390 := g372.put E28 (by decide)
  have F391 : ∀ k, k < 0 → h28 k = h0 k := frn_up F371 E28 (by decide)
  clear f353 f354 f355 f356 f357 f358 f359 f360 f361 f362 f363 f364 f365 g372 F371 E27 g370 G_h27 v366 v367 v368 u369
  have f392 : h28 0 7 = ((93 : Nat) : Int) := upE E28
  refine y_aload_n (M := M_X11_init_1) 115 dX11_init_115 rfl ?_
  refine y_new (M := M_X11_init_1) 116 dX11_init_116 n_X11_57 (tk_s o_96) (tk_l (by decide)) (tk_b (by decide) (by decide) (by decide)) (fun h29 E29 => ?_)
  have f393 : h29 1 7 = 0 := nw_u E29 (by decide) f373
  have f394 : h29 1 8 = 0 := nw_u E29 (by decide) f374
  have f395 : h29 1 9 = 0 := nw_u E29 (by decide) f375
  have f396 : h29 0 0 = ((1 : Nat) : Int) := nw_u E29 (by decide) f376
  have f397 : h29 0 1 = ((9 : Nat) : Int) := nw_u E29 (by decide) f377
  have f398 : h29 0 2 = ((17 : Nat) : Int) := nw_u E29 (by decide) f378
  have f399 : h29 34 0 = 0 := nw_u E29 (by decide) f379
  have f400 : h29 34 1 = 0 := nw_u E29 (by decide) f380
  have f401 : h29 0 3 = ((34 : Nat) : Int) := nw_u E29 (by decide) f381
  have f402 : h29 35 1 = 0 := nw_u E29 (by decide) f382
  have f403 : h29 0 4 = ((35 : Nat) : Int) := nw_u E29 (by decide) f383
  have f404 : h29 0 5 = ((37 : Nat) : Int) := nw_u E29 (by decide) f384
  have f405 : h29 0 6 = ((38 : Nat) : Int) := nw_u E29 (by decide) f385
  have f406 : h29 0 7 = ((93 : Nat) : Int) := nw_u E29 (by decide) f392
  have v407 : ∀ j, j < 32 → h29 2 j = (-1) := fun j hj => nw_u E29 (by decide) (v386 j hj)
  have v408 : ∀ j, j < 6 → h29 3 j = (-1) := fun j hj => nw_u E29 (by decide) (v387 j hj)
  have v409 : ∀ j, j < 16 → h29 8 j = 100 := fun j hj => nw_u E29 (by decide) (v388 j hj)
  have u410 : h29 36 = fun _ => 0 := (m_nw_ne E29 (by decide)).trans u389
  have g411 := g390.nw E29 (by decide)
  have F412 : ∀ k, k < 0 → h29 k = h0 k := frn_nw F391 E29 (by decide)
  clear f373 f374 f375 f376 f377 f378 f379 f380 f381 f382 f383 f384 f385 f392 g390 F391 E28 v386 v387 v388 u389
  have f413 : h29 96 2 = 0 := (m_nw_at E29 2).trans rfl
  have f414 : h29 96 3 = 0 := (m_nw_at E29 3).trans rfl
  have f415 : h29 96 4 = 0 := (m_nw_at E29 4).trans rfl
  refine y_dup (M := M_X11_init_1) 119 dX11_init_119 rfl ?_
  refine y_callIN (M := M_X11_init_1) 120 dX11_init_120 t_X10_init il_X11_59 (m_rr_of rfl) xI_A (as := []) (rest := [mR 96, mR 0]) (c_X10_init_97 h29 f413 f414 f415) rfl rfl (Nat.le_of_ble_eq_true rfl) (tk_c (by decide) (by decide) (by decide) (by decide)) (fun r h30 q => ?_)
  obtain ⟨rfl, G_h30, E30⟩ := q
  have f416 : h30 1 7 = 0 := fr_u E30 (by decide) f393
  have f417 : h30 1 8 = 0 := fr_u E30 (by decide) f394
  have f418 : h30 1 9 = 0 := fr_u E30 (by decide) f395
  have f419 : h30 0 0 = ((1 : Nat) : Int) := fr_u E30 (by decide) f396
  have f420 : h30 0 1 = ((9 : Nat) : Int) := fr_u E30 (by decide) f397
  have f421 : h30 0 2 = ((17 : Nat) : Int) := fr_u E30 (by decide) f398
  have f422 : h30 34 0 = 0 := fr_u E30 (by decide) f399
  have f423 : h30 34 1 = 0 := fr_u E30 (by decide) f400
  have f424 : h30 0 3 = ((34 : Nat) : Int) := fr_u E30 (by decide) f401
  have f425 : h30 35 1 = 0 := fr_u E30 (by decide) f402
  have f426 : h30 0 4 = ((35 : Nat) : Int) := fr_u E30 (by decide) f403
  have f427 : h30 0 5 = ((37 : Nat) : Int) := fr_u E30 (by decide) f404
  have f428 : h30 0 6 = ((38 : Nat) : Int) := fr_u E30 (by decide) f405
  have f429 : h30 0 7 = ((93 : Nat) : Int) := fr_u E30 (by decide) f406
  have v430 : ∀ j, j < 32 → h30 2 j = (-1) := fun j hj => fr_u E30 (by decide) (v407 j hj)
  have v431 : ∀ j, j < 6 → h30 3 j = (-1) := fun j hj => fr_u E30 (by decide) (v408 j hj)
  have v432 : ∀ j, j < 16 → h30 8 j = 100 := fun j hj => fr_u E30 (by decide) (v409 j hj)
  have u433 : h30 36 = fun _ => 0 := (E30 36 (by decide)).trans u410
  have g434 := g411.fr E30 (by decide)
  have F435 : ∀ k, k < 0 → h30 k = h0 k := frn_fr F412 E30 (by decide)
  clear f393 f394 f395 f396 f397 f398 f399 f400 f401 f402 f403 f404 f405 f406 f413 f414 f415 g411 F412 E29 v407 v408 v409 u410
  have g436 := g434.join G_h30
  refine y_putF (M := M_X11_init_1) 123 dX11_init_123 ff_X11_60 (tk_g (by decide) o_0) (fun E m t q => q.1) rfl rfp_o (fun h31 E31 => ?_)
  have f437 : h31 1 7 = 0 := (upN E31 (by decide)).trans f416
  have f438 : h31 1 8 = 0 := (upN E31 (by decide)).trans f417
  have f439 : h31 1 9 = 0 := (upN E31 (by decide)).trans f418
  have f440 : h31 0 0 = ((1 : Nat) : Int) := (upN E31 (by decide)).trans f419
  have f441 : h31 0 1 = ((9 : Nat) : Int) := (upN E31 (by decide)).trans f420
  have f442 : h31 0 2 = ((17 : Nat) : Int) := (upN E31 (by decide)).trans f421
  have f443 : h31 34 0 = 0 := (upN E31 (by decide)).trans f422
  have f444 : h31 34 1 = 0 := (upN E31 (by decide)).trans f423
  have f445 : h31 0 3 = ((34 : Nat) : Int) := (upN E31 (by decide)).trans f424
  have f446 : h31 35 1 = 0 := (upN E31 (by decide)).trans f425
  have f447 : h31 0 4 = ((35 : Nat) : Int) := (upN E31 (by decide)).trans f426
  have f448 : h31 0 5 = ((37 : Nat) : Int) := (upN E31 (by decide)).trans f427
  have f449 : h31 0 6 = ((38 : Nat) : Int) := (upN E31 (by decide)).trans f428
  have f450 : h31 0 7 = ((93 : Nat) : Int) := (upN E31 (by decide)).trans f429
  have v451 : ∀ j, j < 32 → h31 2 j = (-1) := fun j hj => (upN E31 (fun z => absurd z.1 (by decide))).trans (v430 j hj)
  have v452 : ∀ j, j < 6 → h31 3 j = (-1) := fun j hj => (upN E31 (fun z => absurd z.1 (by decide))).trans (v431 j hj)
  have v453 : ∀ j, j < 16 → h31 8 j = 100 := fun j hj => (upN E31 (fun z => absurd z.1 (by decide))).trans (v432 j hj)
  have u454 : h31 36 = fun _ => 0 := (upo E31 (by decide)).trans u433
  have g455 := g436.put E31 (by decide)
  have F456 : ∀ k, k < 0 → h31 k = h0 k := frn_up F435 E31 (by decide)
  clear f416 f417 f418 f419 f420 f421 f422 f423 f424 f425 f426 f427 f428 f429 g436 F435 E30 g434 G_h30 v430 v431 v432 u433
  have f457 : h31 0 8 = ((96 : Nat) : Int) := upE E31
  refine y_aload_n (M := M_X11_init_1) 126 dX11_init_126 rfl ?_
  refine y_new (M := M_X11_init_1) 127 dX11_init_127 n_X11_64 (tk_s o_99) (tk_l (by decide)) (tk_b (by decide) (by decide) (by decide)) (fun h32 E32 => ?_)
  have f458 : h32 1 7 = 0 := nw_u E32 (by decide) f437
  have f459 : h32 1 8 = 0 := nw_u E32 (by decide) f438
  have f460 : h32 1 9 = 0 := nw_u E32 (by decide) f439
  have f461 : h32 0 0 = ((1 : Nat) : Int) := nw_u E32 (by decide) f440
  have f462 : h32 0 1 = ((9 : Nat) : Int) := nw_u E32 (by decide) f441
  have f463 : h32 0 2 = ((17 : Nat) : Int) := nw_u E32 (by decide) f442
  have f464 : h32 34 0 = 0 := nw_u E32 (by decide) f443
  have f465 : h32 34 1 = 0 := nw_u E32 (by decide) f444
  have f466 : h32 0 3 = ((34 : Nat) : Int) := nw_u E32 (by decide) f445
  have f467 : h32 35 1 = 0 := nw_u E32 (by decide) f446
  have f468 : h32 0 4 = ((35 : Nat) : Int) := nw_u E32 (by decide) f447
  have f469 : h32 0 5 = ((37 : Nat) : Int) := nw_u E32 (by decide) f448
  have f470 : h32 0 6 = ((38 : Nat) : Int) := nw_u E32 (by decide) f449
  have f471 : h32 0 7 = ((93 : Nat) : Int) := nw_u E32 (by decide) f450
  have f472 : h32 0 8 = ((96 : Nat) : Int) := nw_u E32 (by decide) f457
  have v473 : ∀ j, j < 32 → h32 2 j = (-1) := fun j hj => nw_u E32 (by decide) (v451 j hj)
  have v474 : ∀ j, j < 6 → h32 3 j = (-1) := fun j hj => nw_u E32 (by decide) (v452 j hj)
  have v475 : ∀ j, j < 16 → h32 8 j = 100 := fun j hj => nw_u E32 (by decide) (v453 j hj)
  have u476 : h32 36 = fun _ => 0 := (m_nw_ne E32 (by decide)).trans u454
  have g477 := g455.nw E32 (by decide)
  have F478 : ∀ k, k < 0 → h32 k = h0 k := frn_nw F456 E32 (by decide)
  clear f437 f438 f439 f440 f441 f442 f443 f444 f445 f446 f447 f448 f449 f450 f457 g455 F456 E31 v451 v452 v453 u454
  refine y_dup (M := M_X11_init_1) 130 dX11_init_130 rfl ?_
  refine y_callIN (M := M_X11_init_1) 131 dX11_init_131 t_X0_init il_X11_66 (m_rr_of rfl) xI_A (as := []) (rest := [mR 99, mR 0]) (c_X0_init_100 h32) rfl rfl (Nat.le_of_ble_eq_true rfl) (tk_c (by decide) (by decide) (by decide) (by decide)) (fun r h33 q => ?_)
  obtain ⟨rfl, G_h33, E33⟩ := q
  have f479 : h33 1 7 = 0 := fr_u E33 (by decide) f458
  have f480 : h33 1 8 = 0 := fr_u E33 (by decide) f459
  have f481 : h33 1 9 = 0 := fr_u E33 (by decide) f460
  have f482 : h33 0 0 = ((1 : Nat) : Int) := fr_u E33 (by decide) f461
  have f483 : h33 0 1 = ((9 : Nat) : Int) := fr_u E33 (by decide) f462
  have f484 : h33 0 2 = ((17 : Nat) : Int) := fr_u E33 (by decide) f463
  have f485 : h33 34 0 = 0 := fr_u E33 (by decide) f464
  have f486 : h33 34 1 = 0 := fr_u E33 (by decide) f465
  have f487 : h33 0 3 = ((34 : Nat) : Int) := fr_u E33 (by decide) f466
  have f488 : h33 35 1 = 0 := fr_u E33 (by decide) f467
  have f489 : h33 0 4 = ((35 : Nat) : Int) := fr_u E33 (by decide) f468
  have f490 : h33 0 5 = ((37 : Nat) : Int) := fr_u E33 (by decide) f469
  have f491 : h33 0 6 = ((38 : Nat) : Int) := fr_u E33 (by decide) f470
  have f492 : h33 0 7 = ((93 : Nat) : Int) := fr_u E33 (by decide) f471
  have f493 : h33 0 8 = ((96 : Nat) : Int) := fr_u E33 (by decide) f472
  have v494 : ∀ j, j < 32 → h33 2 j = (-1) := fun j hj => fr_u E33 (by decide) (v473 j hj)
  have v495 : ∀ j, j < 6 → h33 3 j = (-1) := fun j hj => fr_u E33 (by decide) (v474 j hj)
  have v496 : ∀ j, j < 16 → h33 8 j = 100 := fun j hj => fr_u E33 (by decide) (v475 j hj)
  have u497 : h33 36 = fun _ => 0 := (E33 36 (by decide)).trans u476
  have g498 := g477.fr E33 (by decide)
  have F499 : ∀ k, k < 0 → h33 k = h0 k := frn_fr F478 E33 (by decide)
  clear f458 f459 f460 f461 f462 f463 f464 f465 f466 f467 f468 f469 f470 f471 f472 g477 F478 E32 v473 v474 v475 u476
  have g500 := g498.join G_h33
  refine y_putF (M := M_X11_init_1) 134 dX11_init_134 ff_X11_67 (tk_g (by decide) o_0) (fun E m t q => q.1) rfl rfp_o (fun h34 E34 => ?_)
  have f501 : h34 1 7 = 0 := (upN E34 (by decide)).trans f479
  have f502 : h34 1 8 = 0 := (upN E34 (by decide)).trans f480
  have f503 : h34 1 9 = 0 := (upN E34 (by decide)).trans f481
  have f504 : h34 0 0 = ((1 : Nat) : Int) := (upN E34 (by decide)).trans f482
  have f505 : h34 0 1 = ((9 : Nat) : Int) := (upN E34 (by decide)).trans f483
  have f506 : h34 0 2 = ((17 : Nat) : Int) := (upN E34 (by decide)).trans f484
  have f507 : h34 34 0 = 0 := (upN E34 (by decide)).trans f485
  have f508 : h34 34 1 = 0 := (upN E34 (by decide)).trans f486
  have f509 : h34 0 3 = ((34 : Nat) : Int) := (upN E34 (by decide)).trans f487
  have f510 : h34 35 1 = 0 := (upN E34 (by decide)).trans f488
  have f511 : h34 0 4 = ((35 : Nat) : Int) := (upN E34 (by decide)).trans f489
  have f512 : h34 0 5 = ((37 : Nat) : Int) := (upN E34 (by decide)).trans f490
  have f513 : h34 0 6 = ((38 : Nat) : Int) := (upN E34 (by decide)).trans f491
  have f514 : h34 0 7 = ((93 : Nat) : Int) := (upN E34 (by decide)).trans f492
  have f515 : h34 0 8 = ((96 : Nat) : Int) := (upN E34 (by decide)).trans f493
  have v516 : ∀ j, j < 32 → h34 2 j = (-1) := fun j hj => (upN E34 (fun z => absurd z.1 (by decide))).trans (v494 j hj)
  have v517 : ∀ j, j < 6 → h34 3 j = (-1) := fun j hj => (upN E34 (fun z => absurd z.1 (by decide))).trans (v495 j hj)
  have v518 : ∀ j, j < 16 → h34 8 j = 100 := fun j hj => (upN E34 (fun z => absurd z.1 (by decide))).trans (v496 j hj)
  have u519 : h34 36 = fun _ => 0 := (upo E34 (by decide)).trans u497
  have g520 := g500.put E34 (by decide)
  have F521 : ∀ k, k < 0 → h34 k = h0 k := frn_up F499 E34 (by decide)
  clear f479 f480 f481 f482 f483 f484 f485 f486 f487 f488 f489 f490 f491 f492 f493 g500 F499 E33 g498 G_h33 v494 v495 v496 u497
  have f522 : h34 0 9 = ((99 : Nat) : Int) := upE E34
  refine y_aload_n (M := M_X11_init_1) 137 dX11_init_137 rfl ?_
  refine y_new (M := M_X11_init_1) 138 dX11_init_138 n_X11_71 (tk_s o_101) (tk_l (by decide)) (tk_b (by decide) (by decide) (by decide)) (fun h35 E35 => ?_)
  have f523 : h35 1 7 = 0 := nw_u E35 (by decide) f501
  have f524 : h35 1 8 = 0 := nw_u E35 (by decide) f502
  have f525 : h35 1 9 = 0 := nw_u E35 (by decide) f503
  have f526 : h35 0 0 = ((1 : Nat) : Int) := nw_u E35 (by decide) f504
  have f527 : h35 0 1 = ((9 : Nat) : Int) := nw_u E35 (by decide) f505
  have f528 : h35 0 2 = ((17 : Nat) : Int) := nw_u E35 (by decide) f506
  have f529 : h35 34 0 = 0 := nw_u E35 (by decide) f507
  have f530 : h35 34 1 = 0 := nw_u E35 (by decide) f508
  have f531 : h35 0 3 = ((34 : Nat) : Int) := nw_u E35 (by decide) f509
  have f532 : h35 35 1 = 0 := nw_u E35 (by decide) f510
  have f533 : h35 0 4 = ((35 : Nat) : Int) := nw_u E35 (by decide) f511
  have f534 : h35 0 5 = ((37 : Nat) : Int) := nw_u E35 (by decide) f512
  have f535 : h35 0 6 = ((38 : Nat) : Int) := nw_u E35 (by decide) f513
  have f536 : h35 0 7 = ((93 : Nat) : Int) := nw_u E35 (by decide) f514
  have f537 : h35 0 8 = ((96 : Nat) : Int) := nw_u E35 (by decide) f515
  have f538 : h35 0 9 = ((99 : Nat) : Int) := nw_u E35 (by decide) f522
  have v539 : ∀ j, j < 32 → h35 2 j = (-1) := fun j hj => nw_u E35 (by decide) (v516 j hj)
  have v540 : ∀ j, j < 6 → h35 3 j = (-1) := fun j hj => nw_u E35 (by decide) (v517 j hj)
  have v541 : ∀ j, j < 16 → h35 8 j = 100 := fun j hj => nw_u E35 (by decide) (v518 j hj)
  have u542 : h35 36 = fun _ => 0 := (m_nw_ne E35 (by decide)).trans u519
  have g543 := g520.nw E35 (by decide)
  have F544 : ∀ k, k < 0 → h35 k = h0 k := frn_nw F521 E35 (by decide)
  clear f501 f502 f503 f504 f505 f506 f507 f508 f509 f510 f511 f512 f513 f514 f515 f522 g520 F521 E34 v516 v517 v518 u519
  refine y_dup (M := M_X11_init_1) 141 dX11_init_141 rfl ?_
  refine y_aload_n (M := M_X11_init_1) 142 dX11_init_142 rfl ?_
  refine y_getR (M := M_X11_init_1) 143 dX11_init_143 f_X11_46 (tk_g (by decide) o_0) rfl f535 ?_
  refine y_callI (M := M_X11_init_1) 146 dX11_init_146 t_X3_init il_X11_73 (m_rr_of rfl) xI_A (as := [mR 38]) (rest := [mR 101, mR 0]) (c_X3_init_102 h35) rfl rfl (Nat.le_of_ble_eq_true rfl) (tk_c (by decide) (by decide) (by decide) (by decide)) (fun r h36 q => ?_)
  obtain ⟨rfl, G_h36, E36⟩ := q
  have f545 : h36 1 7 = 0 := fr_u E36 (by decide) f523
  have f546 : h36 1 8 = 0 := fr_u E36 (by decide) f524
  have f547 : h36 1 9 = 0 := fr_u E36 (by decide) f525
  have f548 : h36 0 0 = ((1 : Nat) : Int) := fr_u E36 (by decide) f526
  have f549 : h36 0 1 = ((9 : Nat) : Int) := fr_u E36 (by decide) f527
  have f550 : h36 0 2 = ((17 : Nat) : Int) := fr_u E36 (by decide) f528
  have f551 : h36 34 0 = 0 := fr_u E36 (by decide) f529
  have f552 : h36 34 1 = 0 := fr_u E36 (by decide) f530
  have f553 : h36 0 3 = ((34 : Nat) : Int) := fr_u E36 (by decide) f531
  have f554 : h36 35 1 = 0 := fr_u E36 (by decide) f532
  have f555 : h36 0 4 = ((35 : Nat) : Int) := fr_u E36 (by decide) f533
  have f556 : h36 0 5 = ((37 : Nat) : Int) := fr_u E36 (by decide) f534
  have f557 : h36 0 6 = ((38 : Nat) : Int) := fr_u E36 (by decide) f535
  have f558 : h36 0 7 = ((93 : Nat) : Int) := fr_u E36 (by decide) f536
  have f559 : h36 0 8 = ((96 : Nat) : Int) := fr_u E36 (by decide) f537
  have f560 : h36 0 9 = ((99 : Nat) : Int) := fr_u E36 (by decide) f538
  have v561 : ∀ j, j < 32 → h36 2 j = (-1) := fun j hj => fr_u E36 (by decide) (v539 j hj)
  have v562 : ∀ j, j < 6 → h36 3 j = (-1) := fun j hj => fr_u E36 (by decide) (v540 j hj)
  have v563 : ∀ j, j < 16 → h36 8 j = 100 := fun j hj => fr_u E36 (by decide) (v541 j hj)
  have u564 : h36 36 = fun _ => 0 := (E36 36 (by decide)).trans u542
  have g565 := g543.fr E36 (by decide)
  have F566 : ∀ k, k < 0 → h36 k = h0 k := frn_fr F544 E36 (by decide)
  clear f523 f524 f525 f526 f527 f528 f529 f530 f531 f532 f533 f534 f535 f536 f537 f538 g543 F544 E35 v539 v540 v541 u542
  have g567 := g565.join G_h36
  refine y_putF (M := M_X11_init_1) 149 dX11_init_149 ff_X11_76 (tk_g (by decide) o_0) (fun E m t q => q.1) rfl rfp_o (fun h37 E37 => ?_)
  have f568 : h37 1 7 = 0 := (upN E37 (by decide)).trans f545
  have f569 : h37 1 8 = 0 := (upN E37 (by decide)).trans f546
  have f570 : h37 1 9 = 0 := (upN E37 (by decide)).trans f547
  have f571 : h37 0 0 = ((1 : Nat) : Int) := (upN E37 (by decide)).trans f548
  have f572 : h37 0 1 = ((9 : Nat) : Int) := (upN E37 (by decide)).trans f549
  have f573 : h37 0 2 = ((17 : Nat) : Int) := (upN E37 (by decide)).trans f550
  have f574 : h37 34 0 = 0 := (upN E37 (by decide)).trans f551
  have f575 : h37 34 1 = 0 := (upN E37 (by decide)).trans f552
  have f576 : h37 0 3 = ((34 : Nat) : Int) := (upN E37 (by decide)).trans f553
  have f577 : h37 35 1 = 0 := (upN E37 (by decide)).trans f554
  have f578 : h37 0 4 = ((35 : Nat) : Int) := (upN E37 (by decide)).trans f555
  have f579 : h37 0 5 = ((37 : Nat) : Int) := (upN E37 (by decide)).trans f556
  have f580 : h37 0 6 = ((38 : Nat) : Int) := (upN E37 (by decide)).trans f557
  have f581 : h37 0 7 = ((93 : Nat) : Int) := (upN E37 (by decide)).trans f558
  have f582 : h37 0 8 = ((96 : Nat) : Int) := (upN E37 (by decide)).trans f559
  have f583 : h37 0 9 = ((99 : Nat) : Int) := (upN E37 (by decide)).trans f560
  have v584 : ∀ j, j < 32 → h37 2 j = (-1) := fun j hj => (upN E37 (fun z => absurd z.1 (by decide))).trans (v561 j hj)
  have v585 : ∀ j, j < 6 → h37 3 j = (-1) := fun j hj => (upN E37 (fun z => absurd z.1 (by decide))).trans (v562 j hj)
  have v586 : ∀ j, j < 16 → h37 8 j = 100 := fun j hj => (upN E37 (fun z => absurd z.1 (by decide))).trans (v563 j hj)
  have u587 : h37 36 = fun _ => 0 := (upo E37 (by decide)).trans u564
  have g588 := g567.put E37 (by decide)
  have F589 : ∀ k, k < 0 → h37 k = h0 k := frn_up F566 E37 (by decide)
  clear f545 f546 f547 f548 f549 f550 f551 f552 f553 f554 f555 f556 f557 f558 f559 f560 g567 F566 E36 g565 G_h36 v561 v562 v563 u564
  have f590 : h37 0 10 = ((101 : Nat) : Int) := upE E37
  refine y_aload_n (M := M_X11_init_1) 152 dX11_init_152 rfl ?_
  refine y_new (M := M_X11_init_1) 153 dX11_init_153 n_X11_80 (tk_s o_102) (tk_l (by decide)) (tk_b (by decide) (by decide) (by decide)) (fun h38 E38 => ?_)
  have f591 : h38 1 7 = 0 := nw_u E38 (by decide) f568
  have f592 : h38 1 8 = 0 := nw_u E38 (by decide) f569
  have f593 : h38 1 9 = 0 := nw_u E38 (by decide) f570
  have f594 : h38 0 0 = ((1 : Nat) : Int) := nw_u E38 (by decide) f571
  have f595 : h38 0 1 = ((9 : Nat) : Int) := nw_u E38 (by decide) f572
  have f596 : h38 0 2 = ((17 : Nat) : Int) := nw_u E38 (by decide) f573
  have f597 : h38 34 0 = 0 := nw_u E38 (by decide) f574
  have f598 : h38 34 1 = 0 := nw_u E38 (by decide) f575
  have f599 : h38 0 3 = ((34 : Nat) : Int) := nw_u E38 (by decide) f576
  have f600 : h38 35 1 = 0 := nw_u E38 (by decide) f577
  have f601 : h38 0 4 = ((35 : Nat) : Int) := nw_u E38 (by decide) f578
  have f602 : h38 0 5 = ((37 : Nat) : Int) := nw_u E38 (by decide) f579
  have f603 : h38 0 6 = ((38 : Nat) : Int) := nw_u E38 (by decide) f580
  have f604 : h38 0 7 = ((93 : Nat) : Int) := nw_u E38 (by decide) f581
  have f605 : h38 0 8 = ((96 : Nat) : Int) := nw_u E38 (by decide) f582
  have f606 : h38 0 9 = ((99 : Nat) : Int) := nw_u E38 (by decide) f583
  have f607 : h38 0 10 = ((101 : Nat) : Int) := nw_u E38 (by decide) f590
  have v608 : ∀ j, j < 32 → h38 2 j = (-1) := fun j hj => nw_u E38 (by decide) (v584 j hj)
  have v609 : ∀ j, j < 6 → h38 3 j = (-1) := fun j hj => nw_u E38 (by decide) (v585 j hj)
  have v610 : ∀ j, j < 16 → h38 8 j = 100 := fun j hj => nw_u E38 (by decide) (v586 j hj)
  have u611 : h38 36 = fun _ => 0 := (m_nw_ne E38 (by decide)).trans u587
  have g612 := g588.nw E38 (by decide)
  have F613 : ∀ k, k < 0 → h38 k = h0 k := frn_nw F589 E38 (by decide)
  clear f568 f569 f570 f571 f572 f573 f574 f575 f576 f577 f578 f579 f580 f581 f582 f583 f590 g588 F589 E37 v584 v585 v586 u587
  have f614 : h38 102 3 = 0 := (m_nw_at E38 3).trans rfl
  refine y_dup (M := M_X11_init_1) 156 dX11_init_156 rfl ?_
  refine y_aload_n (M := M_X11_init_1) 157 dX11_init_157 rfl ?_
  refine y_getR (M := M_X11_init_1) 158 dX11_init_158 f_X11_46 (tk_g (by decide) o_0) rfl f603 ?_
  refine y_callI (M := M_X11_init_1) 161 dX11_init_161 t_X6_init il_X11_82 (m_rr_of rfl) xI_A (as := [mR 38]) (rest := [mR 102, mR 0]) (c_X6_init_103 h38 f614) rfl rfl (Nat.le_of_ble_eq_true rfl) (tk_c (by decide) (by decide) (by decide) (by decide)) (fun r h39 q => ?_)
  obtain ⟨rfl, G_h39, E39⟩ := q
  have f615 : h39 1 7 = 0 := fr_u E39 (by decide) f591
  have f616 : h39 1 8 = 0 := fr_u E39 (by decide) f592
  have f617 : h39 1 9 = 0 := fr_u E39 (by decide) f593
  have f618 : h39 0 0 = ((1 : Nat) : Int) := fr_u E39 (by decide) f594
  have f619 : h39 0 1 = ((9 : Nat) : Int) := fr_u E39 (by decide) f595
  have f620 : h39 0 2 = ((17 : Nat) : Int) := fr_u E39 (by decide) f596
  have f621 : h39 34 0 = 0 := fr_u E39 (by decide) f597
  have f622 : h39 34 1 = 0 := fr_u E39 (by decide) f598
  have f623 : h39 0 3 = ((34 : Nat) : Int) := fr_u E39 (by decide) f599
  have f624 : h39 35 1 = 0 := fr_u E39 (by decide) f600
  have f625 : h39 0 4 = ((35 : Nat) : Int) := fr_u E39 (by decide) f601
  have f626 : h39 0 5 = ((37 : Nat) : Int) := fr_u E39 (by decide) f602
  have f627 : h39 0 6 = ((38 : Nat) : Int) := fr_u E39 (by decide) f603
  have f628 : h39 0 7 = ((93 : Nat) : Int) := fr_u E39 (by decide) f604
  have f629 : h39 0 8 = ((96 : Nat) : Int) := fr_u E39 (by decide) f605
  have f630 : h39 0 9 = ((99 : Nat) : Int) := fr_u E39 (by decide) f606
  have f631 : h39 0 10 = ((101 : Nat) : Int) := fr_u E39 (by decide) f607
  have v632 : ∀ j, j < 32 → h39 2 j = (-1) := fun j hj => fr_u E39 (by decide) (v608 j hj)
  have v633 : ∀ j, j < 6 → h39 3 j = (-1) := fun j hj => fr_u E39 (by decide) (v609 j hj)
  have v634 : ∀ j, j < 16 → h39 8 j = 100 := fun j hj => fr_u E39 (by decide) (v610 j hj)
  have u635 : h39 36 = fun _ => 0 := (E39 36 (by decide)).trans u611
  have g636 := g612.fr E39 (by decide)
  have F637 : ∀ k, k < 0 → h39 k = h0 k := frn_fr F613 E39 (by decide)
  clear f591 f592 f593 f594 f595 f596 f597 f598 f599 f600 f601 f602 f603 f604 f605 f606 f607 f614 g612 F613 E38 v608 v609 v610 u611
  have g638 := g636.join G_h39
  refine y_putF (M := M_X11_init_1) 164 dX11_init_164 ff_X11_83 (tk_g (by decide) o_0) (fun E m t q => q.1) rfl rfp_o (fun h40 E40 => ?_)
  have f639 : h40 1 7 = 0 := (upN E40 (by decide)).trans f615
  have f640 : h40 1 8 = 0 := (upN E40 (by decide)).trans f616
  have f641 : h40 1 9 = 0 := (upN E40 (by decide)).trans f617
  have f642 : h40 0 0 = ((1 : Nat) : Int) := (upN E40 (by decide)).trans f618
  have f643 : h40 0 1 = ((9 : Nat) : Int) := (upN E40 (by decide)).trans f619
  have f644 : h40 0 2 = ((17 : Nat) : Int) := (upN E40 (by decide)).trans f620
  have f645 : h40 34 0 = 0 := (upN E40 (by decide)).trans f621
  have f646 : h40 34 1 = 0 := (upN E40 (by decide)).trans f622
  have f647 : h40 0 3 = ((34 : Nat) : Int) := (upN E40 (by decide)).trans f623
  have f648 : h40 35 1 = 0 := (upN E40 (by decide)).trans f624
  have f649 : h40 0 4 = ((35 : Nat) : Int) := (upN E40 (by decide)).trans f625
  have f650 : h40 0 5 = ((37 : Nat) : Int) := (upN E40 (by decide)).trans f626
  have f651 : h40 0 6 = ((38 : Nat) : Int) := (upN E40 (by decide)).trans f627
  have f652 : h40 0 7 = ((93 : Nat) : Int) := (upN E40 (by decide)).trans f628
  have f653 : h40 0 8 = ((96 : Nat) : Int) := (upN E40 (by decide)).trans f629
  have f654 : h40 0 9 = ((99 : Nat) : Int) := (upN E40 (by decide)).trans f630
  have f655 : h40 0 10 = ((101 : Nat) : Int) := (upN E40 (by decide)).trans f631
  have v656 : ∀ j, j < 32 → h40 2 j = (-1) := fun j hj => (upN E40 (fun z => absurd z.1 (by decide))).trans (v632 j hj)
  have v657 : ∀ j, j < 6 → h40 3 j = (-1) := fun j hj => (upN E40 (fun z => absurd z.1 (by decide))).trans (v633 j hj)
  have v658 : ∀ j, j < 16 → h40 8 j = 100 := fun j hj => (upN E40 (fun z => absurd z.1 (by decide))).trans (v634 j hj)
  have u659 : h40 36 = fun _ => 0 := (upo E40 (by decide)).trans u635
  have g660 := g638.put E40 (by decide)
  have F661 : ∀ k, k < 0 → h40 k = h0 k := frn_up F637 E40 (by decide)
  clear f615 f616 f617 f618 f619 f620 f621 f622 f623 f624 f625 f626 f627 f628 f629 f630 f631 g638 F637 E39 g636 G_h39 v632 v633 v634 u635
  have f662 : h40 0 11 = ((102 : Nat) : Int) := upE E40
  refine y_aload_n (M := M_X11_init_1) 167 dX11_init_167 rfl ?_
  refine y_new (M := M_X11_init_1) 168 dX11_init_168 n_X11_87 (tk_s o_105) (tk_l (by decide)) (tk_b (by decide) (by decide) (by decide)) (fun h41 E41 => ?_)
  have f663 : h41 1 7 = 0 := nw_u E41 (by decide) f639
  have f664 : h41 1 8 = 0 := nw_u E41 (by decide) f640
  have f665 : h41 1 9 = 0 := nw_u E41 (by decide) f641
  have f666 : h41 0 0 = ((1 : Nat) : Int) := nw_u E41 (by decide) f642
  have f667 : h41 0 1 = ((9 : Nat) : Int) := nw_u E41 (by decide) f643
  have f668 : h41 0 2 = ((17 : Nat) : Int) := nw_u E41 (by decide) f644
  have f669 : h41 34 0 = 0 := nw_u E41 (by decide) f645
  have f670 : h41 34 1 = 0 := nw_u E41 (by decide) f646
  have f671 : h41 0 3 = ((34 : Nat) : Int) := nw_u E41 (by decide) f647
  have f672 : h41 35 1 = 0 := nw_u E41 (by decide) f648
  have f673 : h41 0 4 = ((35 : Nat) : Int) := nw_u E41 (by decide) f649
  have f674 : h41 0 5 = ((37 : Nat) : Int) := nw_u E41 (by decide) f650
  have f675 : h41 0 6 = ((38 : Nat) : Int) := nw_u E41 (by decide) f651
  have f676 : h41 0 7 = ((93 : Nat) : Int) := nw_u E41 (by decide) f652
  have f677 : h41 0 8 = ((96 : Nat) : Int) := nw_u E41 (by decide) f653
  have f678 : h41 0 9 = ((99 : Nat) : Int) := nw_u E41 (by decide) f654
  have f679 : h41 0 10 = ((101 : Nat) : Int) := nw_u E41 (by decide) f655
  have f680 : h41 0 11 = ((102 : Nat) : Int) := nw_u E41 (by decide) f662
  have v681 : ∀ j, j < 32 → h41 2 j = (-1) := fun j hj => nw_u E41 (by decide) (v656 j hj)
  have v682 : ∀ j, j < 6 → h41 3 j = (-1) := fun j hj => nw_u E41 (by decide) (v657 j hj)
  have v683 : ∀ j, j < 16 → h41 8 j = 100 := fun j hj => nw_u E41 (by decide) (v658 j hj)
  have u684 : h41 36 = fun _ => 0 := (m_nw_ne E41 (by decide)).trans u659
  have g685 := g660.nw E41 (by decide)
  have F686 : ∀ k, k < 0 → h41 k = h0 k := frn_nw F661 E41 (by decide)
  clear f639 f640 f641 f642 f643 f644 f645 f646 f647 f648 f649 f650 f651 f652 f653 f654 f655 f662 g660 F661 E40 v656 v657 v658 u659
  have f687 : h41 105 1 = 0 := (m_nw_at E41 1).trans rfl
  refine y_dup (M := M_X11_init_1) 171 dX11_init_171 rfl ?_
  refine y_callIN (M := M_X11_init_1) 172 dX11_init_172 t_X5_init il_X11_89 (m_rr_of rfl) xI_A (as := []) (rest := [mR 105, mR 0]) (c_X5_init_106 h41 f687) rfl rfl (Nat.le_of_ble_eq_true rfl) (tk_c (by decide) (by decide) (by decide) (by decide)) (fun r h42 q => ?_)
  obtain ⟨rfl, G_h42, E42, xh42_0⟩ := q
  have f688 : h42 1 7 = 0 := fr_u E42 (by decide) f663
  have f689 : h42 1 8 = 0 := fr_u E42 (by decide) f664
  have f690 : h42 1 9 = 0 := fr_u E42 (by decide) f665
  have f691 : h42 0 0 = ((1 : Nat) : Int) := fr_u E42 (by decide) f666
  have f692 : h42 0 1 = ((9 : Nat) : Int) := fr_u E42 (by decide) f667
  have f693 : h42 0 2 = ((17 : Nat) : Int) := fr_u E42 (by decide) f668
  have f694 : h42 34 0 = 0 := fr_u E42 (by decide) f669
  have f695 : h42 34 1 = 0 := fr_u E42 (by decide) f670
  have f696 : h42 0 3 = ((34 : Nat) : Int) := fr_u E42 (by decide) f671
  have f697 : h42 35 1 = 0 := fr_u E42 (by decide) f672
  have f698 : h42 0 4 = ((35 : Nat) : Int) := fr_u E42 (by decide) f673
  have f699 : h42 0 5 = ((37 : Nat) : Int) := fr_u E42 (by decide) f674
  have f700 : h42 0 6 = ((38 : Nat) : Int) := fr_u E42 (by decide) f675
  have f701 : h42 0 7 = ((93 : Nat) : Int) := fr_u E42 (by decide) f676
  have f702 : h42 0 8 = ((96 : Nat) : Int) := fr_u E42 (by decide) f677
  have f703 : h42 0 9 = ((99 : Nat) : Int) := fr_u E42 (by decide) f678
  have f704 : h42 0 10 = ((101 : Nat) : Int) := fr_u E42 (by decide) f679
  have f705 : h42 0 11 = ((102 : Nat) : Int) := fr_u E42 (by decide) f680
  have v706 : ∀ j, j < 32 → h42 2 j = (-1) := fun j hj => fr_u E42 (by decide) (v681 j hj)
  have v707 : ∀ j, j < 6 → h42 3 j = (-1) := fun j hj => fr_u E42 (by decide) (v682 j hj)
  have v708 : ∀ j, j < 16 → h42 8 j = 100 := fun j hj => fr_u E42 (by decide) (v683 j hj)
  have u709 : h42 36 = fun _ => 0 := (E42 36 (by decide)).trans u684
  have g710 := g685.fr E42 (by decide)
  have F711 : ∀ k, k < 0 → h42 k = h0 k := frn_fr F686 E42 (by decide)
  clear f663 f664 f665 f666 f667 f668 f669 f670 f671 f672 f673 f674 f675 f676 f677 f678 f679 f680 f687 g685 F686 E41 v681 v682 v683 u684
  have g712 := g710.join G_h42
  refine y_putF (M := M_X11_init_1) 175 dX11_init_175 ff_X11_90 (tk_g (by decide) o_0) (fun E m t q => q.1) rfl rfp_o (fun h43 E43 => ?_)
  have f713 : h43 1 7 = 0 := (upN E43 (by decide)).trans f688
  have f714 : h43 1 8 = 0 := (upN E43 (by decide)).trans f689
  have f715 : h43 1 9 = 0 := (upN E43 (by decide)).trans f690
  have f716 : h43 0 0 = ((1 : Nat) : Int) := (upN E43 (by decide)).trans f691
  have f717 : h43 0 1 = ((9 : Nat) : Int) := (upN E43 (by decide)).trans f692
  have f718 : h43 0 2 = ((17 : Nat) : Int) := (upN E43 (by decide)).trans f693
  have f719 : h43 34 0 = 0 := (upN E43 (by decide)).trans f694
  have f720 : h43 34 1 = 0 := (upN E43 (by decide)).trans f695
  have f721 : h43 0 3 = ((34 : Nat) : Int) := (upN E43 (by decide)).trans f696
  have f722 : h43 35 1 = 0 := (upN E43 (by decide)).trans f697
  have f723 : h43 0 4 = ((35 : Nat) : Int) := (upN E43 (by decide)).trans f698
  have f724 : h43 0 5 = ((37 : Nat) : Int) := (upN E43 (by decide)).trans f699
  have f725 : h43 0 6 = ((38 : Nat) : Int) := (upN E43 (by decide)).trans f700
  have f726 : h43 0 7 = ((93 : Nat) : Int) := (upN E43 (by decide)).trans f701
  have f727 : h43 0 8 = ((96 : Nat) : Int) := (upN E43 (by decide)).trans f702
  have f728 : h43 0 9 = ((99 : Nat) : Int) := (upN E43 (by decide)).trans f703
  have f729 : h43 0 10 = ((101 : Nat) : Int) := (upN E43 (by decide)).trans f704
  have f730 : h43 0 11 = ((102 : Nat) : Int) := (upN E43 (by decide)).trans f705
  have f731 : h43 105 1 = 0 := (upN E43 (by decide)).trans xh42_0
  have v732 : ∀ j, j < 32 → h43 2 j = (-1) := fun j hj => (upN E43 (fun z => absurd z.1 (by decide))).trans (v706 j hj)
  have v733 : ∀ j, j < 6 → h43 3 j = (-1) := fun j hj => (upN E43 (fun z => absurd z.1 (by decide))).trans (v707 j hj)
  have v734 : ∀ j, j < 16 → h43 8 j = 100 := fun j hj => (upN E43 (fun z => absurd z.1 (by decide))).trans (v708 j hj)
  have u735 : h43 36 = fun _ => 0 := (upo E43 (by decide)).trans u709
  have g736 := g712.put E43 (by decide)
  have F737 : ∀ k, k < 0 → h43 k = h0 k := frn_up F711 E43 (by decide)
  clear f688 f689 f690 f691 f692 f693 f694 f695 f696 f697 f698 f699 f700 f701 f702 f703 f704 f705 xh42_0 g712 F711 E42 g710 G_h42 v706 v707 v708 u709
  have f738 : h43 0 12 = ((105 : Nat) : Int) := upE E43
  refine y_aload_n (M := M_X11_init_1) 178 dX11_init_178 rfl ?_
  refine y_iconst (M := M_X11_init_1) 179 dX11_init_179 ?_
  refine y_newaI (M := M_X11_init_1) 180 dX11_init_180 acI (N := 5) (by decide) (tk_s o_107) (tk_l (by decide)) (tk_b (by decide) (by decide) (by decide)) (fun h44 E44 => ?_)
  have f739 : h44 1 7 = 0 := nw_u E44 (by decide) f713
  have f740 : h44 1 8 = 0 := nw_u E44 (by decide) f714
  have f741 : h44 1 9 = 0 := nw_u E44 (by decide) f715
  have f742 : h44 0 0 = ((1 : Nat) : Int) := nw_u E44 (by decide) f716
  have f743 : h44 0 1 = ((9 : Nat) : Int) := nw_u E44 (by decide) f717
  have f744 : h44 0 2 = ((17 : Nat) : Int) := nw_u E44 (by decide) f718
  have f745 : h44 34 0 = 0 := nw_u E44 (by decide) f719
  have f746 : h44 34 1 = 0 := nw_u E44 (by decide) f720
  have f747 : h44 0 3 = ((34 : Nat) : Int) := nw_u E44 (by decide) f721
  have f748 : h44 35 1 = 0 := nw_u E44 (by decide) f722
  have f749 : h44 0 4 = ((35 : Nat) : Int) := nw_u E44 (by decide) f723
  have f750 : h44 0 5 = ((37 : Nat) : Int) := nw_u E44 (by decide) f724
  have f751 : h44 0 6 = ((38 : Nat) : Int) := nw_u E44 (by decide) f725
  have f752 : h44 0 7 = ((93 : Nat) : Int) := nw_u E44 (by decide) f726
  have f753 : h44 0 8 = ((96 : Nat) : Int) := nw_u E44 (by decide) f727
  have f754 : h44 0 9 = ((99 : Nat) : Int) := nw_u E44 (by decide) f728
  have f755 : h44 0 10 = ((101 : Nat) : Int) := nw_u E44 (by decide) f729
  have f756 : h44 0 11 = ((102 : Nat) : Int) := nw_u E44 (by decide) f730
  have f757 : h44 105 1 = 0 := nw_u E44 (by decide) f731
  have f758 : h44 0 12 = ((105 : Nat) : Int) := nw_u E44 (by decide) f738
  have v759 : ∀ j, j < 32 → h44 2 j = (-1) := fun j hj => nw_u E44 (by decide) (v732 j hj)
  have v760 : ∀ j, j < 6 → h44 3 j = (-1) := fun j hj => nw_u E44 (by decide) (v733 j hj)
  have v761 : ∀ j, j < 16 → h44 8 j = 100 := fun j hj => nw_u E44 (by decide) (v734 j hj)
  have u762 : h44 36 = fun _ => 0 := (m_nw_ne E44 (by decide)).trans u735
  have g763 := g736.nw E44 (by decide)
  have F764 : ∀ k, k < 0 → h44 k = h0 k := frn_nw F737 E44 (by decide)
  clear f713 f714 f715 f716 f717 f718 f719 f720 f721 f722 f723 f724 f725 f726 f727 f728 f729 f730 f731 f738 g736 F737 E43 v732 v733 v734 u735
  have g765 : gR 107 108 h44 := gR_1 (gC_of bt_107 (fun j hj => by rw [nwI E44]; exact trivial))
  have g766 := g763.join g765
  refine y_putF (M := M_X11_init_1) 182 dX11_init_182 ff_X11_94 (tk_g (by decide) o_0) (fun E m t q => q.1) rfl rfp_a (fun h45 E45 => ?_)
  have f767 : h45 1 7 = 0 := (upN E45 (by decide)).trans f739
  have f768 : h45 1 8 = 0 := (upN E45 (by decide)).trans f740
  have f769 : h45 1 9 = 0 := (upN E45 (by decide)).trans f741
  have f770 : h45 0 0 = ((1 : Nat) : Int) := (upN E45 (by decide)).trans f742
  have f771 : h45 0 1 = ((9 : Nat) : Int) := (upN E45 (by decide)).trans f743
  have f772 : h45 0 2 = ((17 : Nat) : Int) := (upN E45 (by decide)).trans f744
  have f773 : h45 34 0 = 0 := (upN E45 (by decide)).trans f745
  have f774 : h45 34 1 = 0 := (upN E45 (by decide)).trans f746
  have f775 : h45 0 3 = ((34 : Nat) : Int) := (upN E45 (by decide)).trans f747
  have f776 : h45 35 1 = 0 := (upN E45 (by decide)).trans f748
  have f777 : h45 0 4 = ((35 : Nat) : Int) := (upN E45 (by decide)).trans f749
  have f778 : h45 0 5 = ((37 : Nat) : Int) := (upN E45 (by decide)).trans f750
  have f779 : h45 0 6 = ((38 : Nat) : Int) := (upN E45 (by decide)).trans f751
  have f780 : h45 0 7 = ((93 : Nat) : Int) := (upN E45 (by decide)).trans f752
  have f781 : h45 0 8 = ((96 : Nat) : Int) := (upN E45 (by decide)).trans f753
  have f782 : h45 0 9 = ((99 : Nat) : Int) := (upN E45 (by decide)).trans f754
  have f783 : h45 0 10 = ((101 : Nat) : Int) := (upN E45 (by decide)).trans f755
  have f784 : h45 0 11 = ((102 : Nat) : Int) := (upN E45 (by decide)).trans f756
  have f785 : h45 105 1 = 0 := (upN E45 (by decide)).trans f757
  have f786 : h45 0 12 = ((105 : Nat) : Int) := (upN E45 (by decide)).trans f758
  have v787 : ∀ j, j < 32 → h45 2 j = (-1) := fun j hj => (upN E45 (fun z => absurd z.1 (by decide))).trans (v759 j hj)
  have v788 : ∀ j, j < 6 → h45 3 j = (-1) := fun j hj => (upN E45 (fun z => absurd z.1 (by decide))).trans (v760 j hj)
  have v789 : ∀ j, j < 16 → h45 8 j = 100 := fun j hj => (upN E45 (fun z => absurd z.1 (by decide))).trans (v761 j hj)
  have u790 : h45 36 = fun _ => 0 := (upo E45 (by decide)).trans u762
  have g791 := g766.put E45 (by decide)
  have F792 : ∀ k, k < 0 → h45 k = h0 k := frn_up F764 E45 (by decide)
  clear f739 f740 f741 f742 f743 f744 f745 f746 f747 f748 f749 f750 f751 f752 f753 f754 f755 f756 f757 f758 g766 F764 E44 g763 g765 v759 v760 v761 u762
  have f793 : h45 0 13 = ((107 : Nat) : Int) := upE E45
  refine y_aload_n (M := M_X11_init_1) 185 dX11_init_185 rfl ?_
  refine y_iconst (M := M_X11_init_1) 186 dX11_init_186 ?_
  refine y_putI (M := M_X11_init_1) 187 dX11_init_187 p_X11_98 (tk_g (by decide) o_0) rfl ?_
  obtain ⟨h46, E46⟩ : ∃ x, x = m_up h45 0 14 0 := ⟨_, rfl⟩
  rw [← E46]
  have f794 : h46 1 7 = 0 := (upN E46 (by decide)).trans f767
  have f795 : h46 1 8 = 0 := (upN E46 (by decide)).trans f768
  have f796 : h46 1 9 = 0 := (upN E46 (by decide)).trans f769
  have f797 : h46 0 0 = ((1 : Nat) : Int) := (upN E46 (by decide)).trans f770
  have f798 : h46 0 1 = ((9 : Nat) : Int) := (upN E46 (by decide)).trans f771
  have f799 : h46 0 2 = ((17 : Nat) : Int) := (upN E46 (by decide)).trans f772
  have f800 : h46 34 0 = 0 := (upN E46 (by decide)).trans f773
  have f801 : h46 34 1 = 0 := (upN E46 (by decide)).trans f774
  have f802 : h46 0 3 = ((34 : Nat) : Int) := (upN E46 (by decide)).trans f775
  have f803 : h46 35 1 = 0 := (upN E46 (by decide)).trans f776
  have f804 : h46 0 4 = ((35 : Nat) : Int) := (upN E46 (by decide)).trans f777
  have f805 : h46 0 5 = ((37 : Nat) : Int) := (upN E46 (by decide)).trans f778
  have f806 : h46 0 6 = ((38 : Nat) : Int) := (upN E46 (by decide)).trans f779
  have f807 : h46 0 7 = ((93 : Nat) : Int) := (upN E46 (by decide)).trans f780
  have f808 : h46 0 8 = ((96 : Nat) : Int) := (upN E46 (by decide)).trans f781
  have f809 : h46 0 9 = ((99 : Nat) : Int) := (upN E46 (by decide)).trans f782
  have f810 : h46 0 10 = ((101 : Nat) : Int) := (upN E46 (by decide)).trans f783
  have f811 : h46 0 11 = ((102 : Nat) : Int) := (upN E46 (by decide)).trans f784
  have f812 : h46 105 1 = 0 := (upN E46 (by decide)).trans f785
  have f813 : h46 0 12 = ((105 : Nat) : Int) := (upN E46 (by decide)).trans f786
  have f814 : h46 0 13 = ((107 : Nat) : Int) := (upN E46 (by decide)).trans f793
  have v815 : ∀ j, j < 32 → h46 2 j = (-1) := fun j hj => (upN E46 (fun z => absurd z.1 (by decide))).trans (v787 j hj)
  have v816 : ∀ j, j < 6 → h46 3 j = (-1) := fun j hj => (upN E46 (fun z => absurd z.1 (by decide))).trans (v788 j hj)
  have v817 : ∀ j, j < 16 → h46 8 j = 100 := fun j hj => (upN E46 (fun z => absurd z.1 (by decide))).trans (v789 j hj)
  have u818 : h46 36 = fun _ => 0 := (upo E46 (by decide)).trans u790
  have g819 := g791.put E46 (by decide)
  have F820 : ∀ k, k < 0 → h46 k = h0 k := frn_up F792 E46 (by decide)
  clear f767 f768 f769 f770 f771 f772 f773 f774 f775 f776 f777 f778 f779 f780 f781 f782 f783 f784 f785 f786 f793 g791 F792 E45 v787 v788 v789 u790
  have f821 : h46 0 14 = 0 := upE E46
  refine y_aload_n (M := M_X11_init_1) 190 dX11_init_190 rfl ?_
  refine y_iconst (M := M_X11_init_1) 191 dX11_init_191 ?_
  refine y_putI (M := M_X11_init_1) 192 dX11_init_192 p_X11_102 (tk_g (by decide) o_0) rfl ?_
  obtain ⟨h47, E47⟩ : ∃ x, x = m_up h46 0 15 0 := ⟨_, rfl⟩
  rw [← E47]
  have f822 : h47 1 7 = 0 := (upN E47 (by decide)).trans f794
  have f823 : h47 1 8 = 0 := (upN E47 (by decide)).trans f795
  have f824 : h47 1 9 = 0 := (upN E47 (by decide)).trans f796
  have f825 : h47 0 0 = ((1 : Nat) : Int) := (upN E47 (by decide)).trans f797
  have f826 : h47 0 1 = ((9 : Nat) : Int) := (upN E47 (by decide)).trans f798
  have f827 : h47 0 2 = ((17 : Nat) : Int) := (upN E47 (by decide)).trans f799
  have f828 : h47 34 0 = 0 := (upN E47 (by decide)).trans f800
  have f829 : h47 34 1 = 0 := (upN E47 (by decide)).trans f801
  have f830 : h47 0 3 = ((34 : Nat) : Int) := (upN E47 (by decide)).trans f802
  have f831 : h47 35 1 = 0 := (upN E47 (by decide)).trans f803
  have f832 : h47 0 4 = ((35 : Nat) : Int) := (upN E47 (by decide)).trans f804
  have f833 : h47 0 5 = ((37 : Nat) : Int) := (upN E47 (by decide)).trans f805
  have f834 : h47 0 6 = ((38 : Nat) : Int) := (upN E47 (by decide)).trans f806
  have f835 : h47 0 7 = ((93 : Nat) : Int) := (upN E47 (by decide)).trans f807
  have f836 : h47 0 8 = ((96 : Nat) : Int) := (upN E47 (by decide)).trans f808
  have f837 : h47 0 9 = ((99 : Nat) : Int) := (upN E47 (by decide)).trans f809
  have f838 : h47 0 10 = ((101 : Nat) : Int) := (upN E47 (by decide)).trans f810
  have f839 : h47 0 11 = ((102 : Nat) : Int) := (upN E47 (by decide)).trans f811
  have f840 : h47 105 1 = 0 := (upN E47 (by decide)).trans f812
  have f841 : h47 0 12 = ((105 : Nat) : Int) := (upN E47 (by decide)).trans f813
  have f842 : h47 0 13 = ((107 : Nat) : Int) := (upN E47 (by decide)).trans f814
  have f843 : h47 0 14 = 0 := (upN E47 (by decide)).trans f821
  have v844 : ∀ j, j < 32 → h47 2 j = (-1) := fun j hj => (upN E47 (fun z => absurd z.1 (by decide))).trans (v815 j hj)
  have v845 : ∀ j, j < 6 → h47 3 j = (-1) := fun j hj => (upN E47 (fun z => absurd z.1 (by decide))).trans (v816 j hj)
  have v846 : ∀ j, j < 16 → h47 8 j = 100 := fun j hj => (upN E47 (fun z => absurd z.1 (by decide))).trans (v817 j hj)
  have u847 : h47 36 = fun _ => 0 := (upo E47 (by decide)).trans u818
  have g848 := g819.put E47 (by decide)
  have F849 : ∀ k, k < 0 → h47 k = h0 k := frn_up F820 E47 (by decide)
  clear f794 f795 f796 f797 f798 f799 f800 f801 f802 f803 f804 f805 f806 f807 f808 f809 f810 f811 f812 f813 f814 f821 g819 F820 E46 v815 v816 v817 u818
  have f850 : h47 0 15 = 0 := upE E47
  refine y_aload_n (M := M_X11_init_1) 195 dX11_init_195 rfl ?_
  refine y_iconst (M := M_X11_init_1) 196 dX11_init_196 ?_
  refine y_putI (M := M_X11_init_1) 197 dX11_init_197 p_X11_105 (tk_g (by decide) o_0) rfl ?_
  obtain ⟨h48, E48⟩ : ∃ x, x = m_up h47 0 16 (-1) := ⟨_, rfl⟩
  rw [← E48]
  have f851 : h48 1 7 = 0 := (upN E48 (by decide)).trans f822
  have f852 : h48 1 8 = 0 := (upN E48 (by decide)).trans f823
  have f853 : h48 1 9 = 0 := (upN E48 (by decide)).trans f824
  have f854 : h48 0 0 = ((1 : Nat) : Int) := (upN E48 (by decide)).trans f825
  have f855 : h48 0 1 = ((9 : Nat) : Int) := (upN E48 (by decide)).trans f826
  have f856 : h48 0 2 = ((17 : Nat) : Int) := (upN E48 (by decide)).trans f827
  have f857 : h48 34 0 = 0 := (upN E48 (by decide)).trans f828
  have f858 : h48 34 1 = 0 := (upN E48 (by decide)).trans f829
  have f859 : h48 0 3 = ((34 : Nat) : Int) := (upN E48 (by decide)).trans f830
  have f860 : h48 35 1 = 0 := (upN E48 (by decide)).trans f831
  have f861 : h48 0 4 = ((35 : Nat) : Int) := (upN E48 (by decide)).trans f832
  have f862 : h48 0 5 = ((37 : Nat) : Int) := (upN E48 (by decide)).trans f833
  have f863 : h48 0 6 = ((38 : Nat) : Int) := (upN E48 (by decide)).trans f834
  have f864 : h48 0 7 = ((93 : Nat) : Int) := (upN E48 (by decide)).trans f835
  have f865 : h48 0 8 = ((96 : Nat) : Int) := (upN E48 (by decide)).trans f836
  have f866 : h48 0 9 = ((99 : Nat) : Int) := (upN E48 (by decide)).trans f837
  have f867 : h48 0 10 = ((101 : Nat) : Int) := (upN E48 (by decide)).trans f838
  have f868 : h48 0 11 = ((102 : Nat) : Int) := (upN E48 (by decide)).trans f839
  have f869 : h48 105 1 = 0 := (upN E48 (by decide)).trans f840
  have f870 : h48 0 12 = ((105 : Nat) : Int) := (upN E48 (by decide)).trans f841
  have f871 : h48 0 13 = ((107 : Nat) : Int) := (upN E48 (by decide)).trans f842
  have f872 : h48 0 14 = 0 := (upN E48 (by decide)).trans f843
  have f873 : h48 0 15 = 0 := (upN E48 (by decide)).trans f850
  have v874 : ∀ j, j < 32 → h48 2 j = (-1) := fun j hj => (upN E48 (fun z => absurd z.1 (by decide))).trans (v844 j hj)
  have v875 : ∀ j, j < 6 → h48 3 j = (-1) := fun j hj => (upN E48 (fun z => absurd z.1 (by decide))).trans (v845 j hj)
  have v876 : ∀ j, j < 16 → h48 8 j = 100 := fun j hj => (upN E48 (fun z => absurd z.1 (by decide))).trans (v846 j hj)
  have u877 : h48 36 = fun _ => 0 := (upo E48 (by decide)).trans u847
  have g878 := g848.put E48 (by decide)
  have F879 : ∀ k, k < 0 → h48 k = h0 k := frn_up F849 E48 (by decide)
  clear f822 f823 f824 f825 f826 f827 f828 f829 f830 f831 f832 f833 f834 f835 f836 f837 f838 f839 f840 f841 f842 f843 f850 g848 F849 E47 v844 v845 v846 u847
  have f880 : h48 0 16 = (-1) := upE E48
  have g881 : gR 0 1 h48 := gR_1 (gC_of bt_0 (fun j hj => by have q : j = 0 ∨ j = 1 ∨ j = 2 ∨ j = 3 ∨ j = 4 ∨ j = 5 ∨ j = 6 ∨ j = 7 ∨ j = 8 ∨ j = 9 ∨ j = 10 ∨ j = 11 ∨ j = 12 ∨ j = 13 ∨ j = 14 ∨ j = 15 ∨ j = 16 := (by omega); rcases q with rfl | rfl | rfl | rfl | rfl | rfl | rfl | rfl | rfl | rfl | rfl | rfl | rfl | rfl | rfl | rfl | rfl; exact f854; exact f855; exact f856; exact f859; exact f861; exact f862; exact f863; exact f864; exact f865; exact f866; exact f867; exact f868; exact f870; exact f871; exact trivial; exact trivial; exact trivial))
  have g882 := g881.join g878
  exact y_vret (M := M_X11_init_1) 200 dX11_init_200 rfl ⟨rfl, rfl, g882, F879, f860, f857, f858, f851, f852, f853, f869, f873, f880, v874, v875, v876, u877⟩
theorem t_X12_init {n0 n1 f l : Nat} : m_mI (mkM RX12 yX12_init cX12_init 2 f l n0 n1 none) 0 := ⟨⟨(m_inG 1193 (by decide +kernel) rfl : Cond.instanceMethod yX12_init ∈ m_G), rfl, rfl⟩, ⟨(m_inG 109 (by decide +kernel) rfl : Cond.initialized RX12 ∈ m_G), (m_inG 1194 (by decide +kernel) rfl : Cond.code yX12_init cX12_init 2 none ∈ m_G)⟩, ⟨(by decide +kernel : RX12 ≠ "java/lang/invoke/MethodHandle"), (by decide +kernel : RX12 ≠ "java/lang/invoke/VarHandle"), (by decide +kernel : (parseMethodDescriptor yX12_init.desc).map (fun d => d.parameters.length) = some 0)⟩⟩
theorem ol_X12 : Cond.methodLink RX12 1 Lib.objectInit ∈ m_G := m_inG 1195 (by decide +kernel) rfl
theorem bt_109 : g_bt[109]? = some (7, g_p109) := rfl
theorem ff_X12_7 : m_ff RX12 7 12 63 2 := ⟨_, _, cf12, by decide, m_inG 1198 (by decide +kernel) rfl, rfl, rfl⟩
theorem ff_X12_13 : m_ff RX12 13 12 63 3 := ⟨_, _, cf12, by decide, m_inG 1199 (by decide +kernel) rfl, rfl, rfl⟩
theorem bt_111 : g_bt[111]? = some (400, g_p111) := rfl
theorem ff_X12_16 : m_ff RX12 16 12 63 4 := ⟨_, _, cf12, by decide, m_inG 1200 (by decide +kernel) rfl, rfl, rfl⟩
theorem bt_112 : g_bt[112]? = some (2, g_p112) := rfl
theorem ff_X12_19 : m_ff RX12 19 12 63 5 := ⟨_, _, cf12, by decide, m_inG 1201 (by decide +kernel) rfl, rfl, rfl⟩
theorem bt_113 : g_bt[113]? = some (400, g_p113) := rfl
theorem ff_X12_23 : m_ff RX12 23 12 63 7 := ⟨_, _, cf12, by decide, m_inG 1203 (by decide +kernel) rfl, rfl, rfl⟩
theorem bt_114 : g_bt[114]? = some (1000, g_p114) := rfl
theorem ff_X12_30 : m_ff RX12 30 12 63 15 := ⟨_, _, cf12, by decide, m_inG 1211 (by decide +kernel) rfl, rfl, rfl⟩
theorem bt_115 : g_bt[115]? = some (10, g_p115) := rfl
theorem ff_X12_33 : m_ff RX12 33 12 63 19 := ⟨_, _, cf12, by decide, m_inG 1215 (by decide +kernel) rfl, rfl, rfl⟩
theorem bt_116 : g_bt[116]? = some (10, g_p116) := rfl
theorem ff_X12_37 : m_ff RX12 37 12 63 20 := ⟨_, _, cf12, by decide, m_inG 1216 (by decide +kernel) rfl, rfl, rfl⟩
theorem bt_117 : g_bt[117]? = some (60, g_p117) := rfl
theorem ff_X12_40 : m_ff RX12 40 12 63 22 := ⟨_, _, cf12, by decide, m_inG 1218 (by decide +kernel) rfl, rfl, rfl⟩
theorem bt_118 : g_bt[118]? = some (60, g_p118) := rfl
theorem ff_X12_43 : m_ff RX12 43 12 63 23 := ⟨_, _, cf12, by decide, m_inG 1219 (by decide +kernel) rfl, rfl, rfl⟩
theorem bt_119 : g_bt[119]? = some (60, g_p119) := rfl
theorem ff_X12_46 : m_ff RX12 46 12 63 24 := ⟨_, _, cf12, by decide, m_inG 1220 (by decide +kernel) rfl, rfl, rfl⟩
theorem bt_120 : g_bt[120]? = some (60, g_p120) := rfl
theorem ff_X12_49 : m_ff RX12 49 12 63 25 := ⟨_, _, cf12, by decide, m_inG 1221 (by decide +kernel) rfl, rfl, rfl⟩
theorem bt_121 : g_bt[121]? = some (60, g_p121) := rfl
theorem ff_X12_52 : m_ff RX12 52 12 63 26 := ⟨_, _, cf12, by decide, m_inG 1222 (by decide +kernel) rfl, rfl, rfl⟩
theorem bt_122 : g_bt[122]? = some (32, g_p122) := rfl
theorem ff_X12_55 : m_ff RX12 55 12 63 27 := ⟨_, _, cf12, by decide, m_inG 1223 (by decide +kernel) rfl, rfl, rfl⟩
theorem bt_123 : g_bt[123]? = some (6, g_p123) := rfl
theorem ff_X12_58 : m_ff RX12 58 12 63 28 := ⟨_, _, cf12, by decide, m_inG 1224 (by decide +kernel) rfl, rfl, rfl⟩
theorem bt_124 : g_bt[124]? = some (80, g_p124) := rfl
theorem ff_X12_61 : m_ff RX12 61 12 63 29 := ⟨_, _, cf12, by decide, m_inG 1225 (by decide +kernel) rfl, rfl, rfl⟩
theorem bt_125 : g_bt[125]? = some (80, g_p125) := rfl
theorem ff_X12_64 : m_ff RX12 64 12 63 30 := ⟨_, _, cf12, by decide, m_inG 1226 (by decide +kernel) rfl, rfl, rfl⟩
theorem bt_126 : g_bt[126]? = some (16, g_p126) := rfl
theorem ff_X12_67 : m_ff RX12 67 12 63 31 := ⟨_, _, cf12, by decide, m_inG 1227 (by decide +kernel) rfl, rfl, rfl⟩
theorem bt_127 : g_bt[127]? = some (16, g_p127) := rfl
theorem ff_X12_70 : m_ff RX12 70 12 63 32 := ⟨_, _, cf12, by decide, m_inG 1228 (by decide +kernel) rfl, rfl, rfl⟩
theorem bt_128 : g_bt[128]? = some (80, g_p128) := rfl
theorem ff_X12_73 : m_ff RX12 73 12 63 33 := ⟨_, _, cf12, by decide, m_inG 1229 (by decide +kernel) rfl, rfl, rfl⟩
theorem bt_129 : g_bt[129]? = some (80, g_p129) := rfl
theorem ff_X12_76 : m_ff RX12 76 12 63 34 := ⟨_, _, cf12, by decide, m_inG 1230 (by decide +kernel) rfl, rfl, rfl⟩
theorem bt_130 : g_bt[130]? = some (16, g_p130) := rfl
theorem ff_X12_79 : m_ff RX12 79 12 63 35 := ⟨_, _, cf12, by decide, m_inG 1231 (by decide +kernel) rfl, rfl, rfl⟩
theorem bt_131 : g_bt[131]? = some (16, g_p131) := rfl
theorem ff_X12_82 : m_ff RX12 82 12 63 36 := ⟨_, _, cf12, by decide, m_inG 1232 (by decide +kernel) rfl, rfl, rfl⟩
theorem bt_132 : g_bt[132]? = some (5, g_p132) := rfl
theorem ff_X12_85 : m_ff RX12 85 12 63 37 := ⟨_, _, cf12, by decide, m_inG 1233 (by decide +kernel) rfl, rfl, rfl⟩
theorem bt_133 : g_bt[133]? = some (5, g_p133) := rfl
theorem ff_X12_88 : m_ff RX12 88 12 63 38 := ⟨_, _, cf12, by decide, m_inG 1234 (by decide +kernel) rfl, rfl, rfl⟩
theorem bt_134 : g_bt[134]? = some (256, g_p134) := rfl
theorem ff_X12_91 : m_ff RX12 91 12 63 39 := ⟨_, _, cf12, by decide, m_inG 1235 (by decide +kernel) rfl, rfl, rfl⟩
theorem bt_135 : g_bt[135]? = some (10, g_p135) := rfl
theorem ff_X12_94 : m_ff RX12 94 12 63 40 := ⟨_, _, cf12, by decide, m_inG 1236 (by decide +kernel) rfl, rfl, rfl⟩
theorem bt_136 : g_bt[136]? = some (10, g_p136) := rfl
theorem ff_X12_97 : m_ff RX12 97 12 63 41 := ⟨_, _, cf12, by decide, m_inG 1237 (by decide +kernel) rfl, rfl, rfl⟩
theorem bt_137 : g_bt[137]? = some (5, g_p137) := rfl
theorem ff_X12_100 : m_ff RX12 100 12 63 42 := ⟨_, _, cf12, by decide, m_inG 1238 (by decide +kernel) rfl, rfl, rfl⟩
theorem bt_138 : g_bt[138]? = some (20, g_p138) := rfl
theorem ff_X12_103 : m_ff RX12 103 12 63 43 := ⟨_, _, cf12, by decide, m_inG 1239 (by decide +kernel) rfl, rfl, rfl⟩
theorem bt_139 : g_bt[139]? = some (10, g_p139) := rfl
theorem ff_X12_106 : m_ff RX12 106 12 63 48 := ⟨_, _, cf12, by decide, m_inG 1244 (by decide +kernel) rfl, rfl, rfl⟩
theorem bt_140 : g_bt[140]? = some (10, g_p140) := rfl
theorem ff_X12_109 : m_ff RX12 109 12 63 49 := ⟨_, _, cf12, by decide, m_inG 1245 (by decide +kernel) rfl, rfl, rfl⟩
theorem bt_141 : g_bt[141]? = some (10, g_p141) := rfl
theorem ff_X12_112 : m_ff RX12 112 12 63 50 := ⟨_, _, cf12, by decide, m_inG 1246 (by decide +kernel) rfl, rfl, rfl⟩
theorem bt_142 : g_bt[142]? = some (10, g_p142) := rfl
theorem ff_X12_115 : m_ff RX12 115 12 63 51 := ⟨_, _, cf12, by decide, m_inG 1247 (by decide +kernel) rfl, rfl, rfl⟩
theorem bt_143 : g_bt[143]? = some (3, g_p143) := rfl
theorem ff_X12_118 : m_ff RX12 118 12 63 52 := ⟨_, _, cf12, by decide, m_inG 1248 (by decide +kernel) rfl, rfl, rfl⟩
theorem bt_144 : g_bt[144]? = some (3, g_p144) := rfl
theorem ff_X12_121 : m_ff RX12 121 12 63 53 := ⟨_, _, cf12, by decide, m_inG 1249 (by decide +kernel) rfl, rfl, rfl⟩
theorem bt_145 : g_bt[145]? = some (16, g_p145) := rfl
theorem ff_X12_124 : m_ff RX12 124 12 63 56 := ⟨_, _, cf12, by decide, m_inG 1252 (by decide +kernel) rfl, rfl, rfl⟩
theorem bt_146 : g_bt[146]? = some (3, g_p146) := rfl
theorem ff_X12_127 : m_ff RX12 127 12 63 57 := ⟨_, _, cf12, by decide, m_inG 1253 (by decide +kernel) rfl, rfl, rfl⟩
theorem bt_147 : g_bt[147]? = some (32, g_p147) := rfl
theorem ff_X12_130 : m_ff RX12 130 12 63 59 := ⟨_, _, cf12, by decide, m_inG 1255 (by decide +kernel) rfl, rfl, rfl⟩
theorem bt_108 : g_bt[108]? = some (63, g_p108) := rfl
abbrev M_mi : m_M := mkM RX12 yX12_init cX12_init 2 1 20 109 148 none
def sl (L : List (Nat × Int)) (f : Nat → Int) : Prop := ∀ p ∈ L, f p.1 = p.2
theorem sl_nil {f : Nat → Int} : sl [] f := fun p hp => by cases hp
theorem sl_c {L : List (Nat × Int)} {f : Nat → Int} {j : Nat} {v : Int} (e : f j = v) (s : sl L f) : sl ((j, v) :: L) f := fun p hp => by
  rcases List.mem_cons.mp hp with rfl | q
  · exact e
  · exact s p q
theorem sl_up {L : List (Nat × Int)} {h h' : m_H} {c j : Nat} {v : Int} (s : sl L (h c)) (E : h' = m_up h c j v) (hj : L.all (fun p => p.1 != j) = true) : sl L (h' c) := fun p hp => by
  have h1 := List.all_eq_true.mp hj p hp
  rw [upN E (fun z => by rw [z.2] at h1; simp at h1)]
  exact s p hp
theorem sl_same {L : List (Nat × Int)} {f f' : Nat → Int} (s : sl L f) (e : f' = f) : sl L f' := by rw [e]; exact s
theorem sl_g {L : List (Nat × Int)} {f : Nat → Int} (s : sl L f) (j : Nat) (v : Int) (hm : (j, v) ∈ L) : f j = v := s (j, v) hm
def rwF (a b c : Nat) (j : Nat) : Int := if 10 ≤ j ∧ j < 10 + a then -1 else if 42 ≤ j ∧ j < 42 + b then -1 else if 60 ≤ j ∧ j < 60 + c then 100 else 0
def rwI (hs : m_H) (a b c : Nat) (h : m_H) : Prop := (∀ k, k ≠ 110 → h k = hs k) ∧ ∀ j, h 110 j = rwF a b c j
theorem rwI_1 {hs h : m_H} {b c : Nat} {i : Int} (h0 : 0 ≤ i) (h1 : i < 32) (I : rwI hs i.toNat b c h) : rwI hs (i + 1).toNat b c (m_up h 110 (10 + i).toNat (-1)) := by
  refine ⟨fun k hk => (m_up_row hk).trans (I.1 k hk), fun j => ?_⟩
  have n1 : (i + 1).toNat = i.toNat + 1 := by omega
  have n2 : (10 + i).toNat = 10 + i.toNat := by omega
  rw [n1, n2]
  by_cases e : j = 10 + i.toNat
  · rw [e, m_up_eq]; unfold rwF; rw [if_pos (by omega)]
  · rw [m_up_ne (fun z => e z.2), I.2]; unfold rwF
    by_cases q : 10 ≤ j ∧ j < 10 + i.toNat
    · rw [if_pos q, if_pos (show 10 ≤ j ∧ j < 10 + (i.toNat + 1) by omega)]
    · rw [if_neg q, if_neg (show ¬ (10 ≤ j ∧ j < 10 + (i.toNat + 1)) by omega)]
theorem rwI_2 {hs h : m_H} {c : Nat} {i : Int} (h0 : 0 ≤ i) (h1 : i < 6) (I : rwI hs 32 i.toNat c h) : rwI hs 32 (i + 1).toNat c (m_up h 110 (42 + i).toNat (-1)) := by
  refine ⟨fun k hk => (m_up_row hk).trans (I.1 k hk), fun j => ?_⟩
  have n1 : (i + 1).toNat = i.toNat + 1 := by omega
  have n2 : (42 + i).toNat = 42 + i.toNat := by omega
  rw [n1, n2]
  by_cases e : j = 42 + i.toNat
  · rw [e, m_up_eq]; unfold rwF; rw [if_neg (by omega), if_pos (by omega)]
  · rw [m_up_ne (fun z => e z.2), I.2]; unfold rwF
    by_cases q0 : 10 ≤ j ∧ j < 10 + 32
    · rw [if_pos q0, if_pos q0]
    · rw [if_neg q0, if_neg q0]
      by_cases q : 42 ≤ j ∧ j < 42 + i.toNat
      · rw [if_pos q, if_pos (show 42 ≤ j ∧ j < 42 + (i.toNat + 1) by omega)]
      · rw [if_neg q, if_neg (show ¬ (42 ≤ j ∧ j < 42 + (i.toNat + 1)) by omega)]
theorem rwI_3 {hs h : m_H} {i : Int} (h0 : 0 ≤ i) (h1 : i < 16) (I : rwI hs 32 6 i.toNat h) : rwI hs 32 6 (i + 1).toNat (m_up h 110 (60 + i).toNat 100) := by
  refine ⟨fun k hk => (m_up_row hk).trans (I.1 k hk), fun j => ?_⟩
  have n1 : (i + 1).toNat = i.toNat + 1 := by omega
  have n2 : (60 + i).toNat = 60 + i.toNat := by omega
  rw [n1, n2]
  by_cases e : j = 60 + i.toNat
  · rw [e, m_up_eq]; unfold rwF; rw [if_neg (by omega), if_neg (by omega), if_pos (by omega)]
  · rw [m_up_ne (fun z => e z.2), I.2]; unfold rwF
    by_cases q0 : 10 ≤ j ∧ j < 10 + 32
    · rw [if_pos q0, if_pos q0]
    · rw [if_neg q0, if_neg q0]
      by_cases q1 : 42 ≤ j ∧ j < 42 + 6
      · rw [if_pos q1, if_pos q1]
      · rw [if_neg q1, if_neg q1]
        by_cases q : 60 ≤ j ∧ j < 60 + i.toNat
        · rw [if_pos q, if_pos (show 60 ≤ j ∧ j < 60 + (i.toNat + 1) by omega)]
        · rw [if_neg q, if_neg (show ¬ (60 ≤ j ∧ j < 60 + (i.toNat + 1)) by omega)]
theorem mi_1 {hs : m_H} {Q : m_W → Option m_V → m_H → Prop} (e3 : hs 108 3 = ((110 : Nat) : Int)) (K : ∀ h, rwI hs 32 0 0 h → m_Y (xI "<init>") (oF.take 148) M_mi 363 [some (mR 108), some (mI 32)] [] h Q) : ∀ (n : Nat) (i : Int) (h : m_H), 0 ≤ i → i ≤ 32 → 32 - i ≤ n → rwI hs i.toNat 0 0 h → m_Y (xI "<init>") (oF.take 148) M_mi 341 [some (mR 108), some (mI i)] [] h Q
  | n, i, h, h1, h2, hn, I => by
    refine y_iload_n (M := M_mi) 341 dX12_init_341 rfl ?_
    refine y_bipush (M := M_mi) 342 dX12_init_342 ?_
    refine y_icmp_ge (M := M_mi) 344 dX12_init_344 363 rfl (fun q => ?_) (fun q => ?_)
    · have e : i = 32 := by omega
      subst e
      exact K h I
    · match n, hn with
      | 0, hn => omega
      | n + 1, hn =>
        refine y_aload_n (M := M_mi) 347 dX12_init_347 rfl ?_
        refine y_getR (M := M_mi) 348 dX12_init_348 f_X12_13 (tk_g (by decide) o_108) rfl (t := 110) (by rw [I.1 108 (by decide)]; exact e3) ?_
        refine y_bipush (M := M_mi) 351 dX12_init_351 ?_
        refine y_iload_n (M := M_mi) 353 dX12_init_353 rfl ?_
        refine y_iaddN (M := M_mi) 354 dX12_init_354 (by omega) (by omega) ?_
        refine y_iconst (M := M_mi) 355 dX12_init_355 ?_
        refine y_iast (M := M_mi) 356 dX12_init_356 (tk_g (by decide) o_110) (by omega) (by omega) ?_
        refine y_iincN (M := M_mi) 357 dX12_init_357 (ls' := [some (mR 108), some (mI (i + 1))]) (by decide) rfl (by (unfold m_32; decide)) (by omega) (by omega) rfl ?_
        refine y_goto (M := M_mi) 360 dX12_init_360 341 rfl ?_
        exact mi_1 e3 K n (i + 1) _ (by omega) (by omega) (by omega) (rwI_1 (by omega) (by omega) I)
theorem mi_2 {hs : m_H} {Q : m_W → Option m_V → m_H → Prop} (e3 : hs 108 3 = ((110 : Nat) : Int)) (K : ∀ h, rwI hs 32 6 0 h → m_Y (xI "<init>") (oF.take 148) M_mi 387 [some (mR 108), some (mI 6)] [] h Q) : ∀ (n : Nat) (i : Int) (h : m_H), 0 ≤ i → i ≤ 6 → 6 - i ≤ n → rwI hs 32 i.toNat 0 h → m_Y (xI "<init>") (oF.take 148) M_mi 365 [some (mR 108), some (mI i)] [] h Q
  | n, i, h, h1, h2, hn, I => by
    refine y_iload_n (M := M_mi) 365 dX12_init_365 rfl ?_
    refine y_bipush (M := M_mi) 366 dX12_init_366 ?_
    refine y_icmp_ge (M := M_mi) 368 dX12_init_368 387 rfl (fun q => ?_) (fun q => ?_)
    · have e : i = 6 := by omega
      subst e
      exact K h I
    · match n, hn with
      | 0, hn => omega
      | n + 1, hn =>
        refine y_aload_n (M := M_mi) 371 dX12_init_371 rfl ?_
        refine y_getR (M := M_mi) 372 dX12_init_372 f_X12_13 (tk_g (by decide) o_108) rfl (t := 110) (by rw [I.1 108 (by decide)]; exact e3) ?_
        refine y_bipush (M := M_mi) 375 dX12_init_375 ?_
        refine y_iload_n (M := M_mi) 377 dX12_init_377 rfl ?_
        refine y_iaddN (M := M_mi) 378 dX12_init_378 (by omega) (by omega) ?_
        refine y_iconst (M := M_mi) 379 dX12_init_379 ?_
        refine y_iast (M := M_mi) 380 dX12_init_380 (tk_g (by decide) o_110) (by omega) (by omega) ?_
        refine y_iincN (M := M_mi) 381 dX12_init_381 (ls' := [some (mR 108), some (mI (i + 1))]) (by decide) rfl (by (unfold m_32; decide)) (by omega) (by omega) rfl ?_
        refine y_goto (M := M_mi) 384 dX12_init_384 365 rfl ?_
        exact mi_2 e3 K n (i + 1) _ (by omega) (by omega) (by omega) (rwI_2 (by omega) (by omega) I)
theorem mi_3 {hs : m_H} {Q : m_W → Option m_V → m_H → Prop} (e3 : hs 108 3 = ((110 : Nat) : Int)) (K : ∀ h, rwI hs 32 6 16 h → m_Y (xI "<init>") (oF.take 148) M_mi 412 [some (mR 108), some (mI 16)] [] h Q) : ∀ (n : Nat) (i : Int) (h : m_H), 0 ≤ i → i ≤ 16 → 16 - i ≤ n → rwI hs 32 6 i.toNat h → m_Y (xI "<init>") (oF.take 148) M_mi 389 [some (mR 108), some (mI i)] [] h Q
  | n, i, h, h1, h2, hn, I => by
    refine y_iload_n (M := M_mi) 389 dX12_init_389 rfl ?_
    refine y_bipush (M := M_mi) 390 dX12_init_390 ?_
    refine y_icmp_ge (M := M_mi) 392 dX12_init_392 412 rfl (fun q => ?_) (fun q => ?_)
    · have e : i = 16 := by omega
      subst e
      exact K h I
    · match n, hn with
      | 0, hn => omega
      | n + 1, hn =>
        refine y_aload_n (M := M_mi) 395 dX12_init_395 rfl ?_
        refine y_getR (M := M_mi) 396 dX12_init_396 f_X12_13 (tk_g (by decide) o_108) rfl (t := 110) (by rw [I.1 108 (by decide)]; exact e3) ?_
        refine y_bipush (M := M_mi) 399 dX12_init_399 ?_
        refine y_iload_n (M := M_mi) 401 dX12_init_401 rfl ?_
        refine y_iaddN (M := M_mi) 402 dX12_init_402 (by omega) (by omega) ?_
        refine y_bipush (M := M_mi) 403 dX12_init_403 ?_
        refine y_iast (M := M_mi) 405 dX12_init_405 (tk_g (by decide) o_110) (by omega) (by omega) ?_
        refine y_iincN (M := M_mi) 406 dX12_init_406 (ls' := [some (mR 108), some (mI (i + 1))]) (by decide) rfl (by (unfold m_32; decide)) (by omega) (by omega) rfl ?_
        refine y_goto (M := M_mi) 409 dX12_init_409 389 rfl ?_
        exact mi_3 e3 K n (i + 1) _ (by omega) (by omega) (by omega) (rwI_3 (by omega) (by omega) I)
theorem rwF_0 (j : Nat) : rwF (0 : Int).toNat 0 0 j = 0 := by
  show rwF 0 0 0 j = 0
  unfold rwF
  rw [if_neg (by omega), if_neg (by omega), if_neg (by omega)]
theorem rw_all : ∀ j, j < 200 → r_lo j ≤ rwF 32 6 16 j ∧ rwF 32 6 16 j ≤ r_hi j := by decide +kernel
theorem rw_ok {f : Nat → Int} (H : ∀ j, f j = rwF 32 6 16 j) : gC 110 f := by
  refine gC_of (n := 200) (P := g_p110) rfl (fun j hj => ?_)
  show r_lo j ≤ f j ∧ f j ≤ r_hi j
  rw [H]
  exact rw_all j hj
