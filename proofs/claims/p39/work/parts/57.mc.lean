abbrev M_X12_init_109 : m_M := mkM RX12 yX12_init cX12_init 2 1 20 109 148 none
set_option maxHeartbeats 4000000 in
set_option maxRecDepth 100000 in
theorem c_X12_init_109 (h0 : m_H) (e8 : h0 108 8 = 0) (e9 : h0 108 9 = 0) (e10 : h0 108 10 = 0) (e11 : h0 108 11 = 0) (e14 : h0 108 14 = 0) (e16 : h0 108 16 = 0) (e17 : h0 108 17 = 0) (e18 : h0 108 18 = 0) (e21 : h0 108 21 = 0) (e44 : h0 108 44 = 0) (e45 : h0 108 45 = 0) (e46 : h0 108 46 = 0) (e47 : h0 108 47 = 0) (e54 : h0 108 54 = 0) (e55 : h0 108 55 = 0) (e58 : h0 108 58 = 0) (e60 : h0 108 60 = 0) (e61 : h0 108 61 = 0) (e62 : h0 108 62 = 0) : m_D M_X12_init_109 (oF.take 109) (oF.take 148) [mR 108] h0 (fun r h' => r = none ∧ gR 108 148 h' ∧ (∀ k, k < 108 → h' k = h0 k) ∧ h' 108 8 = 0 ∧ h' 110 0 = 0 ∧ h' 112 0 = 0 ∧ h' 112 1 = 0) := by
  refine tk_D (by decide) (by decide) (by decide) rfl (by decide) (ls := [some (mR 108), none]) rfl ?_
  refine y_aload_n (M := M_X12_init_109) 0 dX12_init_0 rfl ?_
  refine y_objI (M := M_X12_init_109) 1 dX12_init_1 ol_X12 ow2 ow3 (by decide) (by decide) ?_
  refine y_aload_n (M := M_X12_init_109) 4 dX12_init_4 rfl ?_
  refine y_bipush (M := M_X12_init_109) 5 dX12_init_5 ?_
  refine y_newaI (M := M_X12_init_109) 7 dX12_init_7 acI (N := 7) (by decide) (tk_s o_109) (tk_l (by decide)) (tk_b (by decide) (by decide) (by decide)) (fun h1 E1 => ?_)
  have L1 := sl_c e8 sl_nil
  have L2 := sl_c e9 L1
  have L3 := sl_c e10 L2
  have L4 := sl_c e11 L3
  have L5 := sl_c e14 L4
  have L6 := sl_c e16 L5
  have L7 := sl_c e17 L6
  have L8 := sl_c e18 L7
  have L9 := sl_c e21 L8
  have L10 := sl_c e44 L9
  have L11 := sl_c e45 L10
  have L12 := sl_c e46 L11
  have L13 := sl_c e47 L12
  have L14 := sl_c e54 L13
  have L15 := sl_c e55 L14
  have L16 := sl_c e58 L15
  have L17 := sl_c e60 L16
  have L18 := sl_c e61 L17
  have L19 := sl_c e62 L18
  have L20 := sl_same L19 (m_nw_ne E1 (by decide))
  have F21 : ∀ k, k < 108 → h1 k = h0 k := frn_nw (fun k _ => rfl) E1 (by decide)
  clear L1 L2 L3 L4 L5 L6 L7 L8 L9 L10 L11 L12 L13 L14 L15 L16 L17 L18 L19
  have g22 : gR 109 110 h1 := gR_1 (gC_of bt_109 (fun j hj => by rw [nwI E1]; exact trivial))
  refine y_putF (M := M_X12_init_109) 9 dX12_init_9 ff_X12_7 (tk_g (by decide) o_108) (fun E m t q => q.1) rfl rfp_a (fun h2 E2 => ?_)
  have L23 := sl_up L20 E2 (by decide)
  have g24 := g22.put E2 (by decide)
  have F25 : ∀ k, k < 108 → h2 k = h0 k := frn_up F21 E2 (by decide)
  clear g22 F21 E1 L20
  have f26 : h2 108 2 = ((109 : Nat) : Int) := upE E2
  refine y_aload_n (M := M_X12_init_109) 12 dX12_init_12 rfl ?_
  refine y_sipush (M := M_X12_init_109) 13 dX12_init_13 ?_
  refine y_newaI (M := M_X12_init_109) 16 dX12_init_16 acI (N := 200) (by decide) (tk_s o_110) (tk_l (by decide)) (tk_b (by decide) (by decide) (by decide)) (fun h3 E3 => ?_)
  have L27 := sl_c f26 L23
  have L28 := sl_same L27 (m_nw_ne E3 (by decide))
  have z29 : ∀ j, h3 110 j = 0 := nwI E3
  have g30 := g24.nw E3 (by decide)
  have F31 : ∀ k, k < 108 → h3 k = h0 k := frn_nw F25 E3 (by decide)
  clear g24 F25 E2 f26 L23 L27
  refine y_putF (M := M_X12_init_109) 18 dX12_init_18 ff_X12_13 (tk_g (by decide) o_108) (fun E m t q => q.1) rfl rfp_a (fun h4 E4 => ?_)
  have L32 := sl_up L28 E4 (by decide)
  have z33 : ∀ j, h4 110 j = 0 := fun j => (upN E4 (fun z => absurd z.1 (by decide))).trans (z29 j)
  have g34 := g30.put E4 (by decide)
  have F35 : ∀ k, k < 108 → h4 k = h0 k := frn_up F31 E4 (by decide)
  clear g30 F31 E3 L28 z29
  have f36 : h4 108 3 = ((110 : Nat) : Int) := upE E4
  refine y_aload_n (M := M_X12_init_109) 21 dX12_init_21 rfl ?_
  refine y_sipush (M := M_X12_init_109) 22 dX12_init_22 ?_
  refine y_newaI (M := M_X12_init_109) 25 dX12_init_25 acI (N := 400) (by decide) (tk_s o_111) (tk_l (by decide)) (tk_b (by decide) (by decide) (by decide)) (fun h5 E5 => ?_)
  have L37 := sl_c f36 L32
  have L38 := sl_same L37 (m_nw_ne E5 (by decide))
  have z39 : ∀ j, h5 110 j = 0 := fun j => (congrFun (m_nw_ne E5 (by decide)) j).trans (z33 j)
  have g40 := g34.nw E5 (by decide)
  have F41 : ∀ k, k < 108 → h5 k = h0 k := frn_nw F35 E5 (by decide)
  clear g34 F35 E4 f36 L32 L37 z33
  have g42 : gR 111 112 h5 := gR_1 (gC_of bt_111 (fun j hj => by rw [nwI E5]; exact trivial))
  refine y_putF (M := M_X12_init_109) 27 dX12_init_27 ff_X12_16 (tk_g (by decide) o_108) (fun E m t q => q.1) rfl rfp_a (fun h6 E6 => ?_)
  have L43 := sl_up L38 E6 (by decide)
  have z44 : ∀ j, h6 110 j = 0 := fun j => (upN E6 (fun z => absurd z.1 (by decide))).trans (z39 j)
  have g45 := g40.put E6 (by decide)
  have g46 := g42.put E6 (by decide)
  have F47 : ∀ k, k < 108 → h6 k = h0 k := frn_up F41 E6 (by decide)
  clear g40 g42 F41 E5 L38 z39
  have f48 : h6 108 4 = ((111 : Nat) : Int) := upE E6
  refine y_aload_n (M := M_X12_init_109) 30 dX12_init_30 rfl ?_
  refine y_iconst (M := M_X12_init_109) 31 dX12_init_31 ?_
  refine y_newaZ (M := M_X12_init_109) 32 dX12_init_32 acZ (N := 2) (by decide) (tk_s o_112) (tk_l (by decide)) (tk_b (by decide) (by decide) (by decide)) (fun h7 E7 => ?_)
  have L49 := sl_c f48 L43
  have L50 := sl_same L49 (m_nw_ne E7 (by decide))
  have z51 : ∀ j, h7 110 j = 0 := fun j => (congrFun (m_nw_ne E7 (by decide)) j).trans (z44 j)
  have z52 : h7 112 0 = 0 := nwZ E7 0
  have z53 : h7 112 1 = 0 := nwZ E7 1
  have g54 := g45.nw E7 (by decide)
  have g55 := g46.nw E7 (by decide)
  have F56 : ∀ k, k < 108 → h7 k = h0 k := frn_nw F47 E7 (by decide)
  clear g45 g46 F47 E6 f48 L43 L49 z44
  have g57 : gR 112 113 h7 := gR_1 (gC_of bt_112 (fun j hj => by rw [nwZ E7]; show (0 : Int) ≤ 0 ∧ (0 : Int) ≤ 1; decide))
  have g58 := g55.join g57
  refine y_putF (M := M_X12_init_109) 34 dX12_init_34 ff_X12_19 (tk_g (by decide) o_108) (fun E m t q => q.1) rfl rfp_a (fun h8 E8 => ?_)
  have L59 := sl_up L50 E8 (by decide)
  have z60 : ∀ j, h8 110 j = 0 := fun j => (upN E8 (fun z => absurd z.1 (by decide))).trans (z51 j)
  have z61 : h8 112 0 = 0 := (upN E8 (fun z => absurd z.1 (by decide))).trans z52
  have z62 : h8 112 1 = 0 := (upN E8 (fun z => absurd z.1 (by decide))).trans z53
  have g63 := g54.put E8 (by decide)
  have g64 := g58.put E8 (by decide)
  have F65 : ∀ k, k < 108 → h8 k = h0 k := frn_up F56 E8 (by decide)
  clear g54 g58 F56 E7 g55 g57 L50 z51 z52 z53
  have f66 : h8 108 5 = ((112 : Nat) : Int) := upE E8
  refine y_aload_n (M := M_X12_init_109) 37 dX12_init_37 rfl ?_
  refine y_sipush (M := M_X12_init_109) 38 dX12_init_38 ?_
  refine y_newaI (M := M_X12_init_109) 41 dX12_init_41 acI (N := 400) (by decide) (tk_s o_113) (tk_l (by decide)) (tk_b (by decide) (by decide) (by decide)) (fun h9 E9 => ?_)
  have L67 := sl_c f66 L59
  have L68 := sl_same L67 (m_nw_ne E9 (by decide))
  have z69 : ∀ j, h9 110 j = 0 := fun j => (congrFun (m_nw_ne E9 (by decide)) j).trans (z60 j)
  have z70 : h9 112 0 = 0 := (congrFun (m_nw_ne E9 (by decide)) 0).trans z61
  have z71 : h9 112 1 = 0 := (congrFun (m_nw_ne E9 (by decide)) 1).trans z62
  have g72 := g63.nw E9 (by decide)
  have g73 := g64.nw E9 (by decide)
  have F74 : ∀ k, k < 108 → h9 k = h0 k := frn_nw F65 E9 (by decide)
  clear g63 g64 F65 E8 f66 L59 L67 z60 z61 z62
  have g75 : gR 113 114 h9 := gR_1 (gC_of bt_113 (fun j hj => by rw [nwI E9]; show (0 : Int) ≤ 0 ∧ (0 : Int) ≤ 255; decide))
  have g76 := g73.join g75
  refine y_putF (M := M_X12_init_109) 43 dX12_init_43 ff_X12_23 (tk_g (by decide) o_108) (fun E m t q => q.1) rfl rfp_a (fun h10 E10 => ?_)
  have L77 := sl_up L68 E10 (by decide)
  have z78 : ∀ j, h10 110 j = 0 := fun j => (upN E10 (fun z => absurd z.1 (by decide))).trans (z69 j)
  have z79 : h10 112 0 = 0 := (upN E10 (fun z => absurd z.1 (by decide))).trans z70
  have z80 : h10 112 1 = 0 := (upN E10 (fun z => absurd z.1 (by decide))).trans z71
  have g81 := g72.put E10 (by decide)
  have g82 := g76.put E10 (by decide)
  have F83 : ∀ k, k < 108 → h10 k = h0 k := frn_up F74 E10 (by decide)
  clear g72 g76 F74 E9 g73 g75 L68 z69 z70 z71
  have f84 : h10 108 7 = ((113 : Nat) : Int) := upE E10
  refine y_aload_n (M := M_X12_init_109) 46 dX12_init_46 rfl ?_
  refine y_iconst (M := M_X12_init_109) 47 dX12_init_47 ?_
  refine y_putI (M := M_X12_init_109) 48 dX12_init_48 p_X12_26 (tk_g (by decide) o_108) rfl ?_
  obtain ⟨h11, E11⟩ : ∃ x, x = m_up h10 108 13 (-1) := ⟨_, rfl⟩
  rw [← E11]
  have L85 := sl_c f84 L77
  have L86 := sl_up L85 E11 (by decide)
  have z87 : ∀ j, h11 110 j = 0 := fun j => (upN E11 (fun z => absurd z.1 (by decide))).trans (z78 j)
  have z88 : h11 112 0 = 0 := (upN E11 (fun z => absurd z.1 (by decide))).trans z79
  have z89 : h11 112 1 = 0 := (upN E11 (fun z => absurd z.1 (by decide))).trans z80
  have g90 := g81.put E11 (by decide)
  have g91 := g82.put E11 (by decide)
  have F92 : ∀ k, k < 108 → h11 k = h0 k := frn_up F83 E11 (by decide)
  clear g81 g82 F83 E10 f84 L77 L85 z78 z79 z80
  have f93 : h11 108 13 = (-1) := upE E11
  refine y_aload_n (M := M_X12_init_109) 51 dX12_init_51 rfl ?_
  refine y_sipush (M := M_X12_init_109) 52 dX12_init_52 ?_
  refine y_newaI (M := M_X12_init_109) 55 dX12_init_55 acI (N := 1000) (by decide) (tk_s o_114) (tk_l (by decide)) (tk_b (by decide) (by decide) (by decide)) (fun h12 E12 => ?_)
  have L94 := sl_c f93 L86
  have L95 := sl_same L94 (m_nw_ne E12 (by decide))
  have z96 : ∀ j, h12 110 j = 0 := fun j => (congrFun (m_nw_ne E12 (by decide)) j).trans (z87 j)
  have z97 : h12 112 0 = 0 := (congrFun (m_nw_ne E12 (by decide)) 0).trans z88
  have z98 : h12 112 1 = 0 := (congrFun (m_nw_ne E12 (by decide)) 1).trans z89
  have g99 := g90.nw E12 (by decide)
  have g100 := g91.nw E12 (by decide)
  have F101 : ∀ k, k < 108 → h12 k = h0 k := frn_nw F92 E12 (by decide)
  clear g90 g91 F92 E11 f93 L86 L94 z87 z88 z89
  have g102 : gR 114 115 h12 := gR_1 (gC_of bt_114 (fun j hj => by rw [nwI E12]; exact trivial))
  have g103 := g100.join g102
  refine y_putF (M := M_X12_init_109) 57 dX12_init_57 ff_X12_30 (tk_g (by decide) o_108) (fun E m t q => q.1) rfl rfp_a (fun h13 E13 => ?_)
  have L104 := sl_up L95 E13 (by decide)
  have z105 : ∀ j, h13 110 j = 0 := fun j => (upN E13 (fun z => absurd z.1 (by decide))).trans (z96 j)
  have z106 : h13 112 0 = 0 := (upN E13 (fun z => absurd z.1 (by decide))).trans z97
  have z107 : h13 112 1 = 0 := (upN E13 (fun z => absurd z.1 (by decide))).trans z98
  have g108 := g99.put E13 (by decide)
  have g109 := g103.put E13 (by decide)
  have F110 : ∀ k, k < 108 → h13 k = h0 k := frn_up F101 E13 (by decide)
  clear g99 g103 F101 E12 g100 g102 L95 z96 z97 z98
  have f111 : h13 108 15 = ((114 : Nat) : Int) := upE E13
  refine y_aload_n (M := M_X12_init_109) 60 dX12_init_60 rfl ?_
  refine y_bipush (M := M_X12_init_109) 61 dX12_init_61 ?_
  refine y_newaJ (M := M_X12_init_109) 63 dX12_init_63 acJ (N := 10) (by decide) (tk_s o_115) (tk_l (by decide)) (tk_b (by decide) (by decide) (by decide)) (fun h14 E14 => ?_)
  have L112 := sl_c f111 L104
  have L113 := sl_same L112 (m_nw_ne E14 (by decide))
  have z114 : ∀ j, h14 110 j = 0 := fun j => (congrFun (m_nw_ne E14 (by decide)) j).trans (z105 j)
  have z115 : h14 112 0 = 0 := (congrFun (m_nw_ne E14 (by decide)) 0).trans z106
  have z116 : h14 112 1 = 0 := (congrFun (m_nw_ne E14 (by decide)) 1).trans z107
  have g117 := g108.nw E14 (by decide)
  have g118 := g109.nw E14 (by decide)
  have F119 : ∀ k, k < 108 → h14 k = h0 k := frn_nw F110 E14 (by decide)
  clear g108 g109 F110 E13 f111 L104 L112 z105 z106 z107
  have g120 : gR 115 116 h14 := gR_1 (gC_of bt_115 (fun j hj => by rw [nwJ E14]; exact trivial))
  have g121 := g118.join g120
  refine y_putF (M := M_X12_init_109) 65 dX12_init_65 ff_X12_33 (tk_g (by decide) o_108) (fun E m t q => q.1) rfl rfp_a (fun h15 E15 => ?_)
  have L122 := sl_up L113 E15 (by decide)
  have z123 : ∀ j, h15 110 j = 0 := fun j => (upN E15 (fun z => absurd z.1 (by decide))).trans (z114 j)
  have z124 : h15 112 0 = 0 := (upN E15 (fun z => absurd z.1 (by decide))).trans z115
  have z125 : h15 112 1 = 0 := (upN E15 (fun z => absurd z.1 (by decide))).trans z116
  have g126 := g117.put E15 (by decide)
  have g127 := g121.put E15 (by decide)
  have F128 : ∀ k, k < 108 → h15 k = h0 k := frn_up F119 E15 (by decide)
  clear g117 g121 F119 E14 g118 g120 L113 z114 z115 z116
  have f129 : h15 108 19 = ((115 : Nat) : Int) := upE E15
  refine y_aload_n (M := M_X12_init_109) 68 dX12_init_68 rfl ?_
  refine y_bipush (M := M_X12_init_109) 69 dX12_init_69 ?_
  refine y_newaJ (M := M_X12_init_109) 71 dX12_init_71 acJ (N := 10) (by decide) (tk_s o_116) (tk_l (by decide)) (tk_b (by decide) (by decide) (by decide)) (fun h16 E16 => ?_)
  have L130 := sl_c f129 L122
  have L131 := sl_same L130 (m_nw_ne E16 (by decide))
  have z132 : ∀ j, h16 110 j = 0 := fun j => (congrFun (m_nw_ne E16 (by decide)) j).trans (z123 j)
  have z133 : h16 112 0 = 0 := (congrFun (m_nw_ne E16 (by decide)) 0).trans z124
  have z134 : h16 112 1 = 0 := (congrFun (m_nw_ne E16 (by decide)) 1).trans z125
  have g135 := g126.nw E16 (by decide)
  have g136 := g127.nw E16 (by decide)
  have F137 : ∀ k, k < 108 → h16 k = h0 k := frn_nw F128 E16 (by decide)
  clear g126 g127 F128 E15 f129 L122 L130 z123 z124 z125
  have g138 : gR 116 117 h16 := gR_1 (gC_of bt_116 (fun j hj => by rw [nwJ E16]; exact trivial))
  have g139 := g136.join g138
  refine y_putF (M := M_X12_init_109) 73 dX12_init_73 ff_X12_37 (tk_g (by decide) o_108) (fun E m t q => q.1) rfl rfp_a (fun h17 E17 => ?_)
  have L140 := sl_up L131 E17 (by decide)
  have z141 : ∀ j, h17 110 j = 0 := fun j => (upN E17 (fun z => absurd z.1 (by decide))).trans (z132 j)
  have z142 : h17 112 0 = 0 := (upN E17 (fun z => absurd z.1 (by decide))).trans z133
  have z143 : h17 112 1 = 0 := (upN E17 (fun z => absurd z.1 (by decide))).trans z134
  have g144 := g135.put E17 (by decide)
  have g145 := g139.put E17 (by decide)
  have F146 : ∀ k, k < 108 → h17 k = h0 k := frn_up F137 E17 (by decide)
  clear g135 g139 F137 E16 g136 g138 L131 z132 z133 z134
  have f147 : h17 108 20 = ((116 : Nat) : Int) := upE E17
  refine y_aload_n (M := M_X12_init_109) 76 dX12_init_76 rfl ?_
  refine y_bipush (M := M_X12_init_109) 77 dX12_init_77 ?_
  refine y_newaI (M := M_X12_init_109) 79 dX12_init_79 acI (N := 60) (by decide) (tk_s o_117) (tk_l (by decide)) (tk_b (by decide) (by decide) (by decide)) (fun h18 E18 => ?_)
  have L148 := sl_c f147 L140
  have L149 := sl_same L148 (m_nw_ne E18 (by decide))
  have z150 : ∀ j, h18 110 j = 0 := fun j => (congrFun (m_nw_ne E18 (by decide)) j).trans (z141 j)
  have z151 : h18 112 0 = 0 := (congrFun (m_nw_ne E18 (by decide)) 0).trans z142
  have z152 : h18 112 1 = 0 := (congrFun (m_nw_ne E18 (by decide)) 1).trans z143
  have g153 := g144.nw E18 (by decide)
  have g154 := g145.nw E18 (by decide)
  have F155 : ∀ k, k < 108 → h18 k = h0 k := frn_nw F146 E18 (by decide)
  clear g144 g145 F146 E17 f147 L140 L148 z141 z142 z143
  have g156 : gR 117 118 h18 := gR_1 (gC_of bt_117 (fun j hj => by rw [nwI E18]; show (0 : Int) ≤ 0 ∧ (0 : Int) ≤ 15; decide))
  have g157 := g154.join g156
  refine y_putF (M := M_X12_init_109) 81 dX12_init_81 ff_X12_40 (tk_g (by decide) o_108) (fun E m t q => q.1) rfl rfp_a (fun h19 E19 => ?_)
  have L158 := sl_up L149 E19 (by decide)
  have z159 : ∀ j, h19 110 j = 0 := fun j => (upN E19 (fun z => absurd z.1 (by decide))).trans (z150 j)
  have z160 : h19 112 0 = 0 := (upN E19 (fun z => absurd z.1 (by decide))).trans z151
  have z161 : h19 112 1 = 0 := (upN E19 (fun z => absurd z.1 (by decide))).trans z152
  have g162 := g153.put E19 (by decide)
  have g163 := g157.put E19 (by decide)
  have F164 : ∀ k, k < 108 → h19 k = h0 k := frn_up F155 E19 (by decide)
  clear g153 g157 F155 E18 g154 g156 L149 z150 z151 z152
  have f165 : h19 108 22 = ((117 : Nat) : Int) := upE E19
  refine y_aload_n (M := M_X12_init_109) 84 dX12_init_84 rfl ?_
  refine y_bipush (M := M_X12_init_109) 85 dX12_init_85 ?_
  refine y_newaI (M := M_X12_init_109) 87 dX12_init_87 acI (N := 60) (by decide) (tk_s o_118) (tk_l (by decide)) (tk_b (by decide) (by decide) (by decide)) (fun h20 E20 => ?_)
  have L166 := sl_c f165 L158
  have L167 := sl_same L166 (m_nw_ne E20 (by decide))
  have z168 : ∀ j, h20 110 j = 0 := fun j => (congrFun (m_nw_ne E20 (by decide)) j).trans (z159 j)
  have z169 : h20 112 0 = 0 := (congrFun (m_nw_ne E20 (by decide)) 0).trans z160
  have z170 : h20 112 1 = 0 := (congrFun (m_nw_ne E20 (by decide)) 1).trans z161
  have g171 := g162.nw E20 (by decide)
  have g172 := g163.nw E20 (by decide)
  have F173 : ∀ k, k < 108 → h20 k = h0 k := frn_nw F164 E20 (by decide)
  clear g162 g163 F164 E19 f165 L158 L166 z159 z160 z161
  have g174 : gR 118 119 h20 := gR_1 (gC_of bt_118 (fun j hj => by rw [nwI E20]; show (0 : Int) ≤ 0 ∧ (0 : Int) ≤ 15; decide))
  have g175 := g172.join g174
  refine y_putF (M := M_X12_init_109) 89 dX12_init_89 ff_X12_43 (tk_g (by decide) o_108) (fun E m t q => q.1) rfl rfp_a (fun h21 E21 => ?_)
  have L176 := sl_up L167 E21 (by decide)
  have z177 : ∀ j, h21 110 j = 0 := fun j => (upN E21 (fun z => absurd z.1 (by decide))).trans (z168 j)
  have z178 : h21 112 0 = 0 := (upN E21 (fun z => absurd z.1 (by decide))).trans z169
  have z179 : h21 112 1 = 0 := (upN E21 (fun z => absurd z.1 (by decide))).trans z170
  have g180 := g171.put E21 (by decide)
  have g181 := g175.put E21 (by decide)
  have F182 : ∀ k, k < 108 → h21 k = h0 k := frn_up F173 E21 (by decide)
  clear g171 g175 F173 E20 g172 g174 L167 z168 z169 z170
  have f183 : h21 108 23 = ((118 : Nat) : Int) := upE E21
  refine y_aload_n (M := M_X12_init_109) 92 dX12_init_92 rfl ?_
  refine y_bipush (M := M_X12_init_109) 93 dX12_init_93 ?_
  refine y_newaI (M := M_X12_init_109) 95 dX12_init_95 acI (N := 60) (by decide) (tk_s o_119) (tk_l (by decide)) (tk_b (by decide) (by decide) (by decide)) (fun h22 E22 => ?_)
  have L184 := sl_c f183 L176
  have L185 := sl_same L184 (m_nw_ne E22 (by decide))
  have z186 : ∀ j, h22 110 j = 0 := fun j => (congrFun (m_nw_ne E22 (by decide)) j).trans (z177 j)
  have z187 : h22 112 0 = 0 := (congrFun (m_nw_ne E22 (by decide)) 0).trans z178
  have z188 : h22 112 1 = 0 := (congrFun (m_nw_ne E22 (by decide)) 1).trans z179
  have g189 := g180.nw E22 (by decide)
  have g190 := g181.nw E22 (by decide)
  have F191 : ∀ k, k < 108 → h22 k = h0 k := frn_nw F182 E22 (by decide)
  clear g180 g181 F182 E21 f183 L176 L184 z177 z178 z179
  have g192 : gR 119 120 h22 := gR_1 (gC_of bt_119 (fun j hj => by rw [nwI E22]; show (0 : Int) ≤ 0 ∧ (0 : Int) ≤ 199; decide))
  have g193 := g190.join g192
  refine y_putF (M := M_X12_init_109) 97 dX12_init_97 ff_X12_46 (tk_g (by decide) o_108) (fun E m t q => q.1) rfl rfp_a (fun h23 E23 => ?_)
  have L194 := sl_up L185 E23 (by decide)
  have z195 : ∀ j, h23 110 j = 0 := fun j => (upN E23 (fun z => absurd z.1 (by decide))).trans (z186 j)
  have z196 : h23 112 0 = 0 := (upN E23 (fun z => absurd z.1 (by decide))).trans z187
  have z197 : h23 112 1 = 0 := (upN E23 (fun z => absurd z.1 (by decide))).trans z188
  have g198 := g189.put E23 (by decide)
  have g199 := g193.put E23 (by decide)
  have F200 : ∀ k, k < 108 → h23 k = h0 k := frn_up F191 E23 (by decide)
  clear g189 g193 F191 E22 g190 g192 L185 z186 z187 z188
  have f201 : h23 108 24 = ((119 : Nat) : Int) := upE E23
  refine y_aload_n (M := M_X12_init_109) 100 dX12_init_100 rfl ?_
  refine y_bipush (M := M_X12_init_109) 101 dX12_init_101 ?_
  refine y_newaI (M := M_X12_init_109) 103 dX12_init_103 acI (N := 60) (by decide) (tk_s o_120) (tk_l (by decide)) (tk_b (by decide) (by decide) (by decide)) (fun h24 E24 => ?_)
  have L202 := sl_c f201 L194
  have L203 := sl_same L202 (m_nw_ne E24 (by decide))
  have z204 : ∀ j, h24 110 j = 0 := fun j => (congrFun (m_nw_ne E24 (by decide)) j).trans (z195 j)
  have z205 : h24 112 0 = 0 := (congrFun (m_nw_ne E24 (by decide)) 0).trans z196
  have z206 : h24 112 1 = 0 := (congrFun (m_nw_ne E24 (by decide)) 1).trans z197
  have g207 := g198.nw E24 (by decide)
  have g208 := g199.nw E24 (by decide)
  have F209 : ∀ k, k < 108 → h24 k = h0 k := frn_nw F200 E24 (by decide)
  clear g198 g199 F200 E23 f201 L194 L202 z195 z196 z197
  have g210 : gR 120 121 h24 := gR_1 (gC_of bt_120 (fun j hj => by rw [nwI E24]; show (0 : Int) ≤ 0 ∧ (0 : Int) ≤ 199; decide))
  have g211 := g208.join g210
  refine y_putF (M := M_X12_init_109) 105 dX12_init_105 ff_X12_49 (tk_g (by decide) o_108) (fun E m t q => q.1) rfl rfp_a (fun h25 E25 => ?_)
  have L212 := sl_up L203 E25 (by decide)
  have z213 : ∀ j, h25 110 j = 0 := fun j => (upN E25 (fun z => absurd z.1 (by decide))).trans (z204 j)
  have z214 : h25 112 0 = 0 := (upN E25 (fun z => absurd z.1 (by decide))).trans z205
  have z215 : h25 112 1 = 0 := (upN E25 (fun z => absurd z.1 (by decide))).trans z206
  have g216 := g207.put E25 (by decide)
  have g217 := g211.put E25 (by decide)
  have F218 : ∀ k, k < 108 → h25 k = h0 k := frn_up F209 E25 (by decide)
  clear g207 g211 F209 E24 g208 g210 L203 z204 z205 z206
  have f219 : h25 108 25 = ((120 : Nat) : Int) := upE E25
  refine y_aload_n (M := M_X12_init_109) 108 dX12_init_108 rfl ?_
  refine y_bipush (M := M_X12_init_109) 109 dX12_init_109 ?_
  refine y_newaZ (M := M_X12_init_109) 111 dX12_init_111 acZ (N := 60) (by decide) (tk_s o_121) (tk_l (by decide)) (tk_b (by decide) (by decide) (by decide)) (fun h26 E26 => ?_)
  have L220 := sl_c f219 L212
  have L221 := sl_same L220 (m_nw_ne E26 (by decide))
  have z222 : ∀ j, h26 110 j = 0 := fun j => (congrFun (m_nw_ne E26 (by decide)) j).trans (z213 j)
  have z223 : h26 112 0 = 0 := (congrFun (m_nw_ne E26 (by decide)) 0).trans z214
  have z224 : h26 112 1 = 0 := (congrFun (m_nw_ne E26 (by decide)) 1).trans z215
  have g225 := g216.nw E26 (by decide)
  have g226 := g217.nw E26 (by decide)
  have F227 : ∀ k, k < 108 → h26 k = h0 k := frn_nw F218 E26 (by decide)
  clear g216 g217 F218 E25 f219 L212 L220 z213 z214 z215
  have g228 : gR 121 122 h26 := gR_1 (gC_of bt_121 (fun j hj => by rw [nwZ E26]; show (0 : Int) ≤ 0 ∧ (0 : Int) ≤ 1; decide))
  have g229 := g226.join g228
  refine y_putF (M := M_X12_init_109) 113 dX12_init_113 ff_X12_52 (tk_g (by decide) o_108) (fun E m t q => q.1) rfl rfp_a (fun h27 E27 => ?_)
  have L230 := sl_up L221 E27 (by decide)
  have z231 : ∀ j, h27 110 j = 0 := fun j => (upN E27 (fun z => absurd z.1 (by decide))).trans (z222 j)
  have z232 : h27 112 0 = 0 := (upN E27 (fun z => absurd z.1 (by decide))).trans z223
  have z233 : h27 112 1 = 0 := (upN E27 (fun z => absurd z.1 (by decide))).trans z224
  have g234 := g225.put E27 (by decide)
  have g235 := g229.put E27 (by decide)
  have F236 : ∀ k, k < 108 → h27 k = h0 k := frn_up F227 E27 (by decide)
  clear g225 g229 F227 E26 g226 g228 L221 z222 z223 z224
  have f237 : h27 108 26 = ((121 : Nat) : Int) := upE E27
  refine y_aload_n (M := M_X12_init_109) 116 dX12_init_116 rfl ?_
  refine y_bipush (M := M_X12_init_109) 117 dX12_init_117 ?_
  refine y_newaI (M := M_X12_init_109) 119 dX12_init_119 acI (N := 32) (by decide) (tk_s o_122) (tk_l (by decide)) (tk_b (by decide) (by decide) (by decide)) (fun h28 E28 => ?_)
  have L238 := sl_c f237 L230
  have L239 := sl_same L238 (m_nw_ne E28 (by decide))
  have z240 : ∀ j, h28 110 j = 0 := fun j => (congrFun (m_nw_ne E28 (by decide)) j).trans (z231 j)
  have z241 : h28 112 0 = 0 := (congrFun (m_nw_ne E28 (by decide)) 0).trans z232
  have z242 : h28 112 1 = 0 := (congrFun (m_nw_ne E28 (by decide)) 1).trans z233
  have g243 := g234.nw E28 (by decide)
  have g244 := g235.nw E28 (by decide)
  have F245 : ∀ k, k < 108 → h28 k = h0 k := frn_nw F236 E28 (by decide)
  clear g234 g235 F236 E27 f237 L230 L238 z231 z232 z233
  have g246 : gR 122 123 h28 := gR_1 (gC_of bt_122 (fun j hj => by rw [nwI E28]; show (-1 : Int) ≤ 0 ∧ (0 : Int) ≤ 3; decide))
  have g247 := g244.join g246
  refine y_putF (M := M_X12_init_109) 121 dX12_init_121 ff_X12_55 (tk_g (by decide) o_108) (fun E m t q => q.1) rfl rfp_a (fun h29 E29 => ?_)
  have L248 := sl_up L239 E29 (by decide)
  have z249 : ∀ j, h29 110 j = 0 := fun j => (upN E29 (fun z => absurd z.1 (by decide))).trans (z240 j)
  have z250 : h29 112 0 = 0 := (upN E29 (fun z => absurd z.1 (by decide))).trans z241
  have z251 : h29 112 1 = 0 := (upN E29 (fun z => absurd z.1 (by decide))).trans z242
  have g252 := g243.put E29 (by decide)
  have g253 := g247.put E29 (by decide)
  have F254 : ∀ k, k < 108 → h29 k = h0 k := frn_up F245 E29 (by decide)
  clear g243 g247 F245 E28 g244 g246 L239 z240 z241 z242
  have f255 : h29 108 27 = ((122 : Nat) : Int) := upE E29
  refine y_aload_n (M := M_X12_init_109) 124 dX12_init_124 rfl ?_
  refine y_bipush (M := M_X12_init_109) 125 dX12_init_125 ?_
  refine y_newaI (M := M_X12_init_109) 127 dX12_init_127 acI (N := 6) (by decide) (tk_s o_123) (tk_l (by decide)) (tk_b (by decide) (by decide) (by decide)) (fun h30 E30 => ?_)
  have L256 := sl_c f255 L248
  have L257 := sl_same L256 (m_nw_ne E30 (by decide))
  have z258 : ∀ j, h30 110 j = 0 := fun j => (congrFun (m_nw_ne E30 (by decide)) j).trans (z249 j)
  have z259 : h30 112 0 = 0 := (congrFun (m_nw_ne E30 (by decide)) 0).trans z250
  have z260 : h30 112 1 = 0 := (congrFun (m_nw_ne E30 (by decide)) 1).trans z251
  have g261 := g252.nw E30 (by decide)
  have g262 := g253.nw E30 (by decide)
  have F263 : ∀ k, k < 108 → h30 k = h0 k := frn_nw F254 E30 (by decide)
  clear g252 g253 F254 E29 f255 L248 L256 z249 z250 z251
  have g264 : gR 123 124 h30 := gR_1 (gC_of bt_123 (fun j hj => by rw [nwI E30]; show (-1 : Int) ≤ 0 ∧ (0 : Int) ≤ 31; decide))
  have g265 := g262.join g264
  refine y_putF (M := M_X12_init_109) 129 dX12_init_129 ff_X12_58 (tk_g (by decide) o_108) (fun E m t q => q.1) rfl rfp_a (fun h31 E31 => ?_)
  have L266 := sl_up L257 E31 (by decide)
  have z267 : ∀ j, h31 110 j = 0 := fun j => (upN E31 (fun z => absurd z.1 (by decide))).trans (z258 j)
  have z268 : h31 112 0 = 0 := (upN E31 (fun z => absurd z.1 (by decide))).trans z259
  have z269 : h31 112 1 = 0 := (upN E31 (fun z => absurd z.1 (by decide))).trans z260
  have g270 := g261.put E31 (by decide)
  have g271 := g265.put E31 (by decide)
  have F272 : ∀ k, k < 108 → h31 k = h0 k := frn_up F263 E31 (by decide)
  clear g261 g265 F263 E30 g262 g264 L257 z258 z259 z260
  have f273 : h31 108 28 = ((123 : Nat) : Int) := upE E31
  refine y_aload_n (M := M_X12_init_109) 132 dX12_init_132 rfl ?_
  refine y_bipush (M := M_X12_init_109) 133 dX12_init_133 ?_
  refine y_newaJ (M := M_X12_init_109) 135 dX12_init_135 acJ (N := 80) (by decide) (tk_s o_124) (tk_l (by decide)) (tk_b (by decide) (by decide) (by decide)) (fun h32 E32 => ?_)
  have L274 := sl_c f273 L266
  have L275 := sl_same L274 (m_nw_ne E32 (by decide))
  have z276 : ∀ j, h32 110 j = 0 := fun j => (congrFun (m_nw_ne E32 (by decide)) j).trans (z267 j)
  have z277 : h32 112 0 = 0 := (congrFun (m_nw_ne E32 (by decide)) 0).trans z268
  have z278 : h32 112 1 = 0 := (congrFun (m_nw_ne E32 (by decide)) 1).trans z269
  have g279 := g270.nw E32 (by decide)
  have g280 := g271.nw E32 (by decide)
  have F281 : ∀ k, k < 108 → h32 k = h0 k := frn_nw F272 E32 (by decide)
  clear g270 g271 F272 E31 f273 L266 L274 z267 z268 z269
  have g282 : gR 124 125 h32 := gR_1 (gC_of bt_124 (fun j hj => by rw [nwJ E32]; show (0 : Int) ≤ 0 ∧ (0 : Int) ≤ 99999999; decide))
  have g283 := g280.join g282
  refine y_putF (M := M_X12_init_109) 137 dX12_init_137 ff_X12_61 (tk_g (by decide) o_108) (fun E m t q => q.1) rfl rfp_a (fun h33 E33 => ?_)
  have L284 := sl_up L275 E33 (by decide)
  have z285 : ∀ j, h33 110 j = 0 := fun j => (upN E33 (fun z => absurd z.1 (by decide))).trans (z276 j)
  have z286 : h33 112 0 = 0 := (upN E33 (fun z => absurd z.1 (by decide))).trans z277
  have z287 : h33 112 1 = 0 := (upN E33 (fun z => absurd z.1 (by decide))).trans z278
  have g288 := g279.put E33 (by decide)
  have g289 := g283.put E33 (by decide)
  have F290 : ∀ k, k < 108 → h33 k = h0 k := frn_up F281 E33 (by decide)
  clear g279 g283 F281 E32 g280 g282 L275 z276 z277 z278
  have f291 : h33 108 29 = ((124 : Nat) : Int) := upE E33
  refine y_aload_n (M := M_X12_init_109) 140 dX12_init_140 rfl ?_
  refine y_bipush (M := M_X12_init_109) 141 dX12_init_141 ?_
  refine y_newaJ (M := M_X12_init_109) 143 dX12_init_143 acJ (N := 80) (by decide) (tk_s o_125) (tk_l (by decide)) (tk_b (by decide) (by decide) (by decide)) (fun h34 E34 => ?_)
  have L292 := sl_c f291 L284
  have L293 := sl_same L292 (m_nw_ne E34 (by decide))
  have z294 : ∀ j, h34 110 j = 0 := fun j => (congrFun (m_nw_ne E34 (by decide)) j).trans (z285 j)
  have z295 : h34 112 0 = 0 := (congrFun (m_nw_ne E34 (by decide)) 0).trans z286
  have z296 : h34 112 1 = 0 := (congrFun (m_nw_ne E34 (by decide)) 1).trans z287
  have g297 := g288.nw E34 (by decide)
  have g298 := g289.nw E34 (by decide)
  have F299 : ∀ k, k < 108 → h34 k = h0 k := frn_nw F290 E34 (by decide)
  clear g288 g289 F290 E33 f291 L284 L292 z285 z286 z287
  have g300 : gR 125 126 h34 := gR_1 (gC_of bt_125 (fun j hj => by rw [nwJ E34]; show (0 : Int) ≤ 0 ∧ (0 : Int) ≤ 99999999; decide))
  have g301 := g298.join g300
  refine y_putF (M := M_X12_init_109) 145 dX12_init_145 ff_X12_64 (tk_g (by decide) o_108) (fun E m t q => q.1) rfl rfp_a (fun h35 E35 => ?_)
  have L302 := sl_up L293 E35 (by decide)
  have z303 : ∀ j, h35 110 j = 0 := fun j => (upN E35 (fun z => absurd z.1 (by decide))).trans (z294 j)
  have z304 : h35 112 0 = 0 := (upN E35 (fun z => absurd z.1 (by decide))).trans z295
  have z305 : h35 112 1 = 0 := (upN E35 (fun z => absurd z.1 (by decide))).trans z296
  have g306 := g297.put E35 (by decide)
  have g307 := g301.put E35 (by decide)
  have F308 : ∀ k, k < 108 → h35 k = h0 k := frn_up F299 E35 (by decide)
  clear g297 g301 F299 E34 g298 g300 L293 z294 z295 z296
  have f309 : h35 108 30 = ((125 : Nat) : Int) := upE E35
  refine y_aload_n (M := M_X12_init_109) 148 dX12_init_148 rfl ?_
  refine y_bipush (M := M_X12_init_109) 149 dX12_init_149 ?_
  refine y_newaZ (M := M_X12_init_109) 151 dX12_init_151 acZ (N := 16) (by decide) (tk_s o_126) (tk_l (by decide)) (tk_b (by decide) (by decide) (by decide)) (fun h36 E36 => ?_)
  have L310 := sl_c f309 L302
  have L311 := sl_same L310 (m_nw_ne E36 (by decide))
  have z312 : ∀ j, h36 110 j = 0 := fun j => (congrFun (m_nw_ne E36 (by decide)) j).trans (z303 j)
  have z313 : h36 112 0 = 0 := (congrFun (m_nw_ne E36 (by decide)) 0).trans z304
  have z314 : h36 112 1 = 0 := (congrFun (m_nw_ne E36 (by decide)) 1).trans z305
  have g315 := g306.nw E36 (by decide)
  have g316 := g307.nw E36 (by decide)
  have F317 : ∀ k, k < 108 → h36 k = h0 k := frn_nw F308 E36 (by decide)
  clear g306 g307 F308 E35 f309 L302 L310 z303 z304 z305
  have g318 : gR 126 127 h36 := gR_1 (gC_of bt_126 (fun j hj => by rw [nwZ E36]; show (0 : Int) ≤ 0 ∧ (0 : Int) ≤ 1; decide))
  have g319 := g316.join g318
  refine y_putF (M := M_X12_init_109) 153 dX12_init_153 ff_X12_67 (tk_g (by decide) o_108) (fun E m t q => q.1) rfl rfp_a (fun h37 E37 => ?_)
  have L320 := sl_up L311 E37 (by decide)
  have z321 : ∀ j, h37 110 j = 0 := fun j => (upN E37 (fun z => absurd z.1 (by decide))).trans (z312 j)
  have z322 : h37 112 0 = 0 := (upN E37 (fun z => absurd z.1 (by decide))).trans z313
  have z323 : h37 112 1 = 0 := (upN E37 (fun z => absurd z.1 (by decide))).trans z314
  have g324 := g315.put E37 (by decide)
  have g325 := g319.put E37 (by decide)
  have F326 : ∀ k, k < 108 → h37 k = h0 k := frn_up F317 E37 (by decide)
  clear g315 g319 F317 E36 g316 g318 L311 z312 z313 z314
  have f327 : h37 108 31 = ((126 : Nat) : Int) := upE E37
  refine y_aload_n (M := M_X12_init_109) 156 dX12_init_156 rfl ?_
  refine y_bipush (M := M_X12_init_109) 157 dX12_init_157 ?_
  refine y_newaZ (M := M_X12_init_109) 159 dX12_init_159 acZ (N := 16) (by decide) (tk_s o_127) (tk_l (by decide)) (tk_b (by decide) (by decide) (by decide)) (fun h38 E38 => ?_)
  have L328 := sl_c f327 L320
  have L329 := sl_same L328 (m_nw_ne E38 (by decide))
  have z330 : ∀ j, h38 110 j = 0 := fun j => (congrFun (m_nw_ne E38 (by decide)) j).trans (z321 j)
  have z331 : h38 112 0 = 0 := (congrFun (m_nw_ne E38 (by decide)) 0).trans z322
  have z332 : h38 112 1 = 0 := (congrFun (m_nw_ne E38 (by decide)) 1).trans z323
  have g333 := g324.nw E38 (by decide)
  have g334 := g325.nw E38 (by decide)
  have F335 : ∀ k, k < 108 → h38 k = h0 k := frn_nw F326 E38 (by decide)
  clear g324 g325 F326 E37 f327 L320 L328 z321 z322 z323
  have g336 : gR 127 128 h38 := gR_1 (gC_of bt_127 (fun j hj => by rw [nwZ E38]; show (0 : Int) ≤ 0 ∧ (0 : Int) ≤ 1; decide))
  have g337 := g334.join g336
  refine y_putF (M := M_X12_init_109) 161 dX12_init_161 ff_X12_70 (tk_g (by decide) o_108) (fun E m t q => q.1) rfl rfp_a (fun h39 E39 => ?_)
  have L338 := sl_up L329 E39 (by decide)
  have z339 : ∀ j, h39 110 j = 0 := fun j => (upN E39 (fun z => absurd z.1 (by decide))).trans (z330 j)
  have z340 : h39 112 0 = 0 := (upN E39 (fun z => absurd z.1 (by decide))).trans z331
  have z341 : h39 112 1 = 0 := (upN E39 (fun z => absurd z.1 (by decide))).trans z332
  have g342 := g333.put E39 (by decide)
  have g343 := g337.put E39 (by decide)
  have F344 : ∀ k, k < 108 → h39 k = h0 k := frn_up F335 E39 (by decide)
  clear g333 g337 F335 E38 g334 g336 L329 z330 z331 z332
  have f345 : h39 108 32 = ((127 : Nat) : Int) := upE E39
  refine y_aload_n (M := M_X12_init_109) 164 dX12_init_164 rfl ?_
  refine y_bipush (M := M_X12_init_109) 165 dX12_init_165 ?_
  refine y_newaJ (M := M_X12_init_109) 167 dX12_init_167 acJ (N := 80) (by decide) (tk_s o_128) (tk_l (by decide)) (tk_b (by decide) (by decide) (by decide)) (fun h40 E40 => ?_)
  have L346 := sl_c f345 L338
  have L347 := sl_same L346 (m_nw_ne E40 (by decide))
  have z348 : ∀ j, h40 110 j = 0 := fun j => (congrFun (m_nw_ne E40 (by decide)) j).trans (z339 j)
  have z349 : h40 112 0 = 0 := (congrFun (m_nw_ne E40 (by decide)) 0).trans z340
  have z350 : h40 112 1 = 0 := (congrFun (m_nw_ne E40 (by decide)) 1).trans z341
  have g351 := g342.nw E40 (by decide)
  have g352 := g343.nw E40 (by decide)
  have F353 : ∀ k, k < 108 → h40 k = h0 k := frn_nw F344 E40 (by decide)
  clear g342 g343 F344 E39 f345 L338 L346 z339 z340 z341
  have g354 : gR 128 129 h40 := gR_1 (gC_of bt_128 (fun j hj => by rw [nwJ E40]; show (0 : Int) ≤ 0 ∧ (0 : Int) ≤ 99999999; decide))
  have g355 := g352.join g354
  refine y_putF (M := M_X12_init_109) 169 dX12_init_169 ff_X12_73 (tk_g (by decide) o_108) (fun E m t q => q.1) rfl rfp_a (fun h41 E41 => ?_)
  have L356 := sl_up L347 E41 (by decide)
  have z357 : ∀ j, h41 110 j = 0 := fun j => (upN E41 (fun z => absurd z.1 (by decide))).trans (z348 j)
  have z358 : h41 112 0 = 0 := (upN E41 (fun z => absurd z.1 (by decide))).trans z349
  have z359 : h41 112 1 = 0 := (upN E41 (fun z => absurd z.1 (by decide))).trans z350
  have g360 := g351.put E41 (by decide)
  have g361 := g355.put E41 (by decide)
  have F362 : ∀ k, k < 108 → h41 k = h0 k := frn_up F353 E41 (by decide)
  clear g351 g355 F353 E40 g352 g354 L347 z348 z349 z350
  have f363 : h41 108 33 = ((128 : Nat) : Int) := upE E41
  refine y_aload_n (M := M_X12_init_109) 172 dX12_init_172 rfl ?_
  refine y_bipush (M := M_X12_init_109) 173 dX12_init_173 ?_
  refine y_newaJ (M := M_X12_init_109) 175 dX12_init_175 acJ (N := 80) (by decide) (tk_s o_129) (tk_l (by decide)) (tk_b (by decide) (by decide) (by decide)) (fun h42 E42 => ?_)
  have L364 := sl_c f363 L356
  have L365 := sl_same L364 (m_nw_ne E42 (by decide))
  have z366 : ∀ j, h42 110 j = 0 := fun j => (congrFun (m_nw_ne E42 (by decide)) j).trans (z357 j)
  have z367 : h42 112 0 = 0 := (congrFun (m_nw_ne E42 (by decide)) 0).trans z358
  have z368 : h42 112 1 = 0 := (congrFun (m_nw_ne E42 (by decide)) 1).trans z359
  have g369 := g360.nw E42 (by decide)
  have g370 := g361.nw E42 (by decide)
  have F371 : ∀ k, k < 108 → h42 k = h0 k := frn_nw F362 E42 (by decide)
  clear g360 g361 F362 E41 f363 L356 L364 z357 z358 z359
  have g372 : gR 129 130 h42 := gR_1 (gC_of bt_129 (fun j hj => by rw [nwJ E42]; show (0 : Int) ≤ 0 ∧ (0 : Int) ≤ 99999999; decide))
  have g373 := g370.join g372
  refine y_putF (M := M_X12_init_109) 177 dX12_init_177 ff_X12_76 (tk_g (by decide) o_108) (fun E m t q => q.1) rfl rfp_a (fun h43 E43 => ?_)
  have L374 := sl_up L365 E43 (by decide)
  have z375 : ∀ j, h43 110 j = 0 := fun j => (upN E43 (fun z => absurd z.1 (by decide))).trans (z366 j)
  have z376 : h43 112 0 = 0 := (upN E43 (fun z => absurd z.1 (by decide))).trans z367
  have z377 : h43 112 1 = 0 := (upN E43 (fun z => absurd z.1 (by decide))).trans z368
  have g378 := g369.put E43 (by decide)
  have g379 := g373.put E43 (by decide)
  have F380 : ∀ k, k < 108 → h43 k = h0 k := frn_up F371 E43 (by decide)
  clear g369 g373 F371 E42 g370 g372 L365 z366 z367 z368
  have f381 : h43 108 34 = ((129 : Nat) : Int) := upE E43
  refine y_aload_n (M := M_X12_init_109) 180 dX12_init_180 rfl ?_
  refine y_bipush (M := M_X12_init_109) 181 dX12_init_181 ?_
  refine y_newaZ (M := M_X12_init_109) 183 dX12_init_183 acZ (N := 16) (by decide) (tk_s o_130) (tk_l (by decide)) (tk_b (by decide) (by decide) (by decide)) (fun h44 E44 => ?_)
  have L382 := sl_c f381 L374
  have L383 := sl_same L382 (m_nw_ne E44 (by decide))
  have z384 : ∀ j, h44 110 j = 0 := fun j => (congrFun (m_nw_ne E44 (by decide)) j).trans (z375 j)
  have z385 : h44 112 0 = 0 := (congrFun (m_nw_ne E44 (by decide)) 0).trans z376
  have z386 : h44 112 1 = 0 := (congrFun (m_nw_ne E44 (by decide)) 1).trans z377
  have g387 := g378.nw E44 (by decide)
  have g388 := g379.nw E44 (by decide)
  have F389 : ∀ k, k < 108 → h44 k = h0 k := frn_nw F380 E44 (by decide)
  clear g378 g379 F380 E43 f381 L374 L382 z375 z376 z377
  have g390 : gR 130 131 h44 := gR_1 (gC_of bt_130 (fun j hj => by rw [nwZ E44]; show (0 : Int) ≤ 0 ∧ (0 : Int) ≤ 1; decide))
  have g391 := g388.join g390
  refine y_putF (M := M_X12_init_109) 185 dX12_init_185 ff_X12_79 (tk_g (by decide) o_108) (fun E m t q => q.1) rfl rfp_a (fun h45 E45 => ?_)
  have L392 := sl_up L383 E45 (by decide)
  have z393 : ∀ j, h45 110 j = 0 := fun j => (upN E45 (fun z => absurd z.1 (by decide))).trans (z384 j)
  have z394 : h45 112 0 = 0 := (upN E45 (fun z => absurd z.1 (by decide))).trans z385
  have z395 : h45 112 1 = 0 := (upN E45 (fun z => absurd z.1 (by decide))).trans z386
  have g396 := g387.put E45 (by decide)
  have g397 := g391.put E45 (by decide)
  have F398 : ∀ k, k < 108 → h45 k = h0 k := frn_up F389 E45 (by decide)
  clear g387 g391 F389 E44 g388 g390 L383 z384 z385 z386
  have f399 : h45 108 35 = ((130 : Nat) : Int) := upE E45
  refine y_aload_n (M := M_X12_init_109) 188 dX12_init_188 rfl ?_
  refine y_bipush (M := M_X12_init_109) 189 dX12_init_189 ?_
  refine y_newaZ (M := M_X12_init_109) 191 dX12_init_191 acZ (N := 16) (by decide) (tk_s o_131) (tk_l (by decide)) (tk_b (by decide) (by decide) (by decide)) (fun h46 E46 => ?_)
  have L400 := sl_c f399 L392
  have L401 := sl_same L400 (m_nw_ne E46 (by decide))
  have z402 : ∀ j, h46 110 j = 0 := fun j => (congrFun (m_nw_ne E46 (by decide)) j).trans (z393 j)
  have z403 : h46 112 0 = 0 := (congrFun (m_nw_ne E46 (by decide)) 0).trans z394
  have z404 : h46 112 1 = 0 := (congrFun (m_nw_ne E46 (by decide)) 1).trans z395
  have g405 := g396.nw E46 (by decide)
  have g406 := g397.nw E46 (by decide)
  have F407 : ∀ k, k < 108 → h46 k = h0 k := frn_nw F398 E46 (by decide)
  clear g396 g397 F398 E45 f399 L392 L400 z393 z394 z395
  have g408 : gR 131 132 h46 := gR_1 (gC_of bt_131 (fun j hj => by rw [nwZ E46]; show (0 : Int) ≤ 0 ∧ (0 : Int) ≤ 1; decide))
  have g409 := g406.join g408
  refine y_putF (M := M_X12_init_109) 193 dX12_init_193 ff_X12_82 (tk_g (by decide) o_108) (fun E m t q => q.1) rfl rfp_a (fun h47 E47 => ?_)
  have L410 := sl_up L401 E47 (by decide)
  have z411 : ∀ j, h47 110 j = 0 := fun j => (upN E47 (fun z => absurd z.1 (by decide))).trans (z402 j)
  have z412 : h47 112 0 = 0 := (upN E47 (fun z => absurd z.1 (by decide))).trans z403
  have z413 : h47 112 1 = 0 := (upN E47 (fun z => absurd z.1 (by decide))).trans z404
  have g414 := g405.put E47 (by decide)
  have g415 := g409.put E47 (by decide)
  have F416 : ∀ k, k < 108 → h47 k = h0 k := frn_up F407 E47 (by decide)
  clear g405 g409 F407 E46 g406 g408 L401 z402 z403 z404
  have f417 : h47 108 36 = ((131 : Nat) : Int) := upE E47
  refine y_aload_n (M := M_X12_init_109) 196 dX12_init_196 rfl ?_
  refine y_iconst (M := M_X12_init_109) 197 dX12_init_197 ?_
  refine y_newaJ (M := M_X12_init_109) 198 dX12_init_198 acJ (N := 5) (by decide) (tk_s o_132) (tk_l (by decide)) (tk_b (by decide) (by decide) (by decide)) (fun h48 E48 => ?_)
  have L418 := sl_c f417 L410
  have L419 := sl_same L418 (m_nw_ne E48 (by decide))
  have z420 : ∀ j, h48 110 j = 0 := fun j => (congrFun (m_nw_ne E48 (by decide)) j).trans (z411 j)
  have z421 : h48 112 0 = 0 := (congrFun (m_nw_ne E48 (by decide)) 0).trans z412
  have z422 : h48 112 1 = 0 := (congrFun (m_nw_ne E48 (by decide)) 1).trans z413
  have g423 := g414.nw E48 (by decide)
  have g424 := g415.nw E48 (by decide)
  have F425 : ∀ k, k < 108 → h48 k = h0 k := frn_nw F416 E48 (by decide)
  clear g414 g415 F416 E47 f417 L410 L418 z411 z412 z413
  have g426 : gR 132 133 h48 := gR_1 (gC_of bt_132 (fun j hj => by rw [nwJ E48]; show (0 : Int) ≤ 0 ∧ (0 : Int) ≤ 99999999; decide))
  have g427 := g424.join g426
  refine y_putF (M := M_X12_init_109) 200 dX12_init_200 ff_X12_85 (tk_g (by decide) o_108) (fun E m t q => q.1) rfl rfp_a (fun h49 E49 => ?_)
  have L428 := sl_up L419 E49 (by decide)
  have z429 : ∀ j, h49 110 j = 0 := fun j => (upN E49 (fun z => absurd z.1 (by decide))).trans (z420 j)
  have z430 : h49 112 0 = 0 := (upN E49 (fun z => absurd z.1 (by decide))).trans z421
  have z431 : h49 112 1 = 0 := (upN E49 (fun z => absurd z.1 (by decide))).trans z422
  have g432 := g423.put E49 (by decide)
  have g433 := g427.put E49 (by decide)
  have F434 : ∀ k, k < 108 → h49 k = h0 k := frn_up F425 E49 (by decide)
  clear g423 g427 F425 E48 g424 g426 L419 z420 z421 z422
  have f435 : h49 108 37 = ((132 : Nat) : Int) := upE E49
  refine y_aload_n (M := M_X12_init_109) 203 dX12_init_203 rfl ?_
  refine y_iconst (M := M_X12_init_109) 204 dX12_init_204 ?_
  refine y_newaJ (M := M_X12_init_109) 205 dX12_init_205 acJ (N := 5) (by decide) (tk_s o_133) (tk_l (by decide)) (tk_b (by decide) (by decide) (by decide)) (fun h50 E50 => ?_)
  have L436 := sl_c f435 L428
  have L437 := sl_same L436 (m_nw_ne E50 (by decide))
  have z438 : ∀ j, h50 110 j = 0 := fun j => (congrFun (m_nw_ne E50 (by decide)) j).trans (z429 j)
  have z439 : h50 112 0 = 0 := (congrFun (m_nw_ne E50 (by decide)) 0).trans z430
  have z440 : h50 112 1 = 0 := (congrFun (m_nw_ne E50 (by decide)) 1).trans z431
  have g441 := g432.nw E50 (by decide)
  have g442 := g433.nw E50 (by decide)
  have F443 : ∀ k, k < 108 → h50 k = h0 k := frn_nw F434 E50 (by decide)
  clear g432 g433 F434 E49 f435 L428 L436 z429 z430 z431
  have g444 : gR 133 134 h50 := gR_1 (gC_of bt_133 (fun j hj => by rw [nwJ E50]; show (0 : Int) ≤ 0 ∧ (0 : Int) ≤ 99999999; decide))
  have g445 := g442.join g444
  refine y_putF (M := M_X12_init_109) 207 dX12_init_207 ff_X12_88 (tk_g (by decide) o_108) (fun E m t q => q.1) rfl rfp_a (fun h51 E51 => ?_)
  have L446 := sl_up L437 E51 (by decide)
  have z447 : ∀ j, h51 110 j = 0 := fun j => (upN E51 (fun z => absurd z.1 (by decide))).trans (z438 j)
  have z448 : h51 112 0 = 0 := (upN E51 (fun z => absurd z.1 (by decide))).trans z439
  have z449 : h51 112 1 = 0 := (upN E51 (fun z => absurd z.1 (by decide))).trans z440
  have g450 := g441.put E51 (by decide)
  have g451 := g445.put E51 (by decide)
  have F452 : ∀ k, k < 108 → h51 k = h0 k := frn_up F443 E51 (by decide)
  clear g441 g445 F443 E50 g442 g444 L437 z438 z439 z440
  have f453 : h51 108 38 = ((133 : Nat) : Int) := upE E51
  refine y_aload_n (M := M_X12_init_109) 210 dX12_init_210 rfl ?_
  refine y_sipush (M := M_X12_init_109) 211 dX12_init_211 ?_
  refine y_newaZ (M := M_X12_init_109) 214 dX12_init_214 acZ (N := 256) (by decide) (tk_s o_134) (tk_l (by decide)) (tk_b (by decide) (by decide) (by decide)) (fun h52 E52 => ?_)
  have L454 := sl_c f453 L446
  have L455 := sl_same L454 (m_nw_ne E52 (by decide))
  have z456 : ∀ j, h52 110 j = 0 := fun j => (congrFun (m_nw_ne E52 (by decide)) j).trans (z447 j)
  have z457 : h52 112 0 = 0 := (congrFun (m_nw_ne E52 (by decide)) 0).trans z448
  have z458 : h52 112 1 = 0 := (congrFun (m_nw_ne E52 (by decide)) 1).trans z449
  have g459 := g450.nw E52 (by decide)
  have g460 := g451.nw E52 (by decide)
  have F461 : ∀ k, k < 108 → h52 k = h0 k := frn_nw F452 E52 (by decide)
  clear g450 g451 F452 E51 f453 L446 L454 z447 z448 z449
  have g462 : gR 134 135 h52 := gR_1 (gC_of bt_134 (fun j hj => by rw [nwZ E52]; show (0 : Int) ≤ 0 ∧ (0 : Int) ≤ 1; decide))
  have g463 := g460.join g462
  refine y_putF (M := M_X12_init_109) 216 dX12_init_216 ff_X12_91 (tk_g (by decide) o_108) (fun E m t q => q.1) rfl rfp_a (fun h53 E53 => ?_)
  have L464 := sl_up L455 E53 (by decide)
  have z465 : ∀ j, h53 110 j = 0 := fun j => (upN E53 (fun z => absurd z.1 (by decide))).trans (z456 j)
  have z466 : h53 112 0 = 0 := (upN E53 (fun z => absurd z.1 (by decide))).trans z457
  have z467 : h53 112 1 = 0 := (upN E53 (fun z => absurd z.1 (by decide))).trans z458
  have g468 := g459.put E53 (by decide)
  have g469 := g463.put E53 (by decide)
  have F470 : ∀ k, k < 108 → h53 k = h0 k := frn_up F461 E53 (by decide)
  clear g459 g463 F461 E52 g460 g462 L455 z456 z457 z458
  have f471 : h53 108 39 = ((134 : Nat) : Int) := upE E53
  refine y_aload_n (M := M_X12_init_109) 219 dX12_init_219 rfl ?_
  refine y_bipush (M := M_X12_init_109) 220 dX12_init_220 ?_
  refine y_newaJ (M := M_X12_init_109) 222 dX12_init_222 acJ (N := 10) (by decide) (tk_s o_135) (tk_l (by decide)) (tk_b (by decide) (by decide) (by decide)) (fun h54 E54 => ?_)
  have L472 := sl_c f471 L464
  have L473 := sl_same L472 (m_nw_ne E54 (by decide))
  have z474 : ∀ j, h54 110 j = 0 := fun j => (congrFun (m_nw_ne E54 (by decide)) j).trans (z465 j)
  have z475 : h54 112 0 = 0 := (congrFun (m_nw_ne E54 (by decide)) 0).trans z466
  have z476 : h54 112 1 = 0 := (congrFun (m_nw_ne E54 (by decide)) 1).trans z467
  have g477 := g468.nw E54 (by decide)
  have g478 := g469.nw E54 (by decide)
  have F479 : ∀ k, k < 108 → h54 k = h0 k := frn_nw F470 E54 (by decide)
  clear g468 g469 F470 E53 f471 L464 L472 z465 z466 z467
  have g480 : gR 135 136 h54 := gR_1 (gC_of bt_135 (fun j hj => by rw [nwJ E54]; exact trivial))
  have g481 := g478.join g480
  refine y_putF (M := M_X12_init_109) 224 dX12_init_224 ff_X12_94 (tk_g (by decide) o_108) (fun E m t q => q.1) rfl rfp_a (fun h55 E55 => ?_)
  have L482 := sl_up L473 E55 (by decide)
  have z483 : ∀ j, h55 110 j = 0 := fun j => (upN E55 (fun z => absurd z.1 (by decide))).trans (z474 j)
  have z484 : h55 112 0 = 0 := (upN E55 (fun z => absurd z.1 (by decide))).trans z475
  have z485 : h55 112 1 = 0 := (upN E55 (fun z => absurd z.1 (by decide))).trans z476
  have g486 := g477.put E55 (by decide)
  have g487 := g481.put E55 (by decide)
  have F488 : ∀ k, k < 108 → h55 k = h0 k := frn_up F479 E55 (by decide)
  clear g477 g481 F479 E54 g478 g480 L473 z474 z475 z476
  have f489 : h55 108 40 = ((135 : Nat) : Int) := upE E55
  refine y_aload_n (M := M_X12_init_109) 227 dX12_init_227 rfl ?_
  refine y_bipush (M := M_X12_init_109) 228 dX12_init_228 ?_
  refine y_newaJ (M := M_X12_init_109) 230 dX12_init_230 acJ (N := 10) (by decide) (tk_s o_136) (tk_l (by decide)) (tk_b (by decide) (by decide) (by decide)) (fun h56 E56 => ?_)
  have L490 := sl_c f489 L482
  have L491 := sl_same L490 (m_nw_ne E56 (by decide))
  have z492 : ∀ j, h56 110 j = 0 := fun j => (congrFun (m_nw_ne E56 (by decide)) j).trans (z483 j)
  have z493 : h56 112 0 = 0 := (congrFun (m_nw_ne E56 (by decide)) 0).trans z484
  have z494 : h56 112 1 = 0 := (congrFun (m_nw_ne E56 (by decide)) 1).trans z485
  have g495 := g486.nw E56 (by decide)
  have g496 := g487.nw E56 (by decide)
  have F497 : ∀ k, k < 108 → h56 k = h0 k := frn_nw F488 E56 (by decide)
  clear g486 g487 F488 E55 f489 L482 L490 z483 z484 z485
  have g498 : gR 136 137 h56 := gR_1 (gC_of bt_136 (fun j hj => by rw [nwJ E56]; exact trivial))
  have g499 := g496.join g498
  refine y_putF (M := M_X12_init_109) 232 dX12_init_232 ff_X12_97 (tk_g (by decide) o_108) (fun E m t q => q.1) rfl rfp_a (fun h57 E57 => ?_)
  have L500 := sl_up L491 E57 (by decide)
  have z501 : ∀ j, h57 110 j = 0 := fun j => (upN E57 (fun z => absurd z.1 (by decide))).trans (z492 j)
  have z502 : h57 112 0 = 0 := (upN E57 (fun z => absurd z.1 (by decide))).trans z493
  have z503 : h57 112 1 = 0 := (upN E57 (fun z => absurd z.1 (by decide))).trans z494
  have g504 := g495.put E57 (by decide)
  have g505 := g499.put E57 (by decide)
  have F506 : ∀ k, k < 108 → h57 k = h0 k := frn_up F497 E57 (by decide)
  clear g495 g499 F497 E56 g496 g498 L491 z492 z493 z494
  have f507 : h57 108 41 = ((136 : Nat) : Int) := upE E57
  refine y_aload_n (M := M_X12_init_109) 235 dX12_init_235 rfl ?_
  refine y_iconst (M := M_X12_init_109) 236 dX12_init_236 ?_
  refine y_newaJ (M := M_X12_init_109) 237 dX12_init_237 acJ (N := 5) (by decide) (tk_s o_137) (tk_l (by decide)) (tk_b (by decide) (by decide) (by decide)) (fun h58 E58 => ?_)
  have L508 := sl_c f507 L500
  have L509 := sl_same L508 (m_nw_ne E58 (by decide))
  have z510 : ∀ j, h58 110 j = 0 := fun j => (congrFun (m_nw_ne E58 (by decide)) j).trans (z501 j)
  have z511 : h58 112 0 = 0 := (congrFun (m_nw_ne E58 (by decide)) 0).trans z502
  have z512 : h58 112 1 = 0 := (congrFun (m_nw_ne E58 (by decide)) 1).trans z503
  have g513 := g504.nw E58 (by decide)
  have g514 := g505.nw E58 (by decide)
  have F515 : ∀ k, k < 108 → h58 k = h0 k := frn_nw F506 E58 (by decide)
  clear g504 g505 F506 E57 f507 L500 L508 z501 z502 z503
  have g516 : gR 137 138 h58 := gR_1 (gC_of bt_137 (fun j hj => by rw [nwJ E58]; show (0 : Int) ≤ 0 ∧ (0 : Int) ≤ 1; decide))
  have g517 := g514.join g516
  refine y_dup (M := M_X12_init_109) 239 dX12_init_239 rfl ?_
  refine y_iconst (M := M_X12_init_109) 240 dX12_init_240 ?_
  refine y_lconst (M := M_X12_init_109) 241 dX12_init_241 (v := 1) ?_
  refine y_last (M := M_X12_init_109) 242 dX12_init_242 (tk_g (by decide) o_137) (by decide) (by decide) ?_
  obtain ⟨h59, E59⟩ : ∃ x, x = m_up h58 137 0 1 := ⟨_, rfl⟩
  show m_Y _ _ _ _ _ _ (m_up h58 137 0 1) _
  rw [← E59]
  have Kh59 := g517 137 (by decide) (by decide)
  have g518 : gR 111 137 h58 := fun k q1 q2 => g517 k (by omega) (by omega)
  have L519 := sl_same L509 (upo E59 (by decide))
  have z520 : ∀ j, h59 110 j = 0 := fun j => (upN E59 (fun z => absurd z.1 (by decide))).trans (z510 j)
  have z521 : h59 112 0 = 0 := (upN E59 (fun z => absurd z.1 (by decide))).trans z511
  have z522 : h59 112 1 = 0 := (upN E59 (fun z => absurd z.1 (by decide))).trans z512
  have g523 := g513.put E59 (by decide)
  have g524 := g518.put E59 (by decide)
  have F525 : ∀ k, k < 108 → h59 k = h0 k := frn_up F515 E59 (by decide)
  clear g513 g518 F515 E58 g514 g516 g517 L509 z510 z511 z512
  have g526 : gR 137 138 h59 := gR_1 (gC_of bt_137 (fun j hj => by rw [upf E59]; show (0 : Int) ≤ (if j = 0 then 1 else _) ∧ (if j = 0 then 1 else _) ≤ (1 : Int); split; (decide); (exact Kh59 _ bt_137 j hj)))
  have g527 := g524.join g526
  refine y_dup (M := M_X12_init_109) 243 dX12_init_243 rfl ?_
  refine y_iconst (M := M_X12_init_109) 244 dX12_init_244 ?_
  refine y_lconst (M := M_X12_init_109) 245 dX12_init_245 (v := 0) ?_
  refine y_last (M := M_X12_init_109) 246 dX12_init_246 (tk_g (by decide) o_137) (by decide) (by decide) ?_
  obtain ⟨h60, E60⟩ : ∃ x, x = m_up h59 137 1 0 := ⟨_, rfl⟩
  show m_Y _ _ _ _ _ _ (m_up h59 137 1 0) _
  rw [← E60]
  have Kh60 := g527 137 (by decide) (by decide)
  have g528 : gR 111 137 h59 := fun k q1 q2 => g527 k (by omega) (by omega)
  have L529 := sl_same L519 (upo E60 (by decide))
  have z530 : ∀ j, h60 110 j = 0 := fun j => (upN E60 (fun z => absurd z.1 (by decide))).trans (z520 j)
  have z531 : h60 112 0 = 0 := (upN E60 (fun z => absurd z.1 (by decide))).trans z521
  have z532 : h60 112 1 = 0 := (upN E60 (fun z => absurd z.1 (by decide))).trans z522
  have g533 := g523.put E60 (by decide)
  have g534 := g528.put E60 (by decide)
  have F535 : ∀ k, k < 108 → h60 k = h0 k := frn_up F525 E60 (by decide)
  clear g523 g528 F525 E59 g524 g526 g527 L519 z520 z521 z522
  have g536 : gR 137 138 h60 := gR_1 (gC_of bt_137 (fun j hj => by rw [upf E60]; show (0 : Int) ≤ (if j = 1 then 0 else _) ∧ (if j = 1 then 0 else _) ≤ (1 : Int); split; (decide); (exact Kh60 _ bt_137 j hj)))
  have g537 := g534.join g536
  refine y_dup (M := M_X12_init_109) 247 dX12_init_247 rfl ?_
  refine y_iconst (M := M_X12_init_109) 248 dX12_init_248 ?_
  refine y_lconst (M := M_X12_init_109) 249 dX12_init_249 (v := 0) ?_
  refine y_last (M := M_X12_init_109) 250 dX12_init_250 (tk_g (by decide) o_137) (by decide) (by decide) ?_
  obtain ⟨h61, E61⟩ : ∃ x, x = m_up h60 137 2 0 := ⟨_, rfl⟩
  show m_Y _ _ _ _ _ _ (m_up h60 137 2 0) _
  rw [← E61]
  have Kh61 := g537 137 (by decide) (by decide)
  have g538 : gR 111 137 h60 := fun k q1 q2 => g537 k (by omega) (by omega)
  have L539 := sl_same L529 (upo E61 (by decide))
  have z540 : ∀ j, h61 110 j = 0 := fun j => (upN E61 (fun z => absurd z.1 (by decide))).trans (z530 j)
  have z541 : h61 112 0 = 0 := (upN E61 (fun z => absurd z.1 (by decide))).trans z531
  have z542 : h61 112 1 = 0 := (upN E61 (fun z => absurd z.1 (by decide))).trans z532
  have g543 := g533.put E61 (by decide)
  have g544 := g538.put E61 (by decide)
  have F545 : ∀ k, k < 108 → h61 k = h0 k := frn_up F535 E61 (by decide)
  clear g533 g538 F535 E60 g534 g536 g537 L529 z530 z531 z532
  have g546 : gR 137 138 h61 := gR_1 (gC_of bt_137 (fun j hj => by rw [upf E61]; show (0 : Int) ≤ (if j = 2 then 0 else _) ∧ (if j = 2 then 0 else _) ≤ (1 : Int); split; (decide); (exact Kh61 _ bt_137 j hj)))
  have g547 := g544.join g546
  refine y_dup (M := M_X12_init_109) 251 dX12_init_251 rfl ?_
  refine y_iconst (M := M_X12_init_109) 252 dX12_init_252 ?_
  refine y_lconst (M := M_X12_init_109) 253 dX12_init_253 (v := 0) ?_
  refine y_last (M := M_X12_init_109) 254 dX12_init_254 (tk_g (by decide) o_137) (by decide) (by decide) ?_
  obtain ⟨h62, E62⟩ : ∃ x, x = m_up h61 137 3 0 := ⟨_, rfl⟩
  show m_Y _ _ _ _ _ _ (m_up h61 137 3 0) _
  rw [← E62]
  have Kh62 := g547 137 (by decide) (by decide)
  have g548 : gR 111 137 h61 := fun k q1 q2 => g547 k (by omega) (by omega)
  have L549 := sl_same L539 (upo E62 (by decide))
  have z550 : ∀ j, h62 110 j = 0 := fun j => (upN E62 (fun z => absurd z.1 (by decide))).trans (z540 j)
  have z551 : h62 112 0 = 0 := (upN E62 (fun z => absurd z.1 (by decide))).trans z541
  have z552 : h62 112 1 = 0 := (upN E62 (fun z => absurd z.1 (by decide))).trans z542
  have g553 := g543.put E62 (by decide)
  have g554 := g548.put E62 (by decide)
  have F555 : ∀ k, k < 108 → h62 k = h0 k := frn_up F545 E62 (by decide)
  clear g543 g548 F545 E61 g544 g546 g547 L539 z540 z541 z542
  have g556 : gR 137 138 h62 := gR_1 (gC_of bt_137 (fun j hj => by rw [upf E62]; show (0 : Int) ≤ (if j = 3 then 0 else _) ∧ (if j = 3 then 0 else _) ≤ (1 : Int); split; (decide); (exact Kh62 _ bt_137 j hj)))
  have g557 := g554.join g556
  refine y_dup (M := M_X12_init_109) 255 dX12_init_255 rfl ?_
  refine y_iconst (M := M_X12_init_109) 256 dX12_init_256 ?_
  refine y_lconst (M := M_X12_init_109) 257 dX12_init_257 (v := 0) ?_
  refine y_last (M := M_X12_init_109) 258 dX12_init_258 (tk_g (by decide) o_137) (by decide) (by decide) ?_
  obtain ⟨h63, E63⟩ : ∃ x, x = m_up h62 137 4 0 := ⟨_, rfl⟩
  show m_Y _ _ _ _ _ _ (m_up h62 137 4 0) _
  rw [← E63]
  have Kh63 := g557 137 (by decide) (by decide)
  have g558 : gR 111 137 h62 := fun k q1 q2 => g557 k (by omega) (by omega)
  have L559 := sl_same L549 (upo E63 (by decide))
  have z560 : ∀ j, h63 110 j = 0 := fun j => (upN E63 (fun z => absurd z.1 (by decide))).trans (z550 j)
  have z561 : h63 112 0 = 0 := (upN E63 (fun z => absurd z.1 (by decide))).trans z551
  have z562 : h63 112 1 = 0 := (upN E63 (fun z => absurd z.1 (by decide))).trans z552
  have g563 := g553.put E63 (by decide)
  have g564 := g558.put E63 (by decide)
  have F565 : ∀ k, k < 108 → h63 k = h0 k := frn_up F555 E63 (by decide)
  clear g553 g558 F555 E62 g554 g556 g557 L549 z550 z551 z552
  have g566 : gR 137 138 h63 := gR_1 (gC_of bt_137 (fun j hj => by rw [upf E63]; show (0 : Int) ≤ (if j = 4 then 0 else _) ∧ (if j = 4 then 0 else _) ≤ (1 : Int); split; (decide); (exact Kh63 _ bt_137 j hj)))
  have g567 := g564.join g566
  refine y_putF (M := M_X12_init_109) 259 dX12_init_259 ff_X12_100 (tk_g (by decide) o_108) (fun E m t q => q.1) rfl rfp_a (fun h64 E64 => ?_)
  have L568 := sl_up L559 E64 (by decide)
  have z569 : ∀ j, h64 110 j = 0 := fun j => (upN E64 (fun z => absurd z.1 (by decide))).trans (z560 j)
  have z570 : h64 112 0 = 0 := (upN E64 (fun z => absurd z.1 (by decide))).trans z561
  have z571 : h64 112 1 = 0 := (upN E64 (fun z => absurd z.1 (by decide))).trans z562
  have g572 := g563.put E64 (by decide)
  have g573 := g567.put E64 (by decide)
  have F574 : ∀ k, k < 108 → h64 k = h0 k := frn_up F565 E64 (by decide)
  clear g563 g567 F565 E63 g564 g566 L559 z560 z561 z562
  have f575 : h64 108 42 = ((137 : Nat) : Int) := upE E64
  refine y_aload_n (M := M_X12_init_109) 262 dX12_init_262 rfl ?_
  refine y_bipush (M := M_X12_init_109) 263 dX12_init_263 ?_
  refine y_newaJ (M := M_X12_init_109) 265 dX12_init_265 acJ (N := 20) (by decide) (tk_s o_138) (tk_l (by decide)) (tk_b (by decide) (by decide) (by decide)) (fun h65 E65 => ?_)
  have L576 := sl_c f575 L568
  have L577 := sl_same L576 (m_nw_ne E65 (by decide))
  have z578 : ∀ j, h65 110 j = 0 := fun j => (congrFun (m_nw_ne E65 (by decide)) j).trans (z569 j)
  have z579 : h65 112 0 = 0 := (congrFun (m_nw_ne E65 (by decide)) 0).trans z570
  have z580 : h65 112 1 = 0 := (congrFun (m_nw_ne E65 (by decide)) 1).trans z571
  have g581 := g572.nw E65 (by decide)
  have g582 := g573.nw E65 (by decide)
  have F583 : ∀ k, k < 108 → h65 k = h0 k := frn_nw F574 E65 (by decide)
  clear g572 g573 F574 E64 f575 L568 L576 z569 z570 z571
  have g584 : gR 138 139 h65 := gR_1 (gC_of bt_138 (fun j hj => by rw [nwJ E65]; show (0 : Int) ≤ 0 ∧ (0 : Int) ≤ 99999999; decide))
  have g585 := g582.join g584
  refine y_putF (M := M_X12_init_109) 267 dX12_init_267 ff_X12_103 (tk_g (by decide) o_108) (fun E m t q => q.1) rfl rfp_a (fun h66 E66 => ?_)
  have L586 := sl_up L577 E66 (by decide)
  have z587 : ∀ j, h66 110 j = 0 := fun j => (upN E66 (fun z => absurd z.1 (by decide))).trans (z578 j)
  have z588 : h66 112 0 = 0 := (upN E66 (fun z => absurd z.1 (by decide))).trans z579
  have z589 : h66 112 1 = 0 := (upN E66 (fun z => absurd z.1 (by decide))).trans z580
  have g590 := g581.put E66 (by decide)
  have g591 := g585.put E66 (by decide)
  have F592 : ∀ k, k < 108 → h66 k = h0 k := frn_up F583 E66 (by decide)
  clear g581 g585 F583 E65 g582 g584 L577 z578 z579 z580
  have f593 : h66 108 43 = ((138 : Nat) : Int) := upE E66
  refine y_aload_n (M := M_X12_init_109) 270 dX12_init_270 rfl ?_
  refine y_bipush (M := M_X12_init_109) 271 dX12_init_271 ?_
  refine y_newaJ (M := M_X12_init_109) 273 dX12_init_273 acJ (N := 10) (by decide) (tk_s o_139) (tk_l (by decide)) (tk_b (by decide) (by decide) (by decide)) (fun h67 E67 => ?_)
  have L594 := sl_c f593 L586
  have L595 := sl_same L594 (m_nw_ne E67 (by decide))
  have z596 : ∀ j, h67 110 j = 0 := fun j => (congrFun (m_nw_ne E67 (by decide)) j).trans (z587 j)
  have z597 : h67 112 0 = 0 := (congrFun (m_nw_ne E67 (by decide)) 0).trans z588
  have z598 : h67 112 1 = 0 := (congrFun (m_nw_ne E67 (by decide)) 1).trans z589
  have g599 := g590.nw E67 (by decide)
  have g600 := g591.nw E67 (by decide)
  have F601 : ∀ k, k < 108 → h67 k = h0 k := frn_nw F592 E67 (by decide)
  clear g590 g591 F592 E66 f593 L586 L594 z587 z588 z589
  have g602 : gR 139 140 h67 := gR_1 (gC_of bt_139 (fun j hj => by rw [nwJ E67]; exact trivial))
  have g603 := g600.join g602
  refine y_putF (M := M_X12_init_109) 275 dX12_init_275 ff_X12_106 (tk_g (by decide) o_108) (fun E m t q => q.1) rfl rfp_a (fun h68 E68 => ?_)
  have L604 := sl_up L595 E68 (by decide)
  have z605 : ∀ j, h68 110 j = 0 := fun j => (upN E68 (fun z => absurd z.1 (by decide))).trans (z596 j)
  have z606 : h68 112 0 = 0 := (upN E68 (fun z => absurd z.1 (by decide))).trans z597
  have z607 : h68 112 1 = 0 := (upN E68 (fun z => absurd z.1 (by decide))).trans z598
  have g608 := g599.put E68 (by decide)
  have g609 := g603.put E68 (by decide)
  have F610 : ∀ k, k < 108 → h68 k = h0 k := frn_up F601 E68 (by decide)
  clear g599 g603 F601 E67 g600 g602 L595 z596 z597 z598
  have f611 : h68 108 48 = ((139 : Nat) : Int) := upE E68
  refine y_aload_n (M := M_X12_init_109) 278 dX12_init_278 rfl ?_
  refine y_bipush (M := M_X12_init_109) 279 dX12_init_279 ?_
  refine y_newaJ (M := M_X12_init_109) 281 dX12_init_281 acJ (N := 10) (by decide) (tk_s o_140) (tk_l (by decide)) (tk_b (by decide) (by decide) (by decide)) (fun h69 E69 => ?_)
  have L612 := sl_c f611 L604
  have L613 := sl_same L612 (m_nw_ne E69 (by decide))
  have z614 : ∀ j, h69 110 j = 0 := fun j => (congrFun (m_nw_ne E69 (by decide)) j).trans (z605 j)
  have z615 : h69 112 0 = 0 := (congrFun (m_nw_ne E69 (by decide)) 0).trans z606
  have z616 : h69 112 1 = 0 := (congrFun (m_nw_ne E69 (by decide)) 1).trans z607
  have g617 := g608.nw E69 (by decide)
  have g618 := g609.nw E69 (by decide)
  have F619 : ∀ k, k < 108 → h69 k = h0 k := frn_nw F610 E69 (by decide)
  clear g608 g609 F610 E68 f611 L604 L612 z605 z606 z607
  have g620 : gR 140 141 h69 := gR_1 (gC_of bt_140 (fun j hj => by rw [nwJ E69]; exact trivial))
  have g621 := g618.join g620
  refine y_putF (M := M_X12_init_109) 283 dX12_init_283 ff_X12_109 (tk_g (by decide) o_108) (fun E m t q => q.1) rfl rfp_a (fun h70 E70 => ?_)
  have L622 := sl_up L613 E70 (by decide)
  have z623 : ∀ j, h70 110 j = 0 := fun j => (upN E70 (fun z => absurd z.1 (by decide))).trans (z614 j)
  have z624 : h70 112 0 = 0 := (upN E70 (fun z => absurd z.1 (by decide))).trans z615
  have z625 : h70 112 1 = 0 := (upN E70 (fun z => absurd z.1 (by decide))).trans z616
  have g626 := g617.put E70 (by decide)
  have g627 := g621.put E70 (by decide)
  have F628 : ∀ k, k < 108 → h70 k = h0 k := frn_up F619 E70 (by decide)
  clear g617 g621 F619 E69 g618 g620 L613 z614 z615 z616
  have f629 : h70 108 49 = ((140 : Nat) : Int) := upE E70
  refine y_aload_n (M := M_X12_init_109) 286 dX12_init_286 rfl ?_
  refine y_bipush (M := M_X12_init_109) 287 dX12_init_287 ?_
  refine y_newaJ (M := M_X12_init_109) 289 dX12_init_289 acJ (N := 10) (by decide) (tk_s o_141) (tk_l (by decide)) (tk_b (by decide) (by decide) (by decide)) (fun h71 E71 => ?_)
  have L630 := sl_c f629 L622
  have L631 := sl_same L630 (m_nw_ne E71 (by decide))
  have z632 : ∀ j, h71 110 j = 0 := fun j => (congrFun (m_nw_ne E71 (by decide)) j).trans (z623 j)
  have z633 : h71 112 0 = 0 := (congrFun (m_nw_ne E71 (by decide)) 0).trans z624
  have z634 : h71 112 1 = 0 := (congrFun (m_nw_ne E71 (by decide)) 1).trans z625
  have g635 := g626.nw E71 (by decide)
  have g636 := g627.nw E71 (by decide)
  have F637 : ∀ k, k < 108 → h71 k = h0 k := frn_nw F628 E71 (by decide)
  clear g626 g627 F628 E70 f629 L622 L630 z623 z624 z625
  have g638 : gR 141 142 h71 := gR_1 (gC_of bt_141 (fun j hj => by rw [nwJ E71]; exact trivial))
  have g639 := g636.join g638
  refine y_putF (M := M_X12_init_109) 291 dX12_init_291 ff_X12_112 (tk_g (by decide) o_108) (fun E m t q => q.1) rfl rfp_a (fun h72 E72 => ?_)
  have L640 := sl_up L631 E72 (by decide)
  have z641 : ∀ j, h72 110 j = 0 := fun j => (upN E72 (fun z => absurd z.1 (by decide))).trans (z632 j)
  have z642 : h72 112 0 = 0 := (upN E72 (fun z => absurd z.1 (by decide))).trans z633
  have z643 : h72 112 1 = 0 := (upN E72 (fun z => absurd z.1 (by decide))).trans z634
  have g644 := g635.put E72 (by decide)
  have g645 := g639.put E72 (by decide)
  have F646 : ∀ k, k < 108 → h72 k = h0 k := frn_up F637 E72 (by decide)
  clear g635 g639 F637 E71 g636 g638 L631 z632 z633 z634
  have f647 : h72 108 50 = ((141 : Nat) : Int) := upE E72
  refine y_aload_n (M := M_X12_init_109) 294 dX12_init_294 rfl ?_
  refine y_bipush (M := M_X12_init_109) 295 dX12_init_295 ?_
  refine y_newaJ (M := M_X12_init_109) 297 dX12_init_297 acJ (N := 10) (by decide) (tk_s o_142) (tk_l (by decide)) (tk_b (by decide) (by decide) (by decide)) (fun h73 E73 => ?_)
  have L648 := sl_c f647 L640
  have L649 := sl_same L648 (m_nw_ne E73 (by decide))
  have z650 : ∀ j, h73 110 j = 0 := fun j => (congrFun (m_nw_ne E73 (by decide)) j).trans (z641 j)
  have z651 : h73 112 0 = 0 := (congrFun (m_nw_ne E73 (by decide)) 0).trans z642
  have z652 : h73 112 1 = 0 := (congrFun (m_nw_ne E73 (by decide)) 1).trans z643
  have g653 := g644.nw E73 (by decide)
  have g654 := g645.nw E73 (by decide)
  have F655 : ∀ k, k < 108 → h73 k = h0 k := frn_nw F646 E73 (by decide)
  clear g644 g645 F646 E72 f647 L640 L648 z641 z642 z643
  have g656 : gR 142 143 h73 := gR_1 (gC_of bt_142 (fun j hj => by rw [nwJ E73]; exact trivial))
  have g657 := g654.join g656
  refine y_putF (M := M_X12_init_109) 299 dX12_init_299 ff_X12_115 (tk_g (by decide) o_108) (fun E m t q => q.1) rfl rfp_a (fun h74 E74 => ?_)
  have L658 := sl_up L649 E74 (by decide)
  have z659 : ∀ j, h74 110 j = 0 := fun j => (upN E74 (fun z => absurd z.1 (by decide))).trans (z650 j)
  have z660 : h74 112 0 = 0 := (upN E74 (fun z => absurd z.1 (by decide))).trans z651
  have z661 : h74 112 1 = 0 := (upN E74 (fun z => absurd z.1 (by decide))).trans z652
  have g662 := g653.put E74 (by decide)
  have g663 := g657.put E74 (by decide)
  have F664 : ∀ k, k < 108 → h74 k = h0 k := frn_up F655 E74 (by decide)
  clear g653 g657 F655 E73 g654 g656 L649 z650 z651 z652
  have f665 : h74 108 51 = ((142 : Nat) : Int) := upE E74
  refine y_aload_n (M := M_X12_init_109) 302 dX12_init_302 rfl ?_
  refine y_iconst (M := M_X12_init_109) 303 dX12_init_303 ?_
  refine y_newaJ (M := M_X12_init_109) 304 dX12_init_304 acJ (N := 3) (by decide) (tk_s o_143) (tk_l (by decide)) (tk_b (by decide) (by decide) (by decide)) (fun h75 E75 => ?_)
  have L666 := sl_c f665 L658
  have L667 := sl_same L666 (m_nw_ne E75 (by decide))
  have z668 : ∀ j, h75 110 j = 0 := fun j => (congrFun (m_nw_ne E75 (by decide)) j).trans (z659 j)
  have z669 : h75 112 0 = 0 := (congrFun (m_nw_ne E75 (by decide)) 0).trans z660
  have z670 : h75 112 1 = 0 := (congrFun (m_nw_ne E75 (by decide)) 1).trans z661
  have g671 := g662.nw E75 (by decide)
  have g672 := g663.nw E75 (by decide)
  have F673 : ∀ k, k < 108 → h75 k = h0 k := frn_nw F664 E75 (by decide)
  clear g662 g663 F664 E74 f665 L658 L666 z659 z660 z661
  have g674 : gR 143 144 h75 := gR_1 (gC_of bt_143 (fun j hj => by rw [nwJ E75]; exact trivial))
  have g675 := g672.join g674
  refine y_putF (M := M_X12_init_109) 306 dX12_init_306 ff_X12_118 (tk_g (by decide) o_108) (fun E m t q => q.1) rfl rfp_a (fun h76 E76 => ?_)
  have L676 := sl_up L667 E76 (by decide)
  have z677 : ∀ j, h76 110 j = 0 := fun j => (upN E76 (fun z => absurd z.1 (by decide))).trans (z668 j)
  have z678 : h76 112 0 = 0 := (upN E76 (fun z => absurd z.1 (by decide))).trans z669
  have z679 : h76 112 1 = 0 := (upN E76 (fun z => absurd z.1 (by decide))).trans z670
  have g680 := g671.put E76 (by decide)
  have g681 := g675.put E76 (by decide)
  have F682 : ∀ k, k < 108 → h76 k = h0 k := frn_up F673 E76 (by decide)
  clear g671 g675 F673 E75 g672 g674 L667 z668 z669 z670
  have f683 : h76 108 52 = ((143 : Nat) : Int) := upE E76
  refine y_aload_n (M := M_X12_init_109) 309 dX12_init_309 rfl ?_
  refine y_iconst (M := M_X12_init_109) 310 dX12_init_310 ?_
  refine y_newaJ (M := M_X12_init_109) 311 dX12_init_311 acJ (N := 3) (by decide) (tk_s o_144) (tk_l (by decide)) (tk_b (by decide) (by decide) (by decide)) (fun h77 E77 => ?_)
  have L684 := sl_c f683 L676
  have L685 := sl_same L684 (m_nw_ne E77 (by decide))
  have z686 : ∀ j, h77 110 j = 0 := fun j => (congrFun (m_nw_ne E77 (by decide)) j).trans (z677 j)
  have z687 : h77 112 0 = 0 := (congrFun (m_nw_ne E77 (by decide)) 0).trans z678
  have z688 : h77 112 1 = 0 := (congrFun (m_nw_ne E77 (by decide)) 1).trans z679
  have g689 := g680.nw E77 (by decide)
  have g690 := g681.nw E77 (by decide)
  have F691 : ∀ k, k < 108 → h77 k = h0 k := frn_nw F682 E77 (by decide)
  clear g680 g681 F682 E76 f683 L676 L684 z677 z678 z679
  have g692 : gR 144 145 h77 := gR_1 (gC_of bt_144 (fun j hj => by rw [nwJ E77]; exact trivial))
  have g693 := g690.join g692
  refine y_putF (M := M_X12_init_109) 313 dX12_init_313 ff_X12_121 (tk_g (by decide) o_108) (fun E m t q => q.1) rfl rfp_a (fun h78 E78 => ?_)
  have L694 := sl_up L685 E78 (by decide)
  have z695 : ∀ j, h78 110 j = 0 := fun j => (upN E78 (fun z => absurd z.1 (by decide))).trans (z686 j)
  have z696 : h78 112 0 = 0 := (upN E78 (fun z => absurd z.1 (by decide))).trans z687
  have z697 : h78 112 1 = 0 := (upN E78 (fun z => absurd z.1 (by decide))).trans z688
  have g698 := g689.put E78 (by decide)
  have g699 := g693.put E78 (by decide)
  have F700 : ∀ k, k < 108 → h78 k = h0 k := frn_up F691 E78 (by decide)
  clear g689 g693 F691 E77 g690 g692 L685 z686 z687 z688
  have f701 : h78 108 53 = ((144 : Nat) : Int) := upE E78
  refine y_aload_n (M := M_X12_init_109) 316 dX12_init_316 rfl ?_
  refine y_bipush (M := M_X12_init_109) 317 dX12_init_317 ?_
  refine y_newaI (M := M_X12_init_109) 319 dX12_init_319 acI (N := 16) (by decide) (tk_s o_145) (tk_l (by decide)) (tk_b (by decide) (by decide) (by decide)) (fun h79 E79 => ?_)
  have L702 := sl_c f701 L694
  have L703 := sl_same L702 (m_nw_ne E79 (by decide))
  have z704 : ∀ j, h79 110 j = 0 := fun j => (congrFun (m_nw_ne E79 (by decide)) j).trans (z695 j)
  have z705 : h79 112 0 = 0 := (congrFun (m_nw_ne E79 (by decide)) 0).trans z696
  have z706 : h79 112 1 = 0 := (congrFun (m_nw_ne E79 (by decide)) 1).trans z697
  have g707 := g698.nw E79 (by decide)
  have g708 := g699.nw E79 (by decide)
  have F709 : ∀ k, k < 108 → h79 k = h0 k := frn_nw F700 E79 (by decide)
  clear g698 g699 F700 E78 f701 L694 L702 z695 z696 z697
  have g710 : gR 145 146 h79 := gR_1 (gC_of bt_145 (fun j hj => by rw [nwI E79]; show (0 : Int) ≤ 0 ∧ (0 : Int) ≤ 15; decide))
  have g711 := g708.join g710
  refine y_putF (M := M_X12_init_109) 321 dX12_init_321 ff_X12_124 (tk_g (by decide) o_108) (fun E m t q => q.1) rfl rfp_a (fun h80 E80 => ?_)
  have L712 := sl_up L703 E80 (by decide)
  have z713 : ∀ j, h80 110 j = 0 := fun j => (upN E80 (fun z => absurd z.1 (by decide))).trans (z704 j)
  have z714 : h80 112 0 = 0 := (upN E80 (fun z => absurd z.1 (by decide))).trans z705
  have z715 : h80 112 1 = 0 := (upN E80 (fun z => absurd z.1 (by decide))).trans z706
  have g716 := g707.put E80 (by decide)
  have g717 := g711.put E80 (by decide)
  have F718 : ∀ k, k < 108 → h80 k = h0 k := frn_up F709 E80 (by decide)
  clear g707 g711 F709 E79 g708 g710 L703 z704 z705 z706
  have f719 : h80 108 56 = ((145 : Nat) : Int) := upE E80
  refine y_aload_n (M := M_X12_init_109) 324 dX12_init_324 rfl ?_
  refine y_iconst (M := M_X12_init_109) 325 dX12_init_325 ?_
  refine y_newaI (M := M_X12_init_109) 326 dX12_init_326 acI (N := 3) (by decide) (tk_s o_146) (tk_l (by decide)) (tk_b (by decide) (by decide) (by decide)) (fun h81 E81 => ?_)
  have L720 := sl_c f719 L712
  have L721 := sl_same L720 (m_nw_ne E81 (by decide))
  have z722 : ∀ j, h81 110 j = 0 := fun j => (congrFun (m_nw_ne E81 (by decide)) j).trans (z713 j)
  have z723 : h81 112 0 = 0 := (congrFun (m_nw_ne E81 (by decide)) 0).trans z714
  have z724 : h81 112 1 = 0 := (congrFun (m_nw_ne E81 (by decide)) 1).trans z715
  have g725 := g716.nw E81 (by decide)
  have g726 := g717.nw E81 (by decide)
  have F727 : ∀ k, k < 108 → h81 k = h0 k := frn_nw F718 E81 (by decide)
  clear g716 g717 F718 E80 f719 L712 L720 z713 z714 z715
  have g728 : gR 146 147 h81 := gR_1 (gC_of bt_146 (fun j hj => by rw [nwI E81]; show (0 : Int) ≤ 0 ∧ (0 : Int) ≤ 31; decide))
  have g729 := g726.join g728
  refine y_putF (M := M_X12_init_109) 328 dX12_init_328 ff_X12_127 (tk_g (by decide) o_108) (fun E m t q => q.1) rfl rfp_a (fun h82 E82 => ?_)
  have L730 := sl_up L721 E82 (by decide)
  have z731 : ∀ j, h82 110 j = 0 := fun j => (upN E82 (fun z => absurd z.1 (by decide))).trans (z722 j)
  have z732 : h82 112 0 = 0 := (upN E82 (fun z => absurd z.1 (by decide))).trans z723
  have z733 : h82 112 1 = 0 := (upN E82 (fun z => absurd z.1 (by decide))).trans z724
  have g734 := g725.put E82 (by decide)
  have g735 := g729.put E82 (by decide)
  have F736 : ∀ k, k < 108 → h82 k = h0 k := frn_up F727 E82 (by decide)
  clear g725 g729 F727 E81 g726 g728 L721 z722 z723 z724
  have f737 : h82 108 57 = ((146 : Nat) : Int) := upE E82
  refine y_aload_n (M := M_X12_init_109) 331 dX12_init_331 rfl ?_
  refine y_bipush (M := M_X12_init_109) 332 dX12_init_332 ?_
  refine y_newaI (M := M_X12_init_109) 334 dX12_init_334 acI (N := 32) (by decide) (tk_s o_147) (tk_l (by decide)) (tk_b (by decide) (by decide) (by decide)) (fun h83 E83 => ?_)
  have L738 := sl_c f737 L730
  have L739 := sl_same L738 (m_nw_ne E83 (by decide))
  have z740 : ∀ j, h83 110 j = 0 := fun j => (congrFun (m_nw_ne E83 (by decide)) j).trans (z731 j)
  have z741 : h83 112 0 = 0 := (congrFun (m_nw_ne E83 (by decide)) 0).trans z732
  have z742 : h83 112 1 = 0 := (congrFun (m_nw_ne E83 (by decide)) 1).trans z733
  have g743 := g734.nw E83 (by decide)
  have g744 := g735.nw E83 (by decide)
  have F745 : ∀ k, k < 108 → h83 k = h0 k := frn_nw F736 E83 (by decide)
  clear g734 g735 F736 E82 f737 L730 L738 z731 z732 z733
  have g746 : gR 147 148 h83 := gR_1 (gC_of bt_147 (fun j hj => by rw [nwI E83]; show (0 : Int) ≤ 0 ∧ (0 : Int) ≤ 3; decide))
  have g747 := g744.join g746
  refine y_putF (M := M_X12_init_109) 336 dX12_init_336 ff_X12_130 (tk_g (by decide) o_108) (fun E m t q => q.1) rfl rfp_a (fun h84 E84 => ?_)
  have L748 := sl_up L739 E84 (by decide)
  have z749 : ∀ j, h84 110 j = 0 := fun j => (upN E84 (fun z => absurd z.1 (by decide))).trans (z740 j)
  have z750 : h84 112 0 = 0 := (upN E84 (fun z => absurd z.1 (by decide))).trans z741
  have z751 : h84 112 1 = 0 := (upN E84 (fun z => absurd z.1 (by decide))).trans z742
  have g752 := g743.put E84 (by decide)
  have g753 := g747.put E84 (by decide)
  have F754 : ∀ k, k < 108 → h84 k = h0 k := frn_up F745 E84 (by decide)
  clear g743 g747 F745 E83 g744 g746 L739 z740 z741 z742
  have f755 : h84 108 59 = ((147 : Nat) : Int) := upE E84
  have L756 := sl_c f755 L748
  have e3_ := sl_g L756 3 ((110 : Nat) : Int) (by decide)
  refine y_iconst (M := M_mi) 339 dX12_init_339 ?_
  refine y_istore_n (M := M_mi) 340 dX12_init_340 (ls' := [some (mR 108), some (mI 0)]) (by decide) rfl ?_
  refine mi_1 (hs := h84) e3_ (fun h1_ I1 => ?_) 32 0 h84 (by decide) (by decide) (by decide) ⟨fun _ _ => rfl, fun j => ?_⟩
  · refine y_iconst (M := M_mi) 363 dX12_init_363 ?_
    refine y_istore_n (M := M_mi) 364 dX12_init_364 (ls' := [some (mR 108), some (mI 0)]) (by decide) rfl ?_
    refine mi_2 (hs := h84) e3_ (fun h2_ I2 => ?_) 6 0 h1_ (by decide) (by decide) (by decide) I1
    refine y_iconst (M := M_mi) 387 dX12_init_387 ?_
    refine y_istore_n (M := M_mi) 388 dX12_init_388 (ls' := [some (mR 108), some (mI 0)]) (by decide) rfl ?_
    refine mi_3 (hs := h84) e3_ (fun hz I3 => ?_) 16 0 h2_ (by decide) (by decide) (by decide) I2
    have CE : ∀ k, k ≠ 110 → hz k = h84 k := I3.1
    have L757 := sl_same L756 (CE 108 (by decide))
    have g758 := g752.cell CE (by decide)
    have g759 := g753.cell CE (by decide)
    have F760 : ∀ k, k < 108 → hz k = h0 k := frn_ce F754 CE (by decide)
    clear g752 g753 F754 E84 f755 L748 L756
    have g761 : gR 110 111 hz := gR_1 (rw_ok I3.2)
    have g762 := g758.join g761
    have g763 := g762.join g759
    have g764 : gR 108 109 hz := gR_1 (gC_of bt_108 (fun j hj => by have q : j = 0 ∨ j = 1 ∨ j = 2 ∨ j = 3 ∨ j = 4 ∨ j = 5 ∨ j = 6 ∨ j = 7 ∨ j = 8 ∨ j = 9 ∨ j = 10 ∨ j = 11 ∨ j = 12 ∨ j = 13 ∨ j = 14 ∨ j = 15 ∨ j = 16 ∨ j = 17 ∨ j = 18 ∨ j = 19 ∨ j = 20 ∨ j = 21 ∨ j = 22 ∨ j = 23 ∨ j = 24 ∨ j = 25 ∨ j = 26 ∨ j = 27 ∨ j = 28 ∨ j = 29 ∨ j = 30 ∨ j = 31 ∨ j = 32 ∨ j = 33 ∨ j = 34 ∨ j = 35 ∨ j = 36 ∨ j = 37 ∨ j = 38 ∨ j = 39 ∨ j = 40 ∨ j = 41 ∨ j = 42 ∨ j = 43 ∨ j = 44 ∨ j = 45 ∨ j = 46 ∨ j = 47 ∨ j = 48 ∨ j = 49 ∨ j = 50 ∨ j = 51 ∨ j = 52 ∨ j = 53 ∨ j = 54 ∨ j = 55 ∨ j = 56 ∨ j = 57 ∨ j = 58 ∨ j = 59 ∨ j = 60 ∨ j = 61 ∨ j = 62 := (by omega); rcases q with rfl | rfl | rfl | rfl | rfl | rfl | rfl | rfl | rfl | rfl | rfl | rfl | rfl | rfl | rfl | rfl | rfl | rfl | rfl | rfl | rfl | rfl | rfl | rfl | rfl | rfl | rfl | rfl | rfl | rfl | rfl | rfl | rfl | rfl | rfl | rfl | rfl | rfl | rfl | rfl | rfl | rfl | rfl | rfl | rfl | rfl | rfl | rfl | rfl | rfl | rfl | rfl | rfl | rfl | rfl | rfl | rfl | rfl | rfl | rfl | rfl | rfl | rfl; exact trivial; exact trivial; exact sl_g L757 2 ((109 : Nat) : Int) (by decide); exact sl_g L757 3 ((110 : Nat) : Int) (by decide); exact sl_g L757 4 ((111 : Nat) : Int) (by decide); exact sl_g L757 5 ((112 : Nat) : Int) (by decide); exact trivial; exact sl_g L757 7 ((113 : Nat) : Int) (by decide); (show (0 : Int) ≤ hz 108 8 ∧ hz 108 8 ≤ (400 : Int); rw [sl_g L757 8 0 (by decide)]; decide); (show (0 : Int) ≤ hz 108 9 ∧ hz 108 9 ≤ (400 : Int); rw [sl_g L757 9 0 (by decide)]; decide); (show (0 : Int) ≤ hz 108 10 ∧ hz 108 10 ≤ (400 : Int); rw [sl_g L757 10 0 (by decide)]; decide); (show (0 : Int) ≤ hz 108 11 ∧ hz 108 11 ≤ (3 : Int); rw [sl_g L757 11 0 (by decide)]; decide); exact trivial; exact trivial; (show (0 : Int) ≤ hz 108 14 ∧ hz 108 14 ≤ (1 : Int); rw [sl_g L757 14 0 (by decide)]; decide); exact sl_g L757 15 ((114 : Nat) : Int) (by decide); (show (0 : Int) ≤ hz 108 16 ∧ hz 108 16 ≤ (200 : Int); rw [sl_g L757 16 0 (by decide)]; decide); (show (0 : Int) ≤ hz 108 17 ∧ hz 108 17 ≤ (24 : Int); rw [sl_g L757 17 0 (by decide)]; decide); (show (0 : Int) ≤ hz 108 18 ∧ hz 108 18 ≤ (6 : Int); rw [sl_g L757 18 0 (by decide)]; decide); exact sl_g L757 19 ((115 : Nat) : Int) (by decide); exact sl_g L757 20 ((116 : Nat) : Int) (by decide); (show (0 : Int) ≤ hz 108 21 ∧ hz 108 21 ≤ (60 : Int); rw [sl_g L757 21 0 (by decide)]; decide); exact sl_g L757 22 ((117 : Nat) : Int) (by decide); exact sl_g L757 23 ((118 : Nat) : Int) (by decide); exact sl_g L757 24 ((119 : Nat) : Int) (by decide); exact sl_g L757 25 ((120 : Nat) : Int) (by decide); exact sl_g L757 26 ((121 : Nat) : Int) (by decide); exact sl_g L757 27 ((122 : Nat) : Int) (by decide); exact sl_g L757 28 ((123 : Nat) : Int) (by decide); exact sl_g L757 29 ((124 : Nat) : Int) (by decide); exact sl_g L757 30 ((125 : Nat) : Int) (by decide); exact sl_g L757 31 ((126 : Nat) : Int) (by decide); exact sl_g L757 32 ((127 : Nat) : Int) (by decide); exact sl_g L757 33 ((128 : Nat) : Int) (by decide); exact sl_g L757 34 ((129 : Nat) : Int) (by decide); exact sl_g L757 35 ((130 : Nat) : Int) (by decide); exact sl_g L757 36 ((131 : Nat) : Int) (by decide); exact sl_g L757 37 ((132 : Nat) : Int) (by decide); exact sl_g L757 38 ((133 : Nat) : Int) (by decide); exact sl_g L757 39 ((134 : Nat) : Int) (by decide); exact sl_g L757 40 ((135 : Nat) : Int) (by decide); exact sl_g L757 41 ((136 : Nat) : Int) (by decide); exact sl_g L757 42 ((137 : Nat) : Int) (by decide); exact sl_g L757 43 ((138 : Nat) : Int) (by decide); (show (0 : Int) ≤ hz 108 44 ∧ hz 108 44 ≤ (1 : Int); rw [sl_g L757 44 0 (by decide)]; decide); (show (0 : Int) ≤ hz 108 45 ∧ hz 108 45 ≤ (1 : Int); rw [sl_g L757 45 0 (by decide)]; decide); (show (0 : Int) ≤ hz 108 46 ∧ hz 108 46 ≤ (1 : Int); rw [sl_g L757 46 0 (by decide)]; decide); (show (0 : Int) ≤ hz 108 47 ∧ hz 108 47 ≤ (1 : Int); rw [sl_g L757 47 0 (by decide)]; decide); exact sl_g L757 48 ((139 : Nat) : Int) (by decide); exact sl_g L757 49 ((140 : Nat) : Int) (by decide); exact sl_g L757 50 ((141 : Nat) : Int) (by decide); exact sl_g L757 51 ((142 : Nat) : Int) (by decide); exact sl_g L757 52 ((143 : Nat) : Int) (by decide); exact sl_g L757 53 ((144 : Nat) : Int) (by decide); (show (0 : Int) ≤ hz 108 54 ∧ hz 108 54 ≤ (1 : Int); rw [sl_g L757 54 0 (by decide)]; decide); (show (0 : Int) ≤ hz 108 55 ∧ hz 108 55 ≤ (1 : Int); rw [sl_g L757 55 0 (by decide)]; decide); exact sl_g L757 56 ((145 : Nat) : Int) (by decide); exact sl_g L757 57 ((146 : Nat) : Int) (by decide); (show (0 : Int) ≤ hz 108 58 ∧ hz 108 58 ≤ (3 : Int); rw [sl_g L757 58 0 (by decide)]; decide); exact sl_g L757 59 ((147 : Nat) : Int) (by decide); (show (0 : Int) ≤ hz 108 60 ∧ hz 108 60 ≤ (1 : Int); rw [sl_g L757 60 0 (by decide)]; decide); (show (-1 : Int) ≤ hz 108 61 ∧ hz 108 61 ≤ (31 : Int); rw [sl_g L757 61 0 (by decide)]; decide); (show (-1 : Int) ≤ hz 108 62 ∧ hz 108 62 ≤ (31 : Int); rw [sl_g L757 62 0 (by decide)]; decide)))
    have g765 := g764.join g763
    have z0 : hz 110 0 = 0 := (I3.2 0).trans rfl
    have k0 : hz 112 0 = 0 := (congrFun (CE 112 (by decide)) 0).trans z750
    have k1 : hz 112 1 = 0 := (congrFun (CE 112 (by decide)) 1).trans z751
    exact y_vret (M := M_mi) 412 dX12_init_412 rfl ⟨rfl, rfl, g765, F760, (sl_g L757 8 0 (by decide)), z0, k0, k1⟩
  · rw [z749]; exact (rwF_0 j).symm
