abbrev M_X12_init_109 : m_M := mkM RX12 yX12_init cX12_init 2 1 20 109 148 none
set_option maxHeartbeats 4000000 in
set_option maxRecDepth 100000 in
theorem c_X12_init_109 (h0 : m_H) (e6 : h0 108 6 = 0) (e8 : h0 108 8 = 0) (e9 : h0 108 9 = 0) (e10 : h0 108 10 = 0) (e11 : h0 108 11 = 0) (e14 : h0 108 14 = 0) (e16 : h0 108 16 = 0) (e17 : h0 108 17 = 0) (e18 : h0 108 18 = 0) (e21 : h0 108 21 = 0) (e44 : h0 108 44 = 0) (e45 : h0 108 45 = 0) (e46 : h0 108 46 = 0) (e47 : h0 108 47 = 0) (e54 : h0 108 54 = 0) (e55 : h0 108 55 = 0) (e58 : h0 108 58 = 0) (e60 : h0 108 60 = 0) (e61 : h0 108 61 = 0) (e62 : h0 108 62 = 0) : m_D M_X12_init_109 (oF.take 109) (oF.take 148) [mR 108] h0 (fun r h' => r = none ∧ gR 108 148 h' ∧ (∀ k, k < 108 → h' k = h0 k) ∧ h' 108 8 = 0 ∧ h' 110 0 = 0 ∧ h' 112 0 = 0 ∧ h' 112 1 = 0 ∧ h' 108 60 = 0 ∧ h' 108 6 = 0 ∧ h' 108 13 = (-1) ∧ (∀ j, h' 110 j = rwF 32 6 16 j)) := by
  refine tk_D (by decide) (by decide) (by decide) rfl (by decide) (ls := [some (mR 108), none]) rfl ?_
  refine y_aload_n (M := M_X12_init_109) 0 dX12_init_0 rfl ?_
  refine y_objI (M := M_X12_init_109) 1 dX12_init_1 ol_X12 ow2 ow3 (by decide) (by decide) ?_
  refine y_aload_n (M := M_X12_init_109) 4 dX12_init_4 rfl ?_
  refine y_bipush (M := M_X12_init_109) 5 dX12_init_5 ?_
  refine y_newaI (M := M_X12_init_109) 7 dX12_init_7 acI (N := 7) (by decide) (tk_s o_109) (tk_l (by decide)) (tk_b (by decide) (by decide) (by decide)) (fun h1 E1 => ?_)
  have L1 := sl_c e6 sl_nil
  have L2 := sl_c e8 L1
  have L3 := sl_c e9 L2
  have L4 := sl_c e10 L3
  have L5 := sl_c e11 L4
  have L6 := sl_c e14 L5
  have L7 := sl_c e16 L6
  have L8 := sl_c e17 L7
  have L9 := sl_c e18 L8
  have L10 := sl_c e21 L9
  have L11 := sl_c e44 L10
  have L12 := sl_c e45 L11
  have L13 := sl_c e46 L12
  have L14 := sl_c e47 L13
  have L15 := sl_c e54 L14
  have L16 := sl_c e55 L15
  have L17 := sl_c e58 L16
  have L18 := sl_c e60 L17
  have L19 := sl_c e61 L18
  have L20 := sl_c e62 L19
  have L21 := sl_same L20 (m_nw_ne E1 (by decide))
  have F22 : ∀ k, k < 108 → h1 k = h0 k := frn_nw (fun k _ => rfl) E1 (by decide)
  clear L1 L2 L3 L4 L5 L6 L7 L8 L9 L10 L11 L12 L13 L14 L15 L16 L17 L18 L19 L20
  have g23 : gR 109 110 h1 := gR_1 (gC_of bt_109 (fun j hj => by rw [nwI E1]; exact trivial))
  refine y_putF (M := M_X12_init_109) 9 dX12_init_9 ff_X12_7 (tk_g (by decide) o_108) (fun E m t q => q.1) rfl rfp_a (fun h2 E2 => ?_)
  have L24 := sl_up L21 E2 (by decide)
  have g25 := g23.put E2 (by decide)
  have F26 : ∀ k, k < 108 → h2 k = h0 k := frn_up F22 E2 (by decide)
  clear g23 F22 E1 L21
  have f27 : h2 108 2 = ((109 : Nat) : Int) := upE E2
  refine y_aload_n (M := M_X12_init_109) 12 dX12_init_12 rfl ?_
  refine y_sipush (M := M_X12_init_109) 13 dX12_init_13 ?_
  refine y_newaI (M := M_X12_init_109) 16 dX12_init_16 acI (N := 200) (by decide) (tk_s o_110) (tk_l (by decide)) (tk_b (by decide) (by decide) (by decide)) (fun h3 E3 => ?_)
  have L28 := sl_c f27 L24
  have L29 := sl_same L28 (m_nw_ne E3 (by decide))
  have z30 : ∀ j, h3 110 j = 0 := nwI E3
  have g31 := g25.nw E3 (by decide)
  have F32 : ∀ k, k < 108 → h3 k = h0 k := frn_nw F26 E3 (by decide)
  clear g25 F26 E2 f27 L24 L28
  refine y_putF (M := M_X12_init_109) 18 dX12_init_18 ff_X12_13 (tk_g (by decide) o_108) (fun E m t q => q.1) rfl rfp_a (fun h4 E4 => ?_)
  have L33 := sl_up L29 E4 (by decide)
  have z34 : ∀ j, h4 110 j = 0 := fun j => (upN E4 (fun z => absurd z.1 (by decide))).trans (z30 j)
  have g35 := g31.put E4 (by decide)
  have F36 : ∀ k, k < 108 → h4 k = h0 k := frn_up F32 E4 (by decide)
  clear g31 F32 E3 L29 z30
  have f37 : h4 108 3 = ((110 : Nat) : Int) := upE E4
  refine y_aload_n (M := M_X12_init_109) 21 dX12_init_21 rfl ?_
  refine y_sipush (M := M_X12_init_109) 22 dX12_init_22 ?_
  refine y_newaI (M := M_X12_init_109) 25 dX12_init_25 acI (N := 400) (by decide) (tk_s o_111) (tk_l (by decide)) (tk_b (by decide) (by decide) (by decide)) (fun h5 E5 => ?_)
  have L38 := sl_c f37 L33
  have L39 := sl_same L38 (m_nw_ne E5 (by decide))
  have z40 : ∀ j, h5 110 j = 0 := fun j => (congrFun (m_nw_ne E5 (by decide)) j).trans (z34 j)
  have g41 := g35.nw E5 (by decide)
  have F42 : ∀ k, k < 108 → h5 k = h0 k := frn_nw F36 E5 (by decide)
  clear g35 F36 E4 f37 L33 L38 z34
  have g43 : gR 111 112 h5 := gR_1 (gC_of bt_111 (fun j hj => by rw [nwI E5]; exact trivial))
  refine y_putF (M := M_X12_init_109) 27 dX12_init_27 ff_X12_16 (tk_g (by decide) o_108) (fun E m t q => q.1) rfl rfp_a (fun h6 E6 => ?_)
  have L44 := sl_up L39 E6 (by decide)
  have z45 : ∀ j, h6 110 j = 0 := fun j => (upN E6 (fun z => absurd z.1 (by decide))).trans (z40 j)
  have g46 := g41.put E6 (by decide)
  have g47 := g43.put E6 (by decide)
  have F48 : ∀ k, k < 108 → h6 k = h0 k := frn_up F42 E6 (by decide)
  clear g41 g43 F42 E5 L39 z40
  have f49 : h6 108 4 = ((111 : Nat) : Int) := upE E6
  refine y_aload_n (M := M_X12_init_109) 30 dX12_init_30 rfl ?_
  refine y_iconst (M := M_X12_init_109) 31 dX12_init_31 ?_
  refine y_newaZ (M := M_X12_init_109) 32 dX12_init_32 acZ (N := 2) (by decide) (tk_s o_112) (tk_l (by decide)) (tk_b (by decide) (by decide) (by decide)) (fun h7 E7 => ?_)
  have L50 := sl_c f49 L44
  have L51 := sl_same L50 (m_nw_ne E7 (by decide))
  have z52 : ∀ j, h7 110 j = 0 := fun j => (congrFun (m_nw_ne E7 (by decide)) j).trans (z45 j)
  have z53 : h7 112 0 = 0 := nwZ E7 0
  have z54 : h7 112 1 = 0 := nwZ E7 1
  have g55 := g46.nw E7 (by decide)
  have g56 := g47.nw E7 (by decide)
  have F57 : ∀ k, k < 108 → h7 k = h0 k := frn_nw F48 E7 (by decide)
  clear g46 g47 F48 E6 f49 L44 L50 z45
  have g58 : gR 112 113 h7 := gR_1 (gC_of bt_112 (fun j hj => by rw [nwZ E7]; show (0 : Int) ≤ 0 ∧ (0 : Int) ≤ 1; decide))
  have g59 := g56.join g58
  refine y_putF (M := M_X12_init_109) 34 dX12_init_34 ff_X12_19 (tk_g (by decide) o_108) (fun E m t q => q.1) rfl rfp_a (fun h8 E8 => ?_)
  have L60 := sl_up L51 E8 (by decide)
  have z61 : ∀ j, h8 110 j = 0 := fun j => (upN E8 (fun z => absurd z.1 (by decide))).trans (z52 j)
  have z62 : h8 112 0 = 0 := (upN E8 (fun z => absurd z.1 (by decide))).trans z53
  have z63 : h8 112 1 = 0 := (upN E8 (fun z => absurd z.1 (by decide))).trans z54
  have g64 := g55.put E8 (by decide)
  have g65 := g59.put E8 (by decide)
  have F66 : ∀ k, k < 108 → h8 k = h0 k := frn_up F57 E8 (by decide)
  clear g55 g59 F57 E7 g56 g58 L51 z52 z53 z54
  have f67 : h8 108 5 = ((112 : Nat) : Int) := upE E8
  refine y_aload_n (M := M_X12_init_109) 37 dX12_init_37 rfl ?_
  refine y_sipush (M := M_X12_init_109) 38 dX12_init_38 ?_
  refine y_newaI (M := M_X12_init_109) 41 dX12_init_41 acI (N := 400) (by decide) (tk_s o_113) (tk_l (by decide)) (tk_b (by decide) (by decide) (by decide)) (fun h9 E9 => ?_)
  have L68 := sl_c f67 L60
  have L69 := sl_same L68 (m_nw_ne E9 (by decide))
  have z70 : ∀ j, h9 110 j = 0 := fun j => (congrFun (m_nw_ne E9 (by decide)) j).trans (z61 j)
  have z71 : h9 112 0 = 0 := (congrFun (m_nw_ne E9 (by decide)) 0).trans z62
  have z72 : h9 112 1 = 0 := (congrFun (m_nw_ne E9 (by decide)) 1).trans z63
  have g73 := g64.nw E9 (by decide)
  have g74 := g65.nw E9 (by decide)
  have F75 : ∀ k, k < 108 → h9 k = h0 k := frn_nw F66 E9 (by decide)
  clear g64 g65 F66 E8 f67 L60 L68 z61 z62 z63
  have g76 : gR 113 114 h9 := gR_1 (gC_of bt_113 (fun j hj => by rw [nwI E9]; show (0 : Int) ≤ 0 ∧ (0 : Int) ≤ 255; decide))
  have g77 := g74.join g76
  refine y_putF (M := M_X12_init_109) 43 dX12_init_43 ff_X12_23 (tk_g (by decide) o_108) (fun E m t q => q.1) rfl rfp_a (fun h10 E10 => ?_)
  have L78 := sl_up L69 E10 (by decide)
  have z79 : ∀ j, h10 110 j = 0 := fun j => (upN E10 (fun z => absurd z.1 (by decide))).trans (z70 j)
  have z80 : h10 112 0 = 0 := (upN E10 (fun z => absurd z.1 (by decide))).trans z71
  have z81 : h10 112 1 = 0 := (upN E10 (fun z => absurd z.1 (by decide))).trans z72
  have g82 := g73.put E10 (by decide)
  have g83 := g77.put E10 (by decide)
  have F84 : ∀ k, k < 108 → h10 k = h0 k := frn_up F75 E10 (by decide)
  clear g73 g77 F75 E9 g74 g76 L69 z70 z71 z72
  have f85 : h10 108 7 = ((113 : Nat) : Int) := upE E10
  refine y_aload_n (M := M_X12_init_109) 46 dX12_init_46 rfl ?_
  refine y_iconst (M := M_X12_init_109) 47 dX12_init_47 ?_
  refine y_putI (M := M_X12_init_109) 48 dX12_init_48 p_X12_26 (tk_g (by decide) o_108) rfl ?_
  obtain ⟨h11, E11⟩ : ∃ x, x = m_up h10 108 13 (-1) := ⟨_, rfl⟩
  rw [← E11]
  have L86 := sl_c f85 L78
  have L87 := sl_up L86 E11 (by decide)
  have z88 : ∀ j, h11 110 j = 0 := fun j => (upN E11 (fun z => absurd z.1 (by decide))).trans (z79 j)
  have z89 : h11 112 0 = 0 := (upN E11 (fun z => absurd z.1 (by decide))).trans z80
  have z90 : h11 112 1 = 0 := (upN E11 (fun z => absurd z.1 (by decide))).trans z81
  have g91 := g82.put E11 (by decide)
  have g92 := g83.put E11 (by decide)
  have F93 : ∀ k, k < 108 → h11 k = h0 k := frn_up F84 E11 (by decide)
  clear g82 g83 F84 E10 f85 L78 L86 z79 z80 z81
  have f94 : h11 108 13 = (-1) := upE E11
  refine y_aload_n (M := M_X12_init_109) 51 dX12_init_51 rfl ?_
  refine y_sipush (M := M_X12_init_109) 52 dX12_init_52 ?_
  refine y_newaI (M := M_X12_init_109) 55 dX12_init_55 acI (N := 1000) (by decide) (tk_s o_114) (tk_l (by decide)) (tk_b (by decide) (by decide) (by decide)) (fun h12 E12 => ?_)
  have L95 := sl_c f94 L87
  have L96 := sl_same L95 (m_nw_ne E12 (by decide))
  have z97 : ∀ j, h12 110 j = 0 := fun j => (congrFun (m_nw_ne E12 (by decide)) j).trans (z88 j)
  have z98 : h12 112 0 = 0 := (congrFun (m_nw_ne E12 (by decide)) 0).trans z89
  have z99 : h12 112 1 = 0 := (congrFun (m_nw_ne E12 (by decide)) 1).trans z90
  have g100 := g91.nw E12 (by decide)
  have g101 := g92.nw E12 (by decide)
  have F102 : ∀ k, k < 108 → h12 k = h0 k := frn_nw F93 E12 (by decide)
  clear g91 g92 F93 E11 f94 L87 L95 z88 z89 z90
  have g103 : gR 114 115 h12 := gR_1 (gC_of bt_114 (fun j hj => by rw [nwI E12]; exact trivial))
  have g104 := g101.join g103
  refine y_putF (M := M_X12_init_109) 57 dX12_init_57 ff_X12_30 (tk_g (by decide) o_108) (fun E m t q => q.1) rfl rfp_a (fun h13 E13 => ?_)
  have L105 := sl_up L96 E13 (by decide)
  have z106 : ∀ j, h13 110 j = 0 := fun j => (upN E13 (fun z => absurd z.1 (by decide))).trans (z97 j)
  have z107 : h13 112 0 = 0 := (upN E13 (fun z => absurd z.1 (by decide))).trans z98
  have z108 : h13 112 1 = 0 := (upN E13 (fun z => absurd z.1 (by decide))).trans z99
  have g109 := g100.put E13 (by decide)
  have g110 := g104.put E13 (by decide)
  have F111 : ∀ k, k < 108 → h13 k = h0 k := frn_up F102 E13 (by decide)
  clear g100 g104 F102 E12 g101 g103 L96 z97 z98 z99
  have f112 : h13 108 15 = ((114 : Nat) : Int) := upE E13
  refine y_aload_n (M := M_X12_init_109) 60 dX12_init_60 rfl ?_
  refine y_bipush (M := M_X12_init_109) 61 dX12_init_61 ?_
  refine y_newaJ (M := M_X12_init_109) 63 dX12_init_63 acJ (N := 10) (by decide) (tk_s o_115) (tk_l (by decide)) (tk_b (by decide) (by decide) (by decide)) (fun h14 E14 => ?_)
  have L113 := sl_c f112 L105
  have L114 := sl_same L113 (m_nw_ne E14 (by decide))
  have z115 : ∀ j, h14 110 j = 0 := fun j => (congrFun (m_nw_ne E14 (by decide)) j).trans (z106 j)
  have z116 : h14 112 0 = 0 := (congrFun (m_nw_ne E14 (by decide)) 0).trans z107
  have z117 : h14 112 1 = 0 := (congrFun (m_nw_ne E14 (by decide)) 1).trans z108
  have g118 := g109.nw E14 (by decide)
  have g119 := g110.nw E14 (by decide)
  have F120 : ∀ k, k < 108 → h14 k = h0 k := frn_nw F111 E14 (by decide)
  clear g109 g110 F111 E13 f112 L105 L113 z106 z107 z108
  have g121 : gR 115 116 h14 := gR_1 (gC_of bt_115 (fun j hj => by rw [nwJ E14]; exact trivial))
  have g122 := g119.join g121
  refine y_putF (M := M_X12_init_109) 65 dX12_init_65 ff_X12_33 (tk_g (by decide) o_108) (fun E m t q => q.1) rfl rfp_a (fun h15 E15 => ?_)
  have L123 := sl_up L114 E15 (by decide)
  have z124 : ∀ j, h15 110 j = 0 := fun j => (upN E15 (fun z => absurd z.1 (by decide))).trans (z115 j)
  have z125 : h15 112 0 = 0 := (upN E15 (fun z => absurd z.1 (by decide))).trans z116
  have z126 : h15 112 1 = 0 := (upN E15 (fun z => absurd z.1 (by decide))).trans z117
  have g127 := g118.put E15 (by decide)
  have g128 := g122.put E15 (by decide)
  have F129 : ∀ k, k < 108 → h15 k = h0 k := frn_up F120 E15 (by decide)
  clear g118 g122 F120 E14 g119 g121 L114 z115 z116 z117
  have f130 : h15 108 19 = ((115 : Nat) : Int) := upE E15
  refine y_aload_n (M := M_X12_init_109) 68 dX12_init_68 rfl ?_
  refine y_bipush (M := M_X12_init_109) 69 dX12_init_69 ?_
  refine y_newaJ (M := M_X12_init_109) 71 dX12_init_71 acJ (N := 10) (by decide) (tk_s o_116) (tk_l (by decide)) (tk_b (by decide) (by decide) (by decide)) (fun h16 E16 => ?_)
  have L131 := sl_c f130 L123
  have L132 := sl_same L131 (m_nw_ne E16 (by decide))
  have z133 : ∀ j, h16 110 j = 0 := fun j => (congrFun (m_nw_ne E16 (by decide)) j).trans (z124 j)
  have z134 : h16 112 0 = 0 := (congrFun (m_nw_ne E16 (by decide)) 0).trans z125
  have z135 : h16 112 1 = 0 := (congrFun (m_nw_ne E16 (by decide)) 1).trans z126
  have g136 := g127.nw E16 (by decide)
  have g137 := g128.nw E16 (by decide)
  have F138 : ∀ k, k < 108 → h16 k = h0 k := frn_nw F129 E16 (by decide)
  clear g127 g128 F129 E15 f130 L123 L131 z124 z125 z126
  have g139 : gR 116 117 h16 := gR_1 (gC_of bt_116 (fun j hj => by rw [nwJ E16]; exact trivial))
  have g140 := g137.join g139
  refine y_putF (M := M_X12_init_109) 73 dX12_init_73 ff_X12_37 (tk_g (by decide) o_108) (fun E m t q => q.1) rfl rfp_a (fun h17 E17 => ?_)
  have L141 := sl_up L132 E17 (by decide)
  have z142 : ∀ j, h17 110 j = 0 := fun j => (upN E17 (fun z => absurd z.1 (by decide))).trans (z133 j)
  have z143 : h17 112 0 = 0 := (upN E17 (fun z => absurd z.1 (by decide))).trans z134
  have z144 : h17 112 1 = 0 := (upN E17 (fun z => absurd z.1 (by decide))).trans z135
  have g145 := g136.put E17 (by decide)
  have g146 := g140.put E17 (by decide)
  have F147 : ∀ k, k < 108 → h17 k = h0 k := frn_up F138 E17 (by decide)
  clear g136 g140 F138 E16 g137 g139 L132 z133 z134 z135
  have f148 : h17 108 20 = ((116 : Nat) : Int) := upE E17
  refine y_aload_n (M := M_X12_init_109) 76 dX12_init_76 rfl ?_
  refine y_bipush (M := M_X12_init_109) 77 dX12_init_77 ?_
  refine y_newaI (M := M_X12_init_109) 79 dX12_init_79 acI (N := 60) (by decide) (tk_s o_117) (tk_l (by decide)) (tk_b (by decide) (by decide) (by decide)) (fun h18 E18 => ?_)
  have L149 := sl_c f148 L141
  have L150 := sl_same L149 (m_nw_ne E18 (by decide))
  have z151 : ∀ j, h18 110 j = 0 := fun j => (congrFun (m_nw_ne E18 (by decide)) j).trans (z142 j)
  have z152 : h18 112 0 = 0 := (congrFun (m_nw_ne E18 (by decide)) 0).trans z143
  have z153 : h18 112 1 = 0 := (congrFun (m_nw_ne E18 (by decide)) 1).trans z144
  have g154 := g145.nw E18 (by decide)
  have g155 := g146.nw E18 (by decide)
  have F156 : ∀ k, k < 108 → h18 k = h0 k := frn_nw F147 E18 (by decide)
  clear g145 g146 F147 E17 f148 L141 L149 z142 z143 z144
  have g157 : gR 117 118 h18 := gR_1 (gC_of bt_117 (fun j hj => by rw [nwI E18]; show (0 : Int) ≤ 0 ∧ (0 : Int) ≤ 15; decide))
  have g158 := g155.join g157
  refine y_putF (M := M_X12_init_109) 81 dX12_init_81 ff_X12_40 (tk_g (by decide) o_108) (fun E m t q => q.1) rfl rfp_a (fun h19 E19 => ?_)
  have L159 := sl_up L150 E19 (by decide)
  have z160 : ∀ j, h19 110 j = 0 := fun j => (upN E19 (fun z => absurd z.1 (by decide))).trans (z151 j)
  have z161 : h19 112 0 = 0 := (upN E19 (fun z => absurd z.1 (by decide))).trans z152
  have z162 : h19 112 1 = 0 := (upN E19 (fun z => absurd z.1 (by decide))).trans z153
  have g163 := g154.put E19 (by decide)
  have g164 := g158.put E19 (by decide)
  have F165 : ∀ k, k < 108 → h19 k = h0 k := frn_up F156 E19 (by decide)
  clear g154 g158 F156 E18 g155 g157 L150 z151 z152 z153
  have f166 : h19 108 22 = ((117 : Nat) : Int) := upE E19
  refine y_aload_n (M := M_X12_init_109) 84 dX12_init_84 rfl ?_
  refine y_bipush (M := M_X12_init_109) 85 dX12_init_85 ?_
  refine y_newaI (M := M_X12_init_109) 87 dX12_init_87 acI (N := 60) (by decide) (tk_s o_118) (tk_l (by decide)) (tk_b (by decide) (by decide) (by decide)) (fun h20 E20 => ?_)
  have L167 := sl_c f166 L159
  have L168 := sl_same L167 (m_nw_ne E20 (by decide))
  have z169 : ∀ j, h20 110 j = 0 := fun j => (congrFun (m_nw_ne E20 (by decide)) j).trans (z160 j)
  have z170 : h20 112 0 = 0 := (congrFun (m_nw_ne E20 (by decide)) 0).trans z161
  have z171 : h20 112 1 = 0 := (congrFun (m_nw_ne E20 (by decide)) 1).trans z162
  have g172 := g163.nw E20 (by decide)
  have g173 := g164.nw E20 (by decide)
  have F174 : ∀ k, k < 108 → h20 k = h0 k := frn_nw F165 E20 (by decide)
  clear g163 g164 F165 E19 f166 L159 L167 z160 z161 z162
  have g175 : gR 118 119 h20 := gR_1 (gC_of bt_118 (fun j hj => by rw [nwI E20]; show (0 : Int) ≤ 0 ∧ (0 : Int) ≤ 15; decide))
  have g176 := g173.join g175
  refine y_putF (M := M_X12_init_109) 89 dX12_init_89 ff_X12_43 (tk_g (by decide) o_108) (fun E m t q => q.1) rfl rfp_a (fun h21 E21 => ?_)
  have L177 := sl_up L168 E21 (by decide)
  have z178 : ∀ j, h21 110 j = 0 := fun j => (upN E21 (fun z => absurd z.1 (by decide))).trans (z169 j)
  have z179 : h21 112 0 = 0 := (upN E21 (fun z => absurd z.1 (by decide))).trans z170
  have z180 : h21 112 1 = 0 := (upN E21 (fun z => absurd z.1 (by decide))).trans z171
  have g181 := g172.put E21 (by decide)
  have g182 := g176.put E21 (by decide)
  have F183 : ∀ k, k < 108 → h21 k = h0 k := frn_up F174 E21 (by decide)
  clear g172 g176 F174 E20 g173 g175 L168 z169 z170 z171
  have f184 : h21 108 23 = ((118 : Nat) : Int) := upE E21
  refine y_aload_n (M := M_X12_init_109) 92 dX12_init_92 rfl ?_
  refine y_bipush (M := M_X12_init_109) 93 dX12_init_93 ?_
  refine y_newaI (M := M_X12_init_109) 95 dX12_init_95 acI (N := 60) (by decide) (tk_s o_119) (tk_l (by decide)) (tk_b (by decide) (by decide) (by decide)) (fun h22 E22 => ?_)
  have L185 := sl_c f184 L177
  have L186 := sl_same L185 (m_nw_ne E22 (by decide))
  have z187 : ∀ j, h22 110 j = 0 := fun j => (congrFun (m_nw_ne E22 (by decide)) j).trans (z178 j)
  have z188 : h22 112 0 = 0 := (congrFun (m_nw_ne E22 (by decide)) 0).trans z179
  have z189 : h22 112 1 = 0 := (congrFun (m_nw_ne E22 (by decide)) 1).trans z180
  have g190 := g181.nw E22 (by decide)
  have g191 := g182.nw E22 (by decide)
  have F192 : ∀ k, k < 108 → h22 k = h0 k := frn_nw F183 E22 (by decide)
  clear g181 g182 F183 E21 f184 L177 L185 z178 z179 z180
  have g193 : gR 119 120 h22 := gR_1 (gC_of bt_119 (fun j hj => by rw [nwI E22]; show (0 : Int) ≤ 0 ∧ (0 : Int) ≤ 199; decide))
  have g194 := g191.join g193
  refine y_putF (M := M_X12_init_109) 97 dX12_init_97 ff_X12_46 (tk_g (by decide) o_108) (fun E m t q => q.1) rfl rfp_a (fun h23 E23 => ?_)
  have L195 := sl_up L186 E23 (by decide)
  have z196 : ∀ j, h23 110 j = 0 := fun j => (upN E23 (fun z => absurd z.1 (by decide))).trans (z187 j)
  have z197 : h23 112 0 = 0 := (upN E23 (fun z => absurd z.1 (by decide))).trans z188
  have z198 : h23 112 1 = 0 := (upN E23 (fun z => absurd z.1 (by decide))).trans z189
  have g199 := g190.put E23 (by decide)
  have g200 := g194.put E23 (by decide)
  have F201 : ∀ k, k < 108 → h23 k = h0 k := frn_up F192 E23 (by decide)
  clear g190 g194 F192 E22 g191 g193 L186 z187 z188 z189
  have f202 : h23 108 24 = ((119 : Nat) : Int) := upE E23
  refine y_aload_n (M := M_X12_init_109) 100 dX12_init_100 rfl ?_
  refine y_bipush (M := M_X12_init_109) 101 dX12_init_101 ?_
  refine y_newaI (M := M_X12_init_109) 103 dX12_init_103 acI (N := 60) (by decide) (tk_s o_120) (tk_l (by decide)) (tk_b (by decide) (by decide) (by decide)) (fun h24 E24 => ?_)
  have L203 := sl_c f202 L195
  have L204 := sl_same L203 (m_nw_ne E24 (by decide))
  have z205 : ∀ j, h24 110 j = 0 := fun j => (congrFun (m_nw_ne E24 (by decide)) j).trans (z196 j)
  have z206 : h24 112 0 = 0 := (congrFun (m_nw_ne E24 (by decide)) 0).trans z197
  have z207 : h24 112 1 = 0 := (congrFun (m_nw_ne E24 (by decide)) 1).trans z198
  have g208 := g199.nw E24 (by decide)
  have g209 := g200.nw E24 (by decide)
  have F210 : ∀ k, k < 108 → h24 k = h0 k := frn_nw F201 E24 (by decide)
  clear g199 g200 F201 E23 f202 L195 L203 z196 z197 z198
  have g211 : gR 120 121 h24 := gR_1 (gC_of bt_120 (fun j hj => by rw [nwI E24]; show (0 : Int) ≤ 0 ∧ (0 : Int) ≤ 199; decide))
  have g212 := g209.join g211
  refine y_putF (M := M_X12_init_109) 105 dX12_init_105 ff_X12_49 (tk_g (by decide) o_108) (fun E m t q => q.1) rfl rfp_a (fun h25 E25 => ?_)
  have L213 := sl_up L204 E25 (by decide)
  have z214 : ∀ j, h25 110 j = 0 := fun j => (upN E25 (fun z => absurd z.1 (by decide))).trans (z205 j)
  have z215 : h25 112 0 = 0 := (upN E25 (fun z => absurd z.1 (by decide))).trans z206
  have z216 : h25 112 1 = 0 := (upN E25 (fun z => absurd z.1 (by decide))).trans z207
  have g217 := g208.put E25 (by decide)
  have g218 := g212.put E25 (by decide)
  have F219 : ∀ k, k < 108 → h25 k = h0 k := frn_up F210 E25 (by decide)
  clear g208 g212 F210 E24 g209 g211 L204 z205 z206 z207
  have f220 : h25 108 25 = ((120 : Nat) : Int) := upE E25
  refine y_aload_n (M := M_X12_init_109) 108 dX12_init_108 rfl ?_
  refine y_bipush (M := M_X12_init_109) 109 dX12_init_109 ?_
  refine y_newaZ (M := M_X12_init_109) 111 dX12_init_111 acZ (N := 60) (by decide) (tk_s o_121) (tk_l (by decide)) (tk_b (by decide) (by decide) (by decide)) (fun h26 E26 => ?_)
  have L221 := sl_c f220 L213
  have L222 := sl_same L221 (m_nw_ne E26 (by decide))
  have z223 : ∀ j, h26 110 j = 0 := fun j => (congrFun (m_nw_ne E26 (by decide)) j).trans (z214 j)
  have z224 : h26 112 0 = 0 := (congrFun (m_nw_ne E26 (by decide)) 0).trans z215
  have z225 : h26 112 1 = 0 := (congrFun (m_nw_ne E26 (by decide)) 1).trans z216
  have g226 := g217.nw E26 (by decide)
  have g227 := g218.nw E26 (by decide)
  have F228 : ∀ k, k < 108 → h26 k = h0 k := frn_nw F219 E26 (by decide)
  clear g217 g218 F219 E25 f220 L213 L221 z214 z215 z216
  have g229 : gR 121 122 h26 := gR_1 (gC_of bt_121 (fun j hj => by rw [nwZ E26]; show (0 : Int) ≤ 0 ∧ (0 : Int) ≤ 1; decide))
  have g230 := g227.join g229
  refine y_putF (M := M_X12_init_109) 113 dX12_init_113 ff_X12_52 (tk_g (by decide) o_108) (fun E m t q => q.1) rfl rfp_a (fun h27 E27 => ?_)
  have L231 := sl_up L222 E27 (by decide)
  have z232 : ∀ j, h27 110 j = 0 := fun j => (upN E27 (fun z => absurd z.1 (by decide))).trans (z223 j)
  have z233 : h27 112 0 = 0 := (upN E27 (fun z => absurd z.1 (by decide))).trans z224
  have z234 : h27 112 1 = 0 := (upN E27 (fun z => absurd z.1 (by decide))).trans z225
  have g235 := g226.put E27 (by decide)
  have g236 := g230.put E27 (by decide)
  have F237 : ∀ k, k < 108 → h27 k = h0 k := frn_up F228 E27 (by decide)
  clear g226 g230 F228 E26 g227 g229 L222 z223 z224 z225
  have f238 : h27 108 26 = ((121 : Nat) : Int) := upE E27
  refine y_aload_n (M := M_X12_init_109) 116 dX12_init_116 rfl ?_
  refine y_bipush (M := M_X12_init_109) 117 dX12_init_117 ?_
  refine y_newaI (M := M_X12_init_109) 119 dX12_init_119 acI (N := 32) (by decide) (tk_s o_122) (tk_l (by decide)) (tk_b (by decide) (by decide) (by decide)) (fun h28 E28 => ?_)
  have L239 := sl_c f238 L231
  have L240 := sl_same L239 (m_nw_ne E28 (by decide))
  have z241 : ∀ j, h28 110 j = 0 := fun j => (congrFun (m_nw_ne E28 (by decide)) j).trans (z232 j)
  have z242 : h28 112 0 = 0 := (congrFun (m_nw_ne E28 (by decide)) 0).trans z233
  have z243 : h28 112 1 = 0 := (congrFun (m_nw_ne E28 (by decide)) 1).trans z234
  have g244 := g235.nw E28 (by decide)
  have g245 := g236.nw E28 (by decide)
  have F246 : ∀ k, k < 108 → h28 k = h0 k := frn_nw F237 E28 (by decide)
  clear g235 g236 F237 E27 f238 L231 L239 z232 z233 z234
  have g247 : gR 122 123 h28 := gR_1 (gC_of bt_122 (fun j hj => by rw [nwI E28]; show (-1 : Int) ≤ 0 ∧ (0 : Int) ≤ 3; decide))
  have g248 := g245.join g247
  refine y_putF (M := M_X12_init_109) 121 dX12_init_121 ff_X12_55 (tk_g (by decide) o_108) (fun E m t q => q.1) rfl rfp_a (fun h29 E29 => ?_)
  have L249 := sl_up L240 E29 (by decide)
  have z250 : ∀ j, h29 110 j = 0 := fun j => (upN E29 (fun z => absurd z.1 (by decide))).trans (z241 j)
  have z251 : h29 112 0 = 0 := (upN E29 (fun z => absurd z.1 (by decide))).trans z242
  have z252 : h29 112 1 = 0 := (upN E29 (fun z => absurd z.1 (by decide))).trans z243
  have g253 := g244.put E29 (by decide)
  have g254 := g248.put E29 (by decide)
  have F255 : ∀ k, k < 108 → h29 k = h0 k := frn_up F246 E29 (by decide)
  clear g244 g248 F246 E28 g245 g247 L240 z241 z242 z243
  have f256 : h29 108 27 = ((122 : Nat) : Int) := upE E29
  refine y_aload_n (M := M_X12_init_109) 124 dX12_init_124 rfl ?_
  refine y_bipush (M := M_X12_init_109) 125 dX12_init_125 ?_
  refine y_newaI (M := M_X12_init_109) 127 dX12_init_127 acI (N := 6) (by decide) (tk_s o_123) (tk_l (by decide)) (tk_b (by decide) (by decide) (by decide)) (fun h30 E30 => ?_)
  have L257 := sl_c f256 L249
  have L258 := sl_same L257 (m_nw_ne E30 (by decide))
  have z259 : ∀ j, h30 110 j = 0 := fun j => (congrFun (m_nw_ne E30 (by decide)) j).trans (z250 j)
  have z260 : h30 112 0 = 0 := (congrFun (m_nw_ne E30 (by decide)) 0).trans z251
  have z261 : h30 112 1 = 0 := (congrFun (m_nw_ne E30 (by decide)) 1).trans z252
  have g262 := g253.nw E30 (by decide)
  have g263 := g254.nw E30 (by decide)
  have F264 : ∀ k, k < 108 → h30 k = h0 k := frn_nw F255 E30 (by decide)
  clear g253 g254 F255 E29 f256 L249 L257 z250 z251 z252
  have g265 : gR 123 124 h30 := gR_1 (gC_of bt_123 (fun j hj => by rw [nwI E30]; show (-1 : Int) ≤ 0 ∧ (0 : Int) ≤ 31; decide))
  have g266 := g263.join g265
  refine y_putF (M := M_X12_init_109) 129 dX12_init_129 ff_X12_58 (tk_g (by decide) o_108) (fun E m t q => q.1) rfl rfp_a (fun h31 E31 => ?_)
  have L267 := sl_up L258 E31 (by decide)
  have z268 : ∀ j, h31 110 j = 0 := fun j => (upN E31 (fun z => absurd z.1 (by decide))).trans (z259 j)
  have z269 : h31 112 0 = 0 := (upN E31 (fun z => absurd z.1 (by decide))).trans z260
  have z270 : h31 112 1 = 0 := (upN E31 (fun z => absurd z.1 (by decide))).trans z261
  have g271 := g262.put E31 (by decide)
  have g272 := g266.put E31 (by decide)
  have F273 : ∀ k, k < 108 → h31 k = h0 k := frn_up F264 E31 (by decide)
  clear g262 g266 F264 E30 g263 g265 L258 z259 z260 z261
  have f274 : h31 108 28 = ((123 : Nat) : Int) := upE E31
  refine y_aload_n (M := M_X12_init_109) 132 dX12_init_132 rfl ?_
  refine y_bipush (M := M_X12_init_109) 133 dX12_init_133 ?_
  refine y_newaJ (M := M_X12_init_109) 135 dX12_init_135 acJ (N := 80) (by decide) (tk_s o_124) (tk_l (by decide)) (tk_b (by decide) (by decide) (by decide)) (fun h32 E32 => ?_)
  have L275 := sl_c f274 L267
  have L276 := sl_same L275 (m_nw_ne E32 (by decide))
  have z277 : ∀ j, h32 110 j = 0 := fun j => (congrFun (m_nw_ne E32 (by decide)) j).trans (z268 j)
  have z278 : h32 112 0 = 0 := (congrFun (m_nw_ne E32 (by decide)) 0).trans z269
  have z279 : h32 112 1 = 0 := (congrFun (m_nw_ne E32 (by decide)) 1).trans z270
  have g280 := g271.nw E32 (by decide)
  have g281 := g272.nw E32 (by decide)
  have F282 : ∀ k, k < 108 → h32 k = h0 k := frn_nw F273 E32 (by decide)
  clear g271 g272 F273 E31 f274 L267 L275 z268 z269 z270
  have g283 : gR 124 125 h32 := gR_1 (gC_of bt_124 (fun j hj => by rw [nwJ E32]; show (0 : Int) ≤ 0 ∧ (0 : Int) ≤ 99999999; decide))
  have g284 := g281.join g283
  refine y_putF (M := M_X12_init_109) 137 dX12_init_137 ff_X12_61 (tk_g (by decide) o_108) (fun E m t q => q.1) rfl rfp_a (fun h33 E33 => ?_)
  have L285 := sl_up L276 E33 (by decide)
  have z286 : ∀ j, h33 110 j = 0 := fun j => (upN E33 (fun z => absurd z.1 (by decide))).trans (z277 j)
  have z287 : h33 112 0 = 0 := (upN E33 (fun z => absurd z.1 (by decide))).trans z278
  have z288 : h33 112 1 = 0 := (upN E33 (fun z => absurd z.1 (by decide))).trans z279
  have g289 := g280.put E33 (by decide)
  have g290 := g284.put E33 (by decide)
  have F291 : ∀ k, k < 108 → h33 k = h0 k := frn_up F282 E33 (by decide)
  clear g280 g284 F282 E32 g281 g283 L276 z277 z278 z279
  have f292 : h33 108 29 = ((124 : Nat) : Int) := upE E33
  refine y_aload_n (M := M_X12_init_109) 140 dX12_init_140 rfl ?_
  refine y_bipush (M := M_X12_init_109) 141 dX12_init_141 ?_
  refine y_newaJ (M := M_X12_init_109) 143 dX12_init_143 acJ (N := 80) (by decide) (tk_s o_125) (tk_l (by decide)) (tk_b (by decide) (by decide) (by decide)) (fun h34 E34 => ?_)
  have L293 := sl_c f292 L285
  have L294 := sl_same L293 (m_nw_ne E34 (by decide))
  have z295 : ∀ j, h34 110 j = 0 := fun j => (congrFun (m_nw_ne E34 (by decide)) j).trans (z286 j)
  have z296 : h34 112 0 = 0 := (congrFun (m_nw_ne E34 (by decide)) 0).trans z287
  have z297 : h34 112 1 = 0 := (congrFun (m_nw_ne E34 (by decide)) 1).trans z288
  have g298 := g289.nw E34 (by decide)
  have g299 := g290.nw E34 (by decide)
  have F300 : ∀ k, k < 108 → h34 k = h0 k := frn_nw F291 E34 (by decide)
  clear g289 g290 F291 E33 f292 L285 L293 z286 z287 z288
  have g301 : gR 125 126 h34 := gR_1 (gC_of bt_125 (fun j hj => by rw [nwJ E34]; show (0 : Int) ≤ 0 ∧ (0 : Int) ≤ 99999999; decide))
  have g302 := g299.join g301
  refine y_putF (M := M_X12_init_109) 145 dX12_init_145 ff_X12_64 (tk_g (by decide) o_108) (fun E m t q => q.1) rfl rfp_a (fun h35 E35 => ?_)
  have L303 := sl_up L294 E35 (by decide)
  have z304 : ∀ j, h35 110 j = 0 := fun j => (upN E35 (fun z => absurd z.1 (by decide))).trans (z295 j)
  have z305 : h35 112 0 = 0 := (upN E35 (fun z => absurd z.1 (by decide))).trans z296
  have z306 : h35 112 1 = 0 := (upN E35 (fun z => absurd z.1 (by decide))).trans z297
  have g307 := g298.put E35 (by decide)
  have g308 := g302.put E35 (by decide)
  have F309 : ∀ k, k < 108 → h35 k = h0 k := frn_up F300 E35 (by decide)
  clear g298 g302 F300 E34 g299 g301 L294 z295 z296 z297
  have f310 : h35 108 30 = ((125 : Nat) : Int) := upE E35
  refine y_aload_n (M := M_X12_init_109) 148 dX12_init_148 rfl ?_
  refine y_bipush (M := M_X12_init_109) 149 dX12_init_149 ?_
  refine y_newaZ (M := M_X12_init_109) 151 dX12_init_151 acZ (N := 16) (by decide) (tk_s o_126) (tk_l (by decide)) (tk_b (by decide) (by decide) (by decide)) (fun h36 E36 => ?_)
  have L311 := sl_c f310 L303
  have L312 := sl_same L311 (m_nw_ne E36 (by decide))
  have z313 : ∀ j, h36 110 j = 0 := fun j => (congrFun (m_nw_ne E36 (by decide)) j).trans (z304 j)
  have z314 : h36 112 0 = 0 := (congrFun (m_nw_ne E36 (by decide)) 0).trans z305
  have z315 : h36 112 1 = 0 := (congrFun (m_nw_ne E36 (by decide)) 1).trans z306
  have g316 := g307.nw E36 (by decide)
  have g317 := g308.nw E36 (by decide)
  have F318 : ∀ k, k < 108 → h36 k = h0 k := frn_nw F309 E36 (by decide)
  clear g307 g308 F309 E35 f310 L303 L311 z304 z305 z306
  have g319 : gR 126 127 h36 := gR_1 (gC_of bt_126 (fun j hj => by rw [nwZ E36]; show (0 : Int) ≤ 0 ∧ (0 : Int) ≤ 1; decide))
  have g320 := g317.join g319
  refine y_putF (M := M_X12_init_109) 153 dX12_init_153 ff_X12_67 (tk_g (by decide) o_108) (fun E m t q => q.1) rfl rfp_a (fun h37 E37 => ?_)
  have L321 := sl_up L312 E37 (by decide)
  have z322 : ∀ j, h37 110 j = 0 := fun j => (upN E37 (fun z => absurd z.1 (by decide))).trans (z313 j)
  have z323 : h37 112 0 = 0 := (upN E37 (fun z => absurd z.1 (by decide))).trans z314
  have z324 : h37 112 1 = 0 := (upN E37 (fun z => absurd z.1 (by decide))).trans z315
  have g325 := g316.put E37 (by decide)
  have g326 := g320.put E37 (by decide)
  have F327 : ∀ k, k < 108 → h37 k = h0 k := frn_up F318 E37 (by decide)
  clear g316 g320 F318 E36 g317 g319 L312 z313 z314 z315
  have f328 : h37 108 31 = ((126 : Nat) : Int) := upE E37
  refine y_aload_n (M := M_X12_init_109) 156 dX12_init_156 rfl ?_
  refine y_bipush (M := M_X12_init_109) 157 dX12_init_157 ?_
  refine y_newaZ (M := M_X12_init_109) 159 dX12_init_159 acZ (N := 16) (by decide) (tk_s o_127) (tk_l (by decide)) (tk_b (by decide) (by decide) (by decide)) (fun h38 E38 => ?_)
  have L329 := sl_c f328 L321
  have L330 := sl_same L329 (m_nw_ne E38 (by decide))
  have z331 : ∀ j, h38 110 j = 0 := fun j => (congrFun (m_nw_ne E38 (by decide)) j).trans (z322 j)
  have z332 : h38 112 0 = 0 := (congrFun (m_nw_ne E38 (by decide)) 0).trans z323
  have z333 : h38 112 1 = 0 := (congrFun (m_nw_ne E38 (by decide)) 1).trans z324
  have g334 := g325.nw E38 (by decide)
  have g335 := g326.nw E38 (by decide)
  have F336 : ∀ k, k < 108 → h38 k = h0 k := frn_nw F327 E38 (by decide)
  clear g325 g326 F327 E37 f328 L321 L329 z322 z323 z324
  have g337 : gR 127 128 h38 := gR_1 (gC_of bt_127 (fun j hj => by rw [nwZ E38]; show (0 : Int) ≤ 0 ∧ (0 : Int) ≤ 1; decide))
  have g338 := g335.join g337
  refine y_putF (M := M_X12_init_109) 161 dX12_init_161 ff_X12_70 (tk_g (by decide) o_108) (fun E m t q => q.1) rfl rfp_a (fun h39 E39 => ?_)
  have L339 := sl_up L330 E39 (by decide)
  have z340 : ∀ j, h39 110 j = 0 := fun j => (upN E39 (fun z => absurd z.1 (by decide))).trans (z331 j)
  have z341 : h39 112 0 = 0 := (upN E39 (fun z => absurd z.1 (by decide))).trans z332
  have z342 : h39 112 1 = 0 := (upN E39 (fun z => absurd z.1 (by decide))).trans z333
  have g343 := g334.put E39 (by decide)
  have g344 := g338.put E39 (by decide)
  have F345 : ∀ k, k < 108 → h39 k = h0 k := frn_up F336 E39 (by decide)
  clear g334 g338 F336 E38 g335 g337 L330 z331 z332 z333
  have f346 : h39 108 32 = ((127 : Nat) : Int) := upE E39
  refine y_aload_n (M := M_X12_init_109) 164 dX12_init_164 rfl ?_
  refine y_bipush (M := M_X12_init_109) 165 dX12_init_165 ?_
  refine y_newaJ (M := M_X12_init_109) 167 dX12_init_167 acJ (N := 80) (by decide) (tk_s o_128) (tk_l (by decide)) (tk_b (by decide) (by decide) (by decide)) (fun h40 E40 => ?_)
  have L347 := sl_c f346 L339
  have L348 := sl_same L347 (m_nw_ne E40 (by decide))
  have z349 : ∀ j, h40 110 j = 0 := fun j => (congrFun (m_nw_ne E40 (by decide)) j).trans (z340 j)
  have z350 : h40 112 0 = 0 := (congrFun (m_nw_ne E40 (by decide)) 0).trans z341
  have z351 : h40 112 1 = 0 := (congrFun (m_nw_ne E40 (by decide)) 1).trans z342
  have g352 := g343.nw E40 (by decide)
  have g353 := g344.nw E40 (by decide)
  have F354 : ∀ k, k < 108 → h40 k = h0 k := frn_nw F345 E40 (by decide)
  clear g343 g344 F345 E39 f346 L339 L347 z340 z341 z342
  have g355 : gR 128 129 h40 := gR_1 (gC_of bt_128 (fun j hj => by rw [nwJ E40]; show (0 : Int) ≤ 0 ∧ (0 : Int) ≤ 99999999; decide))
  have g356 := g353.join g355
  refine y_putF (M := M_X12_init_109) 169 dX12_init_169 ff_X12_73 (tk_g (by decide) o_108) (fun E m t q => q.1) rfl rfp_a (fun h41 E41 => ?_)
  have L357 := sl_up L348 E41 (by decide)
  have z358 : ∀ j, h41 110 j = 0 := fun j => (upN E41 (fun z => absurd z.1 (by decide))).trans (z349 j)
  have z359 : h41 112 0 = 0 := (upN E41 (fun z => absurd z.1 (by decide))).trans z350
  have z360 : h41 112 1 = 0 := (upN E41 (fun z => absurd z.1 (by decide))).trans z351
  have g361 := g352.put E41 (by decide)
  have g362 := g356.put E41 (by decide)
  have F363 : ∀ k, k < 108 → h41 k = h0 k := frn_up F354 E41 (by decide)
  clear g352 g356 F354 E40 g353 g355 L348 z349 z350 z351
  have f364 : h41 108 33 = ((128 : Nat) : Int) := upE E41
  refine y_aload_n (M := M_X12_init_109) 172 dX12_init_172 rfl ?_
  refine y_bipush (M := M_X12_init_109) 173 dX12_init_173 ?_
  refine y_newaJ (M := M_X12_init_109) 175 dX12_init_175 acJ (N := 80) (by decide) (tk_s o_129) (tk_l (by decide)) (tk_b (by decide) (by decide) (by decide)) (fun h42 E42 => ?_)
  have L365 := sl_c f364 L357
  have L366 := sl_same L365 (m_nw_ne E42 (by decide))
  have z367 : ∀ j, h42 110 j = 0 := fun j => (congrFun (m_nw_ne E42 (by decide)) j).trans (z358 j)
  have z368 : h42 112 0 = 0 := (congrFun (m_nw_ne E42 (by decide)) 0).trans z359
  have z369 : h42 112 1 = 0 := (congrFun (m_nw_ne E42 (by decide)) 1).trans z360
  have g370 := g361.nw E42 (by decide)
  have g371 := g362.nw E42 (by decide)
  have F372 : ∀ k, k < 108 → h42 k = h0 k := frn_nw F363 E42 (by decide)
  clear g361 g362 F363 E41 f364 L357 L365 z358 z359 z360
  have g373 : gR 129 130 h42 := gR_1 (gC_of bt_129 (fun j hj => by rw [nwJ E42]; show (0 : Int) ≤ 0 ∧ (0 : Int) ≤ 99999999; decide))
  have g374 := g371.join g373
  refine y_putF (M := M_X12_init_109) 177 dX12_init_177 ff_X12_76 (tk_g (by decide) o_108) (fun E m t q => q.1) rfl rfp_a (fun h43 E43 => ?_)
  have L375 := sl_up L366 E43 (by decide)
  have z376 : ∀ j, h43 110 j = 0 := fun j => (upN E43 (fun z => absurd z.1 (by decide))).trans (z367 j)
  have z377 : h43 112 0 = 0 := (upN E43 (fun z => absurd z.1 (by decide))).trans z368
  have z378 : h43 112 1 = 0 := (upN E43 (fun z => absurd z.1 (by decide))).trans z369
  have g379 := g370.put E43 (by decide)
  have g380 := g374.put E43 (by decide)
  have F381 : ∀ k, k < 108 → h43 k = h0 k := frn_up F372 E43 (by decide)
  clear g370 g374 F372 E42 g371 g373 L366 z367 z368 z369
  have f382 : h43 108 34 = ((129 : Nat) : Int) := upE E43
  refine y_aload_n (M := M_X12_init_109) 180 dX12_init_180 rfl ?_
  refine y_bipush (M := M_X12_init_109) 181 dX12_init_181 ?_
  refine y_newaZ (M := M_X12_init_109) 183 dX12_init_183 acZ (N := 16) (by decide) (tk_s o_130) (tk_l (by decide)) (tk_b (by decide) (by decide) (by decide)) (fun h44 E44 => ?_)
  have L383 := sl_c f382 L375
  have L384 := sl_same L383 (m_nw_ne E44 (by decide))
  have z385 : ∀ j, h44 110 j = 0 := fun j => (congrFun (m_nw_ne E44 (by decide)) j).trans (z376 j)
  have z386 : h44 112 0 = 0 := (congrFun (m_nw_ne E44 (by decide)) 0).trans z377
  have z387 : h44 112 1 = 0 := (congrFun (m_nw_ne E44 (by decide)) 1).trans z378
  have g388 := g379.nw E44 (by decide)
  have g389 := g380.nw E44 (by decide)
  have F390 : ∀ k, k < 108 → h44 k = h0 k := frn_nw F381 E44 (by decide)
  clear g379 g380 F381 E43 f382 L375 L383 z376 z377 z378
  have g391 : gR 130 131 h44 := gR_1 (gC_of bt_130 (fun j hj => by rw [nwZ E44]; show (0 : Int) ≤ 0 ∧ (0 : Int) ≤ 1; decide))
  have g392 := g389.join g391
  refine y_putF (M := M_X12_init_109) 185 dX12_init_185 ff_X12_79 (tk_g (by decide) o_108) (fun E m t q => q.1) rfl rfp_a (fun h45 E45 => ?_)
  have L393 := sl_up L384 E45 (by decide)
  have z394 : ∀ j, h45 110 j = 0 := fun j => (upN E45 (fun z => absurd z.1 (by decide))).trans (z385 j)
  have z395 : h45 112 0 = 0 := (upN E45 (fun z => absurd z.1 (by decide))).trans z386
  have z396 : h45 112 1 = 0 := (upN E45 (fun z => absurd z.1 (by decide))).trans z387
  have g397 := g388.put E45 (by decide)
  have g398 := g392.put E45 (by decide)
  have F399 : ∀ k, k < 108 → h45 k = h0 k := frn_up F390 E45 (by decide)
  clear g388 g392 F390 E44 g389 g391 L384 z385 z386 z387
  have f400 : h45 108 35 = ((130 : Nat) : Int) := upE E45
  refine y_aload_n (M := M_X12_init_109) 188 dX12_init_188 rfl ?_
  refine y_bipush (M := M_X12_init_109) 189 dX12_init_189 ?_
  refine y_newaZ (M := M_X12_init_109) 191 dX12_init_191 acZ (N := 16) (by decide) (tk_s o_131) (tk_l (by decide)) (tk_b (by decide) (by decide) (by decide)) (fun h46 E46 => ?_)
  have L401 := sl_c f400 L393
  have L402 := sl_same L401 (m_nw_ne E46 (by decide))
  have z403 : ∀ j, h46 110 j = 0 := fun j => (congrFun (m_nw_ne E46 (by decide)) j).trans (z394 j)
  have z404 : h46 112 0 = 0 := (congrFun (m_nw_ne E46 (by decide)) 0).trans z395
  have z405 : h46 112 1 = 0 := (congrFun (m_nw_ne E46 (by decide)) 1).trans z396
  have g406 := g397.nw E46 (by decide)
  have g407 := g398.nw E46 (by decide)
  have F408 : ∀ k, k < 108 → h46 k = h0 k := frn_nw F399 E46 (by decide)
  clear g397 g398 F399 E45 f400 L393 L401 z394 z395 z396
  have g409 : gR 131 132 h46 := gR_1 (gC_of bt_131 (fun j hj => by rw [nwZ E46]; show (0 : Int) ≤ 0 ∧ (0 : Int) ≤ 1; decide))
  have g410 := g407.join g409
  refine y_putF (M := M_X12_init_109) 193 dX12_init_193 ff_X12_82 (tk_g (by decide) o_108) (fun E m t q => q.1) rfl rfp_a (fun h47 E47 => ?_)
  have L411 := sl_up L402 E47 (by decide)
  have z412 : ∀ j, h47 110 j = 0 := fun j => (upN E47 (fun z => absurd z.1 (by decide))).trans (z403 j)
  have z413 : h47 112 0 = 0 := (upN E47 (fun z => absurd z.1 (by decide))).trans z404
  have z414 : h47 112 1 = 0 := (upN E47 (fun z => absurd z.1 (by decide))).trans z405
  have g415 := g406.put E47 (by decide)
  have g416 := g410.put E47 (by decide)
  have F417 : ∀ k, k < 108 → h47 k = h0 k := frn_up F408 E47 (by decide)
  clear g406 g410 F408 E46 g407 g409 L402 z403 z404 z405
  have f418 : h47 108 36 = ((131 : Nat) : Int) := upE E47
  refine y_aload_n (M := M_X12_init_109) 196 dX12_init_196 rfl ?_
  refine y_iconst (M := M_X12_init_109) 197 dX12_init_197 ?_
  refine y_newaJ (M := M_X12_init_109) 198 dX12_init_198 acJ (N := 5) (by decide) (tk_s o_132) (tk_l (by decide)) (tk_b (by decide) (by decide) (by decide)) (fun h48 E48 => ?_)
  have L419 := sl_c f418 L411
  have L420 := sl_same L419 (m_nw_ne E48 (by decide))
  have z421 : ∀ j, h48 110 j = 0 := fun j => (congrFun (m_nw_ne E48 (by decide)) j).trans (z412 j)
  have z422 : h48 112 0 = 0 := (congrFun (m_nw_ne E48 (by decide)) 0).trans z413
  have z423 : h48 112 1 = 0 := (congrFun (m_nw_ne E48 (by decide)) 1).trans z414
  have g424 := g415.nw E48 (by decide)
  have g425 := g416.nw E48 (by decide)
  have F426 : ∀ k, k < 108 → h48 k = h0 k := frn_nw F417 E48 (by decide)
  clear g415 g416 F417 E47 f418 L411 L419 z412 z413 z414
  have g427 : gR 132 133 h48 := gR_1 (gC_of bt_132 (fun j hj => by rw [nwJ E48]; show (0 : Int) ≤ 0 ∧ (0 : Int) ≤ 99999999; decide))
  have g428 := g425.join g427
  refine y_putF (M := M_X12_init_109) 200 dX12_init_200 ff_X12_85 (tk_g (by decide) o_108) (fun E m t q => q.1) rfl rfp_a (fun h49 E49 => ?_)
  have L429 := sl_up L420 E49 (by decide)
  have z430 : ∀ j, h49 110 j = 0 := fun j => (upN E49 (fun z => absurd z.1 (by decide))).trans (z421 j)
  have z431 : h49 112 0 = 0 := (upN E49 (fun z => absurd z.1 (by decide))).trans z422
  have z432 : h49 112 1 = 0 := (upN E49 (fun z => absurd z.1 (by decide))).trans z423
  have g433 := g424.put E49 (by decide)
  have g434 := g428.put E49 (by decide)
  have F435 : ∀ k, k < 108 → h49 k = h0 k := frn_up F426 E49 (by decide)
  clear g424 g428 F426 E48 g425 g427 L420 z421 z422 z423
  have f436 : h49 108 37 = ((132 : Nat) : Int) := upE E49
  refine y_aload_n (M := M_X12_init_109) 203 dX12_init_203 rfl ?_
  refine y_iconst (M := M_X12_init_109) 204 dX12_init_204 ?_
  refine y_newaJ (M := M_X12_init_109) 205 dX12_init_205 acJ (N := 5) (by decide) (tk_s o_133) (tk_l (by decide)) (tk_b (by decide) (by decide) (by decide)) (fun h50 E50 => ?_)
  have L437 := sl_c f436 L429
  have L438 := sl_same L437 (m_nw_ne E50 (by decide))
  have z439 : ∀ j, h50 110 j = 0 := fun j => (congrFun (m_nw_ne E50 (by decide)) j).trans (z430 j)
  have z440 : h50 112 0 = 0 := (congrFun (m_nw_ne E50 (by decide)) 0).trans z431
  have z441 : h50 112 1 = 0 := (congrFun (m_nw_ne E50 (by decide)) 1).trans z432
  have g442 := g433.nw E50 (by decide)
  have g443 := g434.nw E50 (by decide)
  have F444 : ∀ k, k < 108 → h50 k = h0 k := frn_nw F435 E50 (by decide)
  clear g433 g434 F435 E49 f436 L429 L437 z430 z431 z432
  have g445 : gR 133 134 h50 := gR_1 (gC_of bt_133 (fun j hj => by rw [nwJ E50]; show (0 : Int) ≤ 0 ∧ (0 : Int) ≤ 99999999; decide))
  have g446 := g443.join g445
  refine y_putF (M := M_X12_init_109) 207 dX12_init_207 ff_X12_88 (tk_g (by decide) o_108) (fun E m t q => q.1) rfl rfp_a (fun h51 E51 => ?_)
  have L447 := sl_up L438 E51 (by decide)
  have z448 : ∀ j, h51 110 j = 0 := fun j => (upN E51 (fun z => absurd z.1 (by decide))).trans (z439 j)
  have z449 : h51 112 0 = 0 := (upN E51 (fun z => absurd z.1 (by decide))).trans z440
  have z450 : h51 112 1 = 0 := (upN E51 (fun z => absurd z.1 (by decide))).trans z441
  have g451 := g442.put E51 (by decide)
  have g452 := g446.put E51 (by decide)
  have F453 : ∀ k, k < 108 → h51 k = h0 k := frn_up F444 E51 (by decide)
  clear g442 g446 F444 E50 g443 g445 L438 z439 z440 z441
  have f454 : h51 108 38 = ((133 : Nat) : Int) := upE E51
  refine y_aload_n (M := M_X12_init_109) 210 dX12_init_210 rfl ?_
  refine y_sipush (M := M_X12_init_109) 211 dX12_init_211 ?_
  refine y_newaZ (M := M_X12_init_109) 214 dX12_init_214 acZ (N := 256) (by decide) (tk_s o_134) (tk_l (by decide)) (tk_b (by decide) (by decide) (by decide)) (fun h52 E52 => ?_)
  have L455 := sl_c f454 L447
  have L456 := sl_same L455 (m_nw_ne E52 (by decide))
  have z457 : ∀ j, h52 110 j = 0 := fun j => (congrFun (m_nw_ne E52 (by decide)) j).trans (z448 j)
  have z458 : h52 112 0 = 0 := (congrFun (m_nw_ne E52 (by decide)) 0).trans z449
  have z459 : h52 112 1 = 0 := (congrFun (m_nw_ne E52 (by decide)) 1).trans z450
  have g460 := g451.nw E52 (by decide)
  have g461 := g452.nw E52 (by decide)
  have F462 : ∀ k, k < 108 → h52 k = h0 k := frn_nw F453 E52 (by decide)
  clear g451 g452 F453 E51 f454 L447 L455 z448 z449 z450
  have g463 : gR 134 135 h52 := gR_1 (gC_of bt_134 (fun j hj => by rw [nwZ E52]; show (0 : Int) ≤ 0 ∧ (0 : Int) ≤ 1; decide))
  have g464 := g461.join g463
  refine y_putF (M := M_X12_init_109) 216 dX12_init_216 ff_X12_91 (tk_g (by decide) o_108) (fun E m t q => q.1) rfl rfp_a (fun h53 E53 => ?_)
  have L465 := sl_up L456 E53 (by decide)
  have z466 : ∀ j, h53 110 j = 0 := fun j => (upN E53 (fun z => absurd z.1 (by decide))).trans (z457 j)
  have z467 : h53 112 0 = 0 := (upN E53 (fun z => absurd z.1 (by decide))).trans z458
  have z468 : h53 112 1 = 0 := (upN E53 (fun z => absurd z.1 (by decide))).trans z459
  have g469 := g460.put E53 (by decide)
  have g470 := g464.put E53 (by decide)
  have F471 : ∀ k, k < 108 → h53 k = h0 k := frn_up F462 E53 (by decide)
  clear g460 g464 F462 E52 g461 g463 L456 z457 z458 z459
  have f472 : h53 108 39 = ((134 : Nat) : Int) := upE E53
  refine y_aload_n (M := M_X12_init_109) 219 dX12_init_219 rfl ?_
  refine y_bipush (M := M_X12_init_109) 220 dX12_init_220 ?_
  refine y_newaJ (M := M_X12_init_109) 222 dX12_init_222 acJ (N := 10) (by decide) (tk_s o_135) (tk_l (by decide)) (tk_b (by decide) (by decide) (by decide)) (fun h54 E54 => ?_)
  have L473 := sl_c f472 L465
  have L474 := sl_same L473 (m_nw_ne E54 (by decide))
  have z475 : ∀ j, h54 110 j = 0 := fun j => (congrFun (m_nw_ne E54 (by decide)) j).trans (z466 j)
  have z476 : h54 112 0 = 0 := (congrFun (m_nw_ne E54 (by decide)) 0).trans z467
  have z477 : h54 112 1 = 0 := (congrFun (m_nw_ne E54 (by decide)) 1).trans z468
  have g478 := g469.nw E54 (by decide)
  have g479 := g470.nw E54 (by decide)
  have F480 : ∀ k, k < 108 → h54 k = h0 k := frn_nw F471 E54 (by decide)
  clear g469 g470 F471 E53 f472 L465 L473 z466 z467 z468
  have g481 : gR 135 136 h54 := gR_1 (gC_of bt_135 (fun j hj => by rw [nwJ E54]; exact trivial))
  have g482 := g479.join g481
  refine y_putF (M := M_X12_init_109) 224 dX12_init_224 ff_X12_94 (tk_g (by decide) o_108) (fun E m t q => q.1) rfl rfp_a (fun h55 E55 => ?_)
  have L483 := sl_up L474 E55 (by decide)
  have z484 : ∀ j, h55 110 j = 0 := fun j => (upN E55 (fun z => absurd z.1 (by decide))).trans (z475 j)
  have z485 : h55 112 0 = 0 := (upN E55 (fun z => absurd z.1 (by decide))).trans z476
  have z486 : h55 112 1 = 0 := (upN E55 (fun z => absurd z.1 (by decide))).trans z477
  have g487 := g478.put E55 (by decide)
  have g488 := g482.put E55 (by decide)
  have F489 : ∀ k, k < 108 → h55 k = h0 k := frn_up F480 E55 (by decide)
  clear g478 g482 F480 E54 g479 g481 L474 z475 z476 z477
  have f490 : h55 108 40 = ((135 : Nat) : Int) := upE E55
  refine y_aload_n (M := M_X12_init_109) 227 dX12_init_227 rfl ?_
  refine y_bipush (M := M_X12_init_109) 228 dX12_init_228 ?_
  refine y_newaJ (M := M_X12_init_109) 230 dX12_init_230 acJ (N := 10) (by decide) (tk_s o_136) (tk_l (by decide)) (tk_b (by decide) (by decide) (by decide)) (fun h56 E56 => ?_)
  have L491 := sl_c f490 L483
  have L492 := sl_same L491 (m_nw_ne E56 (by decide))
  have z493 : ∀ j, h56 110 j = 0 := fun j => (congrFun (m_nw_ne E56 (by decide)) j).trans (z484 j)
  have z494 : h56 112 0 = 0 := (congrFun (m_nw_ne E56 (by decide)) 0).trans z485
  have z495 : h56 112 1 = 0 := (congrFun (m_nw_ne E56 (by decide)) 1).trans z486
  have g496 := g487.nw E56 (by decide)
  have g497 := g488.nw E56 (by decide)
  have F498 : ∀ k, k < 108 → h56 k = h0 k := frn_nw F489 E56 (by decide)
  clear g487 g488 F489 E55 f490 L483 L491 z484 z485 z486
  have g499 : gR 136 137 h56 := gR_1 (gC_of bt_136 (fun j hj => by rw [nwJ E56]; exact trivial))
  have g500 := g497.join g499
  refine y_putF (M := M_X12_init_109) 232 dX12_init_232 ff_X12_97 (tk_g (by decide) o_108) (fun E m t q => q.1) rfl rfp_a (fun h57 E57 => ?_)
  have L501 := sl_up L492 E57 (by decide)
  have z502 : ∀ j, h57 110 j = 0 := fun j => (upN E57 (fun z => absurd z.1 (by decide))).trans (z493 j)
  have z503 : h57 112 0 = 0 := (upN E57 (fun z => absurd z.1 (by decide))).trans z494
  have z504 : h57 112 1 = 0 := (upN E57 (fun z => absurd z.1 (by decide))).trans z495
  have g505 := g496.put E57 (by decide)
  have g506 := g500.put E57 (by decide)
  have F507 : ∀ k, k < 108 → h57 k = h0 k := frn_up F498 E57 (by decide)
  clear g496 g500 F498 E56 g497 g499 L492 z493 z494 z495
  have f508 : h57 108 41 = ((136 : Nat) : Int) := upE E57
  refine y_aload_n (M := M_X12_init_109) 235 dX12_init_235 rfl ?_
  refine y_iconst (M := M_X12_init_109) 236 dX12_init_236 ?_
  refine y_newaJ (M := M_X12_init_109) 237 dX12_init_237 acJ (N := 5) (by decide) (tk_s o_137) (tk_l (by decide)) (tk_b (by decide) (by decide) (by decide)) (fun h58 E58 => ?_)
  have L509 := sl_c f508 L501
  have L510 := sl_same L509 (m_nw_ne E58 (by decide))
  have z511 : ∀ j, h58 110 j = 0 := fun j => (congrFun (m_nw_ne E58 (by decide)) j).trans (z502 j)
  have z512 : h58 112 0 = 0 := (congrFun (m_nw_ne E58 (by decide)) 0).trans z503
  have z513 : h58 112 1 = 0 := (congrFun (m_nw_ne E58 (by decide)) 1).trans z504
  have g514 := g505.nw E58 (by decide)
  have g515 := g506.nw E58 (by decide)
  have F516 : ∀ k, k < 108 → h58 k = h0 k := frn_nw F507 E58 (by decide)
  clear g505 g506 F507 E57 f508 L501 L509 z502 z503 z504
  have g517 : gR 137 138 h58 := gR_1 (gC_of bt_137 (fun j hj => by rw [nwJ E58]; show (0 : Int) ≤ 0 ∧ (0 : Int) ≤ 1; decide))
  have g518 := g515.join g517
  refine y_dup (M := M_X12_init_109) 239 dX12_init_239 rfl ?_
  refine y_iconst (M := M_X12_init_109) 240 dX12_init_240 ?_
  refine y_lconst (M := M_X12_init_109) 241 dX12_init_241 (v := 1) ?_
  refine y_last (M := M_X12_init_109) 242 dX12_init_242 (tk_g (by decide) o_137) (by decide) (by decide) ?_
  obtain ⟨h59, E59⟩ : ∃ x, x = m_up h58 137 0 1 := ⟨_, rfl⟩
  show m_Y _ _ _ _ _ _ (m_up h58 137 0 1) _
  rw [← E59]
  have Kh59 := g518 137 (by decide) (by decide)
  have g519 : gR 111 137 h58 := fun k q1 q2 => g518 k (by omega) (by omega)
  have L520 := sl_same L510 (upo E59 (by decide))
  have z521 : ∀ j, h59 110 j = 0 := fun j => (upN E59 (fun z => absurd z.1 (by decide))).trans (z511 j)
  have z522 : h59 112 0 = 0 := (upN E59 (fun z => absurd z.1 (by decide))).trans z512
  have z523 : h59 112 1 = 0 := (upN E59 (fun z => absurd z.1 (by decide))).trans z513
  have g524 := g514.put E59 (by decide)
  have g525 := g519.put E59 (by decide)
  have F526 : ∀ k, k < 108 → h59 k = h0 k := frn_up F516 E59 (by decide)
  clear g514 g519 F516 E58 g515 g517 g518 L510 z511 z512 z513
  have g527 : gR 137 138 h59 := gR_1 (gC_of bt_137 (fun j hj => by rw [upf E59]; show (0 : Int) ≤ (if j = 0 then 1 else _) ∧ (if j = 0 then 1 else _) ≤ (1 : Int); split; (decide); (exact Kh59 _ bt_137 j hj)))
  have g528 := g525.join g527
  refine y_dup (M := M_X12_init_109) 243 dX12_init_243 rfl ?_
  refine y_iconst (M := M_X12_init_109) 244 dX12_init_244 ?_
  refine y_lconst (M := M_X12_init_109) 245 dX12_init_245 (v := 0) ?_
  refine y_last (M := M_X12_init_109) 246 dX12_init_246 (tk_g (by decide) o_137) (by decide) (by decide) ?_
  obtain ⟨h60, E60⟩ : ∃ x, x = m_up h59 137 1 0 := ⟨_, rfl⟩
  show m_Y _ _ _ _ _ _ (m_up h59 137 1 0) _
  rw [← E60]
  have Kh60 := g528 137 (by decide) (by decide)
  have g529 : gR 111 137 h59 := fun k q1 q2 => g528 k (by omega) (by omega)
  have L530 := sl_same L520 (upo E60 (by decide))
  have z531 : ∀ j, h60 110 j = 0 := fun j => (upN E60 (fun z => absurd z.1 (by decide))).trans (z521 j)
  have z532 : h60 112 0 = 0 := (upN E60 (fun z => absurd z.1 (by decide))).trans z522
  have z533 : h60 112 1 = 0 := (upN E60 (fun z => absurd z.1 (by decide))).trans z523
  have g534 := g524.put E60 (by decide)
  have g535 := g529.put E60 (by decide)
  have F536 : ∀ k, k < 108 → h60 k = h0 k := frn_up F526 E60 (by decide)
  clear g524 g529 F526 E59 g525 g527 g528 L520 z521 z522 z523
  have g537 : gR 137 138 h60 := gR_1 (gC_of bt_137 (fun j hj => by rw [upf E60]; show (0 : Int) ≤ (if j = 1 then 0 else _) ∧ (if j = 1 then 0 else _) ≤ (1 : Int); split; (decide); (exact Kh60 _ bt_137 j hj)))
  have g538 := g535.join g537
  refine y_dup (M := M_X12_init_109) 247 dX12_init_247 rfl ?_
  refine y_iconst (M := M_X12_init_109) 248 dX12_init_248 ?_
  refine y_lconst (M := M_X12_init_109) 249 dX12_init_249 (v := 0) ?_
  refine y_last (M := M_X12_init_109) 250 dX12_init_250 (tk_g (by decide) o_137) (by decide) (by decide) ?_
  obtain ⟨h61, E61⟩ : ∃ x, x = m_up h60 137 2 0 := ⟨_, rfl⟩
  show m_Y _ _ _ _ _ _ (m_up h60 137 2 0) _
  rw [← E61]
  have Kh61 := g538 137 (by decide) (by decide)
  have g539 : gR 111 137 h60 := fun k q1 q2 => g538 k (by omega) (by omega)
  have L540 := sl_same L530 (upo E61 (by decide))
  have z541 : ∀ j, h61 110 j = 0 := fun j => (upN E61 (fun z => absurd z.1 (by decide))).trans (z531 j)
  have z542 : h61 112 0 = 0 := (upN E61 (fun z => absurd z.1 (by decide))).trans z532
  have z543 : h61 112 1 = 0 := (upN E61 (fun z => absurd z.1 (by decide))).trans z533
  have g544 := g534.put E61 (by decide)
  have g545 := g539.put E61 (by decide)
  have F546 : ∀ k, k < 108 → h61 k = h0 k := frn_up F536 E61 (by decide)
  clear g534 g539 F536 E60 g535 g537 g538 L530 z531 z532 z533
  have g547 : gR 137 138 h61 := gR_1 (gC_of bt_137 (fun j hj => by rw [upf E61]; show (0 : Int) ≤ (if j = 2 then 0 else _) ∧ (if j = 2 then 0 else _) ≤ (1 : Int); split; (decide); (exact Kh61 _ bt_137 j hj)))
  have g548 := g545.join g547
  refine y_dup (M := M_X12_init_109) 251 dX12_init_251 rfl ?_
  refine y_iconst (M := M_X12_init_109) 252 dX12_init_252 ?_
  refine y_lconst (M := M_X12_init_109) 253 dX12_init_253 (v := 0) ?_
  refine y_last (M := M_X12_init_109) 254 dX12_init_254 (tk_g (by decide) o_137) (by decide) (by decide) ?_
  obtain ⟨h62, E62⟩ : ∃ x, x = m_up h61 137 3 0 := ⟨_, rfl⟩
  show m_Y _ _ _ _ _ _ (m_up h61 137 3 0) _
  rw [← E62]
  have Kh62 := g548 137 (by decide) (by decide)
  have g549 : gR 111 137 h61 := fun k q1 q2 => g548 k (by omega) (by omega)
  have L550 := sl_same L540 (upo E62 (by decide))
  have z551 : ∀ j, h62 110 j = 0 := fun j => (upN E62 (fun z => absurd z.1 (by decide))).trans (z541 j)
  have z552 : h62 112 0 = 0 := (upN E62 (fun z => absurd z.1 (by decide))).trans z542
  have z553 : h62 112 1 = 0 := (upN E62 (fun z => absurd z.1 (by decide))).trans z543
  have g554 := g544.put E62 (by decide)
  have g555 := g549.put E62 (by decide)
  have F556 : ∀ k, k < 108 → h62 k = h0 k := frn_up F546 E62 (by decide)
  clear g544 g549 F546 E61 g545 g547 g548 L540 z541 z542 z543
  have g557 : gR 137 138 h62 := gR_1 (gC_of bt_137 (fun j hj => by rw [upf E62]; show (0 : Int) ≤ (if j = 3 then 0 else _) ∧ (if j = 3 then 0 else _) ≤ (1 : Int); split; (decide); (exact Kh62 _ bt_137 j hj)))
  have g558 := g555.join g557
  refine y_dup (M := M_X12_init_109) 255 dX12_init_255 rfl ?_
  refine y_iconst (M := M_X12_init_109) 256 dX12_init_256 ?_
  refine y_lconst (M := M_X12_init_109) 257 dX12_init_257 (v := 0) ?_
  refine y_last (M := M_X12_init_109) 258 dX12_init_258 (tk_g (by decide) o_137) (by decide) (by decide) ?_
  obtain ⟨h63, E63⟩ : ∃ x, x = m_up h62 137 4 0 := ⟨_, rfl⟩
  show m_Y _ _ _ _ _ _ (m_up h62 137 4 0) _
  rw [← E63]
  have Kh63 := g558 137 (by decide) (by decide)
  have g559 : gR 111 137 h62 := fun k q1 q2 => g558 k (by omega) (by omega)
  have L560 := sl_same L550 (upo E63 (by decide))
  have z561 : ∀ j, h63 110 j = 0 := fun j => (upN E63 (fun z => absurd z.1 (by decide))).trans (z551 j)
  have z562 : h63 112 0 = 0 := (upN E63 (fun z => absurd z.1 (by decide))).trans z552
  have z563 : h63 112 1 = 0 := (upN E63 (fun z => absurd z.1 (by decide))).trans z553
  have g564 := g554.put E63 (by decide)
  have g565 := g559.put E63 (by decide)
  have F566 : ∀ k, k < 108 → h63 k = h0 k := frn_up F556 E63 (by decide)
  clear g554 g559 F556 E62 g555 g557 g558 L550 z551 z552 z553
  have g567 : gR 137 138 h63 := gR_1 (gC_of bt_137 (fun j hj => by rw [upf E63]; show (0 : Int) ≤ (if j = 4 then 0 else _) ∧ (if j = 4 then 0 else _) ≤ (1 : Int); split; (decide); (exact Kh63 _ bt_137 j hj)))
  have g568 := g565.join g567
  refine y_putF (M := M_X12_init_109) 259 dX12_init_259 ff_X12_100 (tk_g (by decide) o_108) (fun E m t q => q.1) rfl rfp_a (fun h64 E64 => ?_)
  have L569 := sl_up L560 E64 (by decide)
  have z570 : ∀ j, h64 110 j = 0 := fun j => (upN E64 (fun z => absurd z.1 (by decide))).trans (z561 j)
  have z571 : h64 112 0 = 0 := (upN E64 (fun z => absurd z.1 (by decide))).trans z562
  have z572 : h64 112 1 = 0 := (upN E64 (fun z => absurd z.1 (by decide))).trans z563
  have g573 := g564.put E64 (by decide)
  have g574 := g568.put E64 (by decide)
  have F575 : ∀ k, k < 108 → h64 k = h0 k := frn_up F566 E64 (by decide)
  clear g564 g568 F566 E63 g565 g567 L560 z561 z562 z563
  have f576 : h64 108 42 = ((137 : Nat) : Int) := upE E64
  refine y_aload_n (M := M_X12_init_109) 262 dX12_init_262 rfl ?_
  refine y_bipush (M := M_X12_init_109) 263 dX12_init_263 ?_
  refine y_newaJ (M := M_X12_init_109) 265 dX12_init_265 acJ (N := 20) (by decide) (tk_s o_138) (tk_l (by decide)) (tk_b (by decide) (by decide) (by decide)) (fun h65 E65 => ?_)
  have L577 := sl_c f576 L569
  have L578 := sl_same L577 (m_nw_ne E65 (by decide))
  have z579 : ∀ j, h65 110 j = 0 := fun j => (congrFun (m_nw_ne E65 (by decide)) j).trans (z570 j)
  have z580 : h65 112 0 = 0 := (congrFun (m_nw_ne E65 (by decide)) 0).trans z571
  have z581 : h65 112 1 = 0 := (congrFun (m_nw_ne E65 (by decide)) 1).trans z572
  have g582 := g573.nw E65 (by decide)
  have g583 := g574.nw E65 (by decide)
  have F584 : ∀ k, k < 108 → h65 k = h0 k := frn_nw F575 E65 (by decide)
  clear g573 g574 F575 E64 f576 L569 L577 z570 z571 z572
  have g585 : gR 138 139 h65 := gR_1 (gC_of bt_138 (fun j hj => by rw [nwJ E65]; show (0 : Int) ≤ 0 ∧ (0 : Int) ≤ 99999999; decide))
  have g586 := g583.join g585
  refine y_putF (M := M_X12_init_109) 267 dX12_init_267 ff_X12_103 (tk_g (by decide) o_108) (fun E m t q => q.1) rfl rfp_a (fun h66 E66 => ?_)
  have L587 := sl_up L578 E66 (by decide)
  have z588 : ∀ j, h66 110 j = 0 := fun j => (upN E66 (fun z => absurd z.1 (by decide))).trans (z579 j)
  have z589 : h66 112 0 = 0 := (upN E66 (fun z => absurd z.1 (by decide))).trans z580
  have z590 : h66 112 1 = 0 := (upN E66 (fun z => absurd z.1 (by decide))).trans z581
  have g591 := g582.put E66 (by decide)
  have g592 := g586.put E66 (by decide)
  have F593 : ∀ k, k < 108 → h66 k = h0 k := frn_up F584 E66 (by decide)
  clear g582 g586 F584 E65 g583 g585 L578 z579 z580 z581
  have f594 : h66 108 43 = ((138 : Nat) : Int) := upE E66
  refine y_aload_n (M := M_X12_init_109) 270 dX12_init_270 rfl ?_
  refine y_bipush (M := M_X12_init_109) 271 dX12_init_271 ?_
  refine y_newaJ (M := M_X12_init_109) 273 dX12_init_273 acJ (N := 10) (by decide) (tk_s o_139) (tk_l (by decide)) (tk_b (by decide) (by decide) (by decide)) (fun h67 E67 => ?_)
  have L595 := sl_c f594 L587
  have L596 := sl_same L595 (m_nw_ne E67 (by decide))
  have z597 : ∀ j, h67 110 j = 0 := fun j => (congrFun (m_nw_ne E67 (by decide)) j).trans (z588 j)
  have z598 : h67 112 0 = 0 := (congrFun (m_nw_ne E67 (by decide)) 0).trans z589
  have z599 : h67 112 1 = 0 := (congrFun (m_nw_ne E67 (by decide)) 1).trans z590
  have g600 := g591.nw E67 (by decide)
  have g601 := g592.nw E67 (by decide)
  have F602 : ∀ k, k < 108 → h67 k = h0 k := frn_nw F593 E67 (by decide)
  clear g591 g592 F593 E66 f594 L587 L595 z588 z589 z590
  have g603 : gR 139 140 h67 := gR_1 (gC_of bt_139 (fun j hj => by rw [nwJ E67]; exact trivial))
  have g604 := g601.join g603
  refine y_putF (M := M_X12_init_109) 275 dX12_init_275 ff_X12_106 (tk_g (by decide) o_108) (fun E m t q => q.1) rfl rfp_a (fun h68 E68 => ?_)
  have L605 := sl_up L596 E68 (by decide)
  have z606 : ∀ j, h68 110 j = 0 := fun j => (upN E68 (fun z => absurd z.1 (by decide))).trans (z597 j)
  have z607 : h68 112 0 = 0 := (upN E68 (fun z => absurd z.1 (by decide))).trans z598
  have z608 : h68 112 1 = 0 := (upN E68 (fun z => absurd z.1 (by decide))).trans z599
  have g609 := g600.put E68 (by decide)
  have g610 := g604.put E68 (by decide)
  have F611 : ∀ k, k < 108 → h68 k = h0 k := frn_up F602 E68 (by decide)
  clear g600 g604 F602 E67 g601 g603 L596 z597 z598 z599
  have f612 : h68 108 48 = ((139 : Nat) : Int) := upE E68
  refine y_aload_n (M := M_X12_init_109) 278 dX12_init_278 rfl ?_
  refine y_bipush (M := M_X12_init_109) 279 dX12_init_279 ?_
  refine y_newaJ (M := M_X12_init_109) 281 dX12_init_281 acJ (N := 10) (by decide) (tk_s o_140) (tk_l (by decide)) (tk_b (by decide) (by decide) (by decide)) (fun h69 E69 => ?_)
  have L613 := sl_c f612 L605
  have L614 := sl_same L613 (m_nw_ne E69 (by decide))
  have z615 : ∀ j, h69 110 j = 0 := fun j => (congrFun (m_nw_ne E69 (by decide)) j).trans (z606 j)
  have z616 : h69 112 0 = 0 := (congrFun (m_nw_ne E69 (by decide)) 0).trans z607
  have z617 : h69 112 1 = 0 := (congrFun (m_nw_ne E69 (by decide)) 1).trans z608
  have g618 := g609.nw E69 (by decide)
  have g619 := g610.nw E69 (by decide)
  have F620 : ∀ k, k < 108 → h69 k = h0 k := frn_nw F611 E69 (by decide)
  clear g609 g610 F611 E68 f612 L605 L613 z606 z607 z608
  have g621 : gR 140 141 h69 := gR_1 (gC_of bt_140 (fun j hj => by rw [nwJ E69]; exact trivial))
  have g622 := g619.join g621
  refine y_putF (M := M_X12_init_109) 283 dX12_init_283 ff_X12_109 (tk_g (by decide) o_108) (fun E m t q => q.1) rfl rfp_a (fun h70 E70 => ?_)
  have L623 := sl_up L614 E70 (by decide)
  have z624 : ∀ j, h70 110 j = 0 := fun j => (upN E70 (fun z => absurd z.1 (by decide))).trans (z615 j)
  have z625 : h70 112 0 = 0 := (upN E70 (fun z => absurd z.1 (by decide))).trans z616
  have z626 : h70 112 1 = 0 := (upN E70 (fun z => absurd z.1 (by decide))).trans z617
  have g627 := g618.put E70 (by decide)
  have g628 := g622.put E70 (by decide)
  have F629 : ∀ k, k < 108 → h70 k = h0 k := frn_up F620 E70 (by decide)
  clear g618 g622 F620 E69 g619 g621 L614 z615 z616 z617
  have f630 : h70 108 49 = ((140 : Nat) : Int) := upE E70
  refine y_aload_n (M := M_X12_init_109) 286 dX12_init_286 rfl ?_
  refine y_bipush (M := M_X12_init_109) 287 dX12_init_287 ?_
  refine y_newaJ (M := M_X12_init_109) 289 dX12_init_289 acJ (N := 10) (by decide) (tk_s o_141) (tk_l (by decide)) (tk_b (by decide) (by decide) (by decide)) (fun h71 E71 => ?_)
  have L631 := sl_c f630 L623
  have L632 := sl_same L631 (m_nw_ne E71 (by decide))
  have z633 : ∀ j, h71 110 j = 0 := fun j => (congrFun (m_nw_ne E71 (by decide)) j).trans (z624 j)
  have z634 : h71 112 0 = 0 := (congrFun (m_nw_ne E71 (by decide)) 0).trans z625
  have z635 : h71 112 1 = 0 := (congrFun (m_nw_ne E71 (by decide)) 1).trans z626
  have g636 := g627.nw E71 (by decide)
  have g637 := g628.nw E71 (by decide)
  have F638 : ∀ k, k < 108 → h71 k = h0 k := frn_nw F629 E71 (by decide)
  clear g627 g628 F629 E70 f630 L623 L631 z624 z625 z626
  have g639 : gR 141 142 h71 := gR_1 (gC_of bt_141 (fun j hj => by rw [nwJ E71]; exact trivial))
  have g640 := g637.join g639
  refine y_putF (M := M_X12_init_109) 291 dX12_init_291 ff_X12_112 (tk_g (by decide) o_108) (fun E m t q => q.1) rfl rfp_a (fun h72 E72 => ?_)
  have L641 := sl_up L632 E72 (by decide)
  have z642 : ∀ j, h72 110 j = 0 := fun j => (upN E72 (fun z => absurd z.1 (by decide))).trans (z633 j)
  have z643 : h72 112 0 = 0 := (upN E72 (fun z => absurd z.1 (by decide))).trans z634
  have z644 : h72 112 1 = 0 := (upN E72 (fun z => absurd z.1 (by decide))).trans z635
  have g645 := g636.put E72 (by decide)
  have g646 := g640.put E72 (by decide)
  have F647 : ∀ k, k < 108 → h72 k = h0 k := frn_up F638 E72 (by decide)
  clear g636 g640 F638 E71 g637 g639 L632 z633 z634 z635
  have f648 : h72 108 50 = ((141 : Nat) : Int) := upE E72
  refine y_aload_n (M := M_X12_init_109) 294 dX12_init_294 rfl ?_
  refine y_bipush (M := M_X12_init_109) 295 dX12_init_295 ?_
  refine y_newaJ (M := M_X12_init_109) 297 dX12_init_297 acJ (N := 10) (by decide) (tk_s o_142) (tk_l (by decide)) (tk_b (by decide) (by decide) (by decide)) (fun h73 E73 => ?_)
  have L649 := sl_c f648 L641
  have L650 := sl_same L649 (m_nw_ne E73 (by decide))
  have z651 : ∀ j, h73 110 j = 0 := fun j => (congrFun (m_nw_ne E73 (by decide)) j).trans (z642 j)
  have z652 : h73 112 0 = 0 := (congrFun (m_nw_ne E73 (by decide)) 0).trans z643
  have z653 : h73 112 1 = 0 := (congrFun (m_nw_ne E73 (by decide)) 1).trans z644
  have g654 := g645.nw E73 (by decide)
  have g655 := g646.nw E73 (by decide)
  have F656 : ∀ k, k < 108 → h73 k = h0 k := frn_nw F647 E73 (by decide)
  clear g645 g646 F647 E72 f648 L641 L649 z642 z643 z644
  have g657 : gR 142 143 h73 := gR_1 (gC_of bt_142 (fun j hj => by rw [nwJ E73]; exact trivial))
  have g658 := g655.join g657
  refine y_putF (M := M_X12_init_109) 299 dX12_init_299 ff_X12_115 (tk_g (by decide) o_108) (fun E m t q => q.1) rfl rfp_a (fun h74 E74 => ?_)
  have L659 := sl_up L650 E74 (by decide)
  have z660 : ∀ j, h74 110 j = 0 := fun j => (upN E74 (fun z => absurd z.1 (by decide))).trans (z651 j)
  have z661 : h74 112 0 = 0 := (upN E74 (fun z => absurd z.1 (by decide))).trans z652
  have z662 : h74 112 1 = 0 := (upN E74 (fun z => absurd z.1 (by decide))).trans z653
  have g663 := g654.put E74 (by decide)
  have g664 := g658.put E74 (by decide)
  have F665 : ∀ k, k < 108 → h74 k = h0 k := frn_up F656 E74 (by decide)
  clear g654 g658 F656 E73 g655 g657 L650 z651 z652 z653
  have f666 : h74 108 51 = ((142 : Nat) : Int) := upE E74
  refine y_aload_n (M := M_X12_init_109) 302 dX12_init_302 rfl ?_
  refine y_iconst (M := M_X12_init_109) 303 dX12_init_303 ?_
  refine y_newaJ (M := M_X12_init_109) 304 dX12_init_304 acJ (N := 3) (by decide) (tk_s o_143) (tk_l (by decide)) (tk_b (by decide) (by decide) (by decide)) (fun h75 E75 => ?_)
  have L667 := sl_c f666 L659
  have L668 := sl_same L667 (m_nw_ne E75 (by decide))
  have z669 : ∀ j, h75 110 j = 0 := fun j => (congrFun (m_nw_ne E75 (by decide)) j).trans (z660 j)
  have z670 : h75 112 0 = 0 := (congrFun (m_nw_ne E75 (by decide)) 0).trans z661
  have z671 : h75 112 1 = 0 := (congrFun (m_nw_ne E75 (by decide)) 1).trans z662
  have g672 := g663.nw E75 (by decide)
  have g673 := g664.nw E75 (by decide)
  have F674 : ∀ k, k < 108 → h75 k = h0 k := frn_nw F665 E75 (by decide)
  clear g663 g664 F665 E74 f666 L659 L667 z660 z661 z662
  have g675 : gR 143 144 h75 := gR_1 (gC_of bt_143 (fun j hj => by rw [nwJ E75]; exact trivial))
  have g676 := g673.join g675
  refine y_putF (M := M_X12_init_109) 306 dX12_init_306 ff_X12_118 (tk_g (by decide) o_108) (fun E m t q => q.1) rfl rfp_a (fun h76 E76 => ?_)
  have L677 := sl_up L668 E76 (by decide)
  have z678 : ∀ j, h76 110 j = 0 := fun j => (upN E76 (fun z => absurd z.1 (by decide))).trans (z669 j)
  have z679 : h76 112 0 = 0 := (upN E76 (fun z => absurd z.1 (by decide))).trans z670
  have z680 : h76 112 1 = 0 := (upN E76 (fun z => absurd z.1 (by decide))).trans z671
  have g681 := g672.put E76 (by decide)
  have g682 := g676.put E76 (by decide)
  have F683 : ∀ k, k < 108 → h76 k = h0 k := frn_up F674 E76 (by decide)
  clear g672 g676 F674 E75 g673 g675 L668 z669 z670 z671
  have f684 : h76 108 52 = ((143 : Nat) : Int) := upE E76
  refine y_aload_n (M := M_X12_init_109) 309 dX12_init_309 rfl ?_
  refine y_iconst (M := M_X12_init_109) 310 dX12_init_310 ?_
  refine y_newaJ (M := M_X12_init_109) 311 dX12_init_311 acJ (N := 3) (by decide) (tk_s o_144) (tk_l (by decide)) (tk_b (by decide) (by decide) (by decide)) (fun h77 E77 => ?_)
  have L685 := sl_c f684 L677
  have L686 := sl_same L685 (m_nw_ne E77 (by decide))
  have z687 : ∀ j, h77 110 j = 0 := fun j => (congrFun (m_nw_ne E77 (by decide)) j).trans (z678 j)
  have z688 : h77 112 0 = 0 := (congrFun (m_nw_ne E77 (by decide)) 0).trans z679
  have z689 : h77 112 1 = 0 := (congrFun (m_nw_ne E77 (by decide)) 1).trans z680
  have g690 := g681.nw E77 (by decide)
  have g691 := g682.nw E77 (by decide)
  have F692 : ∀ k, k < 108 → h77 k = h0 k := frn_nw F683 E77 (by decide)
  clear g681 g682 F683 E76 f684 L677 L685 z678 z679 z680
  have g693 : gR 144 145 h77 := gR_1 (gC_of bt_144 (fun j hj => by rw [nwJ E77]; exact trivial))
  have g694 := g691.join g693
  refine y_putF (M := M_X12_init_109) 313 dX12_init_313 ff_X12_121 (tk_g (by decide) o_108) (fun E m t q => q.1) rfl rfp_a (fun h78 E78 => ?_)
  have L695 := sl_up L686 E78 (by decide)
  have z696 : ∀ j, h78 110 j = 0 := fun j => (upN E78 (fun z => absurd z.1 (by decide))).trans (z687 j)
  have z697 : h78 112 0 = 0 := (upN E78 (fun z => absurd z.1 (by decide))).trans z688
  have z698 : h78 112 1 = 0 := (upN E78 (fun z => absurd z.1 (by decide))).trans z689
  have g699 := g690.put E78 (by decide)
  have g700 := g694.put E78 (by decide)
  have F701 : ∀ k, k < 108 → h78 k = h0 k := frn_up F692 E78 (by decide)
  clear g690 g694 F692 E77 g691 g693 L686 z687 z688 z689
  have f702 : h78 108 53 = ((144 : Nat) : Int) := upE E78
  refine y_aload_n (M := M_X12_init_109) 316 dX12_init_316 rfl ?_
  refine y_bipush (M := M_X12_init_109) 317 dX12_init_317 ?_
  refine y_newaI (M := M_X12_init_109) 319 dX12_init_319 acI (N := 16) (by decide) (tk_s o_145) (tk_l (by decide)) (tk_b (by decide) (by decide) (by decide)) (fun h79 E79 => ?_)
  have L703 := sl_c f702 L695
  have L704 := sl_same L703 (m_nw_ne E79 (by decide))
  have z705 : ∀ j, h79 110 j = 0 := fun j => (congrFun (m_nw_ne E79 (by decide)) j).trans (z696 j)
  have z706 : h79 112 0 = 0 := (congrFun (m_nw_ne E79 (by decide)) 0).trans z697
  have z707 : h79 112 1 = 0 := (congrFun (m_nw_ne E79 (by decide)) 1).trans z698
  have g708 := g699.nw E79 (by decide)
  have g709 := g700.nw E79 (by decide)
  have F710 : ∀ k, k < 108 → h79 k = h0 k := frn_nw F701 E79 (by decide)
  clear g699 g700 F701 E78 f702 L695 L703 z696 z697 z698
  have g711 : gR 145 146 h79 := gR_1 (gC_of bt_145 (fun j hj => by rw [nwI E79]; show (0 : Int) ≤ 0 ∧ (0 : Int) ≤ 15; decide))
  have g712 := g709.join g711
  refine y_putF (M := M_X12_init_109) 321 dX12_init_321 ff_X12_124 (tk_g (by decide) o_108) (fun E m t q => q.1) rfl rfp_a (fun h80 E80 => ?_)
  have L713 := sl_up L704 E80 (by decide)
  have z714 : ∀ j, h80 110 j = 0 := fun j => (upN E80 (fun z => absurd z.1 (by decide))).trans (z705 j)
  have z715 : h80 112 0 = 0 := (upN E80 (fun z => absurd z.1 (by decide))).trans z706
  have z716 : h80 112 1 = 0 := (upN E80 (fun z => absurd z.1 (by decide))).trans z707
  have g717 := g708.put E80 (by decide)
  have g718 := g712.put E80 (by decide)
  have F719 : ∀ k, k < 108 → h80 k = h0 k := frn_up F710 E80 (by decide)
  clear g708 g712 F710 E79 g709 g711 L704 z705 z706 z707
  have f720 : h80 108 56 = ((145 : Nat) : Int) := upE E80
  refine y_aload_n (M := M_X12_init_109) 324 dX12_init_324 rfl ?_
  refine y_iconst (M := M_X12_init_109) 325 dX12_init_325 ?_
  refine y_newaI (M := M_X12_init_109) 326 dX12_init_326 acI (N := 3) (by decide) (tk_s o_146) (tk_l (by decide)) (tk_b (by decide) (by decide) (by decide)) (fun h81 E81 => ?_)
  have L721 := sl_c f720 L713
  have L722 := sl_same L721 (m_nw_ne E81 (by decide))
  have z723 : ∀ j, h81 110 j = 0 := fun j => (congrFun (m_nw_ne E81 (by decide)) j).trans (z714 j)
  have z724 : h81 112 0 = 0 := (congrFun (m_nw_ne E81 (by decide)) 0).trans z715
  have z725 : h81 112 1 = 0 := (congrFun (m_nw_ne E81 (by decide)) 1).trans z716
  have g726 := g717.nw E81 (by decide)
  have g727 := g718.nw E81 (by decide)
  have F728 : ∀ k, k < 108 → h81 k = h0 k := frn_nw F719 E81 (by decide)
  clear g717 g718 F719 E80 f720 L713 L721 z714 z715 z716
  have g729 : gR 146 147 h81 := gR_1 (gC_of bt_146 (fun j hj => by rw [nwI E81]; show (0 : Int) ≤ 0 ∧ (0 : Int) ≤ 31; decide))
  have g730 := g727.join g729
  refine y_putF (M := M_X12_init_109) 328 dX12_init_328 ff_X12_127 (tk_g (by decide) o_108) (fun E m t q => q.1) rfl rfp_a (fun h82 E82 => ?_)
  have L731 := sl_up L722 E82 (by decide)
  have z732 : ∀ j, h82 110 j = 0 := fun j => (upN E82 (fun z => absurd z.1 (by decide))).trans (z723 j)
  have z733 : h82 112 0 = 0 := (upN E82 (fun z => absurd z.1 (by decide))).trans z724
  have z734 : h82 112 1 = 0 := (upN E82 (fun z => absurd z.1 (by decide))).trans z725
  have g735 := g726.put E82 (by decide)
  have g736 := g730.put E82 (by decide)
  have F737 : ∀ k, k < 108 → h82 k = h0 k := frn_up F728 E82 (by decide)
  clear g726 g730 F728 E81 g727 g729 L722 z723 z724 z725
  have f738 : h82 108 57 = ((146 : Nat) : Int) := upE E82
  refine y_aload_n (M := M_X12_init_109) 331 dX12_init_331 rfl ?_
  refine y_bipush (M := M_X12_init_109) 332 dX12_init_332 ?_
  refine y_newaI (M := M_X12_init_109) 334 dX12_init_334 acI (N := 32) (by decide) (tk_s o_147) (tk_l (by decide)) (tk_b (by decide) (by decide) (by decide)) (fun h83 E83 => ?_)
  have L739 := sl_c f738 L731
  have L740 := sl_same L739 (m_nw_ne E83 (by decide))
  have z741 : ∀ j, h83 110 j = 0 := fun j => (congrFun (m_nw_ne E83 (by decide)) j).trans (z732 j)
  have z742 : h83 112 0 = 0 := (congrFun (m_nw_ne E83 (by decide)) 0).trans z733
  have z743 : h83 112 1 = 0 := (congrFun (m_nw_ne E83 (by decide)) 1).trans z734
  have g744 := g735.nw E83 (by decide)
  have g745 := g736.nw E83 (by decide)
  have F746 : ∀ k, k < 108 → h83 k = h0 k := frn_nw F737 E83 (by decide)
  clear g735 g736 F737 E82 f738 L731 L739 z732 z733 z734
  have g747 : gR 147 148 h83 := gR_1 (gC_of bt_147 (fun j hj => by rw [nwI E83]; show (0 : Int) ≤ 0 ∧ (0 : Int) ≤ 3; decide))
  have g748 := g745.join g747
  refine y_putF (M := M_X12_init_109) 336 dX12_init_336 ff_X12_130 (tk_g (by decide) o_108) (fun E m t q => q.1) rfl rfp_a (fun h84 E84 => ?_)
  have L749 := sl_up L740 E84 (by decide)
  have z750 : ∀ j, h84 110 j = 0 := fun j => (upN E84 (fun z => absurd z.1 (by decide))).trans (z741 j)
  have z751 : h84 112 0 = 0 := (upN E84 (fun z => absurd z.1 (by decide))).trans z742
  have z752 : h84 112 1 = 0 := (upN E84 (fun z => absurd z.1 (by decide))).trans z743
  have g753 := g744.put E84 (by decide)
  have g754 := g748.put E84 (by decide)
  have F755 : ∀ k, k < 108 → h84 k = h0 k := frn_up F746 E84 (by decide)
  clear g744 g748 F746 E83 g745 g747 L740 z741 z742 z743
  have f756 : h84 108 59 = ((147 : Nat) : Int) := upE E84
  have L757 := sl_c f756 L749
  have e3_ := sl_g L757 3 ((110 : Nat) : Int) (by decide)
  refine y_iconst (M := M_mi) 339 dX12_init_339 ?_
  refine y_istore_n (M := M_mi) 340 dX12_init_340 (ls' := [some (mR 108), some (mI 0)]) (by decide) rfl ?_
  refine mi_1 (hs := h84) e3_ (fun h1_ I1 => ?_) 32 0 h84 (by decide) (by decide) (by decide) ⟨fun _ _ => rfl, fun j => ?_⟩
  · refine y_iconst (M := M_mi) 363 dX12_init_363 ?_
    refine y_istore_n (M := M_mi) 364 dX12_init_364 (ls' := [some (mR 108), some (mI 0)]) (by decide) rfl ?_
    refine mi_2 (hs := h84) e3_ (fun h2_ I2 => ?_) 6 0 h1_ (by decide) (by decide) (by decide) I1
    refine y_iconst (M := M_mi) 387 dX12_init_387 ?_
    refine y_istore_n (M := M_mi) 388 dX12_init_388 (ls' := [some (mR 108), some (mI 0)]) (by decide) rfl ?_
    refine mi_3 (hs := h84) e3_ (fun hz I3 => ?_) 16 0 h2_ (by decide) (by decide) (by decide) I2
    have CE : ∀ k, k ≠ 110 → hz k = h84 k := I3.1
    have L758 := sl_same L757 (CE 108 (by decide))
    have g759 := g753.cell CE (by decide)
    have g760 := g754.cell CE (by decide)
    have F761 : ∀ k, k < 108 → hz k = h0 k := frn_ce F755 CE (by decide)
    clear g753 g754 F755 E84 f756 L749 L757
    have g762 : gR 110 111 hz := gR_1 (rw_ok I3.2)
    have g763 := g759.join g762
    have g764 := g763.join g760
    have g765 : gR 108 109 hz := gR_1 (gC_of bt_108 (fun j hj => by have q : j = 0 ∨ j = 1 ∨ j = 2 ∨ j = 3 ∨ j = 4 ∨ j = 5 ∨ j = 6 ∨ j = 7 ∨ j = 8 ∨ j = 9 ∨ j = 10 ∨ j = 11 ∨ j = 12 ∨ j = 13 ∨ j = 14 ∨ j = 15 ∨ j = 16 ∨ j = 17 ∨ j = 18 ∨ j = 19 ∨ j = 20 ∨ j = 21 ∨ j = 22 ∨ j = 23 ∨ j = 24 ∨ j = 25 ∨ j = 26 ∨ j = 27 ∨ j = 28 ∨ j = 29 ∨ j = 30 ∨ j = 31 ∨ j = 32 ∨ j = 33 ∨ j = 34 ∨ j = 35 ∨ j = 36 ∨ j = 37 ∨ j = 38 ∨ j = 39 ∨ j = 40 ∨ j = 41 ∨ j = 42 ∨ j = 43 ∨ j = 44 ∨ j = 45 ∨ j = 46 ∨ j = 47 ∨ j = 48 ∨ j = 49 ∨ j = 50 ∨ j = 51 ∨ j = 52 ∨ j = 53 ∨ j = 54 ∨ j = 55 ∨ j = 56 ∨ j = 57 ∨ j = 58 ∨ j = 59 ∨ j = 60 ∨ j = 61 ∨ j = 62 := (by omega); rcases q with rfl | rfl | rfl | rfl | rfl | rfl | rfl | rfl | rfl | rfl | rfl | rfl | rfl | rfl | rfl | rfl | rfl | rfl | rfl | rfl | rfl | rfl | rfl | rfl | rfl | rfl | rfl | rfl | rfl | rfl | rfl | rfl | rfl | rfl | rfl | rfl | rfl | rfl | rfl | rfl | rfl | rfl | rfl | rfl | rfl | rfl | rfl | rfl | rfl | rfl | rfl | rfl | rfl | rfl | rfl | rfl | rfl | rfl | rfl | rfl | rfl | rfl | rfl; exact trivial; exact trivial; exact sl_g L758 2 ((109 : Nat) : Int) (by decide); exact sl_g L758 3 ((110 : Nat) : Int) (by decide); exact sl_g L758 4 ((111 : Nat) : Int) (by decide); exact sl_g L758 5 ((112 : Nat) : Int) (by decide); exact trivial; exact sl_g L758 7 ((113 : Nat) : Int) (by decide); (show (0 : Int) ≤ hz 108 8 ∧ hz 108 8 ≤ (400 : Int); rw [sl_g L758 8 0 (by decide)]; decide); (show (0 : Int) ≤ hz 108 9 ∧ hz 108 9 ≤ (400 : Int); rw [sl_g L758 9 0 (by decide)]; decide); (show (0 : Int) ≤ hz 108 10 ∧ hz 108 10 ≤ (400 : Int); rw [sl_g L758 10 0 (by decide)]; decide); (show (0 : Int) ≤ hz 108 11 ∧ hz 108 11 ≤ (3 : Int); rw [sl_g L758 11 0 (by decide)]; decide); exact trivial; exact trivial; (show (0 : Int) ≤ hz 108 14 ∧ hz 108 14 ≤ (1 : Int); rw [sl_g L758 14 0 (by decide)]; decide); exact sl_g L758 15 ((114 : Nat) : Int) (by decide); (show (0 : Int) ≤ hz 108 16 ∧ hz 108 16 ≤ (200 : Int); rw [sl_g L758 16 0 (by decide)]; decide); (show (0 : Int) ≤ hz 108 17 ∧ hz 108 17 ≤ (24 : Int); rw [sl_g L758 17 0 (by decide)]; decide); (show (0 : Int) ≤ hz 108 18 ∧ hz 108 18 ≤ (6 : Int); rw [sl_g L758 18 0 (by decide)]; decide); exact sl_g L758 19 ((115 : Nat) : Int) (by decide); exact sl_g L758 20 ((116 : Nat) : Int) (by decide); (show (0 : Int) ≤ hz 108 21 ∧ hz 108 21 ≤ (60 : Int); rw [sl_g L758 21 0 (by decide)]; decide); exact sl_g L758 22 ((117 : Nat) : Int) (by decide); exact sl_g L758 23 ((118 : Nat) : Int) (by decide); exact sl_g L758 24 ((119 : Nat) : Int) (by decide); exact sl_g L758 25 ((120 : Nat) : Int) (by decide); exact sl_g L758 26 ((121 : Nat) : Int) (by decide); exact sl_g L758 27 ((122 : Nat) : Int) (by decide); exact sl_g L758 28 ((123 : Nat) : Int) (by decide); exact sl_g L758 29 ((124 : Nat) : Int) (by decide); exact sl_g L758 30 ((125 : Nat) : Int) (by decide); exact sl_g L758 31 ((126 : Nat) : Int) (by decide); exact sl_g L758 32 ((127 : Nat) : Int) (by decide); exact sl_g L758 33 ((128 : Nat) : Int) (by decide); exact sl_g L758 34 ((129 : Nat) : Int) (by decide); exact sl_g L758 35 ((130 : Nat) : Int) (by decide); exact sl_g L758 36 ((131 : Nat) : Int) (by decide); exact sl_g L758 37 ((132 : Nat) : Int) (by decide); exact sl_g L758 38 ((133 : Nat) : Int) (by decide); exact sl_g L758 39 ((134 : Nat) : Int) (by decide); exact sl_g L758 40 ((135 : Nat) : Int) (by decide); exact sl_g L758 41 ((136 : Nat) : Int) (by decide); exact sl_g L758 42 ((137 : Nat) : Int) (by decide); exact sl_g L758 43 ((138 : Nat) : Int) (by decide); (show (0 : Int) ≤ hz 108 44 ∧ hz 108 44 ≤ (1 : Int); rw [sl_g L758 44 0 (by decide)]; decide); (show (0 : Int) ≤ hz 108 45 ∧ hz 108 45 ≤ (1 : Int); rw [sl_g L758 45 0 (by decide)]; decide); (show (0 : Int) ≤ hz 108 46 ∧ hz 108 46 ≤ (1 : Int); rw [sl_g L758 46 0 (by decide)]; decide); (show (0 : Int) ≤ hz 108 47 ∧ hz 108 47 ≤ (1 : Int); rw [sl_g L758 47 0 (by decide)]; decide); exact sl_g L758 48 ((139 : Nat) : Int) (by decide); exact sl_g L758 49 ((140 : Nat) : Int) (by decide); exact sl_g L758 50 ((141 : Nat) : Int) (by decide); exact sl_g L758 51 ((142 : Nat) : Int) (by decide); exact sl_g L758 52 ((143 : Nat) : Int) (by decide); exact sl_g L758 53 ((144 : Nat) : Int) (by decide); (show (0 : Int) ≤ hz 108 54 ∧ hz 108 54 ≤ (1 : Int); rw [sl_g L758 54 0 (by decide)]; decide); (show (0 : Int) ≤ hz 108 55 ∧ hz 108 55 ≤ (1 : Int); rw [sl_g L758 55 0 (by decide)]; decide); exact sl_g L758 56 ((145 : Nat) : Int) (by decide); exact sl_g L758 57 ((146 : Nat) : Int) (by decide); (show (0 : Int) ≤ hz 108 58 ∧ hz 108 58 ≤ (3 : Int); rw [sl_g L758 58 0 (by decide)]; decide); exact sl_g L758 59 ((147 : Nat) : Int) (by decide); (show (0 : Int) ≤ hz 108 60 ∧ hz 108 60 ≤ (1 : Int); rw [sl_g L758 60 0 (by decide)]; decide); (show (-1 : Int) ≤ hz 108 61 ∧ hz 108 61 ≤ (31 : Int); rw [sl_g L758 61 0 (by decide)]; decide); (show (-1 : Int) ≤ hz 108 62 ∧ hz 108 62 ≤ (31 : Int); rw [sl_g L758 62 0 (by decide)]; decide)))
    have g766 := g765.join g764
    have z0 : hz 110 0 = 0 := (I3.2 0).trans rfl
    have k0 : hz 112 0 = 0 := (congrFun (CE 112 (by decide)) 0).trans z751
    have k1 : hz 112 1 = 0 := (congrFun (CE 112 (by decide)) 1).trans z752
    exact y_vret (M := M_mi) 412 dX12_init_412 rfl ⟨rfl, rfl, g766, F761, (sl_g L758 8 0 (by decide)), z0, k0, k1, (sl_g L758 60 0 (by decide)), (sl_g L758 6 0 (by decide)), (sl_g L758 13 (-1) (by decide)), I3.2⟩
  · rw [z750]; exact (rwF_0 j).symm
