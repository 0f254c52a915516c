abbrev M_X12_init_109 : m_M := mkM RX12 yX12_init cX12_init 2 1 20 109 148 none
set_option maxHeartbeats 4000000 in
set_option maxRecDepth 100000 in
theorem c_X12_init_109 (h0 : m_H) (e6 : h0 108 6 = 0) (e8 : h0 108 8 = 0) (e9 : h0 108 9 = 0) (e10 : h0 108 10 = 0) (e11 : h0 108 11 = 0) (e14 : h0 108 14 = 0) (e16 : h0 108 16 = 0) (e17 : h0 108 17 = 0) (e18 : h0 108 18 = 0) (e21 : h0 108 21 = 0) (e44 : h0 108 44 = 0) (e45 : h0 108 45 = 0) (e46 : h0 108 46 = 0) (e47 : h0 108 47 = 0) (e54 : h0 108 54 = 0) (e55 : h0 108 55 = 0) (e58 : h0 108 58 = 0) (e60 : h0 108 60 = 0) (e61 : h0 108 61 = 0) (e62 : h0 108 62 = 0) : m_D M_X12_init_109 (oF.take 109) (oF.take 148) [mR 108] h0 (fun r h' => r = none ∧ gR 108 148 h' ∧ (∀ k, k < 108 → h' k = h0 k) ∧ h' 108 8 = 0 ∧ h' 110 0 = 0 ∧ h' 112 0 = 0 ∧ h' 112 1 = 0 ∧ h' 108 60 = 0 ∧ h' 108 6 = 0 ∧ h' 108 13 = (-1) ∧ (∀ j, h' 110 j = rwF 32 6 16 j) ∧ (h' 113 = fun _ => 0) ∧ h' 137 0 = 1) := by
  refine tk_D (by decide) (by decide) (by decide) rfl (by decide) (ls := [some (mR 108), none]) rfl ?_
  refine y_aload_n (M := M_X12_init_109) 0 dX12_init_0 rfl ?_
  refine y_objI (M := M_X12_init_109) 1 dX12_init_1 ol_X12 ow2 ow3 (by decide) (by decide) ?_
  refine y_aload_n (M := M_X12_init_109) 4 dX12_init_4 rfl ?_
  refine y_bipush (M := M_X12_init_109) 5 dX12_init_5 ?_
  refine y_newaI (M := M_X12_init_109) 7 dX12_init_7 acI (N := 7) (by decide) (tk_s o_109) (tk_l (by decide)) (tk_b (by decide) (by decide) (by decide)) (fun h1 E1 => ?_)
  have L1 := sl_c e6 sl_nil
  have L2 := sl_c e8 L1
  have L3 := sl_c e9 L2
  have L4 := sl_c e10 L3
  have L5 := sl_c e11 L4
  have L6 := sl_c e14 L5
  have L7 := sl_c e16 L6
  have L8 := sl_c e17 L7
  have L9 := sl_c e18 L8
  have L10 := sl_c e21 L9
  have L11 := sl_c e44 L10
  have L12 := sl_c e45 L11
  have L13 := sl_c e46 L12
  have L14 := sl_c e47 L13
  have L15 := sl_c e54 L14
  have L16 := sl_c e55 L15
  have L17 := sl_c e58 L16
  have L18 := sl_c e60 L17
  have L19 := sl_c e61 L18
  have L20 := sl_c e62 L19
  have L21 := sl_same L20 (m_nw_ne E1 (by decide))
  have F22 : ∀ k, k < 108 → h1 k = h0 k := frn_nw (fun k _ => rfl) E1 (by decide)
  clear L1 L2 L3 L4 L5 L6 L7 L8 L9 L10 L11 L12 L13 L14 L15 L16 L17 L18 L19 L20
  have g23 : gR 109 110 h1 := gR_1 (gC_of bt_109 (fun j hj => by rw [nwI E1]; exact trivial))
  refine y_putF (M := M_X12_init_109) 9 dX12_init_9 ff_X12_7 (tk_g (by decide) o_108) (fun E m t q => q.1) rfl rfp_a (fun h2 E2 => ?_)
  have L24 := sl_up L21 E2 (by decide)
  have g25 := g23.put E2 (by decide)
  have F26 : ∀ k, k < 108 → h2 k = h0 k := frn_up F22 E2 (by decide)
  clear g23 F22 E1 L21
  have f27 : h2 108 2 = ((109 : Nat) : Int) := upE E2
  refine y_aload_n (M := M_X12_init_109) 12 dX12_init_12 rfl ?_
  refine y_sipush (M := M_X12_init_109) 13 dX12_init_13 ?_
  refine y_newaI (M := M_X12_init_109) 16 dX12_init_16 acI (N := 200) (by decide) (tk_s o_110) (tk_l (by decide)) (tk_b (by decide) (by decide) (by decide)) (fun h3 E3 => ?_)
  have L28 := sl_c f27 L24
  have L29 := sl_same L28 (m_nw_ne E3 (by decide))
  have z30 : ∀ j, h3 110 j = 0 := nwI E3
  have g31 := g25.nw E3 (by decide)
  have F32 : ∀ k, k < 108 → h3 k = h0 k := frn_nw F26 E3 (by decide)
  clear g25 F26 E2 f27 L24 L28
  refine y_putF (M := M_X12_init_109) 18 dX12_init_18 ff_X12_13 (tk_g (by decide) o_108) (fun E m t q => q.1) rfl rfp_a (fun h4 E4 => ?_)
  have L33 := sl_up L29 E4 (by decide)
  have z34 : ∀ j, h4 110 j = 0 := fun j => (upN E4 (fun z => absurd z.1 (by decide))).trans (z30 j)
  have g35 := g31.put E4 (by decide)
  have F36 : ∀ k, k < 108 → h4 k = h0 k := frn_up F32 E4 (by decide)
  clear g31 F32 E3 L29 z30
  have f37 : h4 108 3 = ((110 : Nat) : Int) := upE E4
  refine y_aload_n (M := M_X12_init_109) 21 dX12_init_21 rfl ?_
  refine y_sipush (M := M_X12_init_109) 22 dX12_init_22 ?_
  refine y_newaI (M := M_X12_init_109) 25 dX12_init_25 acI (N := 400) (by decide) (tk_s o_111) (tk_l (by decide)) (tk_b (by decide) (by decide) (by decide)) (fun h5 E5 => ?_)
  have L38 := sl_c f37 L33
  have L39 := sl_same L38 (m_nw_ne E5 (by decide))
  have z40 : ∀ j, h5 110 j = 0 := fun j => (congrFun (m_nw_ne E5 (by decide)) j).trans (z34 j)
  have g41 := g35.nw E5 (by decide)
  have F42 : ∀ k, k < 108 → h5 k = h0 k := frn_nw F36 E5 (by decide)
  clear g35 F36 E4 f37 L33 L38 z34
  have g43 : gR 111 112 h5 := gR_1 (gC_of bt_111 (fun j hj => by rw [nwI E5]; exact trivial))
  refine y_putF (M := M_X12_init_109) 27 dX12_init_27 ff_X12_16 (tk_g (by decide) o_108) (fun E m t q => q.1) rfl rfp_a (fun h6 E6 => ?_)
  have L44 := sl_up L39 E6 (by decide)
  have z45 : ∀ j, h6 110 j = 0 := fun j => (upN E6 (fun z => absurd z.1 (by decide))).trans (z40 j)
  have g46 := g41.put E6 (by decide)
  have g47 := g43.put E6 (by decide)
  have F48 : ∀ k, k < 108 → h6 k = h0 k := frn_up F42 E6 (by decide)
  clear g41 g43 F42 E5 L39 z40
  have f49 : h6 108 4 = ((111 : Nat) : Int) := upE E6
  refine y_aload_n (M := M_X12_init_109) 30 dX12_init_30 rfl ?_
  refine y_iconst (M := M_X12_init_109) 31 dX12_init_31 ?_
  refine y_newaZ (M := M_X12_init_109) 32 dX12_init_32 acZ (N := 2) (by decide) (tk_s o_112) (tk_l (by decide)) (tk_b (by decide) (by decide) (by decide)) (fun h7 E7 => ?_)
  have L50 := sl_c f49 L44
  have L51 := sl_same L50 (m_nw_ne E7 (by decide))
  have z52 : ∀ j, h7 110 j = 0 := fun j => (congrFun (m_nw_ne E7 (by decide)) j).trans (z45 j)
  have z53 : h7 112 0 = 0 := nwZ E7 0
  have z54 : h7 112 1 = 0 := nwZ E7 1
  have g55 := g46.nw E7 (by decide)
  have g56 := g47.nw E7 (by decide)
  have F57 : ∀ k, k < 108 → h7 k = h0 k := frn_nw F48 E7 (by decide)
  clear g46 g47 F48 E6 f49 L44 L50 z45
  have g58 : gR 112 113 h7 := gR_1 (gC_of bt_112 (fun j hj => by rw [nwZ E7]; show (0 : Int) ≤ 0 ∧ (0 : Int) ≤ 1; decide))
  have g59 := g56.join g58
  refine y_putF (M := M_X12_init_109) 34 dX12_init_34 ff_X12_19 (tk_g (by decide) o_108) (fun E m t q => q.1) rfl rfp_a (fun h8 E8 => ?_)
  have L60 := sl_up L51 E8 (by decide)
  have z61 : ∀ j, h8 110 j = 0 := fun j => (upN E8 (fun z => absurd z.1 (by decide))).trans (z52 j)
  have z62 : h8 112 0 = 0 := (upN E8 (fun z => absurd z.1 (by decide))).trans z53
  have z63 : h8 112 1 = 0 := (upN E8 (fun z => absurd z.1 (by decide))).trans z54
  have g64 := g55.put E8 (by decide)
  have g65 := g59.put E8 (by decide)
  have F66 : ∀ k, k < 108 → h8 k = h0 k := frn_up F57 E8 (by decide)
  clear g55 g59 F57 E7 g56 g58 L51 z52 z53 z54
  have f67 : h8 108 5 = ((112 : Nat) : Int) := upE E8
  refine y_aload_n (M := M_X12_init_109) 37 dX12_init_37 rfl ?_
  refine y_sipush (M := M_X12_init_109) 38 dX12_init_38 ?_
  refine y_newaI (M := M_X12_init_109) 41 dX12_init_41 acI (N := 400) (by decide) (tk_s o_113) (tk_l (by decide)) (tk_b (by decide) (by decide) (by decide)) (fun h9 E9 => ?_)
  have L68 := sl_c f67 L60
  have L69 := sl_same L68 (m_nw_ne E9 (by decide))
  have z70 : ∀ j, h9 110 j = 0 := fun j => (congrFun (m_nw_ne E9 (by decide)) j).trans (z61 j)
  have z71 : h9 112 0 = 0 := (congrFun (m_nw_ne E9 (by decide)) 0).trans z62
  have z72 : h9 112 1 = 0 := (congrFun (m_nw_ne E9 (by decide)) 1).trans z63
  have g73 := g64.nw E9 (by decide)
  have g74 := g65.nw E9 (by decide)
  have F75 : ∀ k, k < 108 → h9 k = h0 k := frn_nw F66 E9 (by decide)
  clear g64 g65 F66 E8 f67 L60 L68 z61 z62 z63
  have u76 : h9 113 = fun _ => 0 := funext (nwI E9)
  have g77 : gR 113 114 h9 := gR_1 (gC_of bt_113 (fun j hj => by rw [nwI E9]; show (0 : Int) ≤ 0 ∧ (0 : Int) ≤ 255; decide))
  have g78 := g74.join g77
  refine y_putF (M := M_X12_init_109) 43 dX12_init_43 ff_X12_23 (tk_g (by decide) o_108) (fun E m t q => q.1) rfl rfp_a (fun h10 E10 => ?_)
  have L79 := sl_up L69 E10 (by decide)
  have z80 : ∀ j, h10 110 j = 0 := fun j => (upN E10 (fun z => absurd z.1 (by decide))).trans (z70 j)
  have z81 : h10 112 0 = 0 := (upN E10 (fun z => absurd z.1 (by decide))).trans z71
  have z82 : h10 112 1 = 0 := (upN E10 (fun z => absurd z.1 (by decide))).trans z72
  have u83 : h10 113 = fun _ => 0 := (upo E10 (by decide)).trans u76
  have g84 := g73.put E10 (by decide)
  have g85 := g78.put E10 (by decide)
  have F86 : ∀ k, k < 108 → h10 k = h0 k := frn_up F75 E10 (by decide)
  clear g73 g78 F75 E9 g74 g77 L69 z70 z71 z72 u76
  have f87 : h10 108 7 = ((113 : Nat) : Int) := upE E10
  refine y_aload_n (M := M_X12_init_109) 46 dX12_init_46 rfl ?_
  refine y_iconst (M := M_X12_init_109) 47 dX12_init_47 ?_
  refine y_putI (M := M_X12_init_109) 48 dX12_init_48 p_X12_26 (tk_g (by decide) o_108) rfl ?_
  obtain ⟨h11, E11⟩ : ∃ x, x = m_up h10 108 13 (-1) := ⟨_, rfl⟩
  rw [← E11]
  have L88 := sl_c f87 L79
  have L89 := sl_up L88 E11 (by decide)
  have z90 : ∀ j, h11 110 j = 0 := fun j => (upN E11 (fun z => absurd z.1 (by decide))).trans (z80 j)
  have z91 : h11 112 0 = 0 := (upN E11 (fun z => absurd z.1 (by decide))).trans z81
  have z92 : h11 112 1 = 0 := (upN E11 (fun z => absurd z.1 (by decide))).trans z82
  have u93 : h11 113 = fun _ => 0 := (upo E11 (by decide)).trans u83
  have g94 := g84.put E11 (by decide)
  have g95 := g85.put E11 (by decide)
  have F96 : ∀ k, k < 108 → h11 k = h0 k := frn_up F86 E11 (by decide)
  clear g84 g85 F86 E10 f87 L79 L88 z80 z81 z82 u83
  have f97 : h11 108 13 = (-1) := upE E11
  refine y_aload_n (M := M_X12_init_109) 51 dX12_init_51 rfl ?_
  refine y_sipush (M := M_X12_init_109) 52 dX12_init_52 ?_
  refine y_newaI (M := M_X12_init_109) 55 dX12_init_55 acI (N := 1000) (by decide) (tk_s o_114) (tk_l (by decide)) (tk_b (by decide) (by decide) (by decide)) (fun h12 E12 => ?_)
  have L98 := sl_c f97 L89
  have L99 := sl_same L98 (m_nw_ne E12 (by decide))
  have z100 : ∀ j, h12 110 j = 0 := fun j => (congrFun (m_nw_ne E12 (by decide)) j).trans (z90 j)
  have z101 : h12 112 0 = 0 := (congrFun (m_nw_ne E12 (by decide)) 0).trans z91
  have z102 : h12 112 1 = 0 := (congrFun (m_nw_ne E12 (by decide)) 1).trans z92
  have u103 : h12 113 = fun _ => 0 := (m_nw_ne E12 (by decide)).trans u93
  have g104 := g94.nw E12 (by decide)
  have g105 := g95.nw E12 (by decide)
  have F106 : ∀ k, k < 108 → h12 k = h0 k := frn_nw F96 E12 (by decide)
  clear g94 g95 F96 E11 f97 L89 L98 z90 z91 z92 u93
  have g107 : gR 114 115 h12 := gR_1 (gC_of bt_114 (fun j hj => by rw [nwI E12]; exact trivial))
  have g108 := g105.join g107
  refine y_putF (M := M_X12_init_109) 57 dX12_init_57 ff_X12_30 (tk_g (by decide) o_108) (fun E m t q => q.1) rfl rfp_a (fun h13 E13 => ?_)
  have L109 := sl_up L99 E13 (by decide)
  have z110 : ∀ j, h13 110 j = 0 := fun j => (upN E13 (fun z => absurd z.1 (by decide))).trans (z100 j)
  have z111 : h13 112 0 = 0 := (upN E13 (fun z => absurd z.1 (by decide))).trans z101
  have z112 : h13 112 1 = 0 := (upN E13 (fun z => absurd z.1 (by decide))).trans z102
  have u113 : h13 113 = fun _ => 0 := (upo E13 (by decide)).trans u103
  have g114 := g104.put E13 (by decide)
  have g115 := g108.put E13 (by decide)
  have F116 : ∀ k, k < 108 → h13 k = h0 k := frn_up F106 E13 (by decide)
  clear g104 g108 F106 E12 g105 g107 L99 z100 z101 z102 u103
  have f117 : h13 108 15 = ((114 : Nat) : Int) := upE E13
  refine y_aload_n (M := M_X12_init_109) 60 dX12_init_60 rfl ?_
  refine y_bipush (M := M_X12_init_109) 61 dX12_init_61 ?_
  refine y_newaJ (M := M_X12_init_109) 63 dX12_init_63 acJ (N := 10) (by decide) (tk_s o_115) (tk_l (by decide)) (tk_b (by decide) (by decide) (by decide)) (fun h14 E14 => ?_)
  have L118 := sl_c f117 L109
  have L119 := sl_same L118 (m_nw_ne E14 (by decide))
  have z120 : ∀ j, h14 110 j = 0 := fun j => (congrFun (m_nw_ne E14 (by decide)) j).trans (z110 j)
  have z121 : h14 112 0 = 0 := (congrFun (m_nw_ne E14 (by decide)) 0).trans z111
  have z122 : h14 112 1 = 0 := (congrFun (m_nw_ne E14 (by decide)) 1).trans z112
  have u123 : h14 113 = fun _ => 0 := (m_nw_ne E14 (by decide)).trans u113
  have g124 := g114.nw E14 (by decide)
  have g125 := g115.nw E14 (by decide)
  have F126 : ∀ k, k < 108 → h14 k = h0 k := frn_nw F116 E14 (by decide)
  clear g114 g115 F116 E13 f117 L109 L118 z110 z111 z112 u113
  have g127 : gR 115 116 h14 := gR_1 (gC_of bt_115 (fun j hj => by rw [nwJ E14]; exact trivial))
  have g128 := g125.join g127
  refine y_putF (M := M_X12_init_109) 65 dX12_init_65 ff_X12_33 (tk_g (by decide) o_108) (fun E m t q => q.1) rfl rfp_a (fun h15 E15 => ?_)
  have L129 := sl_up L119 E15 (by decide)
  have z130 : ∀ j, h15 110 j = 0 := fun j => (upN E15 (fun z => absurd z.1 (by decide))).trans (z120 j)
  have z131 : h15 112 0 = 0 := (upN E15 (fun z => absurd z.1 (by decide))).trans z121
  have z132 : h15 112 1 = 0 := (upN E15 (fun z => absurd z.1 (by decide))).trans z122
  have u133 : h15 113 = fun _ => 0 := (upo E15 (by decide)).trans u123
  have g134 := g124.put E15 (by decide)
  have g135 := g128.put E15 (by decide)
  have F136 : ∀ k, k < 108 → h15 k = h0 k := frn_up F126 E15 (by decide)
  clear g124 g128 F126 E14 g125 g127 L119 z120 z121 z122 u123
  have f137 : h15 108 19 = ((115 : Nat) : Int) := upE E15
  refine y_aload_n (M := M_X12_init_109) 68 dX12_init_68 rfl ?_
  refine y_bipush (M := M_X12_init_109) 69 dX12_init_69 ?_
  refine y_newaJ (M := M_X12_init_109) 71 dX12_init_71 acJ (N := 10) (by decide) (tk_s o_116) (tk_l (by decide)) (tk_b (by decide) (by decide) (by decide)) (fun h16 E16 => ?_)
  have L138 := sl_c f137 L129
  have L139 := sl_same L138 (m_nw_ne E16 (by decide))
  have z140 : ∀ j, h16 110 j = 0 := fun j => (congrFun (m_nw_ne E16 (by decide)) j).trans (z130 j)
  have z141 : h16 112 0 = 0 := (congrFun (m_nw_ne E16 (by decide)) 0).trans z131
  have z142 : h16 112 1 = 0 := (congrFun (m_nw_ne E16 (by decide)) 1).trans z132
  have u143 : h16 113 = fun _ => 0 := (m_nw_ne E16 (by decide)).trans u133
  have g144 := g134.nw E16 (by decide)
  have g145 := g135.nw E16 (by decide)
  have F146 : ∀ k, k < 108 → h16 k = h0 k := frn_nw F136 E16 (by decide)
  clear g134 g135 F136 E15 f137 L129 L138 z130 z131 z132 u133
  have g147 : gR 116 117 h16 := gR_1 (gC_of bt_116 (fun j hj => by rw [nwJ E16]; exact trivial))
  have g148 := g145.join g147
  refine y_putF (M := M_X12_init_109) 73 dX12_init_73 ff_X12_37 (tk_g (by decide) o_108) (fun E m t q => q.1) rfl rfp_a (fun h17 E17 => ?_)
  have L149 := sl_up L139 E17 (by decide)
  have z150 : ∀ j, h17 110 j = 0 := fun j => (upN E17 (fun z => absurd z.1 (by decide))).trans (z140 j)
  have z151 : h17 112 0 = 0 := (upN E17 (fun z => absurd z.1 (by decide))).trans z141
  have z152 : h17 112 1 = 0 := (upN E17 (fun z => absurd z.1 (by decide))).trans z142
  have u153 : h17 113 = fun _ => 0 := (upo E17 (by decide)).trans u143
  have g154 := g144.put E17 (by decide)
  have g155 := g148.put E17 (by decide)
  have F156 : ∀ k, k < 108 → h17 k = h0 k := frn_up F146 E17 (by decide)
  clear g144 g148 F146 E16 g145 g147 L139 z140 z141 z142 u143
  have f157 : h17 108 20 = ((116 : Nat) : Int) := upE E17
  refine y_aload_n (M := M_X12_init_109) 76 dX12_init_76 rfl ?_
  refine y_bipush (M := M_X12_init_109) 77 dX12_init_77 ?_
  refine y_newaI (M := M_X12_init_109) 79 dX12_init_79 acI (N := 60) (by decide) (tk_s o_117) (tk_l (by decide)) (tk_b (by decide) (by decide) (by decide)) (fun h18 E18 => ?_)
  have L158 := sl_c f157 L149
  have L159 := sl_same L158 (m_nw_ne E18 (by decide))
  have z160 : ∀ j, h18 110 j = 0 := fun j => (congrFun (m_nw_ne E18 (by decide)) j).trans (z150 j)
  have z161 : h18 112 0 = 0 := (congrFun (m_nw_ne E18 (by decide)) 0).trans z151
  have z162 : h18 112 1 = 0 := (congrFun (m_nw_ne E18 (by decide)) 1).trans z152
  have u163 : h18 113 = fun _ => 0 := (m_nw_ne E18 (by decide)).trans u153
  have g164 := g154.nw E18 (by decide)
  have g165 := g155.nw E18 (by decide)
  have F166 : ∀ k, k < 108 → h18 k = h0 k := frn_nw F156 E18 (by decide)
  clear g154 g155 F156 E17 f157 L149 L158 z150 z151 z152 u153
  have g167 : gR 117 118 h18 := gR_1 (gC_of bt_117 (fun j hj => by rw [nwI E18]; show (0 : Int) ≤ 0 ∧ (0 : Int) ≤ 15; decide))
  have g168 := g165.join g167
  refine y_putF (M := M_X12_init_109) 81 dX12_init_81 ff_X12_40 (tk_g (by decide) o_108) (fun E m t q => q.1) rfl rfp_a (fun h19 E19 => ?_)
  have L169 := sl_up L159 E19 (by decide)
  have z170 : ∀ j, h19 110 j = 0 := fun j => (upN E19 (fun z => absurd z.1 (by decide))).trans (z160 j)
  have z171 : h19 112 0 = 0 := (upN E19 (fun z => absurd z.1 (by decide))).trans z161
  have z172 : h19 112 1 = 0 := (upN E19 (fun z => absurd z.1 (by decide))).trans z162
  have u173 : h19 113 = fun _ => 0 := (upo E19 (by decide)).trans u163
  have g174 := g164.put E19 (by decide)
  have g175 := g168.put E19 (by decide)
  have F176 : ∀ k, k < 108 → h19 k = h0 k := frn_up F166 E19 (by decide)
  clear g164 g168 F166 E18 g165 g167 L159 z160 z161 z162 u163
  have f177 : h19 108 22 = ((117 : Nat) : Int) := upE E19
  refine y_aload_n (M := M_X12_init_109) 84 dX12_init_84 rfl ?_
  refine y_bipush (M := M_X12_init_109) 85 dX12_init_85 ?_
  refine y_newaI (M := M_X12_init_109) 87 dX12_init_87 acI (N := 60) (by decide) (tk_s o_118) (tk_l (by decide)) (tk_b (by decide) (by decide) (by decide)) (fun h20 E20 => ?_)
  have L178 := sl_c f177 L169
  have L179 := sl_same L178 (m_nw_ne E20 (by decide))
  have z180 : ∀ j, h20 110 j = 0 := fun j => (congrFun (m_nw_ne E20 (by decide)) j).trans (z170 j)
  have z181 : h20 112 0 = 0 := (congrFun (m_nw_ne E20 (by decide)) 0).trans z171
  have z182 : h20 112 1 = 0 := (congrFun (m_nw_ne E20 (by decide)) 1).trans z172
  have u183 : h20 113 = fun _ => 0 := (m_nw_ne E20 (by decide)).trans u173
  have g184 := g174.nw E20 (by decide)
  have g185 := g175.nw E20 (by decide)
  have F186 : ∀ k, k < 108 → h20 k = h0 k := frn_nw F176 E20 (by decide)
  clear g174 g175 F176 E19 f177 L169 L178 z170 z171 z172 u173
  have g187 : gR 118 119 h20 := gR_1 (gC_of bt_118 (fun j hj => by rw [nwI E20]; show (0 : Int) ≤ 0 ∧ (0 : Int) ≤ 15; decide))
  have g188 := g185.join g187
  refine y_putF (M := M_X12_init_109) 89 dX12_init_89 ff_X12_43 (tk_g (by decide) o_108) (fun E m t q => q.1) rfl rfp_a (fun h21 E21 => ?_)
  have L189 := sl_up L179 E21 (by decide)
  have z190 : ∀ j, h21 110 j = 0 := fun j => (upN E21 (fun z => absurd z.1 (by decide))).trans (z180 j)
  have z191 : h21 112 0 = 0 := (upN E21 (fun z => absurd z.1 (by decide))).trans z181
  have z192 : h21 112 1 = 0 := (upN E21 (fun z => absurd z.1 (by decide))).trans z182
  have u193 : h21 113 = fun _ => 0 := (upo E21 (by decide)).trans u183
  have g194 := g184.put E21 (by decide)
  have g195 := g188.put E21 (by decide)
  have F196 : ∀ k, k < 108 → h21 k = h0 k := frn_up F186 E21 (by decide)
  clear g184 g188 F186 E20 g185 g187 L179 z180 z181 z182 u183
  have f197 : h21 108 23 = ((118 : Nat) : Int) := upE E21
  refine y_aload_n (M := M_X12_init_109) 92 dX12_init_92 rfl ?_
  refine y_bipush (M := M_X12_init_109) 93 dX12_init_93 ?_
  refine y_newaI (M := M_X12_init_109) 95 dX12_init_95 acI (N := 60) (by decide) (tk_s o_119) (tk_l (by decide)) (tk_b (by decide) (by decide) (by decide)) (fun h22 E22 => ?_)
  have L198 := sl_c f197 L189
  have L199 := sl_same L198 (m_nw_ne E22 (by decide))
  have z200 : ∀ j, h22 110 j = 0 := fun j => (congrFun (m_nw_ne E22 (by decide)) j).trans (z190 j)
  have z201 : h22 112 0 = 0 := (congrFun (m_nw_ne E22 (by decide)) 0).trans z191
  have z202 : h22 112 1 = 0 := (congrFun (m_nw_ne E22 (by decide)) 1).trans z192
  have u203 : h22 113 = fun _ => 0 := (m_nw_ne E22 (by decide)).trans u193
  have g204 := g194.nw E22 (by decide)
  have g205 := g195.nw E22 (by decide)
  have F206 : ∀ k, k < 108 → h22 k = h0 k := frn_nw F196 E22 (by decide)
  clear g194 g195 F196 E21 f197 L189 L198 z190 z191 z192 u193
  have g207 : gR 119 120 h22 := gR_1 (gC_of bt_119 (fun j hj => by rw [nwI E22]; show (0 : Int) ≤ 0 ∧ (0 : Int) ≤ 199; decide))
  have g208 := g205.join g207
  refine y_putF (M := M_X12_init_109) 97 dX12_init_97 ff_X12_46 (tk_g (by decide) o_108) (fun E m t q => q.1) rfl rfp_a (fun h23 E23 => ?_)
  have L209 := sl_up L199 E23 (by decide)
  have z210 : ∀ j, h23 110 j = 0 := fun j => (upN E23 (fun z => absurd z.1 (by decide))).trans (z200 j)
  have z211 : h23 112 0 = 0 := (upN E23 (fun z => absurd z.1 (by decide))).trans z201
  have z212 : h23 112 1 = 0 := (upN E23 (fun z => absurd z.1 (by decide))).trans z202
  have u213 : h23 113 = fun _ => 0 := (upo E23 (by decide)).trans u203
  have g214 := g204.put E23 (by decide)
  have g215 := g208.put E23 (by decide)
  have F216 : ∀ k, k < 108 → h23 k = h0 k := frn_up F206 E23 (by decide)
  clear g204 g208 F206 E22 g205 g207 L199 z200 z201 z202 u203
  have f217 : h23 108 24 = ((119 : Nat) : Int) := upE E23
  refine y_aload_n (M := M_X12_init_109) 100 dX12_init_100 rfl ?_
  refine y_bipush (M := M_X12_init_109) 101 dX12_init_101 ?_
  refine y_newaI (M := M_X12_init_109) 103 dX12_init_103 acI (N := 60) (by decide) (tk_s o_120) (tk_l (by decide)) (tk_b (by decide) (by decide) (by decide)) (fun h24 E24 => ?_)
  have L218 := sl_c f217 L209
  have L219 := sl_same L218 (m_nw_ne E24 (by decide))
  have z220 : ∀ j, h24 110 j = 0 := fun j => (congrFun (m_nw_ne E24 (by decide)) j).trans (z210 j)
  have z221 : h24 112 0 = 0 := (congrFun (m_nw_ne E24 (by decide)) 0).trans z211
  have z222 : h24 112 1 = 0 := (congrFun (m_nw_ne E24 (by decide)) 1).trans z212
  have u223 : h24 113 = fun _ => 0 := (m_nw_ne E24 (by decide)).trans u213
  have g224 := g214.nw E24 (by decide)
  have g225 := g215.nw E24 (by decide)
  have F226 : ∀ k, k < 108 → h24 k = h0 k := frn_nw F216 E24 (by decide)
  clear g214 g215 F216 E23 f217 L209 L218 z210 z211 z212 u213
  have g227 : gR 120 121 h24 := gR_1 (gC_of bt_120 (fun j hj => by rw [nwI E24]; show (0 : Int) ≤ 0 ∧ (0 : Int) ≤ 199; decide))
  have g228 := g225.join g227
  refine y_putF (M := M_X12_init_109) 105 dX12_init_105 ff_X12_49 (tk_g (by decide) o_108) (fun E m t q => q.1) rfl rfp_a (fun h25 E25 => ?_)
  have L229 := sl_up L219 E25 (by decide)
  have z230 : ∀ j, h25 110 j = 0 := fun j => (upN E25 (fun z => absurd z.1 (by decide))).trans (z220 j)
  have z231 : h25 112 0 = 0 := (upN E25 (fun z => absurd z.1 (by decide))).trans z221
  have z232 : h25 112 1 = 0 := (upN E25 (fun z => absurd z.1 (by decide))).trans z222
  have u233 : h25 113 = fun _ => 0 := (upo E25 (by decide)).trans u223
  have g234 := g224.put E25 (by decide)
  have g235 := g228.put E25 (by decide)
  have F236 : ∀ k, k < 108 → h25 k = h0 k := frn_up F226 E25 (by decide)
  clear g224 g228 F226 E24 g225 g227 L219 z220 z221 z222 u223
  have f237 : h25 108 25 = ((120 : Nat) : Int) := upE E25
  refine y_aload_n (M := M_X12_init_109) 108 dX12_init_108 rfl ?_
  refine y_bipush (M := M_X12_init_109) 109 dX12_init_109 ?_
  refine y_newaZ (M := M_X12_init_109) 111 dX12_init_111 acZ (N := 60) (by decide) (tk_s o_121) (tk_l (by decide)) (tk_b (by decide) (by decide) (by decide)) (fun h26 E26 => ?_)
  have L238 := sl_c f237 L229
  have L239 := sl_same L238 (m_nw_ne E26 (by decide))
  have z240 : ∀ j, h26 110 j = 0 := fun j => (congrFun (m_nw_ne E26 (by decide)) j).trans (z230 j)
  have z241 : h26 112 0 = 0 := (congrFun (m_nw_ne E26 (by decide)) 0).trans z231
  have z242 : h26 112 1 = 0 := (congrFun (m_nw_ne E26 (by decide)) 1).trans z232
  have u243 : h26 113 = fun _ => 0 := (m_nw_ne E26 (by decide)).trans u233
  have g244 := g234.nw E26 (by decide)
  have g245 := g235.nw E26 (by decide)
  have F246 : ∀ k, k < 108 → h26 k = h0 k := frn_nw F236 E26 (by decide)
  clear g234 g235 F236 E25 f237 L229 L238 z230 z231 z232 u233
  have g247 : gR 121 122 h26 := gR_1 (gC_of bt_121 (fun j hj => by rw [nwZ E26]; show (0 : Int) ≤ 0 ∧ (0 : Int) ≤ 1; decide))
  have g248 := g245.join g247
  refine y_putF (M := M_X12_init_109) 113 dX12_init_113 ff_X12_52 (tk_g (by decide) o_108) (fun E m t q => q.1) rfl rfp_a (fun h27 E27 => ?_)
  have L249 := sl_up L239 E27 (by decide)
  have z250 : ∀ j, h27 110 j = 0 := fun j => (upN E27 (fun z => absurd z.1 (by decide))).trans (z240 j)
  have z251 : h27 112 0 = 0 := (upN E27 (fun z => absurd z.1 (by decide))).trans z241
  have z252 : h27 112 1 = 0 := (upN E27 (fun z => absurd z.1 (by decide))).trans z242
  have u253 : h27 113 = fun _ => 0 := (upo E27 (by decide)).trans u243
  have g254 := g244.put E27 (by decide)
  have g255 := g248.put E27 (by decide)
  have F256 : ∀ k, k < 108 → h27 k = h0 k := frn_up F246 E27 (by decide)
  clear g244 g248 F246 E26 g245 g247 L239 z240 z241 z242 u243
  have f257 : h27 108 26 = ((121 : Nat) : Int) := upE E27
  refine y_aload_n (M := M_X12_init_109) 116 dX12_init_116 rfl ?_
  refine y_bipush (M := M_X12_init_109) 117 dX12_init_117 ?_
  refine y_newaI (M := M_X12_init_109) 119 dX12_init_119 acI (N := 32) (by decide) (tk_s o_122) (tk_l (by decide)) (tk_b (by decide) (by decide) (by decide)) (fun h28 E28 => ?_)
  have L258 := sl_c f257 L249
  have L259 := sl_same L258 (m_nw_ne E28 (by decide))
  have z260 : ∀ j, h28 110 j = 0 := fun j => (congrFun (m_nw_ne E28 (by decide)) j).trans (z250 j)
  have z261 : h28 112 0 = 0 := (congrFun (m_nw_ne E28 (by decide)) 0).trans z251
  have z262 : h28 112 1 = 0 := (congrFun (m_nw_ne E28 (by decide)) 1).trans z252
  have u263 : h28 113 = fun _ => 0 := (m_nw_ne E28 (by decide)).trans u253
  have g264 := g254.nw E28 (by decide)
  have g265 := g255.nw E28 (by decide)
  have F266 : ∀ k, k < 108 → h28 k = h0 k := frn_nw F256 E28 (by decide)
  clear g254 g255 F256 E27 f257 L249 L258 z250 z251 z252 u253
  have g267 : gR 122 123 h28 := gR_1 (gC_of bt_122 (fun j hj => by rw [nwI E28]; show (-1 : Int) ≤ 0 ∧ (0 : Int) ≤ 3; decide))
  have g268 := g265.join g267
  refine y_putF (M := M_X12_init_109) 121 dX12_init_121 ff_X12_55 (tk_g (by decide) o_108) (fun E m t q => q.1) rfl rfp_a (fun h29 E29 => ?_)
  have L269 := sl_up L259 E29 (by decide)
  have z270 : ∀ j, h29 110 j = 0 := fun j => (upN E29 (fun z => absurd z.1 (by decide))).trans (z260 j)
  have z271 : h29 112 0 = 0 := (upN E29 (fun z => absurd z.1 (by decide))).trans z261
  have z272 : h29 112 1 = 0 := (upN E29 (fun z => absurd z.1 (by decide))).trans z262
  have u273 : h29 113 = fun _ => 0 := (upo E29 (by decide)).trans u263
  have g274 := g264.put E29 (by decide)
  have g275 := g268.put E29 (by decide)
  have F276 : ∀ k, k < 108 → h29 k = h0 k := frn_up F266 E29 (by decide)
  clear g264 g268 F266 E28 g265 g267 L259 z260 z261 z262 u263
  have f277 : h29 108 27 = ((122 : Nat) : Int) := upE E29
  refine y_aload_n (M := M_X12_init_109) 124 dX12_init_124 rfl ?_
  refine y_bipush (M := M_X12_init_109) 125 dX12_init_125 ?_
  refine y_newaI (M := M_X12_init_109) 127 dX12_init_127 acI (N := 6) (by decide) (tk_s o_123) (tk_l (by decide)) (tk_b (by decide) (by decide) (by decide)) (fun h30 E30 => ?_)
  have L278 := sl_c f277 L269
  have L279 := sl_same L278 (m_nw_ne E30 (by decide))
  have z280 : ∀ j, h30 110 j = 0 := fun j => (congrFun (m_nw_ne E30 (by decide)) j).trans (z270 j)
  have z281 : h30 112 0 = 0 := (congrFun (m_nw_ne E30 (by decide)) 0).trans z271
  have z282 : h30 112 1 = 0 := (congrFun (m_nw_ne E30 (by decide)) 1).trans z272
  have u283 : h30 113 = fun _ => 0 := (m_nw_ne E30 (by decide)).trans u273
  have g284 := g274.nw E30 (by decide)
  have g285 := g275.nw E30 (by decide)
  have F286 : ∀ k, k < 108 → h30 k = h0 k := frn_nw F276 E30 (by decide)
  clear g274 g275 F276 E29 f277 L269 L278 z270 z271 z272 u273
  have g287 : gR 123 124 h30 := gR_1 (gC_of bt_123 (fun j hj => by rw [nwI E30]; show (-1 : Int) ≤ 0 ∧ (0 : Int) ≤ 31; decide))
  have g288 := g285.join g287
  refine y_putF (M := M_X12_init_109) 129 dX12_init_129 ff_X12_58 (tk_g (by decide) o_108) (fun E m t q => q.1) rfl rfp_a (fun h31 E31 => ?_)
  have L289 := sl_up L279 E31 (by decide)
  have z290 : ∀ j, h31 110 j = 0 := fun j => (upN E31 (fun z => absurd z.1 (by decide))).trans (z280 j)
  have z291 : h31 112 0 = 0 := (upN E31 (fun z => absurd z.1 (by decide))).trans z281
  have z292 : h31 112 1 = 0 := (upN E31 (fun z => absurd z.1 (by decide))).trans z282
  have u293 : h31 113 = fun _ => 0 := (upo E31 (by decide)).trans u283
  have g294 := g284.put E31 (by decide)
  have g295 := g288.put E31 (by decide)
  have F296 : ∀ k, k < 108 → h31 k = h0 k := frn_up F286 E31 (by decide)
  clear g284 g288 F286 E30 g285 g287 L279 z280 z281 z282 u283
  have f297 : h31 108 28 = ((123 : Nat) : Int) := upE E31
  refine y_aload_n (M := M_X12_init_109) 132 dX12_init_132 rfl ?_
  refine y_bipush (M := M_X12_init_109) 133 dX12_init_133 ?_
  refine y_newaJ (M := M_X12_init_109) 135 dX12_init_135 acJ (N := 80) (by decide) (tk_s o_124) (tk_l (by decide)) (tk_b (by decide) (by decide) (by decide)) (fun h32 E32 => ?_)
  have L298 := sl_c f297 L289
  have L299 := sl_same L298 (m_nw_ne E32 (by decide))
  have z300 : ∀ j, h32 110 j = 0 := fun j => (congrFun (m_nw_ne E32 (by decide)) j).trans (z290 j)
  have z301 : h32 112 0 = 0 := (congrFun (m_nw_ne E32 (by decide)) 0).trans z291
  have z302 : h32 112 1 = 0 := (congrFun (m_nw_ne E32 (by decide)) 1).trans z292
  have u303 : h32 113 = fun _ => 0 := (m_nw_ne E32 (by decide)).trans u293
  have g304 := g294.nw E32 (by decide)
  have g305 := g295.nw E32 (by decide)
  have F306 : ∀ k, k < 108 → h32 k = h0 k := frn_nw F296 E32 (by decide)
  clear g294 g295 F296 E31 f297 L289 L298 z290 z291 z292 u293
  have g307 : gR 124 125 h32 := gR_1 (gC_of bt_124 (fun j hj => by rw [nwJ E32]; show (0 : Int) ≤ 0 ∧ (0 : Int) ≤ 99999999; decide))
  have g308 := g305.join g307
  refine y_putF (M := M_X12_init_109) 137 dX12_init_137 ff_X12_61 (tk_g (by decide) o_108) (fun E m t q => q.1) rfl rfp_a (fun h33 E33 => ?_)
  have L309 := sl_up L299 E33 (by decide)
  have z310 : ∀ j, h33 110 j = 0 := fun j => (upN E33 (fun z => absurd z.1 (by decide))).trans (z300 j)
  have z311 : h33 112 0 = 0 := (upN E33 (fun z => absurd z.1 (by decide))).trans z301
  have z312 : h33 112 1 = 0 := (upN E33 (fun z => absurd z.1 (by decide))).trans z302
  have u313 : h33 113 = fun _ => 0 := (upo E33 (by decide)).trans u303
  have g314 := g304.put E33 (by decide)
  have g315 := g308.put E33 (by decide)
  have F316 : ∀ k, k < 108 → h33 k = h0 k := frn_up F306 E33 (by decide)
  clear g304 g308 F306 E32 g305 g307 L299 z300 z301 z302 u303
  have f317 : h33 108 29 = ((124 : Nat) : Int) := upE E33
  refine y_aload_n (M := M_X12_init_109) 140 dX12_init_140 rfl ?_
  refine y_bipush (M := M_X12_init_109) 141 dX12_init_141 ?_
  refine y_newaJ (M := M_X12_init_109) 143 dX12_init_143 acJ (N := 80) (by decide) (tk_s o_125) (tk_l (by decide)) (tk_b (by decide) (by decide) (by decide)) (fun h34 E34 => ?_)
  have L318 := sl_c f317 L309
  have L319 := sl_same L318 (m_nw_ne E34 (by decide))
  have z320 : ∀ j, h34 110 j = 0 := fun j => (congrFun (m_nw_ne E34 (by decide)) j).trans (z310 j)
  have z321 : h34 112 0 = 0 := (congrFun (m_nw_ne E34 (by decide)) 0).trans z311
  have z322 : h34 112 1 = 0 := (congrFun (m_nw_ne E34 (by decide)) 1).trans z312
  have u323 : h34 113 = fun _ => 0 := (m_nw_ne E34 (by decide)).trans u313
  have g324 := g314.nw E34 (by decide)
  have g325 := g315.nw E34 (by decide)
  have F326 : ∀ k, k < 108 → h34 k = h0 k := frn_nw F316 E34 (by decide)
  clear g314 g315 F316 E33 f317 L309 L318 z310 z311 z312 u313
  have g327 : gR 125 126 h34 := gR_1 (gC_of bt_125 (fun j hj => by rw [nwJ E34]; show (0 : Int) ≤ 0 ∧ (0 : Int) ≤ 99999999; decide))
  have g328 := g325.join g327
  refine y_putF (M := M_X12_init_109) 145 dX12_init_145 ff_X12_64 (tk_g (by decide) o_108) (fun E m t q => q.1) rfl rfp_a (fun h35 E35 => ?_)
  have L329 := sl_up L319 E35 (by decide)
  have z330 : ∀ j, h35 110 j = 0 := fun j => (upN E35 (fun z => absurd z.1 (by decide))).trans (z320 j)
  have z331 : h35 112 0 = 0 := (upN E35 (fun z => absurd z.1 (by decide))).trans z321
  have z332 : h35 112 1 = 0 := (upN E35 (fun z => absurd z.1 (by decide))).trans z322
  have u333 : h35 113 = fun _ => 0 := (upo E35 (by decide)).trans u323
  have g334 := g324.put E35 (by decide)
  have g335 := g328.put E35 (by decide)
  have F336 : ∀ k, k < 108 → h35 k = h0 k := frn_up F326 E35 (by decide)
  clear g324 g328 F326 E34 g325 g327 L319 z320 z321 z322 u323
  have f337 : h35 108 30 = ((125 : Nat) : Int) := upE E35
  refine y_aload_n (M := M_X12_init_109) 148 dX12_init_148 rfl ?_
  refine y_bipush (M := M_X12_init_109) 149 dX12_init_149 ?_
  refine y_newaZ (M := M_X12_init_109) 151 dX12_init_151 acZ (N := 16) (by decide) (tk_s o_126) (tk_l (by decide)) (tk_b (by decide) (by decide) (by decide)) (fun h36 E36 => ?_)
  have L338 := sl_c f337 L329
  have L339 := sl_same L338 (m_nw_ne E36 (by decide))
  have z340 : ∀ j, h36 110 j = 0 := fun j => (congrFun (m_nw_ne E36 (by decide)) j).trans (z330 j)
  have z341 : h36 112 0 = 0 := (congrFun (m_nw_ne E36 (by decide)) 0).trans z331
  have z342 : h36 112 1 = 0 := (congrFun (m_nw_ne E36 (by decide)) 1).trans z332
  have u343 : h36 113 = fun _ => 0 := (m_nw_ne E36 (by decide)).trans u333
  have g344 := g334.nw E36 (by decide)
  have g345 := g335.nw E36 (by decide)
  have F346 : ∀ k, k < 108 → h36 k = h0 k := frn_nw F336 E36 (by decide)
  clear g334 g335 F336 E35 f337 L329 L338 z330 z331 z332 u333
  have g347 : gR 126 127 h36 := gR_1 (gC_of bt_126 (fun j hj => by rw [nwZ E36]; show (0 : Int) ≤ 0 ∧ (0 : Int) ≤ 1; decide))
  have g348 := g345.join g347
  refine y_putF (M := M_X12_init_109) 153 dX12_init_153 ff_X12_67 (tk_g (by decide) o_108) (fun E m t q => q.1) rfl rfp_a (fun h37 E37 => ?_)
  have L349 := sl_up L339 E37 (by decide)
  have z350 : ∀ j, h37 110 j = 0 := fun j => (upN E37 (fun z => absurd z.1 (by decide))).trans (z340 j)
  have z351 : h37 112 0 = 0 := (upN E37 (fun z => absurd z.1 (by decide))).trans z341
  have z352 : h37 112 1 = 0 := (upN E37 (fun z => absurd z.1 (by decide))).trans z342
  have u353 : h37 113 = fun _ => 0 := (upo E37 (by decide)).trans u343
  have g354 := g344.put E37 (by decide)
  have g355 := g348.put E37 (by decide)
  have F356 : ∀ k, k < 108 → h37 k = h0 k := frn_up F346 E37 (by decide)
  clear g344 g348 F346 E36 g345 g347 L339 z340 z341 z342 u343
  have f357 : h37 108 31 = ((126 : Nat) : Int) := upE E37
  refine y_aload_n (M := M_X12_init_109) 156 dX12_init_156 rfl ?_
  refine y_bipush (M := M_X12_init_109) 157 dX12_init_157 ?_
  refine y_newaZ (M := M_X12_init_109) 159 dX12_init_159 acZ (N := 16) (by decide) (tk_s o_127) (tk_l (by decide)) (tk_b (by decide) (by decide) (by decide)) (fun h38 E38 => ?_)
  have L358 := sl_c f357 L349
  have L359 := sl_same L358 (m_nw_ne E38 (by decide))
  have z360 : ∀ j, h38 110 j = 0 := fun j => (congrFun (m_nw_ne E38 (by decide)) j).trans (z350 j)
  have z361 : h38 112 0 = 0 := (congrFun (m_nw_ne E38 (by decide)) 0).trans z351
  have z362 : h38 112 1 = 0 := (congrFun (m_nw_ne E38 (by decide)) 1).trans z352
  have u363 : h38 113 = fun _ => 0 := (m_nw_ne E38 (by decide)).trans u353
  have g364 := g354.nw E38 (by decide)
  have g365 := g355.nw E38 (by decide)
  have F366 : ∀ k, k < 108 → h38 k = h0 k := frn_nw F356 E38 (by decide)
  clear g354 g355 F356 E37 f357 L349 L358 z350 z351 z352 u353
  have g367 : gR 127 128 h38 := gR_1 (gC_of bt_127 (fun j hj => by rw [nwZ E38]; show (0 : Int) ≤ 0 ∧ (0 : Int) ≤ 1; decide))
  have g368 := g365.join g367
  refine y_putF (M := M_X12_init_109) 161 dX12_init_161 ff_X12_70 (tk_g (by decide) o_108) (fun E m t q => q.1) rfl rfp_a (fun h39 E39 => ?_)
  have L369 := sl_up L359 E39 (by decide)
  have z370 : ∀ j, h39 110 j = 0 := fun j => (upN E39 (fun z => absurd z.1 (by decide))).trans (z360 j)
  have z371 : h39 112 0 = 0 := (upN E39 (fun z => absurd z.1 (by decide))).trans z361
  have z372 : h39 112 1 = 0 := (upN E39 (fun z => absurd z.1 (by decide))).trans z362
  have u373 : h39 113 = fun _ => 0 := (upo E39 (by decide)).trans u363
  have g374 := g364.put E39 (by decide)
  have g375 := g368.put E39 (by decide)
  have F376 : ∀ k, k < 108 → h39 k = h0 k := frn_up F366 E39 (by decide)
  clear g364 g368 F366 E38 g365 g367 L359 z360 z361 z362 u363
  have f377 : h39 108 32 = ((127 : Nat) : Int) := upE E39
  refine y_aload_n (M := M_X12_init_109) 164 dX12_init_164 rfl ?_
  refine y_bipush (M := M_X12_init_109) 165 dX12_init_165 ?_
  refine y_newaJ (M := M_X12_init_109) 167 dX12_init_167 acJ (N := 80) (by decide) (tk_s o_128) (tk_l (by decide)) (tk_b (by decide) (by decide) (by decide)) (fun h40 E40 => ?_)
  have L378 := sl_c f377 L369
  have L379 := sl_same L378 (m_nw_ne E40 (by decide))
  have z380 : ∀ j, h40 110 j = 0 := fun j => (congrFun (m_nw_ne E40 (by decide)) j).trans (z370 j)
  have z381 : h40 112 0 = 0 := (congrFun (m_nw_ne E40 (by decide)) 0).trans z371
  have z382 : h40 112 1 = 0 := (congrFun (m_nw_ne E40 (by decide)) 1).trans z372
  have u383 : h40 113 = fun _ => 0 := (m_nw_ne E40 (by decide)).trans u373
  have g384 := g374.nw E40 (by decide)
  have g385 := g375.nw E40 (by decide)
  have F386 : ∀ k, k < 108 → h40 k = h0 k := frn_nw F376 E40 (by decide)
  clear g374 g375 F376 E39 f377 L369 L378 z370 z371 z372 u373
  have g387 : gR 128 129 h40 := gR_1 (gC_of bt_128 (fun j hj => by rw [nwJ E40]; show (0 : Int) ≤ 0 ∧ (0 : Int) ≤ 99999999; decide))
  have g388 := g385.join g387
  refine y_putF (M := M_X12_init_109) 169 dX12_init_169 ff_X12_73 (tk_g (by decide) o_108) (fun E m t q => q.1) rfl rfp_a (fun h41 E41 => ?_)
  have L389 := sl_up L379 E41 (by decide)
  have z390 : ∀ j, h41 110 j = 0 := fun j => (upN E41 (fun z => absurd z.1 (by decide))).trans (z380 j)
  have z391 : h41 112 0 = 0 := (upN E41 (fun z => absurd z.1 (by decide))).trans z381
  have z392 : h41 112 1 = 0 := (upN E41 (fun z => absurd z.1 (by decide))).trans z382
  have u393 : h41 113 = fun _ => 0 := (upo E41 (by decide)).trans u383
  have g394 := g384.put E41 (by decide)
  have g395 := g388.put E41 (by decide)
  have F396 : ∀ k, k < 108 → h41 k = h0 k := frn_up F386 E41 (by decide)
  clear g384 g388 F386 E40 g385 g387 L379 z380 z381 z382 u383
  have f397 : h41 108 33 = ((128 : Nat) : Int) := upE E41
  refine y_aload_n (M := M_X12_init_109) 172 dX12_init_172 rfl ?_
  refine y_bipush (M := M_X12_init_109) 173 dX12_init_173 ?_
  refine y_newaJ (M := M_X12_init_109) 175 dX12_init_175 acJ (N := 80) (by decide) (tk_s o_129) (tk_l (by decide)) (tk_b (by decide) (by decide) (by decide)) (fun h42 E42 => ?_)
  have L398 := sl_c f397 L389
  have L399 := sl_same L398 (m_nw_ne E42 (by decide))
  have z400 : ∀ j, h42 110 j = 0 := fun j => (congrFun (m_nw_ne E42 (by decide)) j).trans (z390 j)
  have z401 : h42 112 0 = 0 := (congrFun (m_nw_ne E42 (by decide)) 0).trans z391
  have z402 : h42 112 1 = 0 := (congrFun (m_nw_ne E42 (by decide)) 1).trans z392
  have u403 : h42 113 = fun _ => 0 := (m_nw_ne E42 (by decide)).trans u393
  have g404 := g394.nw E42 (by decide)
  have g405 := g395.nw E42 (by decide)
  have F406 : ∀ k, k < 108 → h42 k = h0 k := frn_nw F396 E42 (by decide)
  clear g394 g395 F396 E41 f397 L389 L398 z390 z391 z392 u393
  have g407 : gR 129 130 h42 := gR_1 (gC_of bt_129 (fun j hj => by rw [nwJ E42]; show (0 : Int) ≤ 0 ∧ (0 : Int) ≤ 99999999; decide))
  have g408 := g405.join g407
  refine y_putF (M := M_X12_init_109) 177 dX12_init_177 ff_X12_76 (tk_g (by decide) o_108) (fun E m t q => q.1) rfl rfp_a (fun h43 E43 => ?_)
  have L409 := sl_up L399 E43 (by decide)
  have z410 : ∀ j, h43 110 j = 0 := fun j => (upN E43 (fun z => absurd z.1 (by decide))).trans (z400 j)
  have z411 : h43 112 0 = 0 := (upN E43 (fun z => absurd z.1 (by decide))).trans z401
  have z412 : h43 112 1 = 0 := (upN E43 (fun z => absurd z.1 (by decide))).trans z402
  have u413 : h43 113 = fun _ => 0 := (upo E43 (by decide)).trans u403
  have g414 := g404.put E43 (by decide)
  have g415 := g408.put E43 (by decide)
  have F416 : ∀ k, k < 108 → h43 k = h0 k := frn_up F406 E43 (by decide)
  clear g404 g408 F406 E42 g405 g407 L399 z400 z401 z402 u403
  have f417 : h43 108 34 = ((129 : Nat) : Int) := upE E43
  refine y_aload_n (M := M_X12_init_109) 180 dX12_init_180 rfl ?_
  refine y_bipush (M := M_X12_init_109) 181 dX12_init_181 ?_
  refine y_newaZ (M := M_X12_init_109) 183 dX12_init_183 acZ (N := 16) (by decide) (tk_s o_130) (tk_l (by decide)) (tk_b (by decide) (by decide) (by decide)) (fun h44 E44 => ?_)
  have L418 := sl_c f417 L409
  have L419 := sl_same L418 (m_nw_ne E44 (by decide))
  have z420 : ∀ j, h44 110 j = 0 := fun j => (congrFun (m_nw_ne E44 (by decide)) j).trans (z410 j)
  have z421 : h44 112 0 = 0 := (congrFun (m_nw_ne E44 (by decide)) 0).trans z411
  have z422 : h44 112 1 = 0 := (congrFun (m_nw_ne E44 (by decide)) 1).trans z412
  have u423 : h44 113 = fun _ => 0 := (m_nw_ne E44 (by decide)).trans u413
  have g424 := g414.nw E44 (by decide)
  have g425 := g415.nw E44 (by decide)
  have F426 : ∀ k, k < 108 → h44 k = h0 k := frn_nw F416 E44 (by decide)
  clear g414 g415 F416 E43 f417 L409 L418 z410 z411 z412 u413
  have g427 : gR 130 131 h44 := gR_1 (gC_of bt_130 (fun j hj => by rw [nwZ E44]; show (0 : Int) ≤ 0 ∧ (0 : Int) ≤ 1; decide))
  have g428 := g425.join g427
  refine y_putF (M := M_X12_init_109) 185 dX12_init_185 ff_X12_79 (tk_g (by decide) o_108) (fun E m t q => q.1) rfl rfp_a (fun h45 E45 => ?_)
  have L429 := sl_up L419 E45 (by decide)
  have z430 : ∀ j, h45 110 j = 0 := fun j => (upN E45 (fun z => absurd z.1 (by decide))).trans (z420 j)
  have z431 : h45 112 0 = 0 := (upN E45 (fun z => absurd z.1 (by decide))).trans z421
  have z432 : h45 112 1 = 0 := (upN E45 (fun z => absurd z.1 (by decide))).trans z422
  have u433 : h45 113 = fun _ => 0 := (upo E45 (by decide)).trans u423
  have g434 := g424.put E45 (by decide)
  have g435 := g428.put E45 (by decide)
  have F436 : ∀ k, k < 108 → h45 k = h0 k := frn_up F426 E45 (by decide)
  clear g424 g428 F426 E44 g425 g427 L419 z420 z421 z422 u423
  have f437 : h45 108 35 = ((130 : Nat) : Int) := upE E45
  refine y_aload_n (M := M_X12_init_109) 188 dX12_init_188 rfl ?_
  refine y_bipush (M := M_X12_init_109) 189 dX12_init_189 ?_
  refine y_newaZ (M := M_X12_init_109) 191 dX12_init_191 acZ (N := 16) (by decide) (tk_s o_131) (tk_l (by decide)) (tk_b (by decide) (by decide) (by decide)) (fun h46 E46 => ?_)
  have L438 := sl_c f437 L429
  have L439 := sl_same L438 (m_nw_ne E46 (by decide))
  have z440 : ∀ j, h46 110 j = 0 := fun j => (congrFun (m_nw_ne E46 (by decide)) j).trans (z430 j)
  have z441 : h46 112 0 = 0 := (congrFun (m_nw_ne E46 (by decide)) 0).trans z431
  have z442 : h46 112 1 = 0 := (congrFun (m_nw_ne E46 (by decide)) 1).trans z432
  have u443 : h46 113 = fun _ => 0 := (m_nw_ne E46 (by decide)).trans u433
  have g444 := g434.nw E46 (by decide)
  have g445 := g435.nw E46 (by decide)
  have F446 : ∀ k, k < 108 → h46 k = h0 k := frn_nw F436 E46 (by decide)
  clear g434 g435 F436 E45 f437 L429 L438 z430 z431 z432 u433
  have g447 : gR 131 132 h46 := gR_1 (gC_of bt_131 (fun j hj => by rw [nwZ E46]; show (0 : Int) ≤ 0 ∧ (0 : Int) ≤ 1; decide))
  have g448 := g445.join g447
  refine y_putF (M := M_X12_init_109) 193 dX12_init_193 ff_X12_82 (tk_g (by decide) o_108) (fun E m t q => q.1) rfl rfp_a (fun h47 E47 => ?_)
  have L449 := sl_up L439 E47 (by decide)
  have z450 : ∀ j, h47 110 j = 0 := fun j => (upN E47 (fun z => absurd z.1 (by decide))).trans (z440 j)
  have z451 : h47 112 0 = 0 := (upN E47 (fun z => absurd z.1 (by decide))).trans z441
  have z452 : h47 112 1 = 0 := (upN E47 (fun z => absurd z.1 (by decide))).trans z442
  have u453 : h47 113 = fun _ => 0 := (upo E47 (by decide)).trans u443
  have g454 := g444.put E47 (by decide)
  have g455 := g448.put E47 (by decide)
  have F456 : ∀ k, k < 108 → h47 k = h0 k := frn_up F446 E47 (by decide)
  clear g444 g448 F446 E46 g445 g447 L439 z440 z441 z442 u443
  have f457 : h47 108 36 = ((131 : Nat) : Int) := upE E47
  refine y_aload_n (M := M_X12_init_109) 196 dX12_init_196 rfl ?_
  refine y_iconst (M := M_X12_init_109) 197 dX12_init_197 ?_
  refine y_newaJ (M := M_X12_init_109) 198 dX12_init_198 acJ (N := 5) (by decide) (tk_s o_132) (tk_l (by decide)) (tk_b (by decide) (by decide) (by decide)) (fun h48 E48 => ?_)
  have L458 := sl_c f457 L449
  have L459 := sl_same L458 (m_nw_ne E48 (by decide))
  have z460 : ∀ j, h48 110 j = 0 := fun j => (congrFun (m_nw_ne E48 (by decide)) j).trans (z450 j)
  have z461 : h48 112 0 = 0 := (congrFun (m_nw_ne E48 (by decide)) 0).trans z451
  have z462 : h48 112 1 = 0 := (congrFun (m_nw_ne E48 (by decide)) 1).trans z452
  have u463 : h48 113 = fun _ => 0 := (m_nw_ne E48 (by decide)).trans u453
  have g464 := g454.nw E48 (by decide)
  have g465 := g455.nw E48 (by decide)
  have F466 : ∀ k, k < 108 → h48 k = h0 k := frn_nw F456 E48 (by decide)
  clear g454 g455 F456 E47 f457 L449 L458 z450 z451 z452 u453
  have g467 : gR 132 133 h48 := gR_1 (gC_of bt_132 (fun j hj => by rw [nwJ E48]; show (0 : Int) ≤ 0 ∧ (0 : Int) ≤ 99999999; decide))
  have g468 := g465.join g467
  refine y_putF (M := M_X12_init_109) 200 dX12_init_200 ff_X12_85 (tk_g (by decide) o_108) (fun E m t q => q.1) rfl rfp_a (fun h49 E49 => ?_)
  have L469 := sl_up L459 E49 (by decide)
  have z470 : ∀ j, h49 110 j = 0 := fun j => (upN E49 (fun z => absurd z.1 (by decide))).trans (z460 j)
  have z471 : h49 112 0 = 0 := (upN E49 (fun z => absurd z.1 (by decide))).trans z461
  have z472 : h49 112 1 = 0 := (upN E49 (fun z => absurd z.1 (by decide))).trans z462
  have u473 : h49 113 = fun _ => 0 := (upo E49 (by decide)).trans u463
  have g474 := g464.put E49 (by decide)
  have g475 := g468.put E49 (by decide)
  have F476 : ∀ k, k < 108 → h49 k = h0 k := frn_up F466 E49 (by decide)
  clear g464 g468 F466 E48 g465 g467 L459 z460 z461 z462 u463
  have f477 : h49 108 37 = ((132 : Nat) : Int) := upE E49
  refine y_aload_n (M := M_X12_init_109) 203 dX12_init_203 rfl ?_
  refine y_iconst (M := M_X12_init_109) 204 dX12_init_204 ?_
  refine y_newaJ (M := M_X12_init_109) 205 dX12_init_205 acJ (N := 5) (by decide) (tk_s o_133) (tk_l (by decide)) (tk_b (by decide) (by decide) (by decide)) (fun h50 E50 => ?_)
  have L478 := sl_c f477 L469
  have L479 := sl_same L478 (m_nw_ne E50 (by decide))
  have z480 : ∀ j, h50 110 j = 0 := fun j => (congrFun (m_nw_ne E50 (by decide)) j).trans (z470 j)
  have z481 : h50 112 0 = 0 := (congrFun (m_nw_ne E50 (by decide)) 0).trans z471
  have z482 : h50 112 1 = 0 := (congrFun (m_nw_ne E50 (by decide)) 1).trans z472
  have u483 : h50 113 = fun _ => 0 := (m_nw_ne E50 (by decide)).trans u473
  have g484 := g474.nw E50 (by decide)
  have g485 := g475.nw E50 (by decide)
  have F486 : ∀ k, k < 108 → h50 k = h0 k := frn_nw F476 E50 (by decide)
  clear g474 g475 F476 E49 f477 L469 L478 z470 z471 z472 u473
  have g487 : gR 133 134 h50 := gR_1 (gC_of bt_133 (fun j hj => by rw [nwJ E50]; show (0 : Int) ≤ 0 ∧ (0 : Int) ≤ 99999999; decide))
  have g488 := g485.join g487
  refine y_putF (M := M_X12_init_109) 207 dX12_init_207 ff_X12_88 (tk_g (by decide) o_108) (fun E m t q => q.1) rfl rfp_a (fun h51 E51 => ?_)
  have L489 := sl_up L479 E51 (by decide)
  have z490 : ∀ j, h51 110 j = 0 := fun j => (upN E51 (fun z => absurd z.1 (by decide))).trans (z480 j)
  have z491 : h51 112 0 = 0 := (upN E51 (fun z => absurd z.1 (by decide))).trans z481
  have z492 : h51 112 1 = 0 := (upN E51 (fun z => absurd z.1 (by decide))).trans z482
  have u493 : h51 113 = fun _ => 0 := (upo E51 (by decide)).trans u483
  have g494 := g484.put E51 (by decide)
  have g495 := g488.put E51 (by decide)
  have F496 : ∀ k, k < 108 → h51 k = h0 k := frn_up F486 E51 (by decide)
  clear g484 g488 F486 E50 g485 g487 L479 z480 z481 z482 u483
  have f497 : h51 108 38 = ((133 : Nat) : Int) := upE E51
  refine y_aload_n (M := M_X12_init_109) 210 dX12_init_210 rfl ?_
  refine y_sipush (M := M_X12_init_109) 211 dX12_init_211 ?_
  refine y_newaZ (M := M_X12_init_109) 214 dX12_init_214 acZ (N := 256) (by decide) (tk_s o_134) (tk_l (by decide)) (tk_b (by decide) (by decide) (by decide)) (fun h52 E52 => ?_)
  have L498 := sl_c f497 L489
  have L499 := sl_same L498 (m_nw_ne E52 (by decide))
  have z500 : ∀ j, h52 110 j = 0 := fun j => (congrFun (m_nw_ne E52 (by decide)) j).trans (z490 j)
  have z501 : h52 112 0 = 0 := (congrFun (m_nw_ne E52 (by decide)) 0).trans z491
  have z502 : h52 112 1 = 0 := (congrFun (m_nw_ne E52 (by decide)) 1).trans z492
  have u503 : h52 113 = fun _ => 0 := (m_nw_ne E52 (by decide)).trans u493
  have g504 := g494.nw E52 (by decide)
  have g505 := g495.nw E52 (by decide)
  have F506 : ∀ k, k < 108 → h52 k = h0 k := frn_nw F496 E52 (by decide)
  clear g494 g495 F496 E51 f497 L489 L498 z490 z491 z492 u493
  have g507 : gR 134 135 h52 := gR_1 (gC_of bt_134 (fun j hj => by rw [nwZ E52]; show (0 : Int) ≤ 0 ∧ (0 : Int) ≤ 1; decide))
  have g508 := g505.join g507
  refine y_putF (M := M_X12_init_109) 216 dX12_init_216 ff_X12_91 (tk_g (by decide) o_108) (fun E m t q => q.1) rfl rfp_a (fun h53 E53 => ?_)
  have L509 := sl_up L499 E53 (by decide)
  have z510 : ∀ j, h53 110 j = 0 := fun j => (upN E53 (fun z => absurd z.1 (by decide))).trans (z500 j)
  have z511 : h53 112 0 = 0 := (upN E53 (fun z => absurd z.1 (by decide))).trans z501
  have z512 : h53 112 1 = 0 := (upN E53 (fun z => absurd z.1 (by decide))).trans z502
  have u513 : h53 113 = fun _ => 0 := (upo E53 (by decide)).trans u503
  have g514 := g504.put E53 (by decide)
  have g515 := g508.put E53 (by decide)
  have F516 : ∀ k, k < 108 → h53 k = h0 k := frn_up F506 E53 (by decide)
  clear g504 g508 F506 E52 g505 g507 L499 z500 z501 z502 u503
  have f517 : h53 108 39 = ((134 : Nat) : Int) := upE E53
  refine y_aload_n (M := M_X12_init_109) 219 dX12_init_219 rfl ?_
  refine y_bipush (M := M_X12_init_109) 220 dX12_init_220 ?_
  refine y_newaJ (M := M_X12_init_109) 222 dX12_init_222 acJ (N := 10) (by decide) (tk_s o_135) (tk_l (by decide)) (tk_b (by decide) (by decide) (by decide)) (fun h54 E54 => ?_)
  have L518 := sl_c f517 L509
  have L519 := sl_same L518 (m_nw_ne E54 (by decide))
  have z520 : ∀ j, h54 110 j = 0 := fun j => (congrFun (m_nw_ne E54 (by decide)) j).trans (z510 j)
  have z521 : h54 112 0 = 0 := (congrFun (m_nw_ne E54 (by decide)) 0).trans z511
  have z522 : h54 112 1 = 0 := (congrFun (m_nw_ne E54 (by decide)) 1).trans z512
  have u523 : h54 113 = fun _ => 0 := (m_nw_ne E54 (by decide)).trans u513
  have g524 := g514.nw E54 (by decide)
  have g525 := g515.nw E54 (by decide)
  have F526 : ∀ k, k < 108 → h54 k = h0 k := frn_nw F516 E54 (by decide)
  clear g514 g515 F516 E53 f517 L509 L518 z510 z511 z512 u513
  have g527 : gR 135 136 h54 := gR_1 (gC_of bt_135 (fun j hj => by rw [nwJ E54]; exact trivial))
  have g528 := g525.join g527
  refine y_putF (M := M_X12_init_109) 224 dX12_init_224 ff_X12_94 (tk_g (by decide) o_108) (fun E m t q => q.1) rfl rfp_a (fun h55 E55 => ?_)
  have L529 := sl_up L519 E55 (by decide)
  have z530 : ∀ j, h55 110 j = 0 := fun j => (upN E55 (fun z => absurd z.1 (by decide))).trans (z520 j)
  have z531 : h55 112 0 = 0 := (upN E55 (fun z => absurd z.1 (by decide))).trans z521
  have z532 : h55 112 1 = 0 := (upN E55 (fun z => absurd z.1 (by decide))).trans z522
  have u533 : h55 113 = fun _ => 0 := (upo E55 (by decide)).trans u523
  have g534 := g524.put E55 (by decide)
  have g535 := g528.put E55 (by decide)
  have F536 : ∀ k, k < 108 → h55 k = h0 k := frn_up F526 E55 (by decide)
  clear g524 g528 F526 E54 g525 g527 L519 z520 z521 z522 u523
  have f537 : h55 108 40 = ((135 : Nat) : Int) := upE E55
  refine y_aload_n (M := M_X12_init_109) 227 dX12_init_227 rfl ?_
  refine y_bipush (M := M_X12_init_109) 228 dX12_init_228 ?_
  refine y_newaJ (M := M_X12_init_109) 230 dX12_init_230 acJ (N := 10) (by decide) (tk_s o_136) (tk_l (by decide)) (tk_b (by decide) (by decide) (by decide)) (fun h56 E56 => ?_)
  have L538 := sl_c f537 L529
  have L539 := sl_same L538 (m_nw_ne E56 (by decide))
  have z540 : ∀ j, h56 110 j = 0 := fun j => (congrFun (m_nw_ne E56 (by decide)) j).trans (z530 j)
  have z541 : h56 112 0 = 0 := (congrFun (m_nw_ne E56 (by decide)) 0).trans z531
  have z542 : h56 112 1 = 0 := (congrFun (m_nw_ne E56 (by decide)) 1).trans z532
  have u543 : h56 113 = fun _ => 0 := (m_nw_ne E56 (by decide)).trans u533
  have g544 := g534.nw E56 (by decide)
  have g545 := g535.nw E56 (by decide)
  have F546 : ∀ k, k < 108 → h56 k = h0 k := frn_nw F536 E56 (by decide)
  clear g534 g535 F536 E55 f537 L529 L538 z530 z531 z532 u533
  have g547 : gR 136 137 h56 := gR_1 (gC_of bt_136 (fun j hj => by rw [nwJ E56]; exact trivial))
  have g548 := g545.join g547
  refine y_putF (M := M_X12_init_109) 232 dX12_init_232 ff_X12_97 (tk_g (by decide) o_108) (fun E m t q => q.1) rfl rfp_a (fun h57 E57 => ?_)
  have L549 := sl_up L539 E57 (by decide)
  have z550 : ∀ j, h57 110 j = 0 := fun j => (upN E57 (fun z => absurd z.1 (by decide))).trans (z540 j)
  have z551 : h57 112 0 = 0 := (upN E57 (fun z => absurd z.1 (by decide))).trans z541
  have z552 : h57 112 1 = 0 := (upN E57 (fun z => absurd z.1 (by decide))).trans z542
  have u553 : h57 113 = fun _ => 0 := (upo E57 (by decide)).trans u543
  have g554 := g544.put E57 (by decide)
  have g555 := g548.put E57 (by decide)
  have F556 : ∀ k, k < 108 → h57 k = h0 k := frn_up F546 E57 (by decide)
  clear g544 g548 F546 E56 g545 g547 L539 z540 z541 z542 u543
  have f557 : h57 108 41 = ((136 : Nat) : Int) := upE E57
  refine y_aload_n (M := M_X12_init_109) 235 dX12_init_235 rfl ?_
  refine y_iconst (M := M_X12_init_109) 236 dX12_init_236 ?_
  refine y_newaJ (M := M_X12_init_109) 237 dX12_init_237 acJ (N := 5) (by decide) (tk_s o_137) (tk_l (by decide)) (tk_b (by decide) (by decide) (by decide)) (fun h58 E58 => ?_)
  have L558 := sl_c f557 L549
  have L559 := sl_same L558 (m_nw_ne E58 (by decide))
  have z560 : ∀ j, h58 110 j = 0 := fun j => (congrFun (m_nw_ne E58 (by decide)) j).trans (z550 j)
  have z561 : h58 112 0 = 0 := (congrFun (m_nw_ne E58 (by decide)) 0).trans z551
  have z562 : h58 112 1 = 0 := (congrFun (m_nw_ne E58 (by decide)) 1).trans z552
  have u563 : h58 113 = fun _ => 0 := (m_nw_ne E58 (by decide)).trans u553
  have g564 := g554.nw E58 (by decide)
  have g565 := g555.nw E58 (by decide)
  have F566 : ∀ k, k < 108 → h58 k = h0 k := frn_nw F556 E58 (by decide)
  clear g554 g555 F556 E57 f557 L549 L558 z550 z551 z552 u553
  have g567 : gR 137 138 h58 := gR_1 (gC_of bt_137 (fun j hj => by rw [nwJ E58]; show (0 : Int) ≤ 0 ∧ (0 : Int) ≤ 1; decide))
  have g568 := g565.join g567
  refine y_dup (M := M_X12_init_109) 239 dX12_init_239 rfl ?_
  refine y_iconst (M := M_X12_init_109) 240 dX12_init_240 ?_
  refine y_lconst (M := M_X12_init_109) 241 dX12_init_241 (v := 1) ?_
  refine y_last (M := M_X12_init_109) 242 dX12_init_242 (tk_g (by decide) o_137) (by decide) (by decide) ?_
  obtain ⟨h59, E59⟩ : ∃ x, x = m_up h58 137 0 1 := ⟨_, rfl⟩
  show m_Y _ _ _ _ _ _ (m_up h58 137 0 1) _
  rw [← E59]
  have Kh59 := g568 137 (by decide) (by decide)
  have g569 : gR 111 137 h58 := fun k q1 q2 => g568 k (by omega) (by omega)
  have L570 := sl_same L559 (upo E59 (by decide))
  have z571 : ∀ j, h59 110 j = 0 := fun j => (upN E59 (fun z => absurd z.1 (by decide))).trans (z560 j)
  have z572 : h59 112 0 = 0 := (upN E59 (fun z => absurd z.1 (by decide))).trans z561
  have z573 : h59 112 1 = 0 := (upN E59 (fun z => absurd z.1 (by decide))).trans z562
  have o574 : h59 137 0 = 1 := upE E59
  have u575 : h59 113 = fun _ => 0 := (upo E59 (by decide)).trans u563
  have g576 := g564.put E59 (by decide)
  have g577 := g569.put E59 (by decide)
  have F578 : ∀ k, k < 108 → h59 k = h0 k := frn_up F566 E59 (by decide)
  clear g564 g569 F566 E58 g565 g567 g568 L559 z560 z561 z562 u563
  have g579 : gR 137 138 h59 := gR_1 (gC_of bt_137 (fun j hj => by rw [upf E59]; show (0 : Int) ≤ (if j = 0 then 1 else _) ∧ (if j = 0 then 1 else _) ≤ (1 : Int); split; (decide); (exact Kh59 _ bt_137 j hj)))
  have g580 := g577.join g579
  refine y_dup (M := M_X12_init_109) 243 dX12_init_243 rfl ?_
  refine y_iconst (M := M_X12_init_109) 244 dX12_init_244 ?_
  refine y_lconst (M := M_X12_init_109) 245 dX12_init_245 (v := 0) ?_
  refine y_last (M := M_X12_init_109) 246 dX12_init_246 (tk_g (by decide) o_137) (by decide) (by decide) ?_
  obtain ⟨h60, E60⟩ : ∃ x, x = m_up h59 137 1 0 := ⟨_, rfl⟩
  show m_Y _ _ _ _ _ _ (m_up h59 137 1 0) _
  rw [← E60]
  have Kh60 := g580 137 (by decide) (by decide)
  have g581 : gR 111 137 h59 := fun k q1 q2 => g580 k (by omega) (by omega)
  have L582 := sl_same L570 (upo E60 (by decide))
  have z583 : ∀ j, h60 110 j = 0 := fun j => (upN E60 (fun z => absurd z.1 (by decide))).trans (z571 j)
  have z584 : h60 112 0 = 0 := (upN E60 (fun z => absurd z.1 (by decide))).trans z572
  have z585 : h60 112 1 = 0 := (upN E60 (fun z => absurd z.1 (by decide))).trans z573
  have o586 : h60 137 0 = 1 := (upN E60 (by decide)).trans o574
  have u587 : h60 113 = fun _ => 0 := (upo E60 (by decide)).trans u575
  have g588 := g576.put E60 (by decide)
  have g589 := g581.put E60 (by decide)
  have F590 : ∀ k, k < 108 → h60 k = h0 k := frn_up F578 E60 (by decide)
  clear g576 g581 F578 E59 g577 g579 g580 L570 z571 z572 z573 o574 u575
  have g591 : gR 137 138 h60 := gR_1 (gC_of bt_137 (fun j hj => by rw [upf E60]; show (0 : Int) ≤ (if j = 1 then 0 else _) ∧ (if j = 1 then 0 else _) ≤ (1 : Int); split; (decide); (exact Kh60 _ bt_137 j hj)))
  have g592 := g589.join g591
  refine y_dup (M := M_X12_init_109) 247 dX12_init_247 rfl ?_
  refine y_iconst (M := M_X12_init_109) 248 dX12_init_248 ?_
  refine y_lconst (M := M_X12_init_109) 249 dX12_init_249 (v := 0) ?_
  refine y_last (M := M_X12_init_109) 250 dX12_init_250 (tk_g (by decide) o_137) (by decide) (by decide) ?_
  obtain ⟨h61, E61⟩ : ∃ x, x = m_up h60 137 2 0 := ⟨_, rfl⟩
  show m_Y _ _ _ _ _ _ (m_up h60 137 2 0) _
  rw [← E61]
  have Kh61 := g592 137 (by decide) (by decide)
  have g593 : gR 111 137 h60 := fun k q1 q2 => g592 k (by omega) (by omega)
  have L594 := sl_same L582 (upo E61 (by decide))
  have z595 : ∀ j, h61 110 j = 0 := fun j => (upN E61 (fun z => absurd z.1 (by decide))).trans (z583 j)
  have z596 : h61 112 0 = 0 := (upN E61 (fun z => absurd z.1 (by decide))).trans z584
  have z597 : h61 112 1 = 0 := (upN E61 (fun z => absurd z.1 (by decide))).trans z585
  have o598 : h61 137 0 = 1 := (upN E61 (by decide)).trans o586
  have u599 : h61 113 = fun _ => 0 := (upo E61 (by decide)).trans u587
  have g600 := g588.put E61 (by decide)
  have g601 := g593.put E61 (by decide)
  have F602 : ∀ k, k < 108 → h61 k = h0 k := frn_up F590 E61 (by decide)
  clear g588 g593 F590 E60 g589 g591 g592 L582 z583 z584 z585 o586 u587
  have g603 : gR 137 138 h61 := gR_1 (gC_of bt_137 (fun j hj => by rw [upf E61]; show (0 : Int) ≤ (if j = 2 then 0 else _) ∧ (if j = 2 then 0 else _) ≤ (1 : Int); split; (decide); (exact Kh61 _ bt_137 j hj)))
  have g604 := g601.join g603
  refine y_dup (M := M_X12_init_109) 251 dX12_init_251 rfl ?_
  refine y_iconst (M := M_X12_init_109) 252 dX12_init_252 ?_
  refine y_lconst (M := M_X12_init_109) 253 dX12_init_253 (v := 0) ?_
  refine y_last (M := M_X12_init_109) 254 dX12_init_254 (tk_g (by decide) o_137) (by decide) (by decide) ?_
  obtain ⟨h62, E62⟩ : ∃ x, x = m_up h61 137 3 0 := ⟨_, rfl⟩
  show m_Y _ _ _ _ _ _ (m_up h61 137 3 0) _
  rw [← E62]
  have Kh62 := g604 137 (by decide) (by decide)
  have g605 : gR 111 137 h61 := fun k q1 q2 => g604 k (by omega) (by omega)
  have L606 := sl_same L594 (upo E62 (by decide))
  have z607 : ∀ j, h62 110 j = 0 := fun j => (upN E62 (fun z => absurd z.1 (by decide))).trans (z595 j)
  have z608 : h62 112 0 = 0 := (upN E62 (fun z => absurd z.1 (by decide))).trans z596
  have z609 : h62 112 1 = 0 := (upN E62 (fun z => absurd z.1 (by decide))).trans z597
  have o610 : h62 137 0 = 1 := (upN E62 (by decide)).trans o598
  have u611 : h62 113 = fun _ => 0 := (upo E62 (by decide)).trans u599
  have g612 := g600.put E62 (by decide)
  have g613 := g605.put E62 (by decide)
  have F614 : ∀ k, k < 108 → h62 k = h0 k := frn_up F602 E62 (by decide)
  clear g600 g605 F602 E61 g601 g603 g604 L594 z595 z596 z597 o598 u599
  have g615 : gR 137 138 h62 := gR_1 (gC_of bt_137 (fun j hj => by rw [upf E62]; show (0 : Int) ≤ (if j = 3 then 0 else _) ∧ (if j = 3 then 0 else _) ≤ (1 : Int); split; (decide); (exact Kh62 _ bt_137 j hj)))
  have g616 := g613.join g615
  refine y_dup (M := M_X12_init_109) 255 dX12_init_255 rfl ?_
  refine y_iconst (M := M_X12_init_109) 256 dX12_init_256 ?_
  refine y_lconst (M := M_X12_init_109) 257 dX12_init_257 (v := 0) ?_
  refine y_last (M := M_X12_init_109) 258 dX12_init_258 (tk_g (by decide) o_137) (by decide) (by decide) ?_
  obtain ⟨h63, E63⟩ : ∃ x, x = m_up h62 137 4 0 := ⟨_, rfl⟩
  show m_Y _ _ _ _ _ _ (m_up h62 137 4 0) _
  rw [← E63]
  have Kh63 := g616 137 (by decide) (by decide)
  have g617 : gR 111 137 h62 := fun k q1 q2 => g616 k (by omega) (by omega)
  have L618 := sl_same L606 (upo E63 (by decide))
  have z619 : ∀ j, h63 110 j = 0 := fun j => (upN E63 (fun z => absurd z.1 (by decide))).trans (z607 j)
  have z620 : h63 112 0 = 0 := (upN E63 (fun z => absurd z.1 (by decide))).trans z608
  have z621 : h63 112 1 = 0 := (upN E63 (fun z => absurd z.1 (by decide))).trans z609
  have o622 : h63 137 0 = 1 := (upN E63 (by decide)).trans o610
  have u623 : h63 113 = fun _ => 0 := (upo E63 (by decide)).trans u611
  have g624 := g612.put E63 (by decide)
  have g625 := g617.put E63 (by decide)
  have F626 : ∀ k, k < 108 → h63 k = h0 k := frn_up F614 E63 (by decide)
  clear g612 g617 F614 E62 g613 g615 g616 L606 z607 z608 z609 o610 u611
  have g627 : gR 137 138 h63 := gR_1 (gC_of bt_137 (fun j hj => by rw [upf E63]; show (0 : Int) ≤ (if j = 4 then 0 else _) ∧ (if j = 4 then 0 else _) ≤ (1 : Int); split; (decide); (exact Kh63 _ bt_137 j hj)))
  have g628 := g625.join g627
  refine y_putF (M := M_X12_init_109) 259 dX12_init_259 ff_X12_100 (tk_g (by decide) o_108) (fun E m t q => q.1) rfl rfp_a (fun h64 E64 => ?_)
  have L629 := sl_up L618 E64 (by decide)
  have z630 : ∀ j, h64 110 j = 0 := fun j => (upN E64 (fun z => absurd z.1 (by decide))).trans (z619 j)
  have z631 : h64 112 0 = 0 := (upN E64 (fun z => absurd z.1 (by decide))).trans z620
  have z632 : h64 112 1 = 0 := (upN E64 (fun z => absurd z.1 (by decide))).trans z621
  have o633 : h64 137 0 = 1 := (upN E64 (by decide)).trans o622
  have u634 : h64 113 = fun _ => 0 := (upo E64 (by decide)).trans u623
  have g635 := g624.put E64 (by decide)
  have g636 := g628.put E64 (by decide)
  have F637 : ∀ k, k < 108 → h64 k = h0 k := frn_up F626 E64 (by decide)
  clear g624 g628 F626 E63 g625 g627 L618 z619 z620 z621 o622 u623
  have f638 : h64 108 42 = ((137 : Nat) : Int) := upE E64
  refine y_aload_n (M := M_X12_init_109) 262 dX12_init_262 rfl ?_
  refine y_bipush (M := M_X12_init_109) 263 dX12_init_263 ?_
  refine y_newaJ (M := M_X12_init_109) 265 dX12_init_265 acJ (N := 20) (by decide) (tk_s o_138) (tk_l (by decide)) (tk_b (by decide) (by decide) (by decide)) (fun h65 E65 => ?_)
  have L639 := sl_c f638 L629
  have L640 := sl_same L639 (m_nw_ne E65 (by decide))
  have z641 : ∀ j, h65 110 j = 0 := fun j => (congrFun (m_nw_ne E65 (by decide)) j).trans (z630 j)
  have z642 : h65 112 0 = 0 := (congrFun (m_nw_ne E65 (by decide)) 0).trans z631
  have z643 : h65 112 1 = 0 := (congrFun (m_nw_ne E65 (by decide)) 1).trans z632
  have o644 : h65 137 0 = 1 := (congrFun (m_nw_ne E65 (by decide)) 0).trans o633
  have u645 : h65 113 = fun _ => 0 := (m_nw_ne E65 (by decide)).trans u634
  have g646 := g635.nw E65 (by decide)
  have g647 := g636.nw E65 (by decide)
  have F648 : ∀ k, k < 108 → h65 k = h0 k := frn_nw F637 E65 (by decide)
  clear g635 g636 F637 E64 f638 L629 L639 z630 z631 z632 o633 u634
  have g649 : gR 138 139 h65 := gR_1 (gC_of bt_138 (fun j hj => by rw [nwJ E65]; show (0 : Int) ≤ 0 ∧ (0 : Int) ≤ 99999999; decide))
  have g650 := g647.join g649
  refine y_putF (M := M_X12_init_109) 267 dX12_init_267 ff_X12_103 (tk_g (by decide) o_108) (fun E m t q => q.1) rfl rfp_a (fun h66 E66 => ?_)
  have L651 := sl_up L640 E66 (by decide)
  have z652 : ∀ j, h66 110 j = 0 := fun j => (upN E66 (fun z => absurd z.1 (by decide))).trans (z641 j)
  have z653 : h66 112 0 = 0 := (upN E66 (fun z => absurd z.1 (by decide))).trans z642
  have z654 : h66 112 1 = 0 := (upN E66 (fun z => absurd z.1 (by decide))).trans z643
  have o655 : h66 137 0 = 1 := (upN E66 (by decide)).trans o644
  have u656 : h66 113 = fun _ => 0 := (upo E66 (by decide)).trans u645
  have g657 := g646.put E66 (by decide)
  have g658 := g650.put E66 (by decide)
  have F659 : ∀ k, k < 108 → h66 k = h0 k := frn_up F648 E66 (by decide)
  clear g646 g650 F648 E65 g647 g649 L640 z641 z642 z643 o644 u645
  have f660 : h66 108 43 = ((138 : Nat) : Int) := upE E66
  refine y_aload_n (M := M_X12_init_109) 270 dX12_init_270 rfl ?_
  refine y_bipush (M := M_X12_init_109) 271 dX12_init_271 ?_
  refine y_newaJ (M := M_X12_init_109) 273 dX12_init_273 acJ (N := 10) (by decide) (tk_s o_139) (tk_l (by decide)) (tk_b (by decide) (by decide) (by decide)) (fun h67 E67 => ?_)
  have L661 := sl_c f660 L651
  have L662 := sl_same L661 (m_nw_ne E67 (by decide))
  have z663 : ∀ j, h67 110 j = 0 := fun j => (congrFun (m_nw_ne E67 (by decide)) j).trans (z652 j)
  have z664 : h67 112 0 = 0 := (congrFun (m_nw_ne E67 (by decide)) 0).trans z653
  have z665 : h67 112 1 = 0 := (congrFun (m_nw_ne E67 (by decide)) 1).trans z654
  have o666 : h67 137 0 = 1 := (congrFun (m_nw_ne E67 (by decide)) 0).trans o655
  have u667 : h67 113 = fun _ => 0 := (m_nw_ne E67 (by decide)).trans u656
  have g668 := g657.nw E67 (by decide)
  have g669 := g658.nw E67 (by decide)
  have F670 : ∀ k, k < 108 → h67 k = h0 k := frn_nw F659 E67 (by decide)
  clear g657 g658 F659 E66 f660 L651 L661 z652 z653 z654 o655 u656
  have g671 : gR 139 140 h67 := gR_1 (gC_of bt_139 (fun j hj => by rw [nwJ E67]; exact trivial))
  have g672 := g669.join g671
  refine y_putF (M := M_X12_init_109) 275 dX12_init_275 ff_X12_106 (tk_g (by decide) o_108) (fun E m t q => q.1) rfl rfp_a (fun h68 E68 => ?_)
  have L673 := sl_up L662 E68 (by decide)
  have z674 : ∀ j, h68 110 j = 0 := fun j => (upN E68 (fun z => absurd z.1 (by decide))).trans (z663 j)
  have z675 : h68 112 0 = 0 := (upN E68 (fun z => absurd z.1 (by decide))).trans z664
  have z676 : h68 112 1 = 0 := (upN E68 (fun z => absurd z.1 (by decide))).trans z665
  have o677 : h68 137 0 = 1 := (upN E68 (by decide)).trans o666
  have u678 : h68 113 = fun _ => 0 := (upo E68 (by decide)).trans u667
  have g679 := g668.put E68 (by decide)
  have g680 := g672.put E68 (by decide)
  have F681 : ∀ k, k < 108 → h68 k = h0 k := frn_up F670 E68 (by decide)
  clear g668 g672 F670 E67 g669 g671 L662 z663 z664 z665 o666 u667
  have f682 : h68 108 48 = ((139 : Nat) : Int) := upE E68
  refine y_aload_n (M := M_X12_init_109) 278 dX12_init_278 rfl ?_
  refine y_bipush (M := M_X12_init_109) 279 dX12_init_279 ?_
  refine y_newaJ (M := M_X12_init_109) 281 dX12_init_281 acJ (N := 10) (by decide) (tk_s o_140) (tk_l (by decide)) (tk_b (by decide) (by decide) (by decide)) (fun h69 E69 => ?_)
  have L683 := sl_c f682 L673
  have L684 := sl_same L683 (m_nw_ne E69 (by decide))
  have z685 : ∀ j, h69 110 j = 0 := fun j => (congrFun (m_nw_ne E69 (by decide)) j).trans (z674 j)
  have z686 : h69 112 0 = 0 := (congrFun (m_nw_ne E69 (by decide)) 0).trans z675
  have z687 : h69 112 1 = 0 := (congrFun (m_nw_ne E69 (by decide)) 1).trans z676
  have o688 : h69 137 0 = 1 := (congrFun (m_nw_ne E69 (by decide)) 0).trans o677
  have u689 : h69 113 = fun _ => 0 := (m_nw_ne E69 (by decide)).trans u678
  have g690 := g679.nw E69 (by decide)
  have g691 := g680.nw E69 (by decide)
  have F692 : ∀ k, k < 108 → h69 k = h0 k := frn_nw F681 E69 (by decide)
  clear g679 g680 F681 E68 f682 L673 L683 z674 z675 z676 o677 u678
  have g693 : gR 140 141 h69 := gR_1 (gC_of bt_140 (fun j hj => by rw [nwJ E69]; exact trivial))
  have g694 := g691.join g693
  refine y_putF (M := M_X12_init_109) 283 dX12_init_283 ff_X12_109 (tk_g (by decide) o_108) (fun E m t q => q.1) rfl rfp_a (fun h70 E70 => ?_)
  have L695 := sl_up L684 E70 (by decide)
  have z696 : ∀ j, h70 110 j = 0 := fun j => (upN E70 (fun z => absurd z.1 (by decide))).trans (z685 j)
  have z697 : h70 112 0 = 0 := (upN E70 (fun z => absurd z.1 (by decide))).trans z686
  have z698 : h70 112 1 = 0 := (upN E70 (fun z => absurd z.1 (by decide))).trans z687
  have o699 : h70 137 0 = 1 := (upN E70 (by decide)).trans o688
  have u700 : h70 113 = fun _ => 0 := (upo E70 (by decide)).trans u689
  have g701 := g690.put E70 (by decide)
  have g702 := g694.put E70 (by decide)
  have F703 : ∀ k, k < 108 → h70 k = h0 k := frn_up F692 E70 (by decide)
  clear g690 g694 F692 E69 g691 g693 L684 z685 z686 z687 o688 u689
  have f704 : h70 108 49 = ((140 : Nat) : Int) := upE E70
  refine y_aload_n (M := M_X12_init_109) 286 dX12_init_286 rfl ?_
  refine y_bipush (M := M_X12_init_109) 287 dX12_init_287 ?_
  refine y_newaJ (M := M_X12_init_109) 289 dX12_init_289 acJ (N := 10) (by decide) (tk_s o_141) (tk_l (by decide)) (tk_b (by decide) (by decide) (by decide)) (fun h71 E71 => ?_)
  have L705 := sl_c f704 L695
  have L706 := sl_same L705 (m_nw_ne E71 (by decide))
  have z707 : ∀ j, h71 110 j = 0 := fun j => (congrFun (m_nw_ne E71 (by decide)) j).trans (z696 j)
  have z708 : h71 112 0 = 0 := (congrFun (m_nw_ne E71 (by decide)) 0).trans z697
  have z709 : h71 112 1 = 0 := (congrFun (m_nw_ne E71 (by decide)) 1).trans z698
  have o710 : h71 137 0 = 1 := (congrFun (m_nw_ne E71 (by decide)) 0).trans o699
  have u711 : h71 113 = fun _ => 0 := (m_nw_ne E71 (by decide)).trans u700
  have g712 := g701.nw E71 (by decide)
  have g713 := g702.nw E71 (by decide)
  have F714 : ∀ k, k < 108 → h71 k = h0 k := frn_nw F703 E71 (by decide)
  clear g701 g702 F703 E70 f704 L695 L705 z696 z697 z698 o699 u700
  have g715 : gR 141 142 h71 := gR_1 (gC_of bt_141 (fun j hj => by rw [nwJ E71]; exact trivial))
  have g716 := g713.join g715
  refine y_putF (M := M_X12_init_109) 291 dX12_init_291 ff_X12_112 (tk_g (by decide) o_108) (fun E m t q => q.1) rfl rfp_a (fun h72 E72 => ?_)
  have L717 := sl_up L706 E72 (by decide)
  have z718 : ∀ j, h72 110 j = 0 := fun j => (upN E72 (fun z => absurd z.1 (by decide))).trans (z707 j)
  have z719 : h72 112 0 = 0 := (upN E72 (fun z => absurd z.1 (by decide))).trans z708
  have z720 : h72 112 1 = 0 := (upN E72 (fun z => absurd z.1 (by decide))).trans z709
  have o721 : h72 137 0 = 1 := (upN E72 (by decide)).trans o710
  have u722 : h72 113 = fun _ => 0 := (upo E72 (by decide)).trans u711
  have g723 := g712.put E72 (by decide)
  have g724 := g716.put E72 (by decide)
  have F725 : ∀ k, k < 108 → h72 k = h0 k := frn_up F714 E72 (by decide)
  clear g712 g716 F714 E71 g713 g715 L706 z707 z708 z709 o710 u711
  have f726 : h72 108 50 = ((141 : Nat) : Int) := upE E72
  refine y_aload_n (M := M_X12_init_109) 294 dX12_init_294 rfl ?_
  refine y_bipush (M := M_X12_init_109) 295 dX12_init_295 ?_
  refine y_newaJ (M := M_X12_init_109) 297 dX12_init_297 acJ (N := 10) (by decide) (tk_s o_142) (tk_l (by decide)) (tk_b (by decide) (by decide) (by decide)) (fun h73 E73 => ?_)
  have L727 := sl_c f726 L717
  have L728 := sl_same L727 (m_nw_ne E73 (by decide))
  have z729 : ∀ j, h73 110 j = 0 := fun j => (congrFun (m_nw_ne E73 (by decide)) j).trans (z718 j)
  have z730 : h73 112 0 = 0 := (congrFun (m_nw_ne E73 (by decide)) 0).trans z719
  have z731 : h73 112 1 = 0 := (congrFun (m_nw_ne E73 (by decide)) 1).trans z720
  have o732 : h73 137 0 = 1 := (congrFun (m_nw_ne E73 (by decide)) 0).trans o721
  have u733 : h73 113 = fun _ => 0 := (m_nw_ne E73 (by decide)).trans u722
  have g734 := g723.nw E73 (by decide)
  have g735 := g724.nw E73 (by decide)
  have F736 : ∀ k, k < 108 → h73 k = h0 k := frn_nw F725 E73 (by decide)
  clear g723 g724 F725 E72 f726 L717 L727 z718 z719 z720 o721 u722
  have g737 : gR 142 143 h73 := gR_1 (gC_of bt_142 (fun j hj => by rw [nwJ E73]; exact trivial))
  have g738 := g735.join g737
  refine y_putF (M := M_X12_init_109) 299 dX12_init_299 ff_X12_115 (tk_g (by decide) o_108) (fun E m t q => q.1) rfl rfp_a (fun h74 E74 => ?_)
  have L739 := sl_up L728 E74 (by decide)
  have z740 : ∀ j, h74 110 j = 0 := fun j => (upN E74 (fun z => absurd z.1 (by decide))).trans (z729 j)
  have z741 : h74 112 0 = 0 := (upN E74 (fun z => absurd z.1 (by decide))).trans z730
  have z742 : h74 112 1 = 0 := (upN E74 (fun z => absurd z.1 (by decide))).trans z731
  have o743 : h74 137 0 = 1 := (upN E74 (by decide)).trans o732
  have u744 : h74 113 = fun _ => 0 := (upo E74 (by decide)).trans u733
  have g745 := g734.put E74 (by decide)
  have g746 := g738.put E74 (by decide)
  have F747 : ∀ k, k < 108 → h74 k = h0 k := frn_up F736 E74 (by decide)
  clear g734 g738 F736 E73 g735 g737 L728 z729 z730 z731 o732 u733
  have f748 : h74 108 51 = ((142 : Nat) : Int) := upE E74
  refine y_aload_n (M := M_X12_init_109) 302 dX12_init_302 rfl ?_
  refine y_iconst (M := M_X12_init_109) 303 dX12_init_303 ?_
  refine y_newaJ (M := M_X12_init_109) 304 dX12_init_304 acJ (N := 3) (by decide) (tk_s o_143) (tk_l (by decide)) (tk_b (by decide) (by decide) (by decide)) (fun h75 E75 => ?_)
  have L749 := sl_c f748 L739
  have L750 := sl_same L749 (m_nw_ne E75 (by decide))
  have z751 : ∀ j, h75 110 j = 0 := fun j => (congrFun (m_nw_ne E75 (by decide)) j).trans (z740 j)
  have z752 : h75 112 0 = 0 := (congrFun (m_nw_ne E75 (by decide)) 0).trans z741
  have z753 : h75 112 1 = 0 := (congrFun (m_nw_ne E75 (by decide)) 1).trans z742
  have o754 : h75 137 0 = 1 := (congrFun (m_nw_ne E75 (by decide)) 0).trans o743
  have u755 : h75 113 = fun _ => 0 := (m_nw_ne E75 (by decide)).trans u744
  have g756 := g745.nw E75 (by decide)
  have g757 := g746.nw E75 (by decide)
  have F758 : ∀ k, k < 108 → h75 k = h0 k := frn_nw F747 E75 (by decide)
  clear g745 g746 F747 E74 f748 L739 L749 z740 z741 z742 o743 u744
  have g759 : gR 143 144 h75 := gR_1 (gC_of bt_143 (fun j hj => by rw [nwJ E75]; exact trivial))
  have g760 := g757.join g759
  refine y_putF (M := M_X12_init_109) 306 dX12_init_306 ff_X12_118 (tk_g (by decide) o_108) (fun E m t q => q.1) rfl rfp_a (fun h76 E76 => ?_)
  have L761 := sl_up L750 E76 (by decide)
  have z762 : ∀ j, h76 110 j = 0 := fun j => (upN E76 (fun z => absurd z.1 (by decide))).trans (z751 j)
  have z763 : h76 112 0 = 0 := (upN E76 (fun z => absurd z.1 (by decide))).trans z752
  have z764 : h76 112 1 = 0 := (upN E76 (fun z => absurd z.1 (by decide))).trans z753
  have o765 : h76 137 0 = 1 := (upN E76 (by decide)).trans o754
  have u766 : h76 113 = fun _ => 0 := (upo E76 (by decide)).trans u755
  have g767 := g756.put E76 (by decide)
  have g768 := g760.put E76 (by decide)
  have F769 : ∀ k, k < 108 → h76 k = h0 k := frn_up F758 E76 (by decide)
  clear g756 g760 F758 E75 g757 g759 L750 z751 z752 z753 o754 u755
  have f770 : h76 108 52 = ((143 : Nat) : Int) := upE E76
  refine y_aload_n (M := M_X12_init_109) 309 dX12_init_309 rfl ?_
  refine y_iconst (M := M_X12_init_109) 310 dX12_init_310 ?_
  refine y_newaJ (M := M_X12_init_109) 311 dX12_init_311 acJ (N := 3) (by decide) (tk_s o_144) (tk_l (by decide)) (tk_b (by decide) (by decide) (by decide)) (fun h77 E77 => ?_)
  have L771 := sl_c f770 L761
  have L772 := sl_same L771 (m_nw_ne E77 (by decide))
  have z773 : ∀ j, h77 110 j = 0 := fun j => (congrFun (m_nw_ne E77 (by decide)) j).trans (z762 j)
  have z774 : h77 112 0 = 0 := (congrFun (m_nw_ne E77 (by decide)) 0).trans z763
  have z775 : h77 112 1 = 0 := (congrFun (m_nw_ne E77 (by decide)) 1).trans z764
  have o776 : h77 137 0 = 1 := (congrFun (m_nw_ne E77 (by decide)) 0).trans o765
  have u777 : h77 113 = fun _ => 0 := (m_nw_ne E77 (by decide)).trans u766
  have g778 := g767.nw E77 (by decide)
  have g779 := g768.nw E77 (by decide)
  have F780 : ∀ k, k < 108 → h77 k = h0 k := frn_nw F769 E77 (by decide)
  clear g767 g768 F769 E76 f770 L761 L771 z762 z763 z764 o765 u766
  have g781 : gR 144 145 h77 := gR_1 (gC_of bt_144 (fun j hj => by rw [nwJ E77]; exact trivial))
  have g782 := g779.join g781
  refine y_putF (M := M_X12_init_109) 313 dX12_init_313 ff_X12_121 (tk_g (by decide) o_108) (fun E m t q => q.1) rfl rfp_a (fun h78 E78 => ?_)
  have L783 := sl_up L772 E78 (by decide)
  have z784 : ∀ j, h78 110 j = 0 := fun j => (upN E78 (fun z => absurd z.1 (by decide))).trans (z773 j)
  have z785 : h78 112 0 = 0 := (upN E78 (fun z => absurd z.1 (by decide))).trans z774
  have z786 : h78 112 1 = 0 := (upN E78 (fun z => absurd z.1 (by decide))).trans z775
  have o787 : h78 137 0 = 1 := (upN E78 (by decide)).trans o776
  have u788 : h78 113 = fun _ => 0 := (upo E78 (by decide)).trans u777
  have g789 := g778.put E78 (by decide)
  have g790 := g782.put E78 (by decide)
  have F791 : ∀ k, k < 108 → h78 k = h0 k := frn_up F780 E78 (by decide)
  clear g778 g782 F780 E77 g779 g781 L772 z773 z774 z775 o776 u777
  have f792 : h78 108 53 = ((144 : Nat) : Int) := upE E78
  refine y_aload_n (M := M_X12_init_109) 316 dX12_init_316 rfl ?_
  refine y_bipush (M := M_X12_init_109) 317 dX12_init_317 ?_
  refine y_newaI (M := M_X12_init_109) 319 dX12_init_319 acI (N := 16) (by decide) (tk_s o_145) (tk_l (by decide)) (tk_b (by decide) (by decide) (by decide)) (fun h79 E79 => ?_)
  have L793 := sl_c f792 L783
  have L794 := sl_same L793 (m_nw_ne E79 (by decide))
  have z795 : ∀ j, h79 110 j = 0 := fun j => (congrFun (m_nw_ne E79 (by decide)) j).trans (z784 j)
  have z796 : h79 112 0 = 0 := (congrFun (m_nw_ne E79 (by decide)) 0).trans z785
  have z797 : h79 112 1 = 0 := (congrFun (m_nw_ne E79 (by decide)) 1).trans z786
  have o798 : h79 137 0 = 1 := (congrFun (m_nw_ne E79 (by decide)) 0).trans o787
  have u799 : h79 113 = fun _ => 0 := (m_nw_ne E79 (by decide)).trans u788
  have g800 := g789.nw E79 (by decide)
  have g801 := g790.nw E79 (by decide)
  have F802 : ∀ k, k < 108 → h79 k = h0 k := frn_nw F791 E79 (by decide)
  clear g789 g790 F791 E78 f792 L783 L793 z784 z785 z786 o787 u788
  have g803 : gR 145 146 h79 := gR_1 (gC_of bt_145 (fun j hj => by rw [nwI E79]; show (0 : Int) ≤ 0 ∧ (0 : Int) ≤ 15; decide))
  have g804 := g801.join g803
  refine y_putF (M := M_X12_init_109) 321 dX12_init_321 ff_X12_124 (tk_g (by decide) o_108) (fun E m t q => q.1) rfl rfp_a (fun h80 E80 => ?_)
  have L805 := sl_up L794 E80 (by decide)
  have z806 : ∀ j, h80 110 j = 0 := fun j => (upN E80 (fun z => absurd z.1 (by decide))).trans (z795 j)
  have z807 : h80 112 0 = 0 := (upN E80 (fun z => absurd z.1 (by decide))).trans z796
  have z808 : h80 112 1 = 0 := (upN E80 (fun z => absurd z.1 (by decide))).trans z797
  have o809 : h80 137 0 = 1 := (upN E80 (by decide)).trans o798
  have u810 : h80 113 = fun _ => 0 := (upo E80 (by decide)).trans u799
  have g811 := g800.put E80 (by decide)
  have g812 := g804.put E80 (by decide)
  have F813 : ∀ k, k < 108 → h80 k = h0 k := frn_up F802 E80 (by decide)
  clear g800 g804 F802 E79 g801 g803 L794 z795 z796 z797 o798 u799
  have f814 : h80 108 56 = ((145 : Nat) : Int) := upE E80
  refine y_aload_n (M := M_X12_init_109) 324 dX12_init_324 rfl ?_
  refine y_iconst (M := M_X12_init_109) 325 dX12_init_325 ?_
  refine y_newaI (M := M_X12_init_109) 326 dX12_init_326 acI (N := 3) (by decide) (tk_s o_146) (tk_l (by decide)) (tk_b (by decide) (by decide) (by decide)) (fun h81 E81 => ?_)
  have L815 := sl_c f814 L805
  have L816 := sl_same L815 (m_nw_ne E81 (by decide))
  have z817 : ∀ j, h81 110 j = 0 := fun j => (congrFun (m_nw_ne E81 (by decide)) j).trans (z806 j)
  have z818 : h81 112 0 = 0 := (congrFun (m_nw_ne E81 (by decide)) 0).trans z807
  have z819 : h81 112 1 = 0 := (congrFun (m_nw_ne E81 (by decide)) 1).trans z808
  have o820 : h81 137 0 = 1 := (congrFun (m_nw_ne E81 (by decide)) 0).trans o809
  have u821 : h81 113 = fun _ => 0 := (m_nw_ne E81 (by decide)).trans u810
  have g822 := g811.nw E81 (by decide)
  have g823 := g812.nw E81 (by decide)
  have F824 : ∀ k, k < 108 → h81 k = h0 k := frn_nw F813 E81 (by decide)
  clear g811 g812 F813 E80 f814 L805 L815 z806 z807 z808 o809 u810
  have g825 : gR 146 147 h81 := gR_1 (gC_of bt_146 (fun j hj => by rw [nwI E81]; show (0 : Int) ≤ 0 ∧ (0 : Int) ≤ 31; decide))
  have g826 := g823.join g825
  refine y_putF (M := M_X12_init_109) 328 dX12_init_328 ff_X12_127 (tk_g (by decide) o_108) (fun E m t q => q.1) rfl rfp_a (fun h82 E82 => ?_)
  have L827 := sl_up L816 E82 (by decide)
  have z828 : ∀ j, h82 110 j = 0 := fun j => (upN E82 (fun z => absurd z.1 (by decide))).trans (z817 j)
  have z829 : h82 112 0 = 0 := (upN E82 (fun z => absurd z.1 (by decide))).trans z818
  have z830 : h82 112 1 = 0 := (upN E82 (fun z => absurd z.1 (by decide))).trans z819
  have o831 : h82 137 0 = 1 := (upN E82 (by decide)).trans o820
  have u832 : h82 113 = fun _ => 0 := (upo E82 (by decide)).trans u821
  have g833 := g822.put E82 (by decide)
  have g834 := g826.put E82 (by decide)
  have F835 : ∀ k, k < 108 → h82 k = h0 k := frn_up F824 E82 (by decide)
  clear g822 g826 F824 E81 g823 g825 L816 z817 z818 z819 o820 u821
  have f836 : h82 108 57 = ((146 : Nat) : Int) := upE E82
  refine y_aload_n (M := M_X12_init_109) 331 dX12_init_331 rfl ?_
  refine y_bipush (M := M_X12_init_109) 332 dX12_init_332 ?_
  refine y_newaI (M := M_X12_init_109) 334 dX12_init_334 acI (N := 32) (by decide) (tk_s o_147) (tk_l (by decide)) (tk_b (by decide) (by decide) (by decide)) (fun h83 E83 => ?_)
  have L837 := sl_c f836 L827
  have L838 := sl_same L837 (m_nw_ne E83 (by decide))
  have z839 : ∀ j, h83 110 j = 0 := fun j => (congrFun (m_nw_ne E83 (by decide)) j).trans (z828 j)
  have z840 : h83 112 0 = 0 := (congrFun (m_nw_ne E83 (by decide)) 0).trans z829
  have z841 : h83 112 1 = 0 := (congrFun (m_nw_ne E83 (by decide)) 1).trans z830
  have o842 : h83 137 0 = 1 := (congrFun (m_nw_ne E83 (by decide)) 0).trans o831
  have u843 : h83 113 = fun _ => 0 := (m_nw_ne E83 (by decide)).trans u832
  have g844 := g833.nw E83 (by decide)
  have g845 := g834.nw E83 (by decide)
  have F846 : ∀ k, k < 108 → h83 k = h0 k := frn_nw F835 E83 (by decide)
  clear g833 g834 F835 E82 f836 L827 L837 z828 z829 z830 o831 u832
  have g847 : gR 147 148 h83 := gR_1 (gC_of bt_147 (fun j hj => by rw [nwI E83]; show (0 : Int) ≤ 0 ∧ (0 : Int) ≤ 3; decide))
  have g848 := g845.join g847
  refine y_putF (M := M_X12_init_109) 336 dX12_init_336 ff_X12_130 (tk_g (by decide) o_108) (fun E m t q => q.1) rfl rfp_a (fun h84 E84 => ?_)
  have L849 := sl_up L838 E84 (by decide)
  have z850 : ∀ j, h84 110 j = 0 := fun j => (upN E84 (fun z => absurd z.1 (by decide))).trans (z839 j)
  have z851 : h84 112 0 = 0 := (upN E84 (fun z => absurd z.1 (by decide))).trans z840
  have z852 : h84 112 1 = 0 := (upN E84 (fun z => absurd z.1 (by decide))).trans z841
  have o853 : h84 137 0 = 1 := (upN E84 (by decide)).trans o842
  have u854 : h84 113 = fun _ => 0 := (upo E84 (by decide)).trans u843
  have g855 := g844.put E84 (by decide)
  have g856 := g848.put E84 (by decide)
  have F857 : ∀ k, k < 108 → h84 k = h0 k := frn_up F846 E84 (by decide)
  clear g844 g848 F846 E83 g845 g847 L838 z839 z840 z841 o842 u843
  have f858 : h84 108 59 = ((147 : Nat) : Int) := upE E84
  have L859 := sl_c f858 L849
  have e3_ := sl_g L859 3 ((110 : Nat) : Int) (by decide)
  refine y_iconst (M := M_mi) 339 dX12_init_339 ?_
  refine y_istore_n (M := M_mi) 340 dX12_init_340 (ls' := [some (mR 108), some (mI 0)]) (by decide) rfl ?_
  refine mi_1 (hs := h84) e3_ (fun h1_ I1 => ?_) 32 0 h84 (by decide) (by decide) (by decide) ⟨fun _ _ => rfl, fun j => ?_⟩
  · refine y_iconst (M := M_mi) 363 dX12_init_363 ?_
    refine y_istore_n (M := M_mi) 364 dX12_init_364 (ls' := [some (mR 108), some (mI 0)]) (by decide) rfl ?_
    refine mi_2 (hs := h84) e3_ (fun h2_ I2 => ?_) 6 0 h1_ (by decide) (by decide) (by decide) I1
    refine y_iconst (M := M_mi) 387 dX12_init_387 ?_
    refine y_istore_n (M := M_mi) 388 dX12_init_388 (ls' := [some (mR 108), some (mI 0)]) (by decide) rfl ?_
    refine mi_3 (hs := h84) e3_ (fun hz I3 => ?_) 16 0 h2_ (by decide) (by decide) (by decide) I2
    have CE : ∀ k, k ≠ 110 → hz k = h84 k := I3.1
    have L860 := sl_same L859 (CE 108 (by decide))
    have o861 : hz 137 0 = 1 := (congrFun (CE 137 (by decide)) 0).trans o853
    have u862 : hz 113 = fun _ => 0 := (CE 113 (by decide)).trans u854
    have g863 := g855.cell CE (by decide)
    have g864 := g856.cell CE (by decide)
    have F865 : ∀ k, k < 108 → hz k = h0 k := frn_ce F857 CE (by decide)
    clear g855 g856 F857 E84 f858 L849 L859 o853 u854
    have g866 : gR 110 111 hz := gR_1 (rw_ok I3.2)
    have g867 := g863.join g866
    have g868 := g867.join g864
    have g869 : gR 108 109 hz := gR_1 (gC_of bt_108 (fun j hj => by have q : j = 0 ∨ j = 1 ∨ j = 2 ∨ j = 3 ∨ j = 4 ∨ j = 5 ∨ j = 6 ∨ j = 7 ∨ j = 8 ∨ j = 9 ∨ j = 10 ∨ j = 11 ∨ j = 12 ∨ j = 13 ∨ j = 14 ∨ j = 15 ∨ j = 16 ∨ j = 17 ∨ j = 18 ∨ j = 19 ∨ j = 20 ∨ j = 21 ∨ j = 22 ∨ j = 23 ∨ j = 24 ∨ j = 25 ∨ j = 26 ∨ j = 27 ∨ j = 28 ∨ j = 29 ∨ j = 30 ∨ j = 31 ∨ j = 32 ∨ j = 33 ∨ j = 34 ∨ j = 35 ∨ j = 36 ∨ j = 37 ∨ j = 38 ∨ j = 39 ∨ j = 40 ∨ j = 41 ∨ j = 42 ∨ j = 43 ∨ j = 44 ∨ j = 45 ∨ j = 46 ∨ j = 47 ∨ j = 48 ∨ j = 49 ∨ j = 50 ∨ j = 51 ∨ j = 52 ∨ j = 53 ∨ j = 54 ∨ j = 55 ∨ j = 56 ∨ j = 57 ∨ j = 58 ∨ j = 59 ∨ j = 60 ∨ j = 61 ∨ j = 62 := (by omega); rcases q with rfl | rfl | rfl | rfl | rfl | rfl | rfl | rfl | rfl | rfl | rfl | rfl | rfl | rfl | rfl | rfl | rfl | rfl | rfl | rfl | rfl | rfl | rfl | rfl | rfl | rfl | rfl | rfl | rfl | rfl | rfl | rfl | rfl | rfl | rfl | rfl | rfl | rfl | rfl | rfl | rfl | rfl | rfl | rfl | rfl | rfl | rfl | rfl | rfl | rfl | rfl | rfl | rfl | rfl | rfl | rfl | rfl | rfl | rfl | rfl | rfl | rfl | rfl; exact trivial; exact trivial; exact sl_g L860 2 ((109 : Nat) : Int) (by decide); exact sl_g L860 3 ((110 : Nat) : Int) (by decide); exact sl_g L860 4 ((111 : Nat) : Int) (by decide); exact sl_g L860 5 ((112 : Nat) : Int) (by decide); exact trivial; exact sl_g L860 7 ((113 : Nat) : Int) (by decide); (show (0 : Int) ≤ hz 108 8 ∧ hz 108 8 ≤ (400 : Int); rw [sl_g L860 8 0 (by decide)]; decide); (show (0 : Int) ≤ hz 108 9 ∧ hz 108 9 ≤ (400 : Int); rw [sl_g L860 9 0 (by decide)]; decide); (show (0 : Int) ≤ hz 108 10 ∧ hz 108 10 ≤ (400 : Int); rw [sl_g L860 10 0 (by decide)]; decide); (show (0 : Int) ≤ hz 108 11 ∧ hz 108 11 ≤ (3 : Int); rw [sl_g L860 11 0 (by decide)]; decide); exact trivial; exact trivial; (show (0 : Int) ≤ hz 108 14 ∧ hz 108 14 ≤ (1 : Int); rw [sl_g L860 14 0 (by decide)]; decide); exact sl_g L860 15 ((114 : Nat) : Int) (by decide); (show (0 : Int) ≤ hz 108 16 ∧ hz 108 16 ≤ (200 : Int); rw [sl_g L860 16 0 (by decide)]; decide); (show (0 : Int) ≤ hz 108 17 ∧ hz 108 17 ≤ (24 : Int); rw [sl_g L860 17 0 (by decide)]; decide); (show (0 : Int) ≤ hz 108 18 ∧ hz 108 18 ≤ (6 : Int); rw [sl_g L860 18 0 (by decide)]; decide); exact sl_g L860 19 ((115 : Nat) : Int) (by decide); exact sl_g L860 20 ((116 : Nat) : Int) (by decide); (show (0 : Int) ≤ hz 108 21 ∧ hz 108 21 ≤ (60 : Int); rw [sl_g L860 21 0 (by decide)]; decide); exact sl_g L860 22 ((117 : Nat) : Int) (by decide); exact sl_g L860 23 ((118 : Nat) : Int) (by decide); exact sl_g L860 24 ((119 : Nat) : Int) (by decide); exact sl_g L860 25 ((120 : Nat) : Int) (by decide); exact sl_g L860 26 ((121 : Nat) : Int) (by decide); exact sl_g L860 27 ((122 : Nat) : Int) (by decide); exact sl_g L860 28 ((123 : Nat) : Int) (by decide); exact sl_g L860 29 ((124 : Nat) : Int) (by decide); exact sl_g L860 30 ((125 : Nat) : Int) (by decide); exact sl_g L860 31 ((126 : Nat) : Int) (by decide); exact sl_g L860 32 ((127 : Nat) : Int) (by decide); exact sl_g L860 33 ((128 : Nat) : Int) (by decide); exact sl_g L860 34 ((129 : Nat) : Int) (by decide); exact sl_g L860 35 ((130 : Nat) : Int) (by decide); exact sl_g L860 36 ((131 : Nat) : Int) (by decide); exact sl_g L860 37 ((132 : Nat) : Int) (by decide); exact sl_g L860 38 ((133 : Nat) : Int) (by decide); exact sl_g L860 39 ((134 : Nat) : Int) (by decide); exact sl_g L860 40 ((135 : Nat) : Int) (by decide); exact sl_g L860 41 ((136 : Nat) : Int) (by decide); exact sl_g L860 42 ((137 : Nat) : Int) (by decide); exact sl_g L860 43 ((138 : Nat) : Int) (by decide); (show (0 : Int) ≤ hz 108 44 ∧ hz 108 44 ≤ (1 : Int); rw [sl_g L860 44 0 (by decide)]; decide); (show (0 : Int) ≤ hz 108 45 ∧ hz 108 45 ≤ (1 : Int); rw [sl_g L860 45 0 (by decide)]; decide); (show (0 : Int) ≤ hz 108 46 ∧ hz 108 46 ≤ (1 : Int); rw [sl_g L860 46 0 (by decide)]; decide); (show (0 : Int) ≤ hz 108 47 ∧ hz 108 47 ≤ (1 : Int); rw [sl_g L860 47 0 (by decide)]; decide); exact sl_g L860 48 ((139 : Nat) : Int) (by decide); exact sl_g L860 49 ((140 : Nat) : Int) (by decide); exact sl_g L860 50 ((141 : Nat) : Int) (by decide); exact sl_g L860 51 ((142 : Nat) : Int) (by decide); exact sl_g L860 52 ((143 : Nat) : Int) (by decide); exact sl_g L860 53 ((144 : Nat) : Int) (by decide); (show (0 : Int) ≤ hz 108 54 ∧ hz 108 54 ≤ (1 : Int); rw [sl_g L860 54 0 (by decide)]; decide); (show (0 : Int) ≤ hz 108 55 ∧ hz 108 55 ≤ (1 : Int); rw [sl_g L860 55 0 (by decide)]; decide); exact sl_g L860 56 ((145 : Nat) : Int) (by decide); exact sl_g L860 57 ((146 : Nat) : Int) (by decide); (show (0 : Int) ≤ hz 108 58 ∧ hz 108 58 ≤ (3 : Int); rw [sl_g L860 58 0 (by decide)]; decide); exact sl_g L860 59 ((147 : Nat) : Int) (by decide); (show (0 : Int) ≤ hz 108 60 ∧ hz 108 60 ≤ (1 : Int); rw [sl_g L860 60 0 (by decide)]; decide); (show (-1 : Int) ≤ hz 108 61 ∧ hz 108 61 ≤ (31 : Int); rw [sl_g L860 61 0 (by decide)]; decide); (show (-1 : Int) ≤ hz 108 62 ∧ hz 108 62 ≤ (31 : Int); rw [sl_g L860 62 0 (by decide)]; decide)))
    have g870 := g869.join g868
    have z0 : hz 110 0 = 0 := (I3.2 0).trans rfl
    have k0 : hz 112 0 = 0 := (congrFun (CE 112 (by decide)) 0).trans z851
    have k1 : hz 112 1 = 0 := (congrFun (CE 112 (by decide)) 1).trans z852
    exact y_vret (M := M_mi) 412 dX12_init_412 rfl ⟨rfl, rfl, g870, F865, (sl_g L860 8 0 (by decide)), z0, k0, k1, (sl_g L860 60 0 (by decide)), (sl_g L860 6 0 (by decide)), (sl_g L860 13 (-1) (by decide)), I3.2, u862, o861⟩
  · rw [z850]; exact (rwF_0 j).symm
