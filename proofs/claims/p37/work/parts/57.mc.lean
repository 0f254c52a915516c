abbrev M_X12_init_109 : m_M := mkM RX12 yX12_init cX12_init 2 1 20 109 148 none
set_option maxHeartbeats 4000000 in
set_option maxRecDepth 100000 in
theorem c_X12_init_109 (h0 : m_H) (e6 : h0 108 6 = 0) (e8 : h0 108 8 = 0) (e9 : h0 108 9 = 0) (e10 : h0 108 10 = 0) (e11 : h0 108 11 = 0) (e14 : h0 108 14 = 0) (e16 : h0 108 16 = 0) (e17 : h0 108 17 = 0) (e18 : h0 108 18 = 0) (e21 : h0 108 21 = 0) (e44 : h0 108 44 = 0) (e45 : h0 108 45 = 0) (e46 : h0 108 46 = 0) (e47 : h0 108 47 = 0) (e54 : h0 108 54 = 0) (e55 : h0 108 55 = 0) (e58 : h0 108 58 = 0) (e60 : h0 108 60 = 0) (e61 : h0 108 61 = 0) (e62 : h0 108 62 = 0) : m_D M_X12_init_109 (oF.take 109) (oF.take 148) [mR 108] h0 (fun r h' => r = none ∧ gR 108 148 h' ∧ (∀ k, k < 108 → h' k = h0 k) ∧ h' 108 8 = 0 ∧ h' 110 0 = 0 ∧ h' 112 0 = 0 ∧ h' 112 1 = 0 ∧ h' 108 60 = 0 ∧ h' 108 6 = 0 ∧ h' 108 13 = (-1) ∧ (∀ j, h' 110 j = rwF 32 6 16 j) ∧ (h' 113 = fun _ => 0)) := by
  refine tk_D (by decide) (by decide) (by decide) rfl (by decide) (ls := [some (mR 108), none]) rfl ?_
  refine y_aload_n (M := M_X12_init_109) 0 dX12_init_0 rfl ?_
  refine y_objI (M := M_X12_init_109) 1 dX12_init_1 ol_X12 ow2 ow3 (by decide) (by decide) ?_
  refine y_aload_n (M := M_X12_init_109) 4 dX12_init_4 rfl ?_
  refine y_bipush (M := M_X12_init_109) 5 dX12_init_5 ?_
  refine y_newaI (M := M_X12_init_109) 7 dX12_init_7 acI (N := 7) (by decide) (tk_s o_109) (tk_l (by decide)) (tk_b (by decide) (by decide) (by decide)) (fun h1 E1 => ?_)
  have L1 := sl_c e6 sl_nil
  have L2 := sl_c e8 L1
  have L3 := sl_c e9 L2
  have L4 := sl_c e10 L3
  have L5 := sl_c e11 L4
  have L6 := sl_c e14 L5
  have L7 := sl_c e16 L6
  have L8 := sl_c e17 L7
  have L9 := sl_c e18 L8
  have L10 := sl_c e21 L9
  have L11 := sl_c e44 L10
  have L12 := sl_c e45 L11
  have L13 := sl_c e46 L12
  have L14 := sl_c e47 L13
  have L15 := sl_c e54 L14
  have L16 := sl_c e55 L15
  have L17 := sl_c e58 L16
  have L18 := sl_c e60 L17
  have L19 := sl_c e61 L18
  have L20 := sl_c e62 L19
  have L21 := sl_same L20 (m_nw_ne E1 (by decide))
  have F22 : ∀ k, k < 108 → h1 k = h0 k := frn_nw (fun k _ => rfl) E1 (by decide)
  clear L1 L2 L3 L4 L5 L6 L7 L8 L9 L10 L11 L12 L13 L14 L15 L16 L17 L18 L19 L20
  have g23 : gR 109 110 h1 := gR_1 (gC_of bt_109 (fun j hj => by rw [nwI E1]; exact trivial))
  refine y_putF (M := M_X12_init_109) 9 dX12_init_9 ff_X12_7 (tk_g (by decide) o_108) (fun E m t q => q.1) rfl rfp_a (fun h2 E2 => ?_)
  have L24 := sl_up L21 E2 (by decide)
  have g25 := g23.put E2 (by decide)
  have F26 : ∀ k, k < 108 → h2 k = h0 k := frn_up F22 E2 (by decide)
  clear g23 F22 E1 L21
  have f27 : h2 108 2 = ((109 : Nat) : Int) := upE E2
  refine y_aload_n (M := M_X12_init_109) 12 dX12_init_12 rfl ?_
  refine y_sipush (M := M_X12_init_109) 13 dX12_init_13 ?_
  refine y_newaI (M := M_X12_init_109) 16 dX12_init_16 acI (N := 200) (by decide) (tk_s o_110) (tk_l (by decide)) (tk_b (by decide) (by decide) (by decide)) (fun h3 E3 => ?_)
  have L28 := sl_c f27 L24
  have L29 := sl_same L28 (m_nw_ne E3 (by decide))
  have z30 : ∀ j, h3 110 j = 0 := nwI E3
  have g31 := g25.nw E3 (by decide)
  have F32 : ∀ k, k < 108 → h3 k = h0 k := frn_nw F26 E3 (by decide)
  clear g25 F26 E2 f27 L24 L28
  refine y_putF (M := M_X12_init_109) 18 dX12_init_18 ff_X12_13 (tk_g (by decide) o_108) (fun E m t q => q.1) rfl rfp_a (fun h4 E4 => ?_)
  have L33 := sl_up L29 E4 (by decide)
  have z34 : ∀ j, h4 110 j = 0 := fun j => (upN E4 (fun z => absurd z.1 (by decide))).trans (z30 j)
  have g35 := g31.put E4 (by decide)
  have F36 : ∀ k, k < 108 → h4 k = h0 k := frn_up F32 E4 (by decide)
  clear g31 F32 E3 L29 z30
  have f37 : h4 108 3 = ((110 : Nat) : Int) := upE E4
  refine y_aload_n (M := M_X12_init_109) 21 dX12_init_21 rfl ?_
  refine y_sipush (M := M_X12_init_109) 22 dX12_init_22 ?_
  refine y_newaI (M := M_X12_init_109) 25 dX12_init_25 acI (N := 400) (by decide) (tk_s o_111) (tk_l (by decide)) (tk_b (by decide) (by decide) (by decide)) (fun h5 E5 => ?_)
  have L38 := sl_c f37 L33
  have L39 := sl_same L38 (m_nw_ne E5 (by decide))
  have z40 : ∀ j, h5 110 j = 0 := fun j => (congrFun (m_nw_ne E5 (by decide)) j).trans (z34 j)
  have g41 := g35.nw E5 (by decide)
  have F42 : ∀ k, k < 108 → h5 k = h0 k := frn_nw F36 E5 (by decide)
  clear g35 F36 E4 f37 L33 L38 z34
  have g43 : gR 111 112 h5 := gR_1 (gC_of bt_111 (fun j hj => by rw [nwI E5]; exact trivial))
  refine y_putF (M := M_X12_init_109) 27 dX12_init_27 ff_X12_16 (tk_g (by decide) o_108) (fun E m t q => q.1) rfl rfp_a (fun h6 E6 => ?_)
  have L44 := sl_up L39 E6 (by decide)
  have z45 : ∀ j, h6 110 j = 0 := fun j => (upN E6 (fun z => absurd z.1 (by decide))).trans (z40 j)
  have g46 := g41.put E6 (by decide)
  have g47 := g43.put E6 (by decide)
  have F48 : ∀ k, k < 108 → h6 k = h0 k := frn_up F42 E6 (by decide)
  clear g41 g43 F42 E5 L39 z40
  have f49 : h6 108 4 = ((111 : Nat) : Int) := upE E6
  refine y_aload_n (M := M_X12_init_109) 30 dX12_init_30 rfl ?_
  refine y_iconst (M := M_X12_init_109) 31 dX12_init_31 ?_
  refine y_newaZ (M := M_X12_init_109) 32 dX12_init_32 acZ (N := 2) (by decide) (tk_s o_112) (tk_l (by decide)) (tk_b (by decide) (by decide) (by decide)) (fun h7 E7 => ?_)
  have L50 := sl_c f49 L44
  have L51 := sl_same L50 (m_nw_ne E7 (by decide))
  have z52 : ∀ j, h7 110 j = 0 := fun j => (congrFun (m_nw_ne E7 (by decide)) j).trans (z45 j)
  have z53 : h7 112 0 = 0 := nwZ E7 0
  have z54 : h7 112 1 = 0 := nwZ E7 1
  have g55 := g46.nw E7 (by decide)
  have g56 := g47.nw E7 (by decide)
  have F57 : ∀ k, k < 108 → h7 k = h0 k := frn_nw F48 E7 (by decide)
  clear g46 g47 F48 E6 f49 L44 L50 z45
  have g58 : gR 112 113 h7 := gR_1 (gC_of bt_112 (fun j hj => by rw [nwZ E7]; show (0 : Int) ≤ 0 ∧ (0 : Int) ≤ 1; decide))
  have g59 := g56.join g58
  refine y_putF (M := M_X12_init_109) 34 dX12_init_34 ff_X12_19 (tk_g (by decide) o_108) (fun E m t q => q.1) rfl rfp_a (fun h8 E8 => ?_)
  have L60 := sl_up L51 E8 (by decide)
  have z61 : ∀ j, h8 110 j = 0 := fun j => (upN E8 (fun z => absurd z.1 (by decide))).trans (z52 j)
  have z62 : h8 112 0 = 0 := (upN E8 (fun z => absurd z.1 (by decide))).trans z53
  have z63 : h8 112 1 = 0 := (upN E8 (fun z => absurd z.1 (by decide))).trans z54
  have g64 := g55.put E8 (by decide)
  have g65 := g59.put E8 (by decide)
  have F66 : ∀ k, k < 108 → h8 k = h0 k := frn_up F57 E8 (by decide)
  clear g55 g59 F57 E7 g56 g58 L51 z52 z53 z54
  have f67 : h8 108 5 = ((112 : Nat) : Int) := upE E8
  refine y_aload_n (M := M_X12_init_109) 37 dX12_init_37 rfl ?_
  refine y_sipush (M := M_X12_init_109) 38 dX12_init_38 ?_
  refine y_newaI (M := M_X12_init_109) 41 dX12_init_41 acI (N := 400) (by decide) (tk_s o_113) (tk_l (by decide)) (tk_b (by decide) (by decide) (by decide)) (fun h9 E9 => ?_)
  have L68 := sl_c f67 L60
  have L69 := sl_same L68 (m_nw_ne E9 (by decide))
  have z70 : ∀ j, h9 110 j = 0 := fun j => (congrFun (m_nw_ne E9 (by decide)) j).trans (z61 j)
  have z71 : h9 112 0 = 0 := (congrFun (m_nw_ne E9 (by decide)) 0).trans z62
  have z72 : h9 112 1 = 0 := (congrFun (m_nw_ne E9 (by decide)) 1).trans z63
  have g73 := g64.nw E9 (by decide)
  have g74 := g65.nw E9 (by decide)
  have F75 : ∀ k, k < 108 → h9 k = h0 k := frn_nw F66 E9 (by decide)
  clear g64 g65 F66 E8 f67 L60 L68 z61 z62 z63
  have u76 : h9 113 = fun _ => 0 := funext (nwI E9)
  have g77 : gR 113 114 h9 := gR_1 (gC_of bt_113 (fun j hj => by rw [nwI E9]; show (0 : Int) ≤ 0 ∧ (0 : Int) ≤ 255; decide))
  have g78 := g74.join g77
  refine y_putF (M := M_X12_init_109) 43 dX12_init_43 ff_X12_23 (tk_g (by decide) o_108) (fun E m t q => q.1) rfl rfp_a (fun h10 E10 => ?_)
  have L79 := sl_up L69 E10 (by decide)
  have z80 : ∀ j, h10 110 j = 0 := fun j => (upN E10 (fun z => absurd z.1 (by decide))).trans (z70 j)
  have z81 : h10 112 0 = 0 := (upN E10 (fun z => absurd z.1 (by decide))).trans z71
  have z82 : h10 112 1 = 0 := (upN E10 (fun z => absurd z.1 (by decide))).trans z72
  have u83 : h10 113 = fun _ => 0 := (upo E10 (by decide)).trans u76
  have g84 := g73.put E10 (by decide)
  have g85 := g78.put E10 (by decide)
  have F86 : ∀ k, k < 108 → h10 k = h0 k := frn_up F75 E10 (by decide)
  clear g73 g78 F75 E9 g74 g77 L69 z70 z71 z72 u76
  have f87 : h10 108 7 = ((113 : Nat) : Int) := upE E10
  refine y_aload_n (M := M_X12_init_109) 46 dX12_init_46 rfl ?_
  refine y_iconst (M := M_X12_init_109) 47 dX12_init_47 ?_
  refine y_putI (M := M_X12_init_109) 48 dX12_init_48 p_X12_26 (tk_g (by decide) o_108) rfl ?_
  obtain ⟨h11, E11⟩ : ∃ x, x = m_up h10 108 13 (-1) := ⟨_, rfl⟩
  rw [← E11]
  have L88 := sl_c f87 L79
  have L89 := sl_up L88 E11 (by decide)
  have z90 : ∀ j, h11 110 j = 0 := fun j => (upN E11 (fun z => absurd z.1 (by decide))).trans (z80 j)
  have z91 : h11 112 0 = 0 := (upN E11 (fun z => absurd z.1 (by decide))).trans z81
  have z92 : h11 112 1 = 0 := (upN E11 (fun z => absurd z.1 (by decide))).trans z82
  have u93 : h11 113 = fun _ => 0 := (upo E11 (by decide)).trans u83
  have g94 := g84.put E11 (by decide)
  have g95 := g85.put E11 (by decide)
  have F96 : ∀ k, k < 108 → h11 k = h0 k := frn_up F86 E11 (by decide)
  clear g84 g85 F86 E10 f87 L79 L88 z80 z81 z82 u83
  have f97 : h11 108 13 = (-1) := upE E11
  refine y_aload_n (M := M_X12_init_109) 51 dX12_init_51 rfl ?_
  refine y_sipush (M := M_X12_init_109) 52 dX12_init_52 ?_
  refine y_newaI (M := M_X12_init_109) 55 dX12_init_55 acI (N := 1000) (by decide) (tk_s o_114) (tk_l (by decide)) (tk_b (by decide) (by decide) (by decide)) (fun h12 E12 => ?_)
  have L98 := sl_c f97 L89
  have L99 := sl_same L98 (m_nw_ne E12 (by decide))
  have z100 : ∀ j, h12 110 j = 0 := fun j => (congrFun (m_nw_ne E12 (by decide)) j).trans (z90 j)
  have z101 : h12 112 0 = 0 := (congrFun (m_nw_ne E12 (by decide)) 0).trans z91
  have z102 : h12 112 1 = 0 := (congrFun (m_nw_ne E12 (by decide)) 1).trans z92
  have u103 : h12 113 = fun _ => 0 := (m_nw_ne E12 (by decide)).trans u93
  have g104 := g94.nw E12 (by decide)
  have g105 := g95.nw E12 (by decide)
  have F106 : ∀ k, k < 108 → h12 k = h0 k := frn_nw F96 E12 (by decide)
  clear g94 g95 F96 E11 f97 L89 L98 z90 z91 z92 u93
  have g107 : gR 114 115 h12 := gR_1 (gC_of bt_114 (fun j hj => by rw [nwI E12]; exact trivial))
  have g108 := g105.join g107
  refine y_putF (M := M_X12_init_109) 57 dX12_init_57 ff_X12_30 (tk_g (by decide) o_108) (fun E m t q => q.1) rfl rfp_a (fun h13 E13 => ?_)
  have L109 := sl_up L99 E13 (by decide)
  have z110 : ∀ j, h13 110 j = 0 := fun j => (upN E13 (fun z => absurd z.1 (by decide))).trans (z100 j)
  have z111 : h13 112 0 = 0 := (upN E13 (fun z => absurd z.1 (by decide))).trans z101
  have z112 : h13 112 1 = 0 := (upN E13 (fun z => absurd z.1 (by decide))).trans z102
  have u113 : h13 113 = fun _ => 0 := (upo E13 (by decide)).trans u103
  have g114 := g104.put E13 (by decide)
  have g115 := g108.put E13 (by decide)
  have F116 : ∀ k, k < 108 → h13 k = h0 k := frn_up F106 E13 (by decide)
  clear g104 g108 F106 E12 g105 g107 L99 z100 z101 z102 u103
  have f117 : h13 108 15 = ((114 : Nat) : Int) := upE E13
  refine y_aload_n (M := M_X12_init_109) 60 dX12_init_60 rfl ?_
  refine y_bipush (M := M_X12_init_109) 61 dX12_init_61 ?_
  refine y_newaJ (M := M_X12_init_109) 63 dX12_init_63 acJ (N := 10) (by decide) (tk_s o_115) (tk_l (by decide)) (tk_b (by decide) (by decide) (by decide)) (fun h14 E14 => ?_)
  have L118 := sl_c f117 L109
  have L119 := sl_same L118 (m_nw_ne E14 (by decide))
  have z120 : ∀ j, h14 110 j = 0 := fun j => (congrFun (m_nw_ne E14 (by decide)) j).trans (z110 j)
  have z121 : h14 112 0 = 0 := (congrFun (m_nw_ne E14 (by decide)) 0).trans z111
  have z122 : h14 112 1 = 0 := (congrFun (m_nw_ne E14 (by decide)) 1).trans z112
  have u123 : h14 113 = fun _ => 0 := (m_nw_ne E14 (by decide)).trans u113
  have g124 := g114.nw E14 (by decide)
  have g125 := g115.nw E14 (by decide)
  have F126 : ∀ k, k < 108 → h14 k = h0 k := frn_nw F116 E14 (by decide)
  clear g114 g115 F116 E13 f117 L109 L118 z110 z111 z112 u113
  have g127 : gR 115 116 h14 := gR_1 (gC_of bt_115 (fun j hj => by rw [nwJ E14]; exact trivial))
  have g128 := g125.join g127
  refine y_putF (M := M_X12_init_109) 65 dX12_init_65 ff_X12_33 (tk_g (by decide) o_108) (fun E m t q => q.1) rfl rfp_a (fun h15 E15 => ?_)
  have L129 := sl_up L119 E15 (by decide)
  have z130 : ∀ j, h15 110 j = 0 := fun j => (upN E15 (fun z => absurd z.1 (by decide))).trans (z120 j)
  have z131 : h15 112 0 = 0 := (upN E15 (fun z => absurd z.1 (by decide))).trans z121
  have z132 : h15 112 1 = 0 := (upN E15 (fun z => absurd z.1 (by decide))).trans z122
  have u133 : h15 113 = fun _ => 0 := (upo E15 (by decide)).trans u123
  have g134 := g124.put E15 (by decide)
  have g135 := g128.put E15 (by decide)
  have F136 : ∀ k, k < 108 → h15 k = h0 k := frn_up F126 E15 (by decide)
  clear g124 g128 F126 E14 g125 g127 L119 z120 z121 z122 u123
  have f137 : h15 108 19 = ((115 : Nat) : Int) := upE E15
  refine y_aload_n (M := M_X12_init_109) 68 dX12_init_68 rfl ?_
  refine y_bipush (M := M_X12_init_109) 69 dX12_init_69 ?_
  refine y_newaJ (M := M_X12_init_109) 71 dX12_init_71 acJ (N := 10) (by decide) (tk_s o_116) (tk_l (by decide)) (tk_b (by decide) (by decide) (by decide)) (fun h16 E16 => ?_)
  have L138 := sl_c f137 L129
  have L139 := sl_same L138 (m_nw_ne E16 (by decide))
  have z140 : ∀ j, h16 110 j = 0 := fun j => (congrFun (m_nw_ne E16 (by decide)) j).trans (z130 j)
  have z141 : h16 112 0 = 0 := (congrFun (m_nw_ne E16 (by decide)) 0).trans z131
  have z142 : h16 112 1 = 0 := (congrFun (m_nw_ne E16 (by decide)) 1).trans z132
  have u143 : h16 113 = fun _ => 0 := (m_nw_ne E16 (by decide)).trans u133
  have g144 := g134.nw E16 (by decide)
  have g145 := g135.nw E16 (by decide)
  have F146 : ∀ k, k < 108 → h16 k = h0 k := frn_nw F136 E16 (by decide)
  clear g134 g135 F136 E15 f137 L129 L138 z130 z131 z132 u133
  have g147 : gR 116 117 h16 := gR_1 (gC_of bt_116 (fun j hj => by rw [nwJ E16]; exact trivial))
  have g148 := g145.join g147
  refine y_putF (M := M_X12_init_109) 73 dX12_init_73 ff_X12_37 (tk_g (by decide) o_108) (fun E m t q => q.1) rfl rfp_a (fun h17 E17 => ?_)
  have L149 := sl_up L139 E17 (by decide)
  have z150 : ∀ j, h17 110 j = 0 := fun j => (upN E17 (fun z => absurd z.1 (by decide))).trans (z140 j)
  have z151 : h17 112 0 = 0 := (upN E17 (fun z => absurd z.1 (by decide))).trans z141
  have z152 : h17 112 1 = 0 := (upN E17 (fun z => absurd z.1 (by decide))).trans z142
  have u153 : h17 113 = fun _ => 0 := (upo E17 (by decide)).trans u143
  have g154 := g144.put E17 (by decide)
  have g155 := g148.put E17 (by decide)
  have F156 : ∀ k, k < 108 → h17 k = h0 k := frn_up F146 E17 (by decide)
  clear g144 g148 F146 E16 g145 g147 L139 z140 z141 z142 u143
  have f157 : h17 108 20 = ((116 : Nat) : Int) := upE E17
  refine y_aload_n (M := M_X12_init_109) 76 dX12_init_76 rfl ?_
  refine y_bipush (M := M_X12_init_109) 77 dX12_init_77 ?_
  refine y_newaI (M := M_X12_init_109) 79 dX12_init_79 acI (N := 60) (by decide) (tk_s o_117) (tk_l (by decide)) (tk_b (by decide) (by decide) (by decide)) (fun h18 E18 => ?_)
  have L158 := sl_c f157 L149
  have L159 := sl_same L158 (m_nw_ne E18 (by decide))
  have z160 : ∀ j, h18 110 j = 0 := fun j => (congrFun (m_nw_ne E18 (by decide)) j).trans (z150 j)
  have z161 : h18 112 0 = 0 := (congrFun (m_nw_ne E18 (by decide)) 0).trans z151
  have z162 : h18 112 1 = 0 := (congrFun (m_nw_ne E18 (by decide)) 1).trans z152
  have u163 : h18 113 = fun _ => 0 := (m_nw_ne E18 (by decide)).trans u153
  have g164 := g154.nw E18 (by decide)
  have g165 := g155.nw E18 (by decide)
  have F166 : ∀ k, k < 108 → h18 k = h0 k := frn_nw F156 E18 (by decide)
  clear g154 g155 F156 E17 f157 L149 L158 z150 z151 z152 u153
  have g167 : gR 117 118 h18 := gR_1 (gC_of bt_117 (fun j hj => by rw [nwI E18]; show (0 : Int) ≤ 0 ∧ (0 : Int) ≤ 15; decide))
  have g168 := g165.join g167
  refine y_putF (M := M_X12_init_109) 81 dX12_init_81 ff_X12_40 (tk_g (by decide) o_108) (fun E m t q => q.1) rfl rfp_a (fun h19 E19 => ?_)
  have L169 := sl_up L159 E19 (by decide)
  have z170 : ∀ j, h19 110 j = 0 := fun j => (upN E19 (fun z => absurd z.1 (by decide))).trans (z160 j)
  have z171 : h19 112 0 = 0 := (upN E19 (fun z => absurd z.1 (by decide))).trans z161
  have z172 : h19 112 1 = 0 := (upN E19 (fun z => absurd z.1 (by decide))).trans z162
  have u173 : h19 113 = fun _ => 0 := (upo E19 (by decide)).trans u163
  have g174 := g164.put E19 (by decide)
  have g175 := g168.put E19 (by decide)
  have F176 : ∀ k, k < 108 → h19 k = h0 k := frn_up F166 E19 (by decide)
  clear g164 g168 F166 E18 g165 g167 L159 z160 z161 z162 u163
  have f177 : h19 108 22 = ((117 : Nat) : Int) := upE E19
  refine y_aload_n (M := M_X12_init_109) 84 dX12_init_84 rfl ?_
  refine y_bipush (M := M_X12_init_109) 85 dX12_init_85 ?_
  refine y_newaI (M := M_X12_init_109) 87 dX12_init_87 acI (N := 60) (by decide) (tk_s o_118) (tk_l (by decide)) (tk_b (by decide) (by decide) (by decide)) (fun h20 E20 => ?_)
  have L178 := sl_c f177 L169
  have L179 := sl_same L178 (m_nw_ne E20 (by decide))
  have z180 : ∀ j, h20 110 j = 0 := fun j => (congrFun (m_nw_ne E20 (by decide)) j).trans (z170 j)
  have z181 : h20 112 0 = 0 := (congrFun (m_nw_ne E20 (by decide)) 0).trans z171
  have z182 : h20 112 1 = 0 := (congrFun (m_nw_ne E20 (by decide)) 1).trans z172
  have u183 : h20 113 = fun _ => 0 := (m_nw_ne E20 (by decide)).trans u173
  have g184 := g174.nw E20 (by decide)
  have g185 := g175.nw E20 (by decide)
  have F186 : ∀ k, k < 108 → h20 k = h0 k := frn_nw F176 E20 (by decide)
  clear g174 g175 F176 E19 f177 L169 L178 z170 z171 z172 u173
  have g187 : gR 118 119 h20 := gR_1 (gC_of bt_118 (fun j hj => by rw [nwI E20]; show (0 : Int) ≤ 0 ∧ (0 : Int) ≤ 15; decide))
  have g188 := g185.join g187
  refine y_putF (M := M_X12_init_109) 89 dX12_init_89 ff_X12_43 (tk_g (by decide) o_108) (fun E m t q => q.1) rfl rfp_a (fun h21 E21 => ?_)
  have L189 := sl_up L179 E21 (by decide)
  have z190 : ∀ j, h21 110 j = 0 := fun j => (upN E21 (fun z => absurd z.1 (by decide))).trans (z180 j)
  have z191 : h21 112 0 = 0 := (upN E21 (fun z => absurd z.1 (by decide))).trans z181
  have z192 : h21 112 1 = 0 := (upN E21 (fun z => absurd z.1 (by decide))).trans z182
  have u193 : h21 113 = fun _ => 0 := (upo E21 (by decide)).trans u183
  have g194 := g184.put E21 (by decide)
  have g195 := g188.put E21 (by decide)
  have F196 : ∀ k, k < 108 → h21 k = h0 k := frn_up F186 E21 (by decide)
  clear g184 g188 F186 E20 g185 g187 L179 z180 z181 z182 u183
  have f197 : h21 108 23 = ((118 : Nat) : Int) := upE E21
  refine y_aload_n (M := M_X12_init_109) 92 dX12_init_92 rfl ?_
  refine y_bipush (M := M_X12_init_109) 93 dX12_init_93 ?_
  refine y_newaI (M := M_X12_init_109) 95 dX12_init_95 acI (N := 60) (by decide) (tk_s o_119) (tk_l (by decide)) (tk_b (by decide) (by decide) (by decide)) (fun h22 E22 => ?_)
  have L198 := sl_c f197 L189
  have L199 := sl_same L198 (m_nw_ne E22 (by decide))
  have z200 : ∀ j, h22 110 j = 0 := fun j => (congrFun (m_nw_ne E22 (by decide)) j).trans (z190 j)
  have z201 : h22 112 0 = 0 := (congrFun (m_nw_ne E22 (by decide)) 0).trans z191
  have z202 : h22 112 1 = 0 := (congrFun (m_nw_ne E22 (by decide)) 1).trans z192
  have u203 : h22 113 = fun _ => 0 := (m_nw_ne E22 (by decide)).trans u193
  have g204 := g194.nw E22 (by decide)
  have g205 := g195.nw E22 (by decide)
  have F206 : ∀ k, k < 108 → h22 k = h0 k := frn_nw F196 E22 (by decide)
  clear g194 g195 F196 E21 f197 L189 L198 z190 z191 z192 u193
  have g207 : gR 119 120 h22 := gR_1 (gC_of bt_119 (fun j hj => by rw [nwI E22]; show (0 : Int) ≤ 0 ∧ (0 : Int) ≤ 199; decide))
  have g208 := g205.join g207
  refine y_putF (M := M_X12_init_109) 97 dX12_init_97 ff_X12_46 (tk_g (by decide) o_108) (fun E m t q => q.1) rfl rfp_a (fun h23 E23 => ?_)
  have L209 := sl_up L199 E23 (by decide)
  have z210 : ∀ j, h23 110 j = 0 := fun j => (upN E23 (fun z => absurd z.1 (by decide))).trans (z200 j)
  have z211 : h23 112 0 = 0 := (upN E23 (fun z => absurd z.1 (by decide))).trans z201
  have z212 : h23 112 1 = 0 := (upN E23 (fun z => absurd z.1 (by decide))).trans z202
  have u213 : h23 113 = fun _ => 0 := (upo E23 (by decide)).trans u203
  have g214 := g204.put E23 (by decide)
  have g215 := g208.put E23 (by decide)
  have F216 : ∀ k, k < 108 → h23 k = h0 k := frn_up F206 E23 (by decide)
  clear g204 g208 F206 E22 g205 g207 L199 z200 z201 z202 u203
  have f217 : h23 108 24 = ((119 : Nat) : Int) := upE E23
  refine y_aload_n (M := M_X12_init_109) 100 dX12_init_100 rfl ?_
  refine y_bipush (M := M_X12_init_109) 101 dX12_init_101 ?_
  refine y_newaI (M := M_X12_init_109) 103 dX12_init_103 acI (N := 60) (by decide) (tk_s o_120) (tk_l (by decide)) (tk_b (by decide) (by decide) (by decide)) (fun h24 E24 => ?_)
  have L218 := sl_c f217 L209
  have L219 := sl_same L218 (m_nw_ne E24 (by decide))
  have z220 : ∀ j, h24 110 j = 0 := fun j => (congrFun (m_nw_ne E24 (by decide)) j).trans (z210 j)
  have z221 : h24 112 0 = 0 := (congrFun (m_nw_ne E24 (by decide)) 0).trans z211
  have z222 : h24 112 1 = 0 := (congrFun (m_nw_ne E24 (by decide)) 1).trans z212
  have u223 : h24 113 = fun _ => 0 := (m_nw_ne E24 (by decide)).trans u213
  have g224 := g214.nw E24 (by decide)
  have g225 := g215.nw E24 (by decide)
  have F226 : ∀ k, k < 108 → h24 k = h0 k := frn_nw F216 E24 (by decide)
  clear g214 g215 F216 E23 f217 L209 L218 z210 z211 z212 u213
  have g227 : gR 120 121 h24 := gR_1 (gC_of bt_120 (fun j hj => by rw [nwI E24]; show (0 : Int) ≤ 0 ∧ (0 : Int) ≤ 199; decide))
  have g228 := g225.join g227
  refine y_putF (M := M_X12_init_109) 105 dX12_init_105 ff_X12_49 (tk_g (by decide) o_108) (fun E m t q => q.1) rfl rfp_a (fun h25 E25 => ?_)
  have L229 := sl_up L219 E25 (by decide)
  have z230 : ∀ j, h25 110 j = 0 := fun j => (upN E25 (fun z => absurd z.1 (by decide))).trans (z220 j)
  have z231 : h25 112 0 = 0 := (upN E25 (fun z => absurd z.1 (by decide))).trans z221
  have z232 : h25 112 1 = 0 := (upN E25 (fun z => absurd z.1 (by decide))).trans z222
  have u233 : h25 113 = fun _ => 0 := (upo E25 (by decide)).trans u223
  have g234 := g224.put E25 (by decide)
  have g235 := g228.put E25 (by decide)
  have F236 : ∀ k, k < 108 → h25 k = h0 k := frn_up F226 E25 (by decide)
  clear g224 g228 F226 E24 g225 g227 L219 z220 z221 z222 u223
  have f237 : h25 108 25 = ((120 : Nat) : Int) := upE E25
  refine y_aload_n (M := M_X12_init_109) 108 dX12_init_108 rfl ?_
  refine y_bipush (M := M_X12_init_109) 109 dX12_init_109 ?_
  refine y_newaZ (M := M_X12_init_109) 111 dX12_init_111 acZ (N := 60) (by decide) (tk_s o_121) (tk_l (by decide)) (tk_b (by decide) (by decide) (by decide)) (fun h26 E26 => ?_)
  have L238 := sl_c f237 L229
  have L239 := sl_same L238 (m_nw_ne E26 (by decide))
  have z240 : ∀ j, h26 110 j = 0 := fun j => (congrFun (m_nw_ne E26 (by decide)) j).trans (z230 j)
  have z241 : h26 112 0 = 0 := (congrFun (m_nw_ne E26 (by decide)) 0).trans z231
  have z242 : h26 112 1 = 0 := (congrFun (m_nw_ne E26 (by decide)) 1).trans z232
  have u243 : h26 113 = fun _ => 0 := (m_nw_ne E26 (by decide)).trans u233
  have g244 := g234.nw E26 (by decide)
  have g245 := g235.nw E26 (by decide)
  have F246 : ∀ k, k < 108 → h26 k = h0 k := frn_nw F236 E26 (by decide)
  clear g234 g235 F236 E25 f237 L229 L238 z230 z231 z232 u233
  have g247 : gR 121 122 h26 := gR_1 (gC_of bt_121 (fun j hj => by rw [nwZ E26]; show (0 : Int) ≤ 0 ∧ (0 : Int) ≤ 1; decide))
  have g248 := g245.join g247
  refine y_putF (M := M_X12_init_109) 113 dX12_init_113 ff_X12_52 (tk_g (by decide) o_108) (fun E m t q => q.1) rfl rfp_a (fun h27 E27 => ?_)
  have L249 := sl_up L239 E27 (by decide)
  have z250 : ∀ j, h27 110 j = 0 := fun j => (upN E27 (fun z => absurd z.1 (by decide))).trans (z240 j)
  have z251 : h27 112 0 = 0 := (upN E27 (fun z => absurd z.1 (by decide))).trans z241
  have z252 : h27 112 1 = 0 := (upN E27 (fun z => absurd z.1 (by decide))).trans z242
  have u253 : h27 113 = fun _ => 0 := (upo E27 (by decide)).trans u243
  have g254 := g244.put E27 (by decide)
  have g255 := g248.put E27 (by decide)
  have F256 : ∀ k, k < 108 → h27 k = h0 k := frn_up F246 E27 (by decide)
  clear g244 g248 F246 E26 g245 g247 L239 z240 z241 z242 u243
  have f257 : h27 108 26 = ((121 : Nat) : Int) := upE E27
  refine y_aload_n (M := M_X12_init_109) 116 dX12_init_116 rfl ?_
  refine y_bipush (M := M_X12_init_109) 117 dX12_init_117 ?_
  refine y_newaI (M := M_X12_init_109) 119 dX12_init_119 acI (N := 32) (by decide) (tk_s o_122) (tk_l (by decide)) (tk_b (by decide) (by decide) (by decide)) (fun h28 E28 => ?_)
  have L258 := sl_c f257 L249
  have L259 := sl_same L258 (m_nw_ne E28 (by decide))
  have z260 : ∀ j, h28 110 j = 0 := fun j => (congrFun (m_nw_ne E28 (by decide)) j).trans (z250 j)
  have z261 : h28 112 0 = 0 := (congrFun (m_nw_ne E28 (by decide)) 0).trans z251
  have z262 : h28 112 1 = 0 := (congrFun (m_nw_ne E28 (by decide)) 1).trans z252
  have u263 : h28 113 = fun _ => 0 := (m_nw_ne E28 (by decide)).trans u253
  have g264 := g254.nw E28 (by decide)
  have g265 := g255.nw E28 (by decide)
  have F266 : ∀ k, k < 108 → h28 k = h0 k := frn_nw F256 E28 (by decide)
  clear g254 g255 F256 E27 f257 L249 L258 z250 z251 z252 u253
  have g267 : gR 122 123 h28 := gR_1 (gC_of bt_122 (fun j hj => by rw [nwI E28]; show (-1 : Int) ≤ 0 ∧ (0 : Int) ≤ 3; decide))
  have g268 := g265.join g267
  refine y_putF (M := M_X12_init_109) 121 dX12_init_121 ff_X12_55 (tk_g (by decide) o_108) (fun E m t q => q.1) rfl rfp_a (fun h29 E29 => ?_)
  have L269 := sl_up L259 E29 (by decide)
  have z270 : ∀ j, h29 110 j = 0 := fun j => (upN E29 (fun z => absurd z.1 (by decide))).trans (z260 j)
  have z271 : h29 112 0 = 0 := (upN E29 (fun z => absurd z.1 (by decide))).trans z261
  have z272 : h29 112 1 = 0 := (upN E29 (fun z => absurd z.1 (by decide))).trans z262
  have u273 : h29 113 = fun _ => 0 := (upo E29 (by decide)).trans u263
  have g274 := g264.put E29 (by decide)
  have g275 := g268.put E29 (by decide)
  have F276 : ∀ k, k < 108 → h29 k = h0 k := frn_up F266 E29 (by decide)
  clear g264 g268 F266 E28 g265 g267 L259 z260 z261 z262 u263
  have f277 : h29 108 27 = ((122 : Nat) : Int) := upE E29
  refine y_aload_n (M := M_X12_init_109) 124 dX12_init_124 rfl ?_
  refine y_bipush (M := M_X12_init_109) 125 dX12_init_125 ?_
  refine y_newaI (M := M_X12_init_109) 127 dX12_init_127 acI (N := 6) (by decide) (tk_s o_123) (tk_l (by decide)) (tk_b (by decide) (by decide) (by decide)) (fun h30 E30 => ?_)
  have L278 := sl_c f277 L269
  have L279 := sl_same L278 (m_nw_ne E30 (by decide))
  have z280 : ∀ j, h30 110 j = 0 := fun j => (congrFun (m_nw_ne E30 (by decide)) j).trans (z270 j)
  have z281 : h30 112 0 = 0 := (congrFun (m_nw_ne E30 (by decide)) 0).trans z271
  have z282 : h30 112 1 = 0 := (congrFun (m_nw_ne E30 (by decide)) 1).trans z272
  have u283 : h30 113 = fun _ => 0 := (m_nw_ne E30 (by decide)).trans u273
  have g284 := g274.nw E30 (by decide)
  have g285 := g275.nw E30 (by decide)
  have F286 : ∀ k, k < 108 → h30 k = h0 k := frn_nw F276 E30 (by decide)
  clear g274 g275 F276 E29 f277 L269 L278 z270 z271 z272 u273
  have g287 : gR 123 124 h30 := gR_1 (gC_of bt_123 (fun j hj => by rw [nwI E30]; show (-1 : Int) ≤ 0 ∧ (0 : Int) ≤ 31; decide))
  have g288 := g285.join g287
  refine y_putF (M := M_X12_init_109) 129 dX12_init_129 ff_X12_58 (tk_g (by decide) o_108) (fun E m t q => q.1) rfl rfp_a (fun h31 E31 => ?_)
  have L289 := sl_up L279 E31 (by decide)
  have z290 : ∀ j, h31 110 j = 0 := fun j => (upN E31 (fun z => absurd z.1 (by decide))).trans (z280 j)
  have z291 : h31 112 0 = 0 := (upN E31 (fun z => absurd z.1 (by decide))).trans z281
  have z292 : h31 112 1 = 0 := (upN E31 (fun z => absurd z.1 (by decide))).trans z282
  have u293 : h31 113 = fun _ => 0 := (upo E31 (by decide)).trans u283
  have g294 := g284.put E31 (by decide)
  have g295 := g288.put E31 (by decide)
  have F296 : ∀ k, k < 108 → h31 k = h0 k := frn_up F286 E31 (by decide)
  clear g284 g288 F286 E30 g285 g287 L279 z280 z281 z282 u283
  have f297 : h31 108 28 = ((123 : Nat) : Int) := upE E31
  refine y_aload_n (M := M_X12_init_109) 132 dX12_init_132 rfl ?_
  refine y_bipush (M := M_X12_init_109) 133 dX12_init_133 ?_
  refine y_newaJ (M := M_X12_init_109) 135 dX12_init_135 acJ (N := 80) (by decide) (tk_s o_124) (tk_l (by decide)) (tk_b (by decide) (by decide) (by decide)) (fun h32 E32 => ?_)
  have L298 := sl_c f297 L289
  have L299 := sl_same L298 (m_nw_ne E32 (by decide))
  have z300 : ∀ j, h32 110 j = 0 := fun j => (congrFun (m_nw_ne E32 (by decide)) j).trans (z290 j)
  have z301 : h32 112 0 = 0 := (congrFun (m_nw_ne E32 (by decide)) 0).trans z291
  have z302 : h32 112 1 = 0 := (congrFun (m_nw_ne E32 (by decide)) 1).trans z292
  have u303 : h32 113 = fun _ => 0 := (m_nw_ne E32 (by decide)).trans u293
  have g304 := g294.nw E32 (by decide)
  have g305 := g295.nw E32 (by decide)
  have F306 : ∀ k, k < 108 → h32 k = h0 k := frn_nw F296 E32 (by decide)
  clear g294 g295 F296 E31 f297 L289 L298 z290 z291 z292 u293
  have g307 : gR 124 125 h32 := gR_1 (gC_of bt_124 (fun j hj => by rw [nwJ E32]; show (0 : Int) ≤ 0 ∧ (0 : Int) ≤ 99999999; decide))
  have g308 := g305.join g307
  refine y_putF (M := M_X12_init_109) 137 dX12_init_137 ff_X12_61 (tk_g (by decide) o_108) (fun E m t q => q.1) rfl rfp_a (fun h33 E33 => ?_)
  have L309 := sl_up L299 E33 (by decide)
  have z310 : ∀ j, h33 110 j = 0 := fun j => (upN E33 (fun z => absurd z.1 (by decide))).trans (z300 j)
  have z311 : h33 112 0 = 0 := (upN E33 (fun z => absurd z.1 (by decide))).trans z301
  have z312 : h33 112 1 = 0 := (upN E33 (fun z => absurd z.1 (by decide))).trans z302
  have u313 : h33 113 = fun _ => 0 := (upo E33 (by decide)).trans u303
  have g314 := g304.put E33 (by decide)
  have g315 := g308.put E33 (by decide)
  have F316 : ∀ k, k < 108 → h33 k = h0 k := frn_up F306 E33 (by decide)
  clear g304 g308 F306 E32 g305 g307 L299 z300 z301 z302 u303
  have f317 : h33 108 29 = ((124 : Nat) : Int) := upE E33
  refine y_aload_n (M := M_X12_init_109) 140 dX12_init_140 rfl ?_
  refine y_bipush (M := M_X12_init_109) 141 dX12_init_141 ?_
  refine y_newaJ (M := M_X12_init_109) 143 dX12_init_143 acJ (N := 80) (by decide) (tk_s o_125) (tk_l (by decide)) (tk_b (by decide) (by decide) (by decide)) (fun h34 E34 => ?_)
  have L318 := sl_c f317 L309
  have L319 := sl_same L318 (m_nw_ne E34 (by decide))
  have z320 : ∀ j, h34 110 j = 0 := fun j => (congrFun (m_nw_ne E34 (by decide)) j).trans (z310 j)
  have z321 : h34 112 0 = 0 := (congrFun (m_nw_ne E34 (by decide)) 0).trans z311
  have z322 : h34 112 1 = 0 := (congrFun (m_nw_ne E34 (by decide)) 1).trans z312
  have u323 : h34 113 = fun _ => 0 := (m_nw_ne E34 (by decide)).trans u313
  have g324 := g314.nw E34 (by decide)
  have g325 := g315.nw E34 (by decide)
  have F326 : ∀ k, k < 108 → h34 k = h0 k := frn_nw F316 E34 (by decide)
  clear g314 g315 F316 E33 f317 L309 L318 z310 z311 z312 u313
  have g327 : gR 125 126 h34 := gR_1 (gC_of bt_125 (fun j hj => by rw [nwJ E34]; show (0 : Int) ≤ 0 ∧ (0 : Int) ≤ 99999999; decide))
  have g328 := g325.join g327
  refine y_putF (M := M_X12_init_109) 145 dX12_init_145 ff_X12_64 (tk_g (by decide) o_108) (fun E m t q => q.1) rfl rfp_a (fun h35 E35 => ?_)
  have L329 := sl_up L319 E35 (by decide)
  have z330 : ∀ j, h35 110 j = 0 := fun j => (upN E35 (fun z => absurd z.1 (by decide))).trans (z320 j)
  have z331 : h35 112 0 = 0 := (upN E35 (fun z => absurd z.1 (by decide))).trans z321
  have z332 : h35 112 1 = 0 := (upN E35 (fun z => absurd z.1 (by decide))).trans z322
  have u333 : h35 113 = fun _ => 0 := (upo E35 (by decide)).trans u323
  have g334 := g324.put E35 (by decide)
  have g335 := g328.put E35 (by decide)
  have F336 : ∀ k, k < 108 → h35 k = h0 k := frn_up F326 E35 (by decide)
  clear g324 g328 F326 E34 g325 g327 L319 z320 z321 z322 u323
  have f337 : h35 108 30 = ((125 : Nat) : Int) := upE E35
  refine y_aload_n (M := M_X12_init_109) 148 dX12_init_148 rfl ?_
  refine y_bipush (M := M_X12_init_109) 149 dX12_init_149 ?_
  refine y_newaZ (M := M_X12_init_109) 151 dX12_init_151 acZ (N := 16) (by decide) (tk_s o_126) (tk_l (by decide)) (tk_b (by decide) (by decide) (by decide)) (fun h36 E36 => ?_)
  have L338 := sl_c f337 L329
  have L339 := sl_same L338 (m_nw_ne E36 (by decide))
  have z340 : ∀ j, h36 110 j = 0 := fun j => (congrFun (m_nw_ne E36 (by decide)) j).trans (z330 j)
  have z341 : h36 112 0 = 0 := (congrFun (m_nw_ne E36 (by decide)) 0).trans z331
  have z342 : h36 112 1 = 0 := (congrFun (m_nw_ne E36 (by decide)) 1).trans z332
  have u343 : h36 113 = fun _ => 0 := (m_nw_ne E36 (by decide)).trans u333
  have g344 := g334.nw E36 (by decide)
  have g345 := g335.nw E36 (by decide)
  have F346 : ∀ k, k < 108 → h36 k = h0 k := frn_nw F336 E36 (by decide)
  clear g334 g335 F336 E35 f337 L329 L338 z330 z331 z332 u333
  have g347 : gR 126 127 h36 := gR_1 (gC_of bt_126 (fun j hj => by rw [nwZ E36]; show (0 : Int) ≤ 0 ∧ (0 : Int) ≤ 1; decide))
  have g348 := g345.join g347
  refine y_putF (M := M_X12_init_109) 153 dX12_init_153 ff_X12_67 (tk_g (by decide) o_108) (fun E m t q => q.1) rfl rfp_a (fun h37 E37 => ?_)
  have L349 := sl_up L339 E37 (by decide)
  have z350 : ∀ j, h37 110 j = 0 := fun j => (upN E37 (fun z => absurd z.1 (by decide))).trans (z340 j)
  have z351 : h37 112 0 = 0 := (upN E37 (fun z => absurd z.1 (by decide))).trans z341
  have z352 : h37 112 1 = 0 := (upN E37 (fun z => absurd z.1 (by decide))).trans z342
  have u353 : h37 113 = fun _ => 0 := (upo E37 (by decide)).trans u343
  have g354 := g344.put E37 (by decide)
  have g355 := g348.put E37 (by decide)
  have F356 : ∀ k, k < 108 → h37 k = h0 k := frn_up F346 E37 (by decide)
  clear g344 g348 F346 E36 g345 g347 L339 z340 z341 z342 u343
  have f357 : h37 108 31 = ((126 : Nat) : Int) := upE E37
  refine y_aload_n (M := M_X12_init_109) 156 dX12_init_156 rfl ?_
  refine y_bipush (M := M_X12_init_109) 157 dX12_init_157 ?_
  refine y_newaZ (M := M_X12_init_109) 159 dX12_init_159 acZ (N := 16) (by decide) (tk_s o_127) (tk_l (by decide)) (tk_b (by decide) (by decide) (by decide)) (fun h38 E38 => ?_)
  have L358 := sl_c f357 L349
  have L359 := sl_same L358 (m_nw_ne E38 (by decide))
  have z360 : ∀ j, h38 110 j = 0 := fun j => (congrFun (m_nw_ne E38 (by decide)) j).trans (z350 j)
  have z361 : h38 112 0 = 0 := (congrFun (m_nw_ne E38 (by decide)) 0).trans z351
  have z362 : h38 112 1 = 0 := (congrFun (m_nw_ne E38 (by decide)) 1).trans z352
  have u363 : h38 113 = fun _ => 0 := (m_nw_ne E38 (by decide)).trans u353
  have g364 := g354.nw E38 (by decide)
  have g365 := g355.nw E38 (by decide)
  have F366 : ∀ k, k < 108 → h38 k = h0 k := frn_nw F356 E38 (by decide)
  clear g354 g355 F356 E37 f357 L349 L358 z350 z351 z352 u353
  have g367 : gR 127 128 h38 := gR_1 (gC_of bt_127 (fun j hj => by rw [nwZ E38]; show (0 : Int) ≤ 0 ∧ (0 : Int) ≤ 1; decide))
  have g368 := g365.join g367
  refine y_putF (M := M_X12_init_109) 161 dX12_init_161 ff_X12_70 (tk_g (by decide) o_108) (fun E m t q => q.1) rfl rfp_a (fun h39 E39 => ?_)
  have L369 := sl_up L359 E39 (by decide)
  have z370 : ∀ j, h39 110 j = 0 := fun j => (upN E39 (fun z => absurd z.1 (by decide))).trans (z360 j)
  have z371 : h39 112 0 = 0 := (upN E39 (fun z => absurd z.1 (by decide))).trans z361
  have z372 : h39 112 1 = 0 := (upN E39 (fun z => absurd z.1 (by decide))).trans z362
  have u373 : h39 113 = fun _ => 0 := (upo E39 (by decide)).trans u363
  have g374 := g364.put E39 (by decide)
  have g375 := g368.put E39 (by decide)
  have F376 : ∀ k, k < 108 → h39 k = h0 k := frn_up F366 E39 (by decide)
  clear g364 g368 F366 E38 g365 g367 L359 z360 z361 z362 u363
  have f377 : h39 108 32 = ((127 : Nat) : Int) := upE E39
  refine y_aload_n (M := M_X12_init_109) 164 dX12_init_164 rfl ?_
  refine y_bipush (M := M_X12_init_109) 165 dX12_init_165 ?_
  refine y_newaJ (M := M_X12_init_109) 167 dX12_init_167 acJ (N := 80) (by decide) (tk_s o_128) (tk_l (by decide)) (tk_b (by decide) (by decide) (by decide)) (fun h40 E40 => ?_)
  have L378 := sl_c f377 L369
  have L379 := sl_same L378 (m_nw_ne E40 (by decide))
  have z380 : ∀ j, h40 110 j = 0 := fun j => (congrFun (m_nw_ne E40 (by decide)) j).trans (z370 j)
  have z381 : h40 112 0 = 0 := (congrFun (m_nw_ne E40 (by decide)) 0).trans z371
  have z382 : h40 112 1 = 0 := (congrFun (m_nw_ne E40 (by decide)) 1).trans z372
  have u383 : h40 113 = fun _ => 0 := (m_nw_ne E40 (by decide)).trans u373
  have g384 := g374.nw E40 (by decide)
  have g385 := g375.nw E40 (by decide)
  have F386 : ∀ k, k < 108 → h40 k = h0 k := frn_nw F376 E40 (by decide)
  clear g374 g375 F376 E39 f377 L369 L378 z370 z371 z372 u373
  have g387 : gR 128 129 h40 := gR_1 (gC_of bt_128 (fun j hj => by rw [nwJ E40]; show (0 : Int) ≤ 0 ∧ (0 : Int) ≤ 99999999; decide))
  have g388 := g385.join g387
  refine y_putF (M := M_X12_init_109) 169 dX12_init_169 ff_X12_73 (tk_g (by decide) o_108) (fun E m t q => q.1) rfl rfp_a (fun h41 E41 => ?_)
  have L389 := sl_up L379 E41 (by decide)
  have z390 : ∀ j, h41 110 j = 0 := fun j => (upN E41 (fun z => absurd z.1 (by decide))).trans (z380 j)
  have z391 : h41 112 0 = 0 := (upN E41 (fun z => absurd z.1 (by decide))).trans z381
  have z392 : h41 112 1 = 0 := (upN E41 (fun z => absurd z.1 (by decide))).trans z382
  have u393 : h41 113 = fun _ => 0 := (upo E41 (by decide)).trans u383
  have g394 := g384.put E41 (by decide)
  have g395 := g388.put E41 (by decide)
  have F396 : ∀ k, k < 108 → h41 k = h0 k := frn_up F386 E41 (by decide)
  clear g384 g388 F386 E40 g385 g387 L379 z380 z381 z382 u383
  have f397 : h41 108 33 = ((128 : Nat) : Int) := upE E41
  refine y_aload_n (M := M_X12_init_109) 172 dX12_init_172 rfl ?_
  refine y_bipush (M := M_X12_init_109) 173 dX12_init_173 ?_
  refine y_newaJ (M := M_X12_init_109) 175 dX12_init_175 acJ (N := 80) (by decide) (tk_s o_129) (tk_l (by decide)) (tk_b (by decide) (by decide) (by decide)) (fun h42 E42 => ?_)
  have L398 := sl_c f397 L389
  have L399 := sl_same L398 (m_nw_ne E42 (by decide))
  have z400 : ∀ j, h42 110 j = 0 := fun j => (congrFun (m_nw_ne E42 (by decide)) j).trans (z390 j)
  have z401 : h42 112 0 = 0 := (congrFun (m_nw_ne E42 (by decide)) 0).trans z391
  have z402 : h42 112 1 = 0 := (congrFun (m_nw_ne E42 (by decide)) 1).trans z392
  have u403 : h42 113 = fun _ => 0 := (m_nw_ne E42 (by decide)).trans u393
  have g404 := g394.nw E42 (by decide)
  have g405 := g395.nw E42 (by decide)
  have F406 : ∀ k, k < 108 → h42 k = h0 k := frn_nw F396 E42 (by decide)
  clear g394 g395 F396 E41 f397 L389 L398 z390 z391 z392 u393
  have g407 : gR 129 130 h42 := gR_1 (gC_of bt_129 (fun j hj => by rw [nwJ E42]; show (0 : Int) ≤ 0 ∧ (0 : Int) ≤ 99999999; decide))
  have g408 := g405.join g407
  refine y_putF (M := M_X12_init_109) 177 dX12_init_177 ff_X12_76 (tk_g (by decide) o_108) (fun E m t q => q.1) rfl rfp_a (fun h43 E43 => ?_)
  have L409 := sl_up L399 E43 (by decide)
  have z410 : ∀ j, h43 110 j = 0 := fun j => (upN E43 (fun z => absurd z.1 (by decide))).trans (z400 j)
  have z411 : h43 112 0 = 0 := (upN E43 (fun z => absurd z.1 (by decide))).trans z401
  have z412 : h43 112 1 = 0 := (upN E43 (fun z => absurd z.1 (by decide))).trans z402
  have u413 : h43 113 = fun _ => 0 := (upo E43 (by decide)).trans u403
  have g414 := g404.put E43 (by decide)
  have g415 := g408.put E43 (by decide)
  have F416 : ∀ k, k < 108 → h43 k = h0 k := frn_up F406 E43 (by decide)
  clear g404 g408 F406 E42 g405 g407 L399 z400 z401 z402 u403
  have f417 : h43 108 34 = ((129 : Nat) : Int) := upE E43
  refine y_aload_n (M := M_X12_init_109) 180 dX12_init_180 rfl ?_
  refine y_bipush (M := M_X12_init_109) 181 dX12_init_181 ?_
  refine y_newaZ (M := M_X12_init_109) 183 dX12_init_183 acZ (N := 16) (by decide) (tk_s o_130) (tk_l (by decide)) (tk_b (by decide) (by decide) (by decide)) (fun h44 E44 => ?_)
  have L418 := sl_c f417 L409
  have L419 := sl_same L418 (m_nw_ne E44 (by decide))
  have z420 : ∀ j, h44 110 j = 0 := fun j => (congrFun (m_nw_ne E44 (by decide)) j).trans (z410 j)
  have z421 : h44 112 0 = 0 := (congrFun (m_nw_ne E44 (by decide)) 0).trans z411
  have z422 : h44 112 1 = 0 := (congrFun (m_nw_ne E44 (by decide)) 1).trans z412
  have u423 : h44 113 = fun _ => 0 := (m_nw_ne E44 (by decide)).trans u413
  have g424 := g414.nw E44 (by decide)
  have g425 := g415.nw E44 (by decide)
  have F426 : ∀ k, k < 108 → h44 k = h0 k := frn_nw F416 E44 (by decide)
  clear g414 g415 F416 E43 f417 L409 L418 z410 z411 z412 u413
  have g427 : gR 130 131 h44 := gR_1 (gC_of bt_130 (fun j hj => by rw [nwZ E44]; show (0 : Int) ≤ 0 ∧ (0 : Int) ≤ 1; decide))
  have g428 := g425.join g427
  refine y_putF (M := M_X12_init_109) 185 dX12_init_185 ff_X12_79 (tk_g (by decide) o_108) (fun E m t q => q.1) rfl rfp_a (fun h45 E45 => ?_)
  have L429 := sl_up L419 E45 (by decide)
  have z430 : ∀ j, h45 110 j = 0 := fun j => (upN E45 (fun z => absurd z.1 (by decide))).trans (z420 j)
  have z431 : h45 112 0 = 0 := (upN E45 (fun z => absurd z.1 (by decide))).trans z421
  have z432 : h45 112 1 = 0 := (upN E45 (fun z => absurd z.1 (by decide))).trans z422
  have u433 : h45 113 = fun _ => 0 := (upo E45 (by decide)).trans u423
  have g434 := g424.put E45 (by decide)
  have g435 := g428.put E45 (by decide)
  have F436 : ∀ k, k < 108 → h45 k = h0 k := frn_up F426 E45 (by decide)
  clear g424 g428 F426 E44 g425 g427 L419 z420 z421 z422 u423
  have f437 : h45 108 35 = ((130 : Nat) : Int) := upE E45
  refine y_aload_n (M := M_X12_init_109) 188 dX12_init_188 rfl ?_
  refine y_bipush (M := M_X12_init_109) 189 dX12_init_189 ?_
  refine y_newaZ (M := M_X12_init_109) 191 dX12_init_191 acZ (N := 16) (by decide) (tk_s o_131) (tk_l (by decide)) (tk_b (by decide) (by decide) (by decide)) (fun h46 E46 => ?_)
  have L438 := sl_c f437 L429
  have L439 := sl_same L438 (m_nw_ne E46 (by decide))
  have z440 : ∀ j, h46 110 j = 0 := fun j => (congrFun (m_nw_ne E46 (by decide)) j).trans (z430 j)
  have z441 : h46 112 0 = 0 := (congrFun (m_nw_ne E46 (by decide)) 0).trans z431
  have z442 : h46 112 1 = 0 := (congrFun (m_nw_ne E46 (by decide)) 1).trans z432
  have u443 : h46 113 = fun _ => 0 := (m_nw_ne E46 (by decide)).trans u433
  have g444 := g434.nw E46 (by decide)
  have g445 := g435.nw E46 (by decide)
  have F446 : ∀ k, k < 108 → h46 k = h0 k := frn_nw F436 E46 (by decide)
  clear g434 g435 F436 E45 f437 L429 L438 z430 z431 z432 u433
  have g447 : gR 131 132 h46 := gR_1 (gC_of bt_131 (fun j hj => by rw [nwZ E46]; show (0 : Int) ≤ 0 ∧ (0 : Int) ≤ 1; decide))
  have g448 := g445.join g447
  refine y_putF (M := M_X12_init_109) 193 dX12_init_193 ff_X12_82 (tk_g (by decide) o_108) (fun E m t q => q.1) rfl rfp_a (fun h47 E47 => ?_)
  have L449 := sl_up L439 E47 (by decide)
  have z450 : ∀ j, h47 110 j = 0 := fun j => (upN E47 (fun z => absurd z.1 (by decide))).trans (z440 j)
  have z451 : h47 112 0 = 0 := (upN E47 (fun z => absurd z.1 (by decide))).trans z441
  have z452 : h47 112 1 = 0 := (upN E47 (fun z => absurd z.1 (by decide))).trans z442
  have u453 : h47 113 = fun _ => 0 := (upo E47 (by decide)).trans u443
  have g454 := g444.put E47 (by decide)
  have g455 := g448.put E47 (by decide)
  have F456 : ∀ k, k < 108 → h47 k = h0 k := frn_up F446 E47 (by decide)
  clear g444 g448 F446 E46 g445 g447 L439 z440 z441 z442 u443
  have f457 : h47 108 36 = ((131 : Nat) : Int) := upE E47
  refine y_aload_n (M := M_X12_init_109) 196 dX12_init_196 rfl ?_
  refine y_iconst (M := M_X12_init_109) 197 dX12_init_197 ?_
  refine y_newaJ (M := M_X12_init_109) 198 dX12_init_198 acJ (N := 5) (by decide) (tk_s o_132) (tk_l (by decide)) (tk_b (by decide) (by decide) (by decide)) (fun h48 E48 => ?_)
  have L458 := sl_c f457 L449
  have L459 := sl_same L458 (m_nw_ne E48 (by decide))
  have z460 : ∀ j, h48 110 j = 0 := fun j => (congrFun (m_nw_ne E48 (by decide)) j).trans (z450 j)
  have z461 : h48 112 0 = 0 := (congrFun (m_nw_ne E48 (by decide)) 0).trans z451
  have z462 : h48 112 1 = 0 := (congrFun (m_nw_ne E48 (by decide)) 1).trans z452
  have u463 : h48 113 = fun _ => 0 := (m_nw_ne E48 (by decide)).trans u453
  have g464 := g454.nw E48 (by decide)
  have g465 := g455.nw E48 (by decide)
  have F466 : ∀ k, k < 108 → h48 k = h0 k := frn_nw F456 E48 (by decide)
  clear g454 g455 F456 E47 f457 L449 L458 z450 z451 z452 u453
  have g467 : gR 132 133 h48 := gR_1 (gC_of bt_132 (fun j hj => by rw [nwJ E48]; show (0 : Int) ≤ 0 ∧ (0 : Int) ≤ 99999999; decide))
  have g468 := g465.join g467
  refine y_putF (M := M_X12_init_109) 200 dX12_init_200 ff_X12_85 (tk_g (by decide) o_108) (fun E m t q => q.1) rfl rfp_a (fun h49 E49 => ?_)
  have L469 := sl_up L459 E49 (by decide)
  have z470 : ∀ j, h49 110 j = 0 := fun j => (upN E49 (fun z => absurd z.1 (by decide))).trans (z460 j)
  have z471 : h49 112 0 = 0 := (upN E49 (fun z => absurd z.1 (by decide))).trans z461
  have z472 : h49 112 1 = 0 := (upN E49 (fun z => absurd z.1 (by decide))).trans z462
  have u473 : h49 113 = fun _ => 0 := (upo E49 (by decide)).trans u463
  have g474 := g464.put E49 (by decide)
  have g475 := g468.put E49 (by decide)
  have F476 : ∀ k, k < 108 → h49 k = h0 k := frn_up F466 E49 (by decide)
  clear g464 g468 F466 E48 g465 g467 L459 z460 z461 z462 u463
  have f477 : h49 108 37 = ((132 : Nat) : Int) := upE E49
  refine y_aload_n (M := M_X12_init_109) 203 dX12_init_203 rfl ?_
  refine y_iconst (M := M_X12_init_109) 204 dX12_init_204 ?_
  refine y_newaJ (M := M_X12_init_109) 205 dX12_init_205 acJ (N := 5) (by decide) (tk_s o_133) (tk_l (by decide)) (tk_b (by decide) (by decide) (by decide)) (fun h50 E50 => ?_)
  have L478 := sl_c f477 L469
  have L479 := sl_same L478 (m_nw_ne E50 (by decide))
  have z480 : ∀ j, h50 110 j = 0 := fun j => (congrFun (m_nw_ne E50 (by decide)) j).trans (z470 j)
  have z481 : h50 112 0 = 0 := (congrFun (m_nw_ne E50 (by decide)) 0).trans z471
  have z482 : h50 112 1 = 0 := (congrFun (m_nw_ne E50 (by decide)) 1).trans z472
  have u483 : h50 113 = fun _ => 0 := (m_nw_ne E50 (by decide)).trans u473
  have g484 := g474.nw E50 (by decide)
  have g485 := g475.nw E50 (by decide)
  have F486 : ∀ k, k < 108 → h50 k = h0 k := frn_nw F476 E50 (by decide)
  clear g474 g475 F476 E49 f477 L469 L478 z470 z471 z472 u473
  have g487 : gR 133 134 h50 := gR_1 (gC_of bt_133 (fun j hj => by rw [nwJ E50]; show (0 : Int) ≤ 0 ∧ (0 : Int) ≤ 99999999; decide))
  have g488 := g485.join g487
  refine y_putF (M := M_X12_init_109) 207 dX12_init_207 ff_X12_88 (tk_g (by decide) o_108) (fun E m t q => q.1) rfl rfp_a (fun h51 E51 => ?_)
  have L489 := sl_up L479 E51 (by decide)
  have z490 : ∀ j, h51 110 j = 0 := fun j => (upN E51 (fun z => absurd z.1 (by decide))).trans (z480 j)
  have z491 : h51 112 0 = 0 := (upN E51 (fun z => absurd z.1 (by decide))).trans z481
  have z492 : h51 112 1 = 0 := (upN E51 (fun z => absurd z.1 (by decide))).trans z482
  have u493 : h51 113 = fun _ => 0 := (upo E51 (by decide)).trans u483
  have g494 := g484.put E51 (by decide)
  have g495 := g488.put E51 (by decide)
  have F496 : ∀ k, k < 108 → h51 k = h0 k := frn_up F486 E51 (by decide)
  clear g484 g488 F486 E50 g485 g487 L479 z480 z481 z482 u483
  have f497 : h51 108 38 = ((133 : Nat) : Int) := upE E51
  refine y_aload_n (M := M_X12_init_109) 210 dX12_init_210 rfl ?_
  refine y_sipush (M := M_X12_init_109) 211 dX12_init_211 ?_
  refine y_newaZ (M := M_X12_init_109) 214 dX12_init_214 acZ (N := 256) (by decide) (tk_s o_134) (tk_l (by decide)) (tk_b (by decide) (by decide) (by decide)) (fun h52 E52 => ?_)
  have L498 := sl_c f497 L489
  have L499 := sl_same L498 (m_nw_ne E52 (by decide))
  have z500 : ∀ j, h52 110 j = 0 := fun j => (congrFun (m_nw_ne E52 (by decide)) j).trans (z490 j)
  have z501 : h52 112 0 = 0 := (congrFun (m_nw_ne E52 (by decide)) 0).trans z491
  have z502 : h52 112 1 = 0 := (congrFun (m_nw_ne E52 (by decide)) 1).trans z492
  have u503 : h52 113 = fun _ => 0 := (m_nw_ne E52 (by decide)).trans u493
  have g504 := g494.nw E52 (by decide)
  have g505 := g495.nw E52 (by decide)
  have F506 : ∀ k, k < 108 → h52 k = h0 k := frn_nw F496 E52 (by decide)
  clear g494 g495 F496 E51 f497 L489 L498 z490 z491 z492 u493
  have g507 : gR 134 135 h52 := gR_1 (gC_of bt_134 (fun j hj => by rw [nwZ E52]; show (0 : Int) ≤ 0 ∧ (0 : Int) ≤ 1; decide))
  have g508 := g505.join g507
  refine y_putF (M := M_X12_init_109) 216 dX12_init_216 ff_X12_91 (tk_g (by decide) o_108) (fun E m t q => q.1) rfl rfp_a (fun h53 E53 => ?_)
  have L509 := sl_up L499 E53 (by decide)
  have z510 : ∀ j, h53 110 j = 0 := fun j => (upN E53 (fun z => absurd z.1 (by decide))).trans (z500 j)
  have z511 : h53 112 0 = 0 := (upN E53 (fun z => absurd z.1 (by decide))).trans z501
  have z512 : h53 112 1 = 0 := (upN E53 (fun z => absurd z.1 (by decide))).trans z502
  have u513 : h53 113 = fun _ => 0 := (upo E53 (by decide)).trans u503
  have g514 := g504.put E53 (by decide)
  have g515 := g508.put E53 (by decide)
  have F516 : ∀ k, k < 108 → h53 k = h0 k := frn_up F506 E53 (by decide)
  clear g504 g508 F506 E52 g505 g507 L499 z500 z501 z502 u503
  have f517 : h53 108 39 = ((134 : Nat) : Int) := upE E53
  refine y_aload_n (M := M_X12_init_109) 219 dX12_init_219 rfl ?_
  refine y_bipush (M := M_X12_init_109) 220 dX12_init_220 ?_
  refine y_newaJ (M := M_X12_init_109) 222 dX12_init_222 acJ (N := 10) (by decide) (tk_s o_135) (tk_l (by decide)) (tk_b (by decide) (by decide) (by decide)) (fun h54 E54 => ?_)
  have L518 := sl_c f517 L509
  have L519 := sl_same L518 (m_nw_ne E54 (by decide))
  have z520 : ∀ j, h54 110 j = 0 := fun j => (congrFun (m_nw_ne E54 (by decide)) j).trans (z510 j)
  have z521 : h54 112 0 = 0 := (congrFun (m_nw_ne E54 (by decide)) 0).trans z511
  have z522 : h54 112 1 = 0 := (congrFun (m_nw_ne E54 (by decide)) 1).trans z512
  have u523 : h54 113 = fun _ => 0 := (m_nw_ne E54 (by decide)).trans u513
  have g524 := g514.nw E54 (by decide)
  have g525 := g515.nw E54 (by decide)
  have F526 : ∀ k, k < 108 → h54 k = h0 k := frn_nw F516 E54 (by decide)
  clear g514 g515 F516 E53 f517 L509 L518 z510 z511 z512 u513
  have g527 : gR 135 136 h54 := gR_1 (gC_of bt_135 (fun j hj => by rw [nwJ E54]; exact trivial))
  have g528 := g525.join g527
  refine y_putF (M := M_X12_init_109) 224 dX12_init_224 ff_X12_94 (tk_g (by decide) o_108) (fun E m t q => q.1) rfl rfp_a (fun h55 E55 => ?_)
  have L529 := sl_up L519 E55 (by decide)
  have z530 : ∀ j, h55 110 j = 0 := fun j => (upN E55 (fun z => absurd z.1 (by decide))).trans (z520 j)
  have z531 : h55 112 0 = 0 := (upN E55 (fun z => absurd z.1 (by decide))).trans z521
  have z532 : h55 112 1 = 0 := (upN E55 (fun z => absurd z.1 (by decide))).trans z522
  have u533 : h55 113 = fun _ => 0 := (upo E55 (by decide)).trans u523
  have g534 := g524.put E55 (by decide)
  have g535 := g528.put E55 (by decide)
  have F536 : ∀ k, k < 108 → h55 k = h0 k := frn_up F526 E55 (by decide)
  clear g524 g528 F526 E54 g525 g527 L519 z520 z521 z522 u523
  have f537 : h55 108 40 = ((135 : Nat) : Int) := upE E55
  refine y_aload_n (M := M_X12_init_109) 227 dX12_init_227 rfl ?_
  refine y_bipush (M := M_X12_init_109) 228 dX12_init_228 ?_
  refine y_newaJ (M := M_X12_init_109) 230 dX12_init_230 acJ (N := 10) (by decide) (tk_s o_136) (tk_l (by decide)) (tk_b (by decide) (by decide) (by decide)) (fun h56 E56 => ?_)
  have L538 := sl_c f537 L529
  have L539 := sl_same L538 (m_nw_ne E56 (by decide))
  have z540 : ∀ j, h56 110 j = 0 := fun j => (congrFun (m_nw_ne E56 (by decide)) j).trans (z530 j)
  have z541 : h56 112 0 = 0 := (congrFun (m_nw_ne E56 (by decide)) 0).trans z531
  have z542 : h56 112 1 = 0 := (congrFun (m_nw_ne E56 (by decide)) 1).trans z532
  have u543 : h56 113 = fun _ => 0 := (m_nw_ne E56 (by decide)).trans u533
  have g544 := g534.nw E56 (by decide)
  have g545 := g535.nw E56 (by decide)
  have F546 : ∀ k, k < 108 → h56 k = h0 k := frn_nw F536 E56 (by decide)
  clear g534 g535 F536 E55 f537 L529 L538 z530 z531 z532 u533
  have g547 : gR 136 137 h56 := gR_1 (gC_of bt_136 (fun j hj => by rw [nwJ E56]; exact trivial))
  have g548 := g545.join g547
  refine y_putF (M := M_X12_init_109) 232 dX12_init_232 ff_X12_97 (tk_g (by decide) o_108) (fun E m t q => q.1) rfl rfp_a (fun h57 E57 => ?_)
  have L549 := sl_up L539 E57 (by decide)
  have z550 : ∀ j, h57 110 j = 0 := fun j => (upN E57 (fun z => absurd z.1 (by decide))).trans (z540 j)
  have z551 : h57 112 0 = 0 := (upN E57 (fun z => absurd z.1 (by decide))).trans z541
  have z552 : h57 112 1 = 0 := (upN E57 (fun z => absurd z.1 (by decide))).trans z542
  have u553 : h57 113 = fun _ => 0 := (upo E57 (by decide)).trans u543
  have g554 := g544.put E57 (by decide)
  have g555 := g548.put E57 (by decide)
  have F556 : ∀ k, k < 108 → h57 k = h0 k := frn_up F546 E57 (by decide)
  clear g544 g548 F546 E56 g545 g547 L539 z540 z541 z542 u543
  have f557 : h57 108 41 = ((136 : Nat) : Int) := upE E57
  refine y_aload_n (M := M_X12_init_109) 235 dX12_init_235 rfl ?_
  refine y_iconst (M := M_X12_init_109) 236 dX12_init_236 ?_
  refine y_newaJ (M := M_X12_init_109) 237 dX12_init_237 acJ (N := 5) (by decide) (tk_s o_137) (tk_l (by decide)) (tk_b (by decide) (by decide) (by decide)) (fun h58 E58 => ?_)
  have L558 := sl_c f557 L549
  have L559 := sl_same L558 (m_nw_ne E58 (by decide))
  have z560 : ∀ j, h58 110 j = 0 := fun j => (congrFun (m_nw_ne E58 (by decide)) j).trans (z550 j)
  have z561 : h58 112 0 = 0 := (congrFun (m_nw_ne E58 (by decide)) 0).trans z551
  have z562 : h58 112 1 = 0 := (congrFun (m_nw_ne E58 (by decide)) 1).trans z552
  have u563 : h58 113 = fun _ => 0 := (m_nw_ne E58 (by decide)).trans u553
  have g564 := g554.nw E58 (by decide)
  have g565 := g555.nw E58 (by decide)
  have F566 : ∀ k, k < 108 → h58 k = h0 k := frn_nw F556 E58 (by decide)
  clear g554 g555 F556 E57 f557 L549 L558 z550 z551 z552 u553
  have g567 : gR 137 138 h58 := gR_1 (gC_of bt_137 (fun j hj => by rw [nwJ E58]; show (0 : Int) ≤ 0 ∧ (0 : Int) ≤ 1; decide))
  have g568 := g565.join g567
  refine y_dup (M := M_X12_init_109) 239 dX12_init_239 rfl ?_
  refine y_iconst (M := M_X12_init_109) 240 dX12_init_240 ?_
  refine y_lconst (M := M_X12_init_109) 241 dX12_init_241 (v := 1) ?_
  refine y_last (M := M_X12_init_109) 242 dX12_init_242 (tk_g (by decide) o_137) (by decide) (by decide) ?_
  obtain ⟨h59, E59⟩ : ∃ x, x = m_up h58 137 0 1 := ⟨_, rfl⟩
  show m_Y _ _ _ _ _ _ (m_up h58 137 0 1) _
  rw [← E59]
  have Kh59 := g568 137 (by decide) (by decide)
  have g569 : gR 111 137 h58 := fun k q1 q2 => g568 k (by omega) (by omega)
  have L570 := sl_same L559 (upo E59 (by decide))
  have z571 : ∀ j, h59 110 j = 0 := fun j => (upN E59 (fun z => absurd z.1 (by decide))).trans (z560 j)
  have z572 : h59 112 0 = 0 := (upN E59 (fun z => absurd z.1 (by decide))).trans z561
  have z573 : h59 112 1 = 0 := (upN E59 (fun z => absurd z.1 (by decide))).trans z562
  have u574 : h59 113 = fun _ => 0 := (upo E59 (by decide)).trans u563
  have g575 := g564.put E59 (by decide)
  have g576 := g569.put E59 (by decide)
  have F577 : ∀ k, k < 108 → h59 k = h0 k := frn_up F566 E59 (by decide)
  clear g564 g569 F566 E58 g565 g567 g568 L559 z560 z561 z562 u563
  have g578 : gR 137 138 h59 := gR_1 (gC_of bt_137 (fun j hj => by rw [upf E59]; show (0 : Int) ≤ (if j = 0 then 1 else _) ∧ (if j = 0 then 1 else _) ≤ (1 : Int); split; (decide); (exact Kh59 _ bt_137 j hj)))
  have g579 := g576.join g578
  refine y_dup (M := M_X12_init_109) 243 dX12_init_243 rfl ?_
  refine y_iconst (M := M_X12_init_109) 244 dX12_init_244 ?_
  refine y_lconst (M := M_X12_init_109) 245 dX12_init_245 (v := 0) ?_
  refine y_last (M := M_X12_init_109) 246 dX12_init_246 (tk_g (by decide) o_137) (by decide) (by decide) ?_
  obtain ⟨h60, E60⟩ : ∃ x, x = m_up h59 137 1 0 := ⟨_, rfl⟩
  show m_Y _ _ _ _ _ _ (m_up h59 137 1 0) _
  rw [← E60]
  have Kh60 := g579 137 (by decide) (by decide)
  have g580 : gR 111 137 h59 := fun k q1 q2 => g579 k (by omega) (by omega)
  have L581 := sl_same L570 (upo E60 (by decide))
  have z582 : ∀ j, h60 110 j = 0 := fun j => (upN E60 (fun z => absurd z.1 (by decide))).trans (z571 j)
  have z583 : h60 112 0 = 0 := (upN E60 (fun z => absurd z.1 (by decide))).trans z572
  have z584 : h60 112 1 = 0 := (upN E60 (fun z => absurd z.1 (by decide))).trans z573
  have u585 : h60 113 = fun _ => 0 := (upo E60 (by decide)).trans u574
  have g586 := g575.put E60 (by decide)
  have g587 := g580.put E60 (by decide)
  have F588 : ∀ k, k < 108 → h60 k = h0 k := frn_up F577 E60 (by decide)
  clear g575 g580 F577 E59 g576 g578 g579 L570 z571 z572 z573 u574
  have g589 : gR 137 138 h60 := gR_1 (gC_of bt_137 (fun j hj => by rw [upf E60]; show (0 : Int) ≤ (if j = 1 then 0 else _) ∧ (if j = 1 then 0 else _) ≤ (1 : Int); split; (decide); (exact Kh60 _ bt_137 j hj)))
  have g590 := g587.join g589
  refine y_dup (M := M_X12_init_109) 247 dX12_init_247 rfl ?_
  refine y_iconst (M := M_X12_init_109) 248 dX12_init_248 ?_
  refine y_lconst (M := M_X12_init_109) 249 dX12_init_249 (v := 0) ?_
  refine y_last (M := M_X12_init_109) 250 dX12_init_250 (tk_g (by decide) o_137) (by decide) (by decide) ?_
  obtain ⟨h61, E61⟩ : ∃ x, x = m_up h60 137 2 0 := ⟨_, rfl⟩
  show m_Y _ _ _ _ _ _ (m_up h60 137 2 0) _
  rw [← E61]
  have Kh61 := g590 137 (by decide) (by decide)
  have g591 : gR 111 137 h60 := fun k q1 q2 => g590 k (by omega) (by omega)
  have L592 := sl_same L581 (upo E61 (by decide))
  have z593 : ∀ j, h61 110 j = 0 := fun j => (upN E61 (fun z => absurd z.1 (by decide))).trans (z582 j)
  have z594 : h61 112 0 = 0 := (upN E61 (fun z => absurd z.1 (by decide))).trans z583
  have z595 : h61 112 1 = 0 := (upN E61 (fun z => absurd z.1 (by decide))).trans z584
  have u596 : h61 113 = fun _ => 0 := (upo E61 (by decide)).trans u585
  have g597 := g586.put E61 (by decide)
  have g598 := g591.put E61 (by decide)
  have F599 : ∀ k, k < 108 → h61 k = h0 k := frn_up F588 E61 (by decide)
  clear g586 g591 F588 E60 g587 g589 g590 L581 z582 z583 z584 u585
  have g600 : gR 137 138 h61 := gR_1 (gC_of bt_137 (fun j hj => by rw [upf E61]; show (0 : Int) ≤ (if j = 2 then 0 else _) ∧ (if j = 2 then 0 else _) ≤ (1 : Int); split; (decide); (exact Kh61 _ bt_137 j hj)))
  have g601 := g598.join g600
  refine y_dup (M := M_X12_init_109) 251 dX12_init_251 rfl ?_
  refine y_iconst (M := M_X12_init_109) 252 dX12_init_252 ?_
  refine y_lconst (M := M_X12_init_109) 253 dX12_init_253 (v := 0) ?_
  refine y_last (M := M_X12_init_109) 254 dX12_init_254 (tk_g (by decide) o_137) (by decide) (by decide) ?_
  obtain ⟨h62, E62⟩ : ∃ x, x = m_up h61 137 3 0 := ⟨_, rfl⟩
  show m_Y _ _ _ _ _ _ (m_up h61 137 3 0) _
  rw [← E62]
  have Kh62 := g601 137 (by decide) (by decide)
  have g602 : gR 111 137 h61 := fun k q1 q2 => g601 k (by omega) (by omega)
  have L603 := sl_same L592 (upo E62 (by decide))
  have z604 : ∀ j, h62 110 j = 0 := fun j => (upN E62 (fun z => absurd z.1 (by decide))).trans (z593 j)
  have z605 : h62 112 0 = 0 := (upN E62 (fun z => absurd z.1 (by decide))).trans z594
  have z606 : h62 112 1 = 0 := (upN E62 (fun z => absurd z.1 (by decide))).trans z595
  have u607 : h62 113 = fun _ => 0 := (upo E62 (by decide)).trans u596
  have g608 := g597.put E62 (by decide)
  have g609 := g602.put E62 (by decide)
  have F610 : ∀ k, k < 108 → h62 k = h0 k := frn_up F599 E62 (by decide)
  clear g597 g602 F599 E61 g598 g600 g601 L592 z593 z594 z595 u596
  have g611 : gR 137 138 h62 := gR_1 (gC_of bt_137 (fun j hj => by rw [upf E62]; show (0 : Int) ≤ (if j = 3 then 0 else _) ∧ (if j = 3 then 0 else _) ≤ (1 : Int); split; (decide); (exact Kh62 _ bt_137 j hj)))
  have g612 := g609.join g611
  refine y_dup (M := M_X12_init_109) 255 dX12_init_255 rfl ?_
  refine y_iconst (M := M_X12_init_109) 256 dX12_init_256 ?_
  refine y_lconst (M := M_X12_init_109) 257 dX12_init_257 (v := 0) ?_
  refine y_last (M := M_X12_init_109) 258 dX12_init_258 (tk_g (by decide) o_137) (by decide) (by decide) ?_
  obtain ⟨h63, E63⟩ : ∃ x, x = m_up h62 137 4 0 := ⟨_, rfl⟩
  show m_Y _ _ _ _ _ _ (m_up h62 137 4 0) _
  rw [← E63]
  have Kh63 := g612 137 (by decide) (by decide)
  have g613 : gR 111 137 h62 := fun k q1 q2 => g612 k (by omega) (by omega)
  have L614 := sl_same L603 (upo E63 (by decide))
  have z615 : ∀ j, h63 110 j = 0 := fun j => (upN E63 (fun z => absurd z.1 (by decide))).trans (z604 j)
  have z616 : h63 112 0 = 0 := (upN E63 (fun z => absurd z.1 (by decide))).trans z605
  have z617 : h63 112 1 = 0 := (upN E63 (fun z => absurd z.1 (by decide))).trans z606
  have u618 : h63 113 = fun _ => 0 := (upo E63 (by decide)).trans u607
  have g619 := g608.put E63 (by decide)
  have g620 := g613.put E63 (by decide)
  have F621 : ∀ k, k < 108 → h63 k = h0 k := frn_up F610 E63 (by decide)
  clear g608 g613 F610 E62 g609 g611 g612 L603 z604 z605 z606 u607
  have g622 : gR 137 138 h63 := gR_1 (gC_of bt_137 (fun j hj => by rw [upf E63]; show (0 : Int) ≤ (if j = 4 then 0 else _) ∧ (if j = 4 then 0 else _) ≤ (1 : Int); split; (decide); (exact Kh63 _ bt_137 j hj)))
  have g623 := g620.join g622
  refine y_putF (M := M_X12_init_109) 259 dX12_init_259 ff_X12_100 (tk_g (by decide) o_108) (fun E m t q => q.1) rfl rfp_a (fun h64 E64 => ?_)
  have L624 := sl_up L614 E64 (by decide)
  have z625 : ∀ j, h64 110 j = 0 := fun j => (upN E64 (fun z => absurd z.1 (by decide))).trans (z615 j)
  have z626 : h64 112 0 = 0 := (upN E64 (fun z => absurd z.1 (by decide))).trans z616
  have z627 : h64 112 1 = 0 := (upN E64 (fun z => absurd z.1 (by decide))).trans z617
  have u628 : h64 113 = fun _ => 0 := (upo E64 (by decide)).trans u618
  have g629 := g619.put E64 (by decide)
  have g630 := g623.put E64 (by decide)
  have F631 : ∀ k, k < 108 → h64 k = h0 k := frn_up F621 E64 (by decide)
  clear g619 g623 F621 E63 g620 g622 L614 z615 z616 z617 u618
  have f632 : h64 108 42 = ((137 : Nat) : Int) := upE E64
  refine y_aload_n (M := M_X12_init_109) 262 dX12_init_262 rfl ?_
  refine y_bipush (M := M_X12_init_109) 263 dX12_init_263 ?_
  refine y_newaJ (M := M_X12_init_109) 265 dX12_init_265 acJ (N := 20) (by decide) (tk_s o_138) (tk_l (by decide)) (tk_b (by decide) (by decide) (by decide)) (fun h65 E65 => ?_)
  have L633 := sl_c f632 L624
  have L634 := sl_same L633 (m_nw_ne E65 (by decide))
  have z635 : ∀ j, h65 110 j = 0 := fun j => (congrFun (m_nw_ne E65 (by decide)) j).trans (z625 j)
  have z636 : h65 112 0 = 0 := (congrFun (m_nw_ne E65 (by decide)) 0).trans z626
  have z637 : h65 112 1 = 0 := (congrFun (m_nw_ne E65 (by decide)) 1).trans z627
  have u638 : h65 113 = fun _ => 0 := (m_nw_ne E65 (by decide)).trans u628
  have g639 := g629.nw E65 (by decide)
  have g640 := g630.nw E65 (by decide)
  have F641 : ∀ k, k < 108 → h65 k = h0 k := frn_nw F631 E65 (by decide)
  clear g629 g630 F631 E64 f632 L624 L633 z625 z626 z627 u628
  have g642 : gR 138 139 h65 := gR_1 (gC_of bt_138 (fun j hj => by rw [nwJ E65]; show (0 : Int) ≤ 0 ∧ (0 : Int) ≤ 99999999; decide))
  have g643 := g640.join g642
  refine y_putF (M := M_X12_init_109) 267 dX12_init_267 ff_X12_103 (tk_g (by decide) o_108) (fun E m t q => q.1) rfl rfp_a (fun h66 E66 => ?_)
  have L644 := sl_up L634 E66 (by decide)
  have z645 : ∀ j, h66 110 j = 0 := fun j => (upN E66 (fun z => absurd z.1 (by decide))).trans (z635 j)
  have z646 : h66 112 0 = 0 := (upN E66 (fun z => absurd z.1 (by decide))).trans z636
  have z647 : h66 112 1 = 0 := (upN E66 (fun z => absurd z.1 (by decide))).trans z637
  have u648 : h66 113 = fun _ => 0 := (upo E66 (by decide)).trans u638
  have g649 := g639.put E66 (by decide)
  have g650 := g643.put E66 (by decide)
  have F651 : ∀ k, k < 108 → h66 k = h0 k := frn_up F641 E66 (by decide)
  clear g639 g643 F641 E65 g640 g642 L634 z635 z636 z637 u638
  have f652 : h66 108 43 = ((138 : Nat) : Int) := upE E66
  refine y_aload_n (M := M_X12_init_109) 270 dX12_init_270 rfl ?_
  refine y_bipush (M := M_X12_init_109) 271 dX12_init_271 ?_
  refine y_newaJ (M := M_X12_init_109) 273 dX12_init_273 acJ (N := 10) (by decide) (tk_s o_139) (tk_l (by decide)) (tk_b (by decide) (by decide) (by decide)) (fun h67 E67 => ?_)
  have L653 := sl_c f652 L644
  have L654 := sl_same L653 (m_nw_ne E67 (by decide))
  have z655 : ∀ j, h67 110 j = 0 := fun j => (congrFun (m_nw_ne E67 (by decide)) j).trans (z645 j)
  have z656 : h67 112 0 = 0 := (congrFun (m_nw_ne E67 (by decide)) 0).trans z646
  have z657 : h67 112 1 = 0 := (congrFun (m_nw_ne E67 (by decide)) 1).trans z647
  have u658 : h67 113 = fun _ => 0 := (m_nw_ne E67 (by decide)).trans u648
  have g659 := g649.nw E67 (by decide)
  have g660 := g650.nw E67 (by decide)
  have F661 : ∀ k, k < 108 → h67 k = h0 k := frn_nw F651 E67 (by decide)
  clear g649 g650 F651 E66 f652 L644 L653 z645 z646 z647 u648
  have g662 : gR 139 140 h67 := gR_1 (gC_of bt_139 (fun j hj => by rw [nwJ E67]; exact trivial))
  have g663 := g660.join g662
  refine y_putF (M := M_X12_init_109) 275 dX12_init_275 ff_X12_106 (tk_g (by decide) o_108) (fun E m t q => q.1) rfl rfp_a (fun h68 E68 => ?_)
  have L664 := sl_up L654 E68 (by decide)
  have z665 : ∀ j, h68 110 j = 0 := fun j => (upN E68 (fun z => absurd z.1 (by decide))).trans (z655 j)
  have z666 : h68 112 0 = 0 := (upN E68 (fun z => absurd z.1 (by decide))).trans z656
  have z667 : h68 112 1 = 0 := (upN E68 (fun z => absurd z.1 (by decide))).trans z657
  have u668 : h68 113 = fun _ => 0 := (upo E68 (by decide)).trans u658
  have g669 := g659.put E68 (by decide)
  have g670 := g663.put E68 (by decide)
  have F671 : ∀ k, k < 108 → h68 k = h0 k := frn_up F661 E68 (by decide)
  clear g659 g663 F661 E67 g660 g662 L654 z655 z656 z657 u658
  have f672 : h68 108 48 = ((139 : Nat) : Int) := upE E68
  refine y_aload_n (M := M_X12_init_109) 278 dX12_init_278 rfl ?_
  refine y_bipush (M := M_X12_init_109) 279 dX12_init_279 ?_
  refine y_newaJ (M := M_X12_init_109) 281 dX12_init_281 acJ (N := 10) (by decide) (tk_s o_140) (tk_l (by decide)) (tk_b (by decide) (by decide) (by decide)) (fun h69 E69 => ?_)
  have L673 := sl_c f672 L664
  have L674 := sl_same L673 (m_nw_ne E69 (by decide))
  have z675 : ∀ j, h69 110 j = 0 := fun j => (congrFun (m_nw_ne E69 (by decide)) j).trans (z665 j)
  have z676 : h69 112 0 = 0 := (congrFun (m_nw_ne E69 (by decide)) 0).trans z666
  have z677 : h69 112 1 = 0 := (congrFun (m_nw_ne E69 (by decide)) 1).trans z667
  have u678 : h69 113 = fun _ => 0 := (m_nw_ne E69 (by decide)).trans u668
  have g679 := g669.nw E69 (by decide)
  have g680 := g670.nw E69 (by decide)
  have F681 : ∀ k, k < 108 → h69 k = h0 k := frn_nw F671 E69 (by decide)
  clear g669 g670 F671 E68 f672 L664 L673 z665 z666 z667 u668
  have g682 : gR 140 141 h69 := gR_1 (gC_of bt_140 (fun j hj => by rw [nwJ E69]; exact trivial))
  have g683 := g680.join g682
  refine y_putF (M := M_X12_init_109) 283 dX12_init_283 ff_X12_109 (tk_g (by decide) o_108) (fun E m t q => q.1) rfl rfp_a (fun h70 E70 => ?_)
  have L684 := sl_up L674 E70 (by decide)
  have z685 : ∀ j, h70 110 j = 0 := fun j => (upN E70 (fun z => absurd z.1 (by decide))).trans (z675 j)
  have z686 : h70 112 0 = 0 := (upN E70 (fun z => absurd z.1 (by decide))).trans z676
  have z687 : h70 112 1 = 0 := (upN E70 (fun z => absurd z.1 (by decide))).trans z677
  have u688 : h70 113 = fun _ => 0 := (upo E70 (by decide)).trans u678
  have g689 := g679.put E70 (by decide)
  have g690 := g683.put E70 (by decide)
  have F691 : ∀ k, k < 108 → h70 k = h0 k := frn_up F681 E70 (by decide)
  clear g679 g683 F681 E69 g680 g682 L674 z675 z676 z677 u678
  have f692 : h70 108 49 = ((140 : Nat) : Int) := upE E70
  refine y_aload_n (M := M_X12_init_109) 286 dX12_init_286 rfl ?_
  refine y_bipush (M := M_X12_init_109) 287 dX12_init_287 ?_
  refine y_newaJ (M := M_X12_init_109) 289 dX12_init_289 acJ (N := 10) (by decide) (tk_s o_141) (tk_l (by decide)) (tk_b (by decide) (by decide) (by decide)) (fun h71 E71 => ?_)
  have L693 := sl_c f692 L684
  have L694 := sl_same L693 (m_nw_ne E71 (by decide))
  have z695 : ∀ j, h71 110 j = 0 := fun j => (congrFun (m_nw_ne E71 (by decide)) j).trans (z685 j)
  have z696 : h71 112 0 = 0 := (congrFun (m_nw_ne E71 (by decide)) 0).trans z686
  have z697 : h71 112 1 = 0 := (congrFun (m_nw_ne E71 (by decide)) 1).trans z687
  have u698 : h71 113 = fun _ => 0 := (m_nw_ne E71 (by decide)).trans u688
  have g699 := g689.nw E71 (by decide)
  have g700 := g690.nw E71 (by decide)
  have F701 : ∀ k, k < 108 → h71 k = h0 k := frn_nw F691 E71 (by decide)
  clear g689 g690 F691 E70 f692 L684 L693 z685 z686 z687 u688
  have g702 : gR 141 142 h71 := gR_1 (gC_of bt_141 (fun j hj => by rw [nwJ E71]; exact trivial))
  have g703 := g700.join g702
  refine y_putF (M := M_X12_init_109) 291 dX12_init_291 ff_X12_112 (tk_g (by decide) o_108) (fun E m t q => q.1) rfl rfp_a (fun h72 E72 => ?_)
  have L704 := sl_up L694 E72 (by decide)
  have z705 : ∀ j, h72 110 j = 0 := fun j => (upN E72 (fun z => absurd z.1 (by decide))).trans (z695 j)
  have z706 : h72 112 0 = 0 := (upN E72 (fun z => absurd z.1 (by decide))).trans z696
  have z707 : h72 112 1 = 0 := (upN E72 (fun z => absurd z.1 (by decide))).trans z697
  have u708 : h72 113 = fun _ => 0 := (upo E72 (by decide)).trans u698
  have g709 := g699.put E72 (by decide)
  have g710 := g703.put E72 (by decide)
  have F711 : ∀ k, k < 108 → h72 k = h0 k := frn_up F701 E72 (by decide)
  clear g699 g703 F701 E71 g700 g702 L694 z695 z696 z697 u698
  have f712 : h72 108 50 = ((141 : Nat) : Int) := upE E72
  refine y_aload_n (M := M_X12_init_109) 294 dX12_init_294 rfl ?_
  refine y_bipush (M := M_X12_init_109) 295 dX12_init_295 ?_
  refine y_newaJ (M := M_X12_init_109) 297 dX12_init_297 acJ (N := 10) (by decide) (tk_s o_142) (tk_l (by decide)) (tk_b (by decide) (by decide) (by decide)) (fun h73 E73 => ?_)
  have L713 := sl_c f712 L704
  have L714 := sl_same L713 (m_nw_ne E73 (by decide))
  have z715 : ∀ j, h73 110 j = 0 := fun j => (congrFun (m_nw_ne E73 (by decide)) j).trans (z705 j)
  have z716 : h73 112 0 = 0 := (congrFun (m_nw_ne E73 (by decide)) 0).trans z706
  have z717 : h73 112 1 = 0 := (congrFun (m_nw_ne E73 (by decide)) 1).trans z707
  have u718 : h73 113 = fun _ => 0 := (m_nw_ne E73 (by decide)).trans u708
  have g719 := g709.nw E73 (by decide)
  have g720 := g710.nw E73 (by decide)
  have F721 : ∀ k, k < 108 → h73 k = h0 k := frn_nw F711 E73 (by decide)
  clear g709 g710 F711 E72 f712 L704 L713 z705 z706 z707 u708
  have g722 : gR 142 143 h73 := gR_1 (gC_of bt_142 (fun j hj => by rw [nwJ E73]; exact trivial))
  have g723 := g720.join g722
  refine y_putF (M := M_X12_init_109) 299 dX12_init_299 ff_X12_115 (tk_g (by decide) o_108) (fun E m t q => q.1) rfl rfp_a (fun h74 E74 => ?_)
  have L724 := sl_up L714 E74 (by decide)
  have z725 : ∀ j, h74 110 j = 0 := fun j => (upN E74 (fun z => absurd z.1 (by decide))).trans (z715 j)
  have z726 : h74 112 0 = 0 := (upN E74 (fun z => absurd z.1 (by decide))).trans z716
  have z727 : h74 112 1 = 0 := (upN E74 (fun z => absurd z.1 (by decide))).trans z717
  have u728 : h74 113 = fun _ => 0 := (upo E74 (by decide)).trans u718
  have g729 := g719.put E74 (by decide)
  have g730 := g723.put E74 (by decide)
  have F731 : ∀ k, k < 108 → h74 k = h0 k := frn_up F721 E74 (by decide)
  clear g719 g723 F721 E73 g720 g722 L714 z715 z716 z717 u718
  have f732 : h74 108 51 = ((142 : Nat) : Int) := upE E74
  refine y_aload_n (M := M_X12_init_109) 302 dX12_init_302 rfl ?_
  refine y_iconst (M := M_X12_init_109) 303 dX12_init_303 ?_
  refine y_newaJ (M := M_X12_init_109) 304 dX12_init_304 acJ (N := 3) (by decide) (tk_s o_143) (tk_l (by decide)) (tk_b (by decide) (by decide) (by decide)) (fun h75 E75 => ?_)
  have L733 := sl_c f732 L724
  have L734 := sl_same L733 (m_nw_ne E75 (by decide))
  have z735 : ∀ j, h75 110 j = 0 := fun j => (congrFun (m_nw_ne E75 (by decide)) j).trans (z725 j)
  have z736 : h75 112 0 = 0 := (congrFun (m_nw_ne E75 (by decide)) 0).trans z726
  have z737 : h75 112 1 = 0 := (congrFun (m_nw_ne E75 (by decide)) 1).trans z727
  have u738 : h75 113 = fun _ => 0 := (m_nw_ne E75 (by decide)).trans u728
  have g739 := g729.nw E75 (by decide)
  have g740 := g730.nw E75 (by decide)
  have F741 : ∀ k, k < 108 → h75 k = h0 k := frn_nw F731 E75 (by decide)
  clear g729 g730 F731 E74 f732 L724 L733 z725 z726 z727 u728
  have g742 : gR 143 144 h75 := gR_1 (gC_of bt_143 (fun j hj => by rw [nwJ E75]; exact trivial))
  have g743 := g740.join g742
  refine y_putF (M := M_X12_init_109) 306 dX12_init_306 ff_X12_118 (tk_g (by decide) o_108) (fun E m t q => q.1) rfl rfp_a (fun h76 E76 => ?_)
  have L744 := sl_up L734 E76 (by decide)
  have z745 : ∀ j, h76 110 j = 0 := fun j => (upN E76 (fun z => absurd z.1 (by decide))).trans (z735 j)
  have z746 : h76 112 0 = 0 := (upN E76 (fun z => absurd z.1 (by decide))).trans z736
  have z747 : h76 112 1 = 0 := (upN E76 (fun z => absurd z.1 (by decide))).trans z737
  have u748 : h76 113 = fun _ => 0 := (upo E76 (by decide)).trans u738
  have g749 := g739.put E76 (by decide)
  have g750 := g743.put E76 (by decide)
  have F751 : ∀ k, k < 108 → h76 k = h0 k := frn_up F741 E76 (by decide)
  clear g739 g743 F741 E75 g740 g742 L734 z735 z736 z737 u738
  have f752 : h76 108 52 = ((143 : Nat) : Int) := upE E76
  refine y_aload_n (M := M_X12_init_109) 309 dX12_init_309 rfl ?_
  refine y_iconst (M := M_X12_init_109) 310 dX12_init_310 ?_
  refine y_newaJ (M := M_X12_init_109) 311 dX12_init_311 acJ (N := 3) (by decide) (tk_s o_144) (tk_l (by decide)) (tk_b (by decide) (by decide) (by decide)) (fun h77 E77 => ?_)
  have L753 := sl_c f752 L744
  have L754 := sl_same L753 (m_nw_ne E77 (by decide))
  have z755 : ∀ j, h77 110 j = 0 := fun j => (congrFun (m_nw_ne E77 (by decide)) j).trans (z745 j)
  have z756 : h77 112 0 = 0 := (congrFun (m_nw_ne E77 (by decide)) 0).trans z746
  have z757 : h77 112 1 = 0 := (congrFun (m_nw_ne E77 (by decide)) 1).trans z747
  have u758 : h77 113 = fun _ => 0 := (m_nw_ne E77 (by decide)).trans u748
  have g759 := g749.nw E77 (by decide)
  have g760 := g750.nw E77 (by decide)
  have F761 : ∀ k, k < 108 → h77 k = h0 k := frn_nw F751 E77 (by decide)
  clear g749 g750 F751 E76 f752 L744 L753 z745 z746 z747 u748
  have g762 : gR 144 145 h77 := gR_1 (gC_of bt_144 (fun j hj => by rw [nwJ E77]; exact trivial))
  have g763 := g760.join g762
  refine y_putF (M := M_X12_init_109) 313 dX12_init_313 ff_X12_121 (tk_g (by decide) o_108) (fun E m t q => q.1) rfl rfp_a (fun h78 E78 => ?_)
  have L764 := sl_up L754 E78 (by decide)
  have z765 : ∀ j, h78 110 j = 0 := fun j => (upN E78 (fun z => absurd z.1 (by decide))).trans (z755 j)
  have z766 : h78 112 0 = 0 := (upN E78 (fun z => absurd z.1 (by decide))).trans z756
  have z767 : h78 112 1 = 0 := (upN E78 (fun z => absurd z.1 (by decide))).trans z757
  have u768 : h78 113 = fun _ => 0 := (upo E78 (by decide)).trans u758
  have g769 := g759.put E78 (by decide)
  have g770 := g763.put E78 (by decide)
  have F771 : ∀ k, k < 108 → h78 k = h0 k := frn_up F761 E78 (by decide)
  clear g759 g763 F761 E77 g760 g762 L754 z755 z756 z757 u758
  have f772 : h78 108 53 = ((144 : Nat) : Int) := upE E78
  refine y_aload_n (M := M_X12_init_109) 316 dX12_init_316 rfl ?_
  refine y_bipush (M := M_X12_init_109) 317 dX12_init_317 ?_
  refine y_newaI (M := M_X12_init_109) 319 dX12_init_319 acI (N := 16) (by decide) (tk_s o_145) (tk_l (by decide)) (tk_b (by decide) (by decide) (by decide)) (fun h79 E79 => ?_)
  have L773 := sl_c f772 L764
  have L774 := sl_same L773 (m_nw_ne E79 (by decide))
  have z775 : ∀ j, h79 110 j = 0 := fun j => (congrFun (m_nw_ne E79 (by decide)) j).trans (z765 j)
  have z776 : h79 112 0 = 0 := (congrFun (m_nw_ne E79 (by decide)) 0).trans z766
  have z777 : h79 112 1 = 0 := (congrFun (m_nw_ne E79 (by decide)) 1).trans z767
  have u778 : h79 113 = fun _ => 0 := (m_nw_ne E79 (by decide)).trans u768
  have g779 := g769.nw E79 (by decide)
  have g780 := g770.nw E79 (by decide)
  have F781 : ∀ k, k < 108 → h79 k = h0 k := frn_nw F771 E79 (by decide)
  clear g769 g770 F771 E78 f772 L764 L773 z765 z766 z767 u768
  have g782 : gR 145 146 h79 := gR_1 (gC_of bt_145 (fun j hj => by rw [nwI E79]; show (0 : Int) ≤ 0 ∧ (0 : Int) ≤ 15; decide))
  have g783 := g780.join g782
  refine y_putF (M := M_X12_init_109) 321 dX12_init_321 ff_X12_124 (tk_g (by decide) o_108) (fun E m t q => q.1) rfl rfp_a (fun h80 E80 => ?_)
  have L784 := sl_up L774 E80 (by decide)
  have z785 : ∀ j, h80 110 j = 0 := fun j => (upN E80 (fun z => absurd z.1 (by decide))).trans (z775 j)
  have z786 : h80 112 0 = 0 := (upN E80 (fun z => absurd z.1 (by decide))).trans z776
  have z787 : h80 112 1 = 0 := (upN E80 (fun z => absurd z.1 (by decide))).trans z777
  have u788 : h80 113 = fun _ => 0 := (upo E80 (by decide)).trans u778
  have g789 := g779.put E80 (by decide)
  have g790 := g783.put E80 (by decide)
  have F791 : ∀ k, k < 108 → h80 k = h0 k := frn_up F781 E80 (by decide)
  clear g779 g783 F781 E79 g780 g782 L774 z775 z776 z777 u778
  have f792 : h80 108 56 = ((145 : Nat) : Int) := upE E80
  refine y_aload_n (M := M_X12_init_109) 324 dX12_init_324 rfl ?_
  refine y_iconst (M := M_X12_init_109) 325 dX12_init_325 ?_
  refine y_newaI (M := M_X12_init_109) 326 dX12_init_326 acI (N := 3) (by decide) (tk_s o_146) (tk_l (by decide)) (tk_b (by decide) (by decide) (by decide)) (fun h81 E81 => ?_)
  have L793 := sl_c f792 L784
  have L794 := sl_same L793 (m_nw_ne E81 (by decide))
  have z795 : ∀ j, h81 110 j = 0 := fun j => (congrFun (m_nw_ne E81 (by decide)) j).trans (z785 j)
  have z796 : h81 112 0 = 0 := (congrFun (m_nw_ne E81 (by decide)) 0).trans z786
  have z797 : h81 112 1 = 0 := (congrFun (m_nw_ne E81 (by decide)) 1).trans z787
  have u798 : h81 113 = fun _ => 0 := (m_nw_ne E81 (by decide)).trans u788
  have g799 := g789.nw E81 (by decide)
  have g800 := g790.nw E81 (by decide)
  have F801 : ∀ k, k < 108 → h81 k = h0 k := frn_nw F791 E81 (by decide)
  clear g789 g790 F791 E80 f792 L784 L793 z785 z786 z787 u788
  have g802 : gR 146 147 h81 := gR_1 (gC_of bt_146 (fun j hj => by rw [nwI E81]; show (0 : Int) ≤ 0 ∧ (0 : Int) ≤ 31; decide))
  have g803 := g800.join g802
  refine y_putF (M := M_X12_init_109) 328 dX12_init_328 ff_X12_127 (tk_g (by decide) o_108) (fun E m t q => q.1) rfl rfp_a (fun h82 E82 => ?_)
  have L804 := sl_up L794 E82 (by decide)
  have z805 : ∀ j, h82 110 j = 0 := fun j => (upN E82 (fun z => absurd z.1 (by decide))).trans (z795 j)
  have z806 : h82 112 0 = 0 := (upN E82 (fun z => absurd z.1 (by decide))).trans z796
  have z807 : h82 112 1 = 0 := (upN E82 (fun z => absurd z.1 (by decide))).trans z797
  have u808 : h82 113 = fun _ => 0 := (upo E82 (by decide)).trans u798
  have g809 := g799.put E82 (by decide)
  have g810 := g803.put E82 (by decide)
  have F811 : ∀ k, k < 108 → h82 k = h0 k := frn_up F801 E82 (by decide)
  clear g799 g803 F801 E81 g800 g802 L794 z795 z796 z797 u798
  have f812 : h82 108 57 = ((146 : Nat) : Int) := upE E82
  refine y_aload_n (M := M_X12_init_109) 331 dX12_init_331 rfl ?_
  refine y_bipush (M := M_X12_init_109) 332 dX12_init_332 ?_
  refine y_newaI (M := M_X12_init_109) 334 dX12_init_334 acI (N := 32) (by decide) (tk_s o_147) (tk_l (by decide)) (tk_b (by decide) (by decide) (by decide)) (fun h83 E83 => ?_)
  have L813 := sl_c f812 L804
  have L814 := sl_same L813 (m_nw_ne E83 (by decide))
  have z815 : ∀ j, h83 110 j = 0 := fun j => (congrFun (m_nw_ne E83 (by decide)) j).trans (z805 j)
  have z816 : h83 112 0 = 0 := (congrFun (m_nw_ne E83 (by decide)) 0).trans z806
  have z817 : h83 112 1 = 0 := (congrFun (m_nw_ne E83 (by decide)) 1).trans z807
  have u818 : h83 113 = fun _ => 0 := (m_nw_ne E83 (by decide)).trans u808
  have g819 := g809.nw E83 (by decide)
  have g820 := g810.nw E83 (by decide)
  have F821 : ∀ k, k < 108 → h83 k = h0 k := frn_nw F811 E83 (by decide)
  clear g809 g810 F811 E82 f812 L804 L813 z805 z806 z807 u808
  have g822 : gR 147 148 h83 := gR_1 (gC_of bt_147 (fun j hj => by rw [nwI E83]; show (0 : Int) ≤ 0 ∧ (0 : Int) ≤ 3; decide))
  have g823 := g820.join g822
  refine y_putF (M := M_X12_init_109) 336 dX12_init_336 ff_X12_130 (tk_g (by decide) o_108) (fun E m t q => q.1) rfl rfp_a (fun h84 E84 => ?_)
  have L824 := sl_up L814 E84 (by decide)
  have z825 : ∀ j, h84 110 j = 0 := fun j => (upN E84 (fun z => absurd z.1 (by decide))).trans (z815 j)
  have z826 : h84 112 0 = 0 := (upN E84 (fun z => absurd z.1 (by decide))).trans z816
  have z827 : h84 112 1 = 0 := (upN E84 (fun z => absurd z.1 (by decide))).trans z817
  have u828 : h84 113 = fun _ => 0 := (upo E84 (by decide)).trans u818
  have g829 := g819.put E84 (by decide)
  have g830 := g823.put E84 (by decide)
  have F831 : ∀ k, k < 108 → h84 k = h0 k := frn_up F821 E84 (by decide)
  clear g819 g823 F821 E83 g820 g822 L814 z815 z816 z817 u818
  have f832 : h84 108 59 = ((147 : Nat) : Int) := upE E84
  have L833 := sl_c f832 L824
  have e3_ := sl_g L833 3 ((110 : Nat) : Int) (by decide)
  refine y_iconst (M := M_mi) 339 dX12_init_339 ?_
  refine y_istore_n (M := M_mi) 340 dX12_init_340 (ls' := [some (mR 108), some (mI 0)]) (by decide) rfl ?_
  refine mi_1 (hs := h84) e3_ (fun h1_ I1 => ?_) 32 0 h84 (by decide) (by decide) (by decide) ⟨fun _ _ => rfl, fun j => ?_⟩
  · refine y_iconst (M := M_mi) 363 dX12_init_363 ?_
    refine y_istore_n (M := M_mi) 364 dX12_init_364 (ls' := [some (mR 108), some (mI 0)]) (by decide) rfl ?_
    refine mi_2 (hs := h84) e3_ (fun h2_ I2 => ?_) 6 0 h1_ (by decide) (by decide) (by decide) I1
    refine y_iconst (M := M_mi) 387 dX12_init_387 ?_
    refine y_istore_n (M := M_mi) 388 dX12_init_388 (ls' := [some (mR 108), some (mI 0)]) (by decide) rfl ?_
    refine mi_3 (hs := h84) e3_ (fun hz I3 => ?_) 16 0 h2_ (by decide) (by decide) (by decide) I2
    have CE : ∀ k, k ≠ 110 → hz k = h84 k := I3.1
    have L834 := sl_same L833 (CE 108 (by decide))
    have u835 : hz 113 = fun _ => 0 := (CE 113 (by decide)).trans u828
    have g836 := g829.cell CE (by decide)
    have g837 := g830.cell CE (by decide)
    have F838 : ∀ k, k < 108 → hz k = h0 k := frn_ce F831 CE (by decide)
    clear g829 g830 F831 E84 f832 L824 L833 u828
    have g839 : gR 110 111 hz := gR_1 (rw_ok I3.2)
    have g840 := g836.join g839
    have g841 := g840.join g837
    have g842 : gR 108 109 hz := gR_1 (gC_of bt_108 (fun j hj => by have q : j = 0 ∨ j = 1 ∨ j = 2 ∨ j = 3 ∨ j = 4 ∨ j = 5 ∨ j = 6 ∨ j = 7 ∨ j = 8 ∨ j = 9 ∨ j = 10 ∨ j = 11 ∨ j = 12 ∨ j = 13 ∨ j = 14 ∨ j = 15 ∨ j = 16 ∨ j = 17 ∨ j = 18 ∨ j = 19 ∨ j = 20 ∨ j = 21 ∨ j = 22 ∨ j = 23 ∨ j = 24 ∨ j = 25 ∨ j = 26 ∨ j = 27 ∨ j = 28 ∨ j = 29 ∨ j = 30 ∨ j = 31 ∨ j = 32 ∨ j = 33 ∨ j = 34 ∨ j = 35 ∨ j = 36 ∨ j = 37 ∨ j = 38 ∨ j = 39 ∨ j = 40 ∨ j = 41 ∨ j = 42 ∨ j = 43 ∨ j = 44 ∨ j = 45 ∨ j = 46 ∨ j = 47 ∨ j = 48 ∨ j = 49 ∨ j = 50 ∨ j = 51 ∨ j = 52 ∨ j = 53 ∨ j = 54 ∨ j = 55 ∨ j = 56 ∨ j = 57 ∨ j = 58 ∨ j = 59 ∨ j = 60 ∨ j = 61 ∨ j = 62 := (by omega); rcases q with rfl | rfl | rfl | rfl | rfl | rfl | rfl | rfl | rfl | rfl | rfl | rfl | rfl | rfl | rfl | rfl | rfl | rfl | rfl | rfl | rfl | rfl | rfl | rfl | rfl | rfl | rfl | rfl | rfl | rfl | rfl | rfl | rfl | rfl | rfl | rfl | rfl | rfl | rfl | rfl | rfl | rfl | rfl | rfl | rfl | rfl | rfl | rfl | rfl | rfl | rfl | rfl | rfl | rfl | rfl | rfl | rfl | rfl | rfl | rfl | rfl | rfl | rfl; exact trivial; exact trivial; exact sl_g L834 2 ((109 : Nat) : Int) (by decide); exact sl_g L834 3 ((110 : Nat) : Int) (by decide); exact sl_g L834 4 ((111 : Nat) : Int) (by decide); exact sl_g L834 5 ((112 : Nat) : Int) (by decide); exact trivial; exact sl_g L834 7 ((113 : Nat) : Int) (by decide); (show (0 : Int) ≤ hz 108 8 ∧ hz 108 8 ≤ (400 : Int); rw [sl_g L834 8 0 (by decide)]; decide); (show (0 : Int) ≤ hz 108 9 ∧ hz 108 9 ≤ (400 : Int); rw [sl_g L834 9 0 (by decide)]; decide); (show (0 : Int) ≤ hz 108 10 ∧ hz 108 10 ≤ (400 : Int); rw [sl_g L834 10 0 (by decide)]; decide); (show (0 : Int) ≤ hz 108 11 ∧ hz 108 11 ≤ (3 : Int); rw [sl_g L834 11 0 (by decide)]; decide); exact trivial; exact trivial; (show (0 : Int) ≤ hz 108 14 ∧ hz 108 14 ≤ (1 : Int); rw [sl_g L834 14 0 (by decide)]; decide); exact sl_g L834 15 ((114 : Nat) : Int) (by decide); (show (0 : Int) ≤ hz 108 16 ∧ hz 108 16 ≤ (200 : Int); rw [sl_g L834 16 0 (by decide)]; decide); (show (0 : Int) ≤ hz 108 17 ∧ hz 108 17 ≤ (24 : Int); rw [sl_g L834 17 0 (by decide)]; decide); (show (0 : Int) ≤ hz 108 18 ∧ hz 108 18 ≤ (6 : Int); rw [sl_g L834 18 0 (by decide)]; decide); exact sl_g L834 19 ((115 : Nat) : Int) (by decide); exact sl_g L834 20 ((116 : Nat) : Int) (by decide); (show (0 : Int) ≤ hz 108 21 ∧ hz 108 21 ≤ (60 : Int); rw [sl_g L834 21 0 (by decide)]; decide); exact sl_g L834 22 ((117 : Nat) : Int) (by decide); exact sl_g L834 23 ((118 : Nat) : Int) (by decide); exact sl_g L834 24 ((119 : Nat) : Int) (by decide); exact sl_g L834 25 ((120 : Nat) : Int) (by decide); exact sl_g L834 26 ((121 : Nat) : Int) (by decide); exact sl_g L834 27 ((122 : Nat) : Int) (by decide); exact sl_g L834 28 ((123 : Nat) : Int) (by decide); exact sl_g L834 29 ((124 : Nat) : Int) (by decide); exact sl_g L834 30 ((125 : Nat) : Int) (by decide); exact sl_g L834 31 ((126 : Nat) : Int) (by decide); exact sl_g L834 32 ((127 : Nat) : Int) (by decide); exact sl_g L834 33 ((128 : Nat) : Int) (by decide); exact sl_g L834 34 ((129 : Nat) : Int) (by decide); exact sl_g L834 35 ((130 : Nat) : Int) (by decide); exact sl_g L834 36 ((131 : Nat) : Int) (by decide); exact sl_g L834 37 ((132 : Nat) : Int) (by decide); exact sl_g L834 38 ((133 : Nat) : Int) (by decide); exact sl_g L834 39 ((134 : Nat) : Int) (by decide); exact sl_g L834 40 ((135 : Nat) : Int) (by decide); exact sl_g L834 41 ((136 : Nat) : Int) (by decide); exact sl_g L834 42 ((137 : Nat) : Int) (by decide); exact sl_g L834 43 ((138 : Nat) : Int) (by decide); (show (0 : Int) ≤ hz 108 44 ∧ hz 108 44 ≤ (1 : Int); rw [sl_g L834 44 0 (by decide)]; decide); (show (0 : Int) ≤ hz 108 45 ∧ hz 108 45 ≤ (1 : Int); rw [sl_g L834 45 0 (by decide)]; decide); (show (0 : Int) ≤ hz 108 46 ∧ hz 108 46 ≤ (1 : Int); rw [sl_g L834 46 0 (by decide)]; decide); (show (0 : Int) ≤ hz 108 47 ∧ hz 108 47 ≤ (1 : Int); rw [sl_g L834 47 0 (by decide)]; decide); exact sl_g L834 48 ((139 : Nat) : Int) (by decide); exact sl_g L834 49 ((140 : Nat) : Int) (by decide); exact sl_g L834 50 ((141 : Nat) : Int) (by decide); exact sl_g L834 51 ((142 : Nat) : Int) (by decide); exact sl_g L834 52 ((143 : Nat) : Int) (by decide); exact sl_g L834 53 ((144 : Nat) : Int) (by decide); (show (0 : Int) ≤ hz 108 54 ∧ hz 108 54 ≤ (1 : Int); rw [sl_g L834 54 0 (by decide)]; decide); (show (0 : Int) ≤ hz 108 55 ∧ hz 108 55 ≤ (1 : Int); rw [sl_g L834 55 0 (by decide)]; decide); exact sl_g L834 56 ((145 : Nat) : Int) (by decide); exact sl_g L834 57 ((146 : Nat) : Int) (by decide); (show (0 : Int) ≤ hz 108 58 ∧ hz 108 58 ≤ (3 : Int); rw [sl_g L834 58 0 (by decide)]; decide); exact sl_g L834 59 ((147 : Nat) : Int) (by decide); (show (0 : Int) ≤ hz 108 60 ∧ hz 108 60 ≤ (1 : Int); rw [sl_g L834 60 0 (by decide)]; decide); (show (-1 : Int) ≤ hz 108 61 ∧ hz 108 61 ≤ (31 : Int); rw [sl_g L834 61 0 (by decide)]; decide); (show (-1 : Int) ≤ hz 108 62 ∧ hz 108 62 ≤ (31 : Int); rw [sl_g L834 62 0 (by decide)]; decide)))
    have g843 := g842.join g841
    have z0 : hz 110 0 = 0 := (I3.2 0).trans rfl
    have k0 : hz 112 0 = 0 := (congrFun (CE 112 (by decide)) 0).trans z826
    have k1 : hz 112 1 = 0 := (congrFun (CE 112 (by decide)) 1).trans z827
    exact y_vret (M := M_mi) 412 dX12_init_412 rfl ⟨rfl, rfl, g843, F838, (sl_g L834 8 0 (by decide)), z0, k0, k1, (sl_g L834 60 0 (by decide)), (sl_g L834 6 0 (by decide)), (sl_g L834 13 (-1) (by decide)), I3.2, u835⟩
  · rw [z825]; exact (rwF_0 j).symm
/-- the ledger at L is what the ledger at K was -/
def LC (L K : Nat) (h0 h' : m_H) : Prop := (∀ j, j < 32 → h' (L + 1) j = h0 (K + 1) j) ∧ (∀ j, j < 6 → h' (L + 2) j = h0 (K + 2) j) ∧ (∀ j, j < 24 → h' (L + 3) j = h0 (K + 3) j) ∧ (∀ j, j < 24 → h' (L + 4) j = h0 (K + 4) j) ∧ (∀ j, j < 24 → h' (L + 5) j = h0 (K + 5) j) ∧ (∀ j, j < 24 → h' (L + 6) j = h0 (K + 6) j) ∧ (∀ j, j < 16 → h' (L + 7) j = h0 (K + 7) j) ∧ h' L 7 = h0 K 7 ∧ h' L 8 = h0 K 8 ∧ h' L 9 = h0 K 9
theorem upo2 {h h' : m_H} {c j : Nat} {v : Int} (E : h' = m_up h c j v) {k : Nat} (hk : k ≠ c) (i : Nat) : h' k i = h k i := by rw [E, m_up_ne1 hk]
theorem cp_at {h h' : m_H} {k0 k1 n : Nat} (E : h' = m_cp h k0 k1 n) {j : Nat} (hj : j < n) : h' k1 j = h k0 j := by rw [E]; simp [m_cp, hj]
theorem cp_ne {h h' : m_H} {k0 k1 n : Nat} (E : h' = m_cp h k0 k1 n) {a : Nat} (ha : a ≠ k1) (j : Nat) : h' a j = h a j := by rw [E, m_cp_row ha]
theorem isL_ne {L K i j : Nat} (hL : isL L) (hK : isL K) (hi : i ≤ 7) (hj : j ≤ 7) (n : i ≠ j) : K + i ≠ L + j := by unfold isL at hL hK; omega
theorem isL_n0 {L K j : Nat} (hL : isL L) (hK : isL K) (hj : j ≤ 7) (n : 0 < j) : K ≠ L + j := by unfold isL at hL hK; omega
abbrev P_X4_copyFrom2 (h0 : m_H) (L : Nat) (K : Nat) : m_H → Prop := fun h' => GI h' ∧ FR [(L + 1), (L + 2), (L + 3), (L + 4), (L + 5), (L + 6), (L + 7)] [(L, 7), (L, 8), (L, 9)] h0 h' ∧ LC L K h0 h'
set_option maxHeartbeats 4000000 in
set_option maxRecDepth 100000 in
theorem c_X4_copyFrom2 (h0 : m_H) (L : Nat) (K : Nat) (hL : isL L) (hK : isL K) (G0 : GI h0) : m_CV M_X4_copyFrom [mR L, mR K] h0 (P_X4_copyFrom2 h0 L K) := by
  refine m_CV_of ⟨by decide, rfl, by simp [m_arg, m_isL, M_X4_copyFrom], ⟨rfl, rfl⟩, rfl, rfl⟩ (ls := [some (mR L), some (mR K)]) rfl ?_
  refine z_aload_n (M := M_X4_copyFrom) 0 dX4_copyFrom_0 rfl ?_
  refine z_getR (M := M_X4_copyFrom) 1 dX4_copyFrom_1 f_X4_9 (oL hK) rfl (rL_0 hK G0) ?_
  refine z_iconst (M := M_X4_copyFrom) 4 dX4_copyFrom_4 ?_
  refine z_aload_n (M := M_X4_copyFrom) 5 dX4_copyFrom_5 rfl ?_
  refine z_getR (M := M_X4_copyFrom) 6 dX4_copyFrom_6 f_X4_9 (oL hL) rfl (rL_0 hL G0) ?_
  refine z_iconst (M := M_X4_copyFrom) 9 dX4_copyFrom_9 ?_
  refine z_bipush (M := M_X4_copyFrom) 10 dX4_copyFrom_10 ?_
  refine z_copyH (M := M_X4_copyFrom) 12 dX4_copyFrom_12 ml_X4_39 (rest := []) (oL_1 hK) (oL_1 hL) rfl (by decide) (Nat.le_of_ble_eq_true rfl) (Nat.le_of_ble_eq_true rfl) (cpL_1 hL hK G0) ((FR.rf (cs := [(L + 1), (L + 2), (L + 3), (L + 4), (L + 5), (L + 6), (L + 7)]) (ss := [(L, 7), (L, 8), (L, 9)]) (h := h0)).cp (fun _ => by simp [fr])) (fun h1 E1 G1 R1 => ?_)
  refine z_aload_n (M := M_X4_copyFrom) 15 dX4_copyFrom_15 rfl ?_
  refine z_getR (M := M_X4_copyFrom) 16 dX4_copyFrom_16 f_X4_15 (oL hK) rfl (rL_1 hK G1) ?_
  refine z_iconst (M := M_X4_copyFrom) 19 dX4_copyFrom_19 ?_
  refine z_aload_n (M := M_X4_copyFrom) 20 dX4_copyFrom_20 rfl ?_
  refine z_getR (M := M_X4_copyFrom) 21 dX4_copyFrom_21 f_X4_15 (oL hL) rfl (rL_1 hL G1) ?_
  refine z_iconst (M := M_X4_copyFrom) 24 dX4_copyFrom_24 ?_
  refine z_bipush (M := M_X4_copyFrom) 25 dX4_copyFrom_25 ?_
  refine z_copyH (M := M_X4_copyFrom) 27 dX4_copyFrom_27 ml_X4_39 (rest := []) (oL_2 hK) (oL_2 hL) rfl (by decide) (Nat.le_of_ble_eq_true rfl) (Nat.le_of_ble_eq_true rfl) (cpL_2 hL hK G1) (R1.cp (fun _ => by simp [fr])) (fun h2 E2 G2 R2 => ?_)
  refine z_aload_n (M := M_X4_copyFrom) 30 dX4_copyFrom_30 rfl ?_
  refine z_getR (M := M_X4_copyFrom) 31 dX4_copyFrom_31 f_X4_18 (oL hK) rfl (rL_2 hK G2) ?_
  refine z_iconst (M := M_X4_copyFrom) 34 dX4_copyFrom_34 ?_
  refine z_aload_n (M := M_X4_copyFrom) 35 dX4_copyFrom_35 rfl ?_
  refine z_getR (M := M_X4_copyFrom) 36 dX4_copyFrom_36 f_X4_18 (oL hL) rfl (rL_2 hL G2) ?_
  refine z_iconst (M := M_X4_copyFrom) 39 dX4_copyFrom_39 ?_
  refine z_bipush (M := M_X4_copyFrom) 40 dX4_copyFrom_40 ?_
  refine z_copyH (M := M_X4_copyFrom) 42 dX4_copyFrom_42 ml_X4_39 (rest := []) (oL_3 hK) (oL_3 hL) rfl (by decide) (Nat.le_of_ble_eq_true rfl) (Nat.le_of_ble_eq_true rfl) (cpL_3 hL hK G2) (R2.cp (fun _ => by simp [fr])) (fun h3 E3 G3 R3 => ?_)
  refine z_aload_n (M := M_X4_copyFrom) 45 dX4_copyFrom_45 rfl ?_
  refine z_getR (M := M_X4_copyFrom) 46 dX4_copyFrom_46 f_X4_21 (oL hK) rfl (rL_3 hK G3) ?_
  refine z_iconst (M := M_X4_copyFrom) 49 dX4_copyFrom_49 ?_
  refine z_aload_n (M := M_X4_copyFrom) 50 dX4_copyFrom_50 rfl ?_
  refine z_getR (M := M_X4_copyFrom) 51 dX4_copyFrom_51 f_X4_21 (oL hL) rfl (rL_3 hL G3) ?_
  refine z_iconst (M := M_X4_copyFrom) 54 dX4_copyFrom_54 ?_
  refine z_bipush (M := M_X4_copyFrom) 55 dX4_copyFrom_55 ?_
  refine z_copyH (M := M_X4_copyFrom) 57 dX4_copyFrom_57 ml_X4_39 (rest := []) (oL_4 hK) (oL_4 hL) rfl (by decide) (Nat.le_of_ble_eq_true rfl) (Nat.le_of_ble_eq_true rfl) (cpL_4 hL hK G3) (R3.cp (fun _ => by simp [fr])) (fun h4 E4 G4 R4 => ?_)
  refine z_aload_n (M := M_X4_copyFrom) 60 dX4_copyFrom_60 rfl ?_
  refine z_getR (M := M_X4_copyFrom) 61 dX4_copyFrom_61 f_X4_24 (oL hK) rfl (rL_4 hK G4) ?_
  refine z_iconst (M := M_X4_copyFrom) 64 dX4_copyFrom_64 ?_
  refine z_aload_n (M := M_X4_copyFrom) 65 dX4_copyFrom_65 rfl ?_
  refine z_getR (M := M_X4_copyFrom) 66 dX4_copyFrom_66 f_X4_24 (oL hL) rfl (rL_4 hL G4) ?_
  refine z_iconst (M := M_X4_copyFrom) 69 dX4_copyFrom_69 ?_
  refine z_bipush (M := M_X4_copyFrom) 70 dX4_copyFrom_70 ?_
  refine z_copyH (M := M_X4_copyFrom) 72 dX4_copyFrom_72 ml_X4_39 (rest := []) (oL_5 hK) (oL_5 hL) rfl (by decide) (Nat.le_of_ble_eq_true rfl) (Nat.le_of_ble_eq_true rfl) (cpL_5 hL hK G4) (R4.cp (fun _ => by simp [fr])) (fun h5 E5 G5 R5 => ?_)
  refine z_aload_n (M := M_X4_copyFrom) 75 dX4_copyFrom_75 rfl ?_
  refine z_getR (M := M_X4_copyFrom) 76 dX4_copyFrom_76 f_X4_27 (oL hK) rfl (rL_5 hK G5) ?_
  refine z_iconst (M := M_X4_copyFrom) 79 dX4_copyFrom_79 ?_
  refine z_aload_n (M := M_X4_copyFrom) 80 dX4_copyFrom_80 rfl ?_
  refine z_getR (M := M_X4_copyFrom) 81 dX4_copyFrom_81 f_X4_27 (oL hL) rfl (rL_5 hL G5) ?_
  refine z_iconst (M := M_X4_copyFrom) 84 dX4_copyFrom_84 ?_
  refine z_bipush (M := M_X4_copyFrom) 85 dX4_copyFrom_85 ?_
  refine z_copyH (M := M_X4_copyFrom) 87 dX4_copyFrom_87 ml_X4_39 (rest := []) (oL_6 hK) (oL_6 hL) rfl (by decide) (Nat.le_of_ble_eq_true rfl) (Nat.le_of_ble_eq_true rfl) (cpL_6 hL hK G5) (R5.cp (fun _ => by simp [fr])) (fun h6 E6 G6 R6 => ?_)
  refine z_aload_n (M := M_X4_copyFrom) 90 dX4_copyFrom_90 rfl ?_
  refine z_getR (M := M_X4_copyFrom) 91 dX4_copyFrom_91 f_X4_30 (oL hK) rfl (rL_6 hK G6) ?_
  refine z_iconst (M := M_X4_copyFrom) 94 dX4_copyFrom_94 ?_
  refine z_aload_n (M := M_X4_copyFrom) 95 dX4_copyFrom_95 rfl ?_
  refine z_getR (M := M_X4_copyFrom) 96 dX4_copyFrom_96 f_X4_30 (oL hL) rfl (rL_6 hL G6) ?_
  refine z_iconst (M := M_X4_copyFrom) 99 dX4_copyFrom_99 ?_
  refine z_bipush (M := M_X4_copyFrom) 100 dX4_copyFrom_100 ?_
  refine z_copyH (M := M_X4_copyFrom) 102 dX4_copyFrom_102 ml_X4_39 (rest := []) (oL_7 hK) (oL_7 hL) rfl (by decide) (Nat.le_of_ble_eq_true rfl) (Nat.le_of_ble_eq_true rfl) (cpL_7 hL hK G6) (R6.cp (fun _ => by simp [fr])) (fun h7 E7 G7 R7 => ?_)
  refine z_aload_n (M := M_X4_copyFrom) 105 dX4_copyFrom_105 rfl ?_
  refine z_aload_n (M := M_X4_copyFrom) 106 dX4_copyFrom_106 rfl ?_
  refine z_getIG (M := M_X4_copyFrom) 107 dX4_copyFrom_107 f_X4_45 (oL hK) (by decide) (gL7 hK G7) (fun x1 ex1 ax1 bx1 => ?_)
  refine z_putIH (M := M_X4_copyFrom) 110 dX4_copyFrom_110 p_X4_45 (oL hL) rfl (uL7 hL G7 (by omega) (by omega)) (R7.up (by simp [fr])) (fun h8 E8 G8 R8 => ?_)
  refine z_aload_n (M := M_X4_copyFrom) 113 dX4_copyFrom_113 rfl ?_
  refine z_aload_n (M := M_X4_copyFrom) 114 dX4_copyFrom_114 rfl ?_
  refine z_getIV (M := M_X4_copyFrom) 115 dX4_copyFrom_115 f_X4_49 (oL hK) (by decide) (fun x2 ex2 => ?_)
  refine z_ok (fun ox2 _ _ => ?_)
  have ox2 := ox2.1; unfold m_ok m_32 at ox2
  refine z_putIH (M := M_X4_copyFrom) 118 dX4_copyFrom_118 p_X4_49 (oL hL) rfl (uL8 hL G8) (R8.up (by simp [fr])) (fun h9 E9 G9 R9 => ?_)
  refine z_aload_n (M := M_X4_copyFrom) 121 dX4_copyFrom_121 rfl ?_
  refine z_aload_n (M := M_X4_copyFrom) 122 dX4_copyFrom_122 rfl ?_
  refine z_getIV (M := M_X4_copyFrom) 123 dX4_copyFrom_123 f_X4_52 (oL hK) (by decide) (fun x3 ex3 => ?_)
  refine z_ok (fun ox3 _ _ => ?_)
  have ox3 := ox3.1; unfold m_ok m_32 at ox3
  refine z_putIH (M := M_X4_copyFrom) 126 dX4_copyFrom_126 p_X4_52 (oL hL) rfl (uL9 hL G9) (R9.up (by simp [fr])) (fun h10 E10 G10 R10 => ?_)
  exact z_retV (M := M_X4_copyFrom) 129 dX4_copyFrom_129 rfl ⟨G10, R10, fun j hj => (upo2 E10 (by omega) j).trans ((upo2 E9 (by omega) j).trans ((upo2 E8 (by omega) j).trans ((cp_ne E7 (by omega) j).trans ((cp_ne E6 (by omega) j).trans ((cp_ne E5 (by omega) j).trans ((cp_ne E4 (by omega) j).trans ((cp_ne E3 (by omega) j).trans ((cp_ne E2 (by omega) j).trans (cp_at E1 hj))))))))), fun j hj => (upo2 E10 (by omega) j).trans ((upo2 E9 (by omega) j).trans ((upo2 E8 (by omega) j).trans ((cp_ne E7 (by omega) j).trans ((cp_ne E6 (by omega) j).trans ((cp_ne E5 (by omega) j).trans ((cp_ne E4 (by omega) j).trans ((cp_ne E3 (by omega) j).trans ((cp_at E2 hj).trans (cp_ne E1 (isL_ne hL hK (by decide) (by decide) (by decide)) j))))))))), fun j hj => (upo2 E10 (by omega) j).trans ((upo2 E9 (by omega) j).trans ((upo2 E8 (by omega) j).trans ((cp_ne E7 (by omega) j).trans ((cp_ne E6 (by omega) j).trans ((cp_ne E5 (by omega) j).trans ((cp_ne E4 (by omega) j).trans ((cp_at E3 hj).trans ((cp_ne E2 (isL_ne hL hK (by decide) (by decide) (by decide)) j).trans (cp_ne E1 (isL_ne hL hK (by decide) (by decide) (by decide)) j))))))))), fun j hj => (upo2 E10 (by omega) j).trans ((upo2 E9 (by omega) j).trans ((upo2 E8 (by omega) j).trans ((cp_ne E7 (by omega) j).trans ((cp_ne E6 (by omega) j).trans ((cp_ne E5 (by omega) j).trans ((cp_at E4 hj).trans ((cp_ne E3 (isL_ne hL hK (by decide) (by decide) (by decide)) j).trans ((cp_ne E2 (isL_ne hL hK (by decide) (by decide) (by decide)) j).trans (cp_ne E1 (isL_ne hL hK (by decide) (by decide) (by decide)) j))))))))), fun j hj => (upo2 E10 (by omega) j).trans ((upo2 E9 (by omega) j).trans ((upo2 E8 (by omega) j).trans ((cp_ne E7 (by omega) j).trans ((cp_ne E6 (by omega) j).trans ((cp_at E5 hj).trans ((cp_ne E4 (isL_ne hL hK (by decide) (by decide) (by decide)) j).trans ((cp_ne E3 (isL_ne hL hK (by decide) (by decide) (by decide)) j).trans ((cp_ne E2 (isL_ne hL hK (by decide) (by decide) (by decide)) j).trans (cp_ne E1 (isL_ne hL hK (by decide) (by decide) (by decide)) j))))))))), fun j hj => (upo2 E10 (by omega) j).trans ((upo2 E9 (by omega) j).trans ((upo2 E8 (by omega) j).trans ((cp_ne E7 (by omega) j).trans ((cp_at E6 hj).trans ((cp_ne E5 (isL_ne hL hK (by decide) (by decide) (by decide)) j).trans ((cp_ne E4 (isL_ne hL hK (by decide) (by decide) (by decide)) j).trans ((cp_ne E3 (isL_ne hL hK (by decide) (by decide) (by decide)) j).trans ((cp_ne E2 (isL_ne hL hK (by decide) (by decide) (by decide)) j).trans (cp_ne E1 (isL_ne hL hK (by decide) (by decide) (by decide)) j))))))))), fun j hj => (upo2 E10 (by omega) j).trans ((upo2 E9 (by omega) j).trans ((upo2 E8 (by omega) j).trans ((cp_at E7 hj).trans ((cp_ne E6 (isL_ne hL hK (by decide) (by decide) (by decide)) j).trans ((cp_ne E5 (isL_ne hL hK (by decide) (by decide) (by decide)) j).trans ((cp_ne E4 (isL_ne hL hK (by decide) (by decide) (by decide)) j).trans ((cp_ne E3 (isL_ne hL hK (by decide) (by decide) (by decide)) j).trans ((cp_ne E2 (isL_ne hL hK (by decide) (by decide) (by decide)) j).trans (cp_ne E1 (isL_ne hL hK (by decide) (by decide) (by decide)) j))))))))), (upN E10 (fun q => absurd q.2 (by decide))).trans ((upN E9 (fun q => absurd q.2 (by decide))).trans ((upE E8).trans ((ex1.symm).trans ((cp_ne E7 (isL_n0 hL hK (by decide) (by decide)) 7).trans ((cp_ne E6 (isL_n0 hL hK (by decide) (by decide)) 7).trans ((cp_ne E5 (isL_n0 hL hK (by decide) (by decide)) 7).trans ((cp_ne E4 (isL_n0 hL hK (by decide) (by decide)) 7).trans ((cp_ne E3 (isL_n0 hL hK (by decide) (by decide)) 7).trans ((cp_ne E2 (isL_n0 hL hK (by decide) (by decide)) 7).trans (cp_ne E1 (isL_n0 hL hK (by decide) (by decide)) 7)))))))))), (upN E10 (fun q => absurd q.2 (by decide))).trans ((upE E9).trans ((ex2.symm).trans ((upN E8 (fun q => absurd q.2 (by decide))).trans ((cp_ne E7 (isL_n0 hL hK (by decide) (by decide)) 8).trans ((cp_ne E6 (isL_n0 hL hK (by decide) (by decide)) 8).trans ((cp_ne E5 (isL_n0 hL hK (by decide) (by decide)) 8).trans ((cp_ne E4 (isL_n0 hL hK (by decide) (by decide)) 8).trans ((cp_ne E3 (isL_n0 hL hK (by decide) (by decide)) 8).trans ((cp_ne E2 (isL_n0 hL hK (by decide) (by decide)) 8).trans (cp_ne E1 (isL_n0 hL hK (by decide) (by decide)) 8)))))))))), (upE E10).trans ((ex3.symm).trans ((upN E9 (fun q => absurd q.2 (by decide))).trans ((upN E8 (fun q => absurd q.2 (by decide))).trans ((cp_ne E7 (isL_n0 hL hK (by decide) (by decide)) 9).trans ((cp_ne E6 (isL_n0 hL hK (by decide) (by decide)) 9).trans ((cp_ne E5 (isL_n0 hL hK (by decide) (by decide)) 9).trans ((cp_ne E4 (isL_n0 hL hK (by decide) (by decide)) 9).trans ((cp_ne E3 (isL_n0 hL hK (by decide) (by decide)) 9).trans ((cp_ne E2 (isL_n0 hL hK (by decide) (by decide)) 9).trans (cp_ne E1 (isL_n0 hL hK (by decide) (by decide)) 9))))))))))⟩
/-- which images are kept -/
def KP (h : m_H) : Prop := ∀ k, k < 2 → h 34 k = h 112 k
theorem KP.call {h h' : m_H} (K : KP h) (a : ∀ k, h' 34 k = h 34 k) (b : ∀ k, h' 112 k = h 112 k) : KP h' := fun k hk => by rw [a, b]; exact K k hk
def imQ (c : Nat) (a1 x : Int) (h0 h' : m_H) : Prop := ((a1 < 0 ∨ 1 < a1) ∧ x = -1 ∧ ∀ j, h' c j = h0 c j) ∨ (0 ≤ a1 ∧ a1 ≤ 1 ∧ x = 0 ∧ h' c a1.toNat = 1 ∧ ∀ j, j ≠ a1.toNat → h' c j = h0 c j)
def bkQ (c : Nat) (a1 x : Int) (h0 : m_H) : Prop := ((a1 < 0 ∨ 1 < a1) ∧ x = -1) ∨ (0 ≤ a1 ∧ a1 ≤ 1 ∧ h0 c a1.toNat = 0 ∧ x = -2) ∨ (0 ≤ a1 ∧ a1 ≤ 1 ∧ h0 c a1.toNat ≠ 0 ∧ x = 0)
theorem imKP {a1 x y : Int} {h h1 h2 : m_H} (K : KP h) (A : imQ 34 a1 x h h1) (B : imQ 112 a1 y h1 h2) (e1 : ∀ j, h1 112 j = h 112 j) (e2 : ∀ j, h2 34 j = h1 34 j) : KP h2 ∧ x = y := by
  rcases A with ⟨a, b, c⟩ | ⟨a, b, c, d, e⟩
  · rcases B with ⟨a', b', c'⟩ | ⟨a', b', c', d', e'⟩
    · exact ⟨fun k hk => by rw [e2, c, c', e1]; exact K k hk, by omega⟩
    · omega
  · rcases B with ⟨a', b', c'⟩ | ⟨a', b', c', d', e'⟩
    · omega
    · refine ⟨fun k hk => ?_, by omega⟩
      by_cases q : k = a1.toNat
      · rw [e2, q, d, d']
      · rw [e2, e k q, e' k q, e1]; exact K k hk
theorem bkE {a1 x y : Int} {h h1 : m_H} (K : KP h) (A : bkQ 34 a1 x h) (B : bkQ 112 a1 y h1) (e1 : ∀ j, h1 112 j = h 112 j) : x = y := by
  by_cases q : a1 < 0 ∨ 1 < a1
  · rcases A with ⟨_, a⟩ | ⟨a, b, _, _⟩ | ⟨a, b, _, _⟩
    · rcases B with ⟨_, c⟩ | ⟨c, d, _, _⟩ | ⟨c, d, _, _⟩ <;> omega
    · omega
    · omega
  · have z := K a1.toNat (by omega)
    have w := e1 a1.toNat
    rcases A with ⟨a, _⟩ | ⟨_, _, a, b⟩ | ⟨_, _, a, b⟩
    · omega
    · rcases B with ⟨c, _⟩ | ⟨_, _, c, d⟩ | ⟨_, _, c, d⟩
      · omega
      · omega
      · exact absurd (w.trans (z.symm.trans a)) c
    · rcases B with ⟨c, _⟩ | ⟨_, _, c, d⟩ | ⟨_, _, c, d⟩
      · omega
      · exact absurd (z.trans (w.symm.trans c)) a
      · omega
/-! the ledgers of images, rows of images -/
def out (a b : Nat) (cs : List Nat) (ss : List (Nat × Nat)) : Bool := cs.all (fun c => decide (c < a) || decide (b < c)) && ss.all (fun p => decide (p.1 < a) || decide (b < p.1))
theorem fr_out {a b : Nat} {cs : List Nat} {ss : List (Nat × Nat)} (H : out a b cs ss = true) {c : Nat} (ha : a ≤ c) (hb : c ≤ b) (j : Nat) : fr cs ss c j = false := by
  unfold out at H
  rw [Bool.and_eq_true, List.all_eq_true, List.all_eq_true] at H
  unfold fr
  rw [Bool.or_eq_false_iff, List.any_eq_false, List.any_eq_false]
  refine ⟨fun d hd => ?_, fun p hp => ?_⟩
  · have z := H.1 d hd
    simp only [Bool.or_eq_true, decide_eq_true_eq] at z
    simp only [beq_iff_eq]; omega
  · have z := H.2 p hp
    simp only [Bool.or_eq_true, decide_eq_true_eq] at z
    simp only [Bool.and_eq_true, beq_iff_eq]; omega
theorem fr_ne {k : Nat} {cs : List Nat} {ss : List (Nat × Nat)} (h1 : ∀ c ∈ cs, c ≠ k) (h2 : ∀ p ∈ ss, p.1 ≠ k) (j : Nat) : fr cs ss k j = false := by
  unfold fr
  rw [Bool.or_eq_false_iff, List.any_eq_false, List.any_eq_false]
  refine ⟨fun d hd => ?_, fun p hp => ?_⟩
  · simp only [beq_iff_eq]; exact h1 d hd
  · simp only [Bool.and_eq_true, beq_iff_eq]; exact fun z => h2 p hp z.1
theorem LC.to {L K : Nat} {h0 h h' : m_H} (C : LC L K h0 h) (e : ∀ i, i < 8 → ∀ j, h' (L + i) j = h (L + i) j) : LC L K h0 h' := by
  obtain ⟨c1, c2, c3, c4, c5, c6, c7, c8, c9, c10⟩ := C
  exact ⟨fun j hj => (e 1 (by decide) j).trans (c1 j hj), fun j hj => (e 2 (by decide) j).trans (c2 j hj), fun j hj => (e 3 (by decide) j).trans (c3 j hj), fun j hj => (e 4 (by decide) j).trans (c4 j hj), fun j hj => (e 5 (by decide) j).trans (c5 j hj), fun j hj => (e 6 (by decide) j).trans (c6 j hj), fun j hj => (e 7 (by decide) j).trans (c7 j hj), (e 0 (by decide) 7).trans c8, (e 0 (by decide) 8).trans c9, (e 0 (by decide) 9).trans c10⟩
def imC (a1 : Int) (h0 h' : m_H) : Prop := (0 ≤ a1 → a1 ≤ 1 → LC (18 + 8 * a1.toNat) 1 h0 h') ∧ ∀ k : Nat, k < 2 → (k : Int) ≠ a1 → ∀ i, i < 8 → ∀ j, h' (18 + 8 * k + i) j = h0 (18 + 8 * k + i) j
theorem imC_ok {a1 : Int} {h0 h2 h3 h4 : m_H} {L : Nat} {v : Int} {cs : List Nat} {ss : List (Nat × Nat)} (ha : 0 ≤ a1) (hb : a1 ≤ 1) (hL : L = 18 + 8 * a1.toNat) (S2 : FR [(L + 1), (L + 2), (L + 3), (L + 4), (L + 5), (L + 6), (L + 7)] [(L, 7), (L, 8), (L, 9)] h0 h2) (C2 : LC L 1 h0 h2) (E3 : h3 = m_up h2 34 a1.toNat v) (S4 : FR cs ss h3 h4) (o : out 18 33 cs ss = true) : imC a1 h0 h4 := by
  have st : ∀ c, 18 ≤ c → c ≤ 33 → ∀ j, h4 c j = h2 c j := fun c x y j => (S4 c j (fr_out o x y j)).trans (tl_o E3 (by omega) j)
  refine ⟨fun _ _ => hL ▸ C2.to (fun i hi j => st _ (by omega) (by omega) j), fun k hk hne i hi j => (st _ (by omega) (by omega) j).trans (S2 _ j (fr_ne ?_ ?_ j))⟩
  · intro c hc
    simp only [List.mem_cons, List.not_mem_nil, or_false] at hc
    omega
  · intro p hp
    simp only [List.mem_cons, List.not_mem_nil, or_false] at hp
    rcases hp with rfl | rfl | rfl
    · show L ≠ _; omega
    · show L ≠ _; omega
    · show L ≠ _; omega
theorem imC_no {a1 : Int} {h0 h' : m_H} {cs : List Nat} {ss : List (Nat × Nat)} (ha : a1 < 0 ∨ 1 < a1) (S : FR cs ss h0 h') (o : out 18 33 cs ss = true) : imC a1 h0 h' := ⟨fun _ _ => by omega, fun k hk _ i hi j => S _ j (fr_out o (by omega) (by omega) j)⟩
def imM (a1 : Int) (h0 h' : m_H) : Prop := (0 ≤ a1 → a1 ≤ 1 → ∀ j, j < 200 → h' 111 (200 * a1.toNat + j) = h0 110 j) ∧ ∀ k : Nat, k < 2 → (k : Int) ≠ a1 → ∀ j, j < 200 → h' 111 (200 * k + j) = h0 111 (200 * k + j)
theorem imM_ok {a1 l : Int} {h0 h h1 h' : m_H} {v : Int} {cs : List Nat} {ss : List (Nat × Nat)} (ha : 0 ≤ a1) (hb : a1 ≤ 1) (I : NIm h0 h a1.toNat l) (hl : 200 ≤ l) (E : h1 = m_up h 112 a1.toNat v) (S : FR cs ss h1 h') (o : out 111 111 cs ss = true) : imM a1 h0 h' := by
  obtain ⟨i1, i2, i3, i4⟩ := I
  have st : ∀ j, h' 111 j = h 111 j := fun j => (S 111 j (fr_out o (Nat.le_refl _) (Nat.le_refl _) j)).trans (tl_o E (by decide) j)
  exact ⟨fun _ _ j hj => (st _).trans (i4 j (by omega)), fun k hk hne j hj => (st _).trans (i3 _ (by omega))⟩
theorem imM_no {a1 : Int} {h0 h1 h' : m_H} {i : Nat} {v : Int} {cs : List Nat} {ss : List (Nat × Nat)} (ha : a1 < 0 ∨ 1 < a1) (E : h1 = m_up h0 108 i v) (S : FR cs ss h1 h') (o : out 111 111 cs ss = true) : imM a1 h0 h' := ⟨fun _ _ => by omega, fun k hk _ j _ => (S 111 _ (fr_out o (Nat.le_refl _) (Nat.le_refl _) _)).trans (tl_o E (by decide) _)⟩
def bkC (a1 x : Int) (h0 h' : m_H) : Prop := (x = 0 → 0 ≤ a1 ∧ a1 ≤ 1 ∧ LC 1 (18 + 8 * a1.toNat) h0 h') ∧ (x ≠ 0 → ∀ i, i < 8 → ∀ j, h' (1 + i) j = h0 (1 + i) j)
theorem bkC_ok {a1 : Int} {h0 h2 h3 : m_H} {cs : List Nat} {ss : List (Nat × Nat)} (ha : 0 ≤ a1) (hb : a1 ≤ 1) (C2 : LC 1 (18 + 8 * a1.toNat) h0 h2) (S : FR cs ss h2 h3) (o : out 1 8 cs ss = true) : bkC a1 0 h0 h3 := ⟨fun _ => ⟨ha, hb, C2.to (fun i hi j => S _ j (fr_out o (by omega) (by omega) j))⟩, fun q => absurd rfl q⟩
theorem bkC_no {a1 x : Int} {h0 h' : m_H} {cs : List Nat} {ss : List (Nat × Nat)} (hx : x ≠ 0) (S : FR cs ss h0 h') (o : out 1 8 cs ss = true) : bkC a1 x h0 h' := ⟨fun q => absurd q hx, fun _ i hi j => S _ j (fr_out o (by omega) (by omega) j)⟩
def bkM (a1 x : Int) (h0 h' : m_H) : Prop := (x = 0 → 0 ≤ a1 ∧ a1 ≤ 1 ∧ ∀ j, j < 200 → h' 110 j = h0 111 (200 * a1.toNat + j)) ∧ (x ≠ 0 → ∀ j, h' 110 j = h0 110 j)
theorem bkM_ok {a1 l : Int} {h0 h h' : m_H} {cs : List Nat} {ss : List (Nat × Nat)} (ha : 0 ≤ a1) (hb : a1 ≤ 1) (I : NBk h0 h a1.toNat l) (hl : 200 ≤ l) (S : FR cs ss h h') (o : out 110 110 cs ss = true) : bkM a1 0 h0 h' := ⟨fun _ => ⟨ha, hb, fun j hj => (S 110 j (fr_out o (Nat.le_refl _) (Nat.le_refl _) j)).trans (I.2.2 j (by omega))⟩, fun q => absurd rfl q⟩
theorem bkM_no {a1 x : Int} {h0 h1 h' : m_H} {i : Nat} {v : Int} {cs : List Nat} {ss : List (Nat × Nat)} (hx : x ≠ 0) (E : h1 = m_up h0 108 i v) (S : FR cs ss h1 h') (o : out 110 110 cs ss = true) : bkM a1 x h0 h' := ⟨fun q => absurd q hx, fun _ j => (S 110 j (fr_out o (Nat.le_refl _) (Nat.le_refl _) j)).trans (tl_o E (by decide) j)⟩
theorem upo1 {h h' : m_H} {c j : Nat} {v : Int} (E : h' = m_up h c j v) {k : Nat} (hk : k ≠ c) (i : Nat) : h' k i = h k i := by rw [E, m_up_ne1 hk]
abbrev P_X11_image2 (h0 : m_H) (a1 : Int) : Int → m_H → Prop := fun x h' => GI h' ∧ FR [18, 19, 20, 21, 22, 23, 24, 25, 26, 27, 28, 29, 30, 31, 32, 33, 34, 107] [(0, 14), (0, 15), (0, 16)] h0 h' ∧ imQ 34 a1 x h0 h' ∧ imC a1 h0 h'
set_option maxHeartbeats 4000000 in
set_option maxRecDepth 100000 in
theorem c_X11_image2 (h0 : m_H) (a1 : Int) (G0 : GI h0) : m_CI M_X11_image [mR 0, mI a1] h0 (P_X11_image2 h0 a1) := by
  refine m_CI_of ⟨by decide, rfl, by simp [m_arg, m_isL, M_X11_image], ⟨rfl, rfl⟩, rfl, rfl⟩ (ls := [some (mR 0), some (mI a1)]) rfl ?_
  refine z_ok (fun _ _ ok => ?_)
  have oa1 : m_32 a1 := ok 1 _ rfl
  unfold m_32 at oa1
  refine z_iload_n (M := M_X11_image) 0 dX11_image_0 rfl ?_
  refine z_iconst (M := M_X11_image) 1 dX11_image_1 ?_
  refine z_iconst (M := M_X11_image) 2 dX11_image_2 ?_
  refine z_sI (M := M_X11_image) 3 dX11_image_3 t_X11_within l_X11_112 (m_rr_of rfl) (rest := []) (c_X11_within h0 a1 0 1 G0) rfl rfl (Nat.le_of_ble_eq_true rfl) ⟨rfl, rfl⟩ (fun x1 h1 qx1 => ?_)
  obtain ⟨rfl, ⟨rfl, cx1⟩ | ⟨rfl, cx1⟩⟩ := qx1
  · refine z_if_ne_T (M := M_X11_image) 6 dX11_image_6 15 rfl (by omega) ?_
    refine z_aload_n (M := M_X11_image) 15 dX11_image_15 rfl ?_
    refine z_getR (M := M_X11_image) 16 dX11_image_16 f_X11_19 o_0 rfl (g_0_2 G0) ?_
    refine z_iload_n (M := M_X11_image) 19 dX11_image_19 rfl ?_
    have hi2 := isL_17 (i := a1) (by omega) (by omega)
    refine z_aaldL (M := M_X11_image) 20 dX11_image_20 o_17 (by omega) (by omega) (g_17 G0 (by omega)) ?_
    refine z_aload_n (M := M_X11_image) 21 dX11_image_21 rfl ?_
    refine z_getR (M := M_X11_image) 22 dX11_image_22 f_X11_12 o_0 rfl (g_0_0 G0) ?_
    refine z_vV (M := M_X11_image) 25 dX11_image_25 t_X4_copyFrom l_X11_197 (m_rr_of rfl) (rest := []) (c_X4_copyFrom2 h0 (18 + 8 * (a1).toNat) 1 hi2 (Or.inl rfl) G0) (oL hi2) rfl rfl rfl (Nat.le_of_ble_eq_true rfl) ⟨rfl, rfl⟩ (fun h2 qx3 => ?_)
    obtain ⟨G2, S2, C2⟩ := qx3
    have R2 := (FR.rf (cs := [18, 19, 20, 21, 22, 23, 24, 25, 26, 27, 28, 29, 30, 31, 32, 33, 34, 107]) (ss := [(0, 14), (0, 15), (0, 16)]) (h := h0)).call S2 (by rcases (show a1 = 0 ∨ a1 = 1 by omega) with rfl | rfl <;> decide +kernel)
    refine z_aload_n (M := M_X11_image) 28 dX11_image_28 rfl ?_
    refine z_getR (M := M_X11_image) 29 dX11_image_29 f_X11_23 o_0 rfl (g_0_3 G2) ?_
    refine z_iload_n (M := M_X11_image) 32 dX11_image_32 rfl ?_
    refine z_iconst (M := M_X11_image) 33 dX11_image_33 ?_
    refine z_zastH (M := M_X11_image) 34 dX11_image_34 o_34 (by omega) (by omega) (by omega) (u_34 G2 (by omega) (by omega)) (R2.up rfl) (fun h3 E3 G3 R3 => ?_)
    refine z_aload_n (M := M_X11_image) 35 dX11_image_35 rfl ?_
    refine z_iconst (M := M_X11_image) 36 dX11_image_36 ?_
    refine z_vI (M := M_X11_image) 37 dX11_image_37 t_X11_accept l_X11_123 (m_rr_of rfl) (rest := []) (c_X11_accept h3 0 G3) o_0 rfl rfl rfl (Nat.le_of_ble_eq_true rfl) ⟨rfl, rfl⟩ (fun x4 h4 qx4 => ?_)
    obtain ⟨G4, S4, rfl⟩ := qx4
    have R4 := R3.call S4 (by decide +kernel)
    exact z_retI (M := M_X11_image) 40 dX11_image_40 rfl ⟨G4, R4, Or.inr ⟨by omega, by omega, rfl, (S4 34 _ rfl).trans (upE E3), fun j hj => ((S4 34 j rfl).trans (upN E3 (fun q => hj q.2))).trans (S2 34 j (by rcases (show a1 = 0 ∨ a1 = 1 by omega) with rfl | rfl <;> rfl))⟩, imC_ok (by omega) (by omega) rfl S2 C2 E3 S4 (by decide)⟩
  · refine z_if_ne_F (M := M_X11_image) 6 dX11_image_6 15 rfl (by omega) ?_
    refine z_aload_n (M := M_X11_image) 9 dX11_image_9 rfl ?_
    refine z_iconst (M := M_X11_image) 10 dX11_image_10 ?_
    refine z_vI (M := M_X11_image) 11 dX11_image_11 t_X11_refuse l_X11_116 (m_rr_of rfl) (rest := []) (c_X11_refuse h0 (-1) G0 ⟨by omega, by omega⟩) o_0 rfl rfl rfl (Nat.le_of_ble_eq_true rfl) ⟨rfl, rfl⟩ (fun x5 h5 qx5 => ?_)
    obtain ⟨G5, S5, rfl⟩ := qx5
    have R5 := (FR.rf (cs := [18, 19, 20, 21, 22, 23, 24, 25, 26, 27, 28, 29, 30, 31, 32, 33, 34, 107]) (ss := [(0, 14), (0, 15), (0, 16)]) (h := h0)).call S5 (by decide +kernel)
    exact z_retI (M := M_X11_image) 14 dX11_image_14 rfl ⟨G5, R5, Or.inl ⟨by omega, rfl, fun j => S5 34 j rfl⟩, imC_no (by omega) S5 (by decide)⟩
abbrev P_X11_back2 (h0 : m_H) (a1 : Int) : Int → m_H → Prop := fun x h' => GI h' ∧ FR [2, 3, 4, 5, 6, 7, 8, 107] [(0, 14), (1, 7), (1, 8), (1, 9)] h0 h' ∧ bkQ 34 a1 x h0 ∧ bkC a1 x h0 h'
set_option maxHeartbeats 4000000 in
set_option maxRecDepth 100000 in
theorem c_X11_back2 (h0 : m_H) (a1 : Int) (G0 : GI h0) : m_CI M_X11_back [mR 0, mI a1] h0 (P_X11_back2 h0 a1) := by
  refine m_CI_of ⟨by decide, rfl, by simp [m_arg, m_isL, M_X11_back], ⟨rfl, rfl⟩, rfl, rfl⟩ (ls := [some (mR 0), some (mI a1)]) rfl ?_
  refine z_ok (fun _ _ ok => ?_)
  have oa1 : m_32 a1 := ok 1 _ rfl
  unfold m_32 at oa1
  refine z_iload_n (M := M_X11_back) 0 dX11_back_0 rfl ?_
  refine z_iconst (M := M_X11_back) 1 dX11_back_1 ?_
  refine z_iconst (M := M_X11_back) 2 dX11_back_2 ?_
  refine z_sI (M := M_X11_back) 3 dX11_back_3 t_X11_within l_X11_112 (m_rr_of rfl) (rest := []) (c_X11_within h0 a1 0 1 G0) rfl rfl (Nat.le_of_ble_eq_true rfl) ⟨rfl, rfl⟩ (fun x1 h1 qx1 => ?_)
  obtain ⟨rfl, ⟨rfl, cx1⟩ | ⟨rfl, cx1⟩⟩ := qx1
  · refine z_if_ne_T (M := M_X11_back) 6 dX11_back_6 15 rfl (by omega) ?_
    refine z_aload_n (M := M_X11_back) 15 dX11_back_15 rfl ?_
    refine z_getR (M := M_X11_back) 16 dX11_back_16 f_X11_23 o_0 rfl (g_0_3 G0) ?_
    refine z_iload_n (M := M_X11_back) 19 dX11_back_19 rfl ?_
    refine z_zaldG (M := M_X11_back) 20 dX11_back_20 o_34 (by omega) (by omega) (g_34 G0 (by omega)) (fun x2 ex2 ax2 bx2 => ?_)
    refine z_if_ne (M := M_X11_back) 21 dX11_back_21 31 rfl (fun c3 => ?_) (fun c3 => ?_)
    · refine z_aload_n (M := M_X11_back) 31 dX11_back_31 rfl ?_
      refine z_getR (M := M_X11_back) 32 dX11_back_32 f_X11_12 o_0 rfl (g_0_0 G0) ?_
      refine z_aload_n (M := M_X11_back) 35 dX11_back_35 rfl ?_
      refine z_getR (M := M_X11_back) 36 dX11_back_36 f_X11_19 o_0 rfl (g_0_2 G0) ?_
      refine z_iload_n (M := M_X11_back) 39 dX11_back_39 rfl ?_
      have hi4 := isL_17 (i := a1) (by omega) (by omega)
      refine z_aaldL (M := M_X11_back) 40 dX11_back_40 o_17 (by omega) (by omega) (g_17 G0 (by omega)) ?_
      refine z_vV (M := M_X11_back) 41 dX11_back_41 t_X4_copyFrom l_X11_197 (m_rr_of rfl) (rest := []) (c_X4_copyFrom2 h0 1 (18 + 8 * (a1).toNat) (Or.inl rfl) hi4 G0) o_1 rfl rfl rfl (Nat.le_of_ble_eq_true rfl) ⟨rfl, rfl⟩ (fun h2 qx5 => ?_)
      obtain ⟨G2, S2, C2⟩ := qx5
      have R2 := (FR.rf (cs := [2, 3, 4, 5, 6, 7, 8, 107]) (ss := [(0, 14), (1, 7), (1, 8), (1, 9)]) (h := h0)).call S2 (by decide +kernel)
      refine z_aload_n (M := M_X11_back) 44 dX11_back_44 rfl ?_
      refine z_iconst (M := M_X11_back) 45 dX11_back_45 ?_
      refine z_vI (M := M_X11_back) 46 dX11_back_46 t_X11_accept l_X11_123 (m_rr_of rfl) (rest := []) (c_X11_accept h2 0 G2) o_0 rfl rfl rfl (Nat.le_of_ble_eq_true rfl) ⟨rfl, rfl⟩ (fun x6 h3 qx6 => ?_)
      obtain ⟨G3, S3, rfl⟩ := qx6
      have R3 := R2.call S3 (by decide +kernel)
      exact z_retI (M := M_X11_back) 49 dX11_back_49 rfl ⟨G3, R3, Or.inr (Or.inr ⟨by omega, by omega, by omega, rfl⟩), bkC_ok (by omega) (by omega) C2 S3 (by decide)⟩
    · refine z_aload_n (M := M_X11_back) 24 dX11_back_24 rfl ?_
      refine z_bipush (M := M_X11_back) 25 dX11_back_25 ?_
      refine z_vI (M := M_X11_back) 27 dX11_back_27 t_X11_refuse l_X11_116 (m_rr_of rfl) (rest := []) (c_X11_refuse h0 (-2) G0 ⟨by omega, by omega⟩) o_0 rfl rfl rfl (Nat.le_of_ble_eq_true rfl) ⟨rfl, rfl⟩ (fun x7 h4 qx7 => ?_)
      obtain ⟨G4, S4, rfl⟩ := qx7
      have R4 := (FR.rf (cs := [2, 3, 4, 5, 6, 7, 8, 107]) (ss := [(0, 14), (1, 7), (1, 8), (1, 9)]) (h := h0)).call S4 (by decide +kernel)
      exact z_retI (M := M_X11_back) 30 dX11_back_30 rfl ⟨G4, R4, Or.inr (Or.inl ⟨by omega, by omega, by omega, rfl⟩), bkC_no (by decide) S4 (by decide)⟩
  · refine z_if_ne_F (M := M_X11_back) 6 dX11_back_6 15 rfl (by omega) ?_
    refine z_aload_n (M := M_X11_back) 9 dX11_back_9 rfl ?_
    refine z_iconst (M := M_X11_back) 10 dX11_back_10 ?_
    refine z_vI (M := M_X11_back) 11 dX11_back_11 t_X11_refuse l_X11_116 (m_rr_of rfl) (rest := []) (c_X11_refuse h0 (-1) G0 ⟨by omega, by omega⟩) o_0 rfl rfl rfl (Nat.le_of_ble_eq_true rfl) ⟨rfl, rfl⟩ (fun x8 h5 qx8 => ?_)
    obtain ⟨G5, S5, rfl⟩ := qx8
    have R5 := (FR.rf (cs := [2, 3, 4, 5, 6, 7, 8, 107]) (ss := [(0, 14), (1, 7), (1, 8), (1, 9)]) (h := h0)).call S5 (by decide +kernel)
    exact z_retI (M := M_X11_back) 14 dX11_back_14 rfl ⟨G5, R5, Or.inl ⟨by omega, rfl⟩, bkC_no (by decide) S5 (by decide)⟩
abbrev P_X12_image2 (h0 : m_H) (a1 : Int) : Int → m_H → Prop := fun x h' => GI h' ∧ FR [109, 111, 112] [(108, 0), (108, 1)] h0 h' ∧ imQ 112 a1 x h0 h' ∧ imM a1 h0 h' ∧ NPi h0 h'
def q_X12_image2 (h0 : m_H) (a1 : Int) (n : Nat) : Prop := (∀ (l2 : Int) (h : m_H), GI h → FR [109, 111, 112] [(108, 0), (108, 1)] h0 h → 0 ≤ l2 → l2 ≤ 200 → 0 ≤ a1 → a1 ≤ 1 → (∀ j : Nat, (j : Int) < l2 → r_lo j ≤ h 111 (200 * a1.toNat + j) ∧ h 111 (200 * a1.toNat + j) ≤ r_hi j) → (NIm h0 h a1.toNat l2) → (∀ j, h 112 j = h0 112 j) → 2 * (200 - l2) + (1) ≤ (n : Int) → m_Z oF M_X12_image 23 [some (mR 108), some (mI a1), some (mI l2)] [] h (m_QI (P_X12_image2 h0 a1)))
set_option maxHeartbeats 4000000 in
set_option maxRecDepth 100000 in
theorem s_X12_image2_23 (h0 : m_H) (a1 : Int) (G0 : GI h0) (n : Nat) (ih : q_X12_image2 h0 a1 n) : ∀ (l2 : Int) (h : m_H), GI h → FR [109, 111, 112] [(108, 0), (108, 1)] h0 h → 0 ≤ l2 → l2 ≤ 200 → 0 ≤ a1 → a1 ≤ 1 → (∀ j : Nat, (j : Int) < l2 → r_lo j ≤ h 111 (200 * a1.toNat + j) ∧ h 111 (200 * a1.toNat + j) ≤ r_hi j) → (NIm h0 h a1.toNat l2) → (∀ j, h 112 j = h0 112 j) → 2 * (200 - l2) + (1) ≤ ((n + 1 : Nat) : Int) → m_Z oF M_X12_image 23 [some (mR 108), some (mI a1), some (mI l2)] [] h (m_QI (P_X12_image2 h0 a1)) := by
  intro l2 h G R v0 v1 v2 v3 i0 i1 i2 hr
  refine z_iload_n (M := M_X12_image) 23 dX12_image_23 rfl ?_
  refine z_sipush (M := M_X12_image) 24 dX12_image_24 ?_
  refine z_icmp_ge (M := M_X12_image) 27 dX12_image_27 54 rfl (fun c1 => ?_) (fun c1 => ?_)
  · refine z_aload_n (M := M_X12_image) 54 dX12_image_54 rfl ?_
    refine z_getR (M := M_X12_image) 55 dX12_image_55 f_X12_19 o_108 rfl (g_108_5 G) ?_
    refine z_iload_n (M := M_X12_image) 58 dX12_image_58 rfl ?_
    refine z_iconst (M := M_X12_image) 59 dX12_image_59 ?_
    refine z_zastH (M := M_X12_image) 60 dX12_image_60 o_112 (by omega) (by omega) (by omega) (ux_112 G (by omega) (by omega) (fun i hi => i0 i (by omega))) (R.up rfl) (fun h1 E1 G1 R1 => ?_)
    refine z_aload_n (M := M_X12_image) 61 dX12_image_61 rfl ?_
    refine z_iconst (M := M_X12_image) 62 dX12_image_62 ?_
    refine z_vI (M := M_X12_image) 63 dX12_image_63 t_X12_answer l_X12_147 (m_rr_of rfl) (rest := []) (c_X12_answer h1 0 G1 ⟨by omega, by omega⟩) o_108 rfl rfl rfl (Nat.le_of_ble_eq_true rfl) ⟨rfl, rfl⟩ (fun x2 h2 qx2 => ?_)
    obtain ⟨G2, S2, rfl⟩ := qx2
    have R2 := R1.call S2 (by decide +kernel)
    exact z_retI (M := M_X12_image) 66 dX12_image_66 rfl ⟨G2, R2, Or.inr ⟨by omega, by omega, rfl, (S2 112 _ rfl).trans (upE E1), fun j hj => ((S2 112 j rfl).trans (upN E1 (fun q => hj q.2))).trans (i2 j)⟩, imM_ok (by omega) (by omega) i1 (by omega) E1 S2 (by decide), (NIm_end G0 (by omega) (by omega) i1 (by omega) E1 S2 (fun _ => rfl) (fun _ => rfl) (fun _ => rfl))⟩
  · refine z_aload_n (M := M_X12_image) 30 dX12_image_30 rfl ?_
    refine z_getR (M := M_X12_image) 31 dX12_image_31 f_X12_16 o_108 rfl (g_108_4 G) ?_
    refine z_sipush (M := M_X12_image) 34 dX12_image_34 ?_
    refine z_iload_n (M := M_X12_image) 37 dX12_image_37 rfl ?_
    refine z_imulN (M := M_X12_image) 38 dX12_image_38 (by omega) (by omega) ?_
    refine z_iload_n (M := M_X12_image) 39 dX12_image_39 rfl ?_
    refine z_iaddN (M := M_X12_image) 40 dX12_image_40 (by omega) (by omega) ?_
    refine z_aload_n (M := M_X12_image) 41 dX12_image_41 rfl ?_
    refine z_getR (M := M_X12_image) 42 dX12_image_42 f_X12_13 o_108 rfl (g_108_3 G) ?_
    refine z_iload_n (M := M_X12_image) 45 dX12_image_45 rfl ?_
    refine z_ialdV (M := M_X12_image) 46 dX12_image_46 o_110 (by omega) (by omega) (fun x3 ex3 => ?_)
    refine z_ok (fun ox3 _ _ => ?_)
    have ox3 := ox3.1; unfold m_ok m_32 at ox3
    refine z_iastH (M := M_X12_image) 47 dX12_image_47 o_111 (by omega) (by omega) (ux_111 G (by rw [show (200 * a1 + l2).toNat % 200 = l2.toNat by omega]; exact ex3 ▸ g_110 G (by omega))) (R.up rfl) (fun h3 E3 G3 R3 => ?_)
    refine z_iincN (M := M_X12_image) 48 dX12_image_48 (ls' := [some (mR 108), some (mI a1), some (mI (l2 + 1))]) (by decide) rfl (by (unfold m_32; decide)) (by omega) (by omega) rfl ?_
    refine z_goto (M := M_X12_image) 51 dX12_image_51 23 rfl ?_
    exact z_mask [true, true, true] rfl (ih (l2 + 1) h3 G3 R3 (by omega) (by omega) (by omega) (by omega) (im_step (by omega) (by omega) (by omega) E3 (ex3 ▸ g_110 G (by omega)) i0) (NIm_step (by omega) (by omega) (by omega) i1 E3 ex3) (fun j => (upo1 E3 (by decide) j).trans (i2 j)) (by omega))
theorem a_X12_image2 (h0 : m_H) (a1 : Int) (G0 : GI h0) : ∀ n, q_X12_image2 h0 a1 n := by
  intro n
  induction n with
  | zero => unfold q_X12_image2; intros; omega
  | succ n ih => exact s_X12_image2_23 h0 a1 G0 n ih
set_option maxHeartbeats 4000000 in
set_option maxRecDepth 100000 in
theorem c_X12_image2 (h0 : m_H) (a1 : Int) (G0 : GI h0) : m_CI M_X12_image [mR 108, mI a1] h0 (P_X12_image2 h0 a1) := by
  refine m_CI_of ⟨by decide, rfl, by simp [m_arg, m_isL, M_X12_image], ⟨rfl, rfl⟩, rfl, rfl⟩ (ls := [some (mR 108), some (mI a1), none]) rfl ?_
  have ih := a_X12_image2 h0 a1 G0 408
  refine z_ok (fun _ _ ok => ?_)
  have oa1 : m_32 a1 := ok 1 _ rfl
  unfold m_32 at oa1
  refine z_aload_n (M := M_X12_image) 0 dX12_image_0 rfl ?_
  refine z_iconst (M := M_X12_image) 1 dX12_image_1 ?_
  refine z_putIH (M := M_X12_image) 2 dX12_image_2 p_X12_133 o_108 rfl (u_108_0 G0) ((FR.rf (cs := [109, 111, 112]) (ss := [(108, 0), (108, 1)]) (h := h0)).up rfl) (fun h1 E1 G1 R1 => ?_)
  refine z_iload_n (M := M_X12_image) 5 dX12_image_5 rfl ?_
  refine z_i2l (M := M_X12_image) 6 dX12_image_6 ?_
  refine z_lconst (M := M_X12_image) 7 dX12_image_7 (v := 0) ?_
  refine z_lconst (M := M_X12_image) 8 dX12_image_8 (v := 1) ?_
  refine z_sI (M := M_X12_image) 9 dX12_image_9 t_X12_in l_X12_143 (m_rr_of rfl) (rest := []) (c_X12_in h1 a1 0 1 G1) rfl rfl (Nat.le_of_ble_eq_true rfl) ⟨rfl, rfl⟩ (fun x1 h2 qx1 => ?_)
  obtain ⟨rfl, ⟨rfl, cx1⟩ | ⟨rfl, cx1⟩⟩ := qx1
  · refine z_if_ne_T (M := M_X12_image) 12 dX12_image_12 21 rfl (by omega) ?_
    refine z_iconst (M := M_X12_image) 21 dX12_image_21 ?_
    refine z_istore_n (M := M_X12_image) 22 dX12_image_22 (ls' := [some (mR 108), some (mI a1), some (mI 0)]) (by decide) rfl ?_
    exact z_mask [true, true, true] rfl (ih 0 h1 G1 R1 (by omega) (by omega) (by omega) (by omega) (fun j hj => by omega) (NIm_0 E1) (upo1 E1 (by decide)) (by omega))
  · refine z_if_ne_F (M := M_X12_image) 12 dX12_image_12 21 rfl (by omega) ?_
    refine z_aload_n (M := M_X12_image) 15 dX12_image_15 rfl ?_
    refine z_iconst (M := M_X12_image) 16 dX12_image_16 ?_
    refine z_vI (M := M_X12_image) 17 dX12_image_17 t_X12_answer l_X12_147 (m_rr_of rfl) (rest := []) (c_X12_answer h1 (-1) G1 ⟨by omega, by omega⟩) o_108 rfl rfl rfl (Nat.le_of_ble_eq_true rfl) ⟨rfl, rfl⟩ (fun x2 h3 qx2 => ?_)
    obtain ⟨G3, S3, rfl⟩ := qx2
    have R3 := R1.call S3 (by decide +kernel)
    exact z_retI (M := M_X12_image) 20 dX12_image_20 rfl ⟨G3, R3, Or.inl ⟨by omega, rfl, fun j => (S3 112 j rfl).trans (upo1 E1 (by decide) j)⟩, imM_no (by omega) E1 S3 (by decide), (NPi.call (NPi.put NPi.rf E1 (by decide)) S3 (fun _ => rfl) (fun _ => rfl) (fun _ => rfl))⟩
abbrev P_X12_back2 (h0 : m_H) (a1 : Int) : Int → m_H → Prop := fun x h' => GI h' ∧ FR [109, 110] [(108, 0), (108, 1)] h0 h' ∧ bkQ 112 a1 x h0 ∧ bkM a1 x h0 h' ∧ NQi h0 h'
def q_X12_back2 (h0 : m_H) (a1 : Int) (n : Nat) : Prop := (∀ (l2 : Int) (h : m_H), GI h → FR [109, 110] [(108, 0), (108, 1)] h0 h → 0 ≤ l2 → l2 ≤ 200 → 0 ≤ a1 → a1 ≤ 1 → (h 112 a1.toNat ≠ 0) → (NBk h0 h a1.toNat l2) → h0 112 a1.toNat ≠ 0 → 2 * (200 - l2) + (1) ≤ (n : Int) → m_Z oF M_X12_back 39 [some (mR 108), some (mI a1), some (mI l2)] [] h (m_QI (P_X12_back2 h0 a1)))
set_option maxHeartbeats 4000000 in
set_option maxRecDepth 100000 in
theorem s_X12_back2_39 (h0 : m_H) (a1 : Int) (G0 : GI h0) (n : Nat) (ih : q_X12_back2 h0 a1 n) : ∀ (l2 : Int) (h : m_H), GI h → FR [109, 110] [(108, 0), (108, 1)] h0 h → 0 ≤ l2 → l2 ≤ 200 → 0 ≤ a1 → a1 ≤ 1 → (h 112 a1.toNat ≠ 0) → (NBk h0 h a1.toNat l2) → h0 112 a1.toNat ≠ 0 → 2 * (200 - l2) + (1) ≤ ((n + 1 : Nat) : Int) → m_Z oF M_X12_back 39 [some (mR 108), some (mI a1), some (mI l2)] [] h (m_QI (P_X12_back2 h0 a1)) := by
  intro l2 h G R v0 v1 v2 v3 i0 i1 i2 hr
  refine z_iload_n (M := M_X12_back) 39 dX12_back_39 rfl ?_
  refine z_sipush (M := M_X12_back) 40 dX12_back_40 ?_
  refine z_icmp_ge (M := M_X12_back) 43 dX12_back_43 70 rfl (fun c1 => ?_) (fun c1 => ?_)
  · refine z_aload_n (M := M_X12_back) 70 dX12_back_70 rfl ?_
    refine z_iconst (M := M_X12_back) 71 dX12_back_71 ?_
    refine z_vI (M := M_X12_back) 72 dX12_back_72 t_X12_answer l_X12_147 (m_rr_of rfl) (rest := []) (c_X12_answer h 0 G ⟨by omega, by omega⟩) o_108 rfl rfl rfl (Nat.le_of_ble_eq_true rfl) ⟨rfl, rfl⟩ (fun x2 h1 qx2 => ?_)
    obtain ⟨G1, S1, rfl⟩ := qx2
    have R1 := R.call S1 (by decide +kernel)
    exact z_retI (M := M_X12_back) 75 dX12_back_75 rfl ⟨G1, R1, Or.inr (Or.inr ⟨by omega, by omega, i2, rfl⟩), bkM_ok (by omega) (by omega) i1 (by omega) S1 (by decide), (NBk_end G (by omega) (by omega) i1 (by omega) i0 S1 (fun _ => rfl) (fun _ => rfl) (fun _ => rfl))⟩
  · refine z_aload_n (M := M_X12_back) 46 dX12_back_46 rfl ?_
    refine z_getR (M := M_X12_back) 47 dX12_back_47 f_X12_13 o_108 rfl (g_108_3 G) ?_
    refine z_iload_n (M := M_X12_back) 50 dX12_back_50 rfl ?_
    refine z_aload_n (M := M_X12_back) 51 dX12_back_51 rfl ?_
    refine z_getR (M := M_X12_back) 52 dX12_back_52 f_X12_16 o_108 rfl (g_108_4 G) ?_
    refine z_sipush (M := M_X12_back) 55 dX12_back_55 ?_
    refine z_iload_n (M := M_X12_back) 58 dX12_back_58 rfl ?_
    refine z_imulN (M := M_X12_back) 59 dX12_back_59 (by omega) (by omega) ?_
    refine z_iload_n (M := M_X12_back) 60 dX12_back_60 rfl ?_
    refine z_iaddN (M := M_X12_back) 61 dX12_back_61 (by omega) (by omega) ?_
    refine z_ialdV (M := M_X12_back) 62 dX12_back_62 o_111 (by omega) (by omega) (fun x3 ex3 => ?_)
    refine z_ok (fun ox3 _ _ => ?_)
    have ox3 := ox3.1; unfold m_ok m_32 at ox3
    refine z_iastH (M := M_X12_back) 63 dX12_back_63 o_110 (by omega) (by omega) (u_110 G (ex3 ▸ (bk_b G (by omega) (by omega) (by omega) (by omega) i0).1) (ex3 ▸ (bk_b G (by omega) (by omega) (by omega) (by omega) i0).2)) (R.up rfl) (fun h2 E2 G2 R2 => ?_)
    refine z_iincN (M := M_X12_back) 64 dX12_back_64 (ls' := [some (mR 108), some (mI a1), some (mI (l2 + 1))]) (by decide) rfl (by (unfold m_32; decide)) (by omega) (by omega) rfl ?_
    refine z_goto (M := M_X12_back) 67 dX12_back_67 39 rfl ?_
    exact z_mask [true, true, true] rfl (ih (l2 + 1) h2 G2 R2 (by omega) (by omega) (by omega) (by omega) (by rw [E2, m_up_ne1 (by decide)]; exact i0) (NBk_step (by omega) (by omega) i1 E2 ex3) i2 (by omega))
theorem a_X12_back2 (h0 : m_H) (a1 : Int) (G0 : GI h0) : ∀ n, q_X12_back2 h0 a1 n := by
  intro n
  induction n with
  | zero => unfold q_X12_back2; intros; omega
  | succ n ih => exact s_X12_back2_39 h0 a1 G0 n ih
set_option maxHeartbeats 4000000 in
set_option maxRecDepth 100000 in
theorem c_X12_back2 (h0 : m_H) (a1 : Int) (G0 : GI h0) : m_CI M_X12_back [mR 108, mI a1] h0 (P_X12_back2 h0 a1) := by
  refine m_CI_of ⟨by decide, rfl, by simp [m_arg, m_isL, M_X12_back], ⟨rfl, rfl⟩, rfl, rfl⟩ (ls := [some (mR 108), some (mI a1), none]) rfl ?_
  have ih := a_X12_back2 h0 a1 G0 408
  refine z_ok (fun _ _ ok => ?_)
  have oa1 : m_32 a1 := ok 1 _ rfl
  unfold m_32 at oa1
  refine z_aload_n (M := M_X12_back) 0 dX12_back_0 rfl ?_
  refine z_iconst (M := M_X12_back) 1 dX12_back_1 ?_
  refine z_putIH (M := M_X12_back) 2 dX12_back_2 p_X12_133 o_108 rfl (u_108_0 G0) ((FR.rf (cs := [109, 110]) (ss := [(108, 0), (108, 1)]) (h := h0)).up rfl) (fun h1 E1 G1 R1 => ?_)
  refine z_iload_n (M := M_X12_back) 5 dX12_back_5 rfl ?_
  refine z_i2l (M := M_X12_back) 6 dX12_back_6 ?_
  refine z_lconst (M := M_X12_back) 7 dX12_back_7 (v := 0) ?_
  refine z_lconst (M := M_X12_back) 8 dX12_back_8 (v := 1) ?_
  refine z_sI (M := M_X12_back) 9 dX12_back_9 t_X12_in l_X12_143 (m_rr_of rfl) (rest := []) (c_X12_in h1 a1 0 1 G1) rfl rfl (Nat.le_of_ble_eq_true rfl) ⟨rfl, rfl⟩ (fun x1 h2 qx1 => ?_)
  obtain ⟨rfl, ⟨rfl, cx1⟩ | ⟨rfl, cx1⟩⟩ := qx1
  · refine z_if_ne_T (M := M_X12_back) 12 dX12_back_12 21 rfl (by omega) ?_
    refine z_aload_n (M := M_X12_back) 21 dX12_back_21 rfl ?_
    refine z_getR (M := M_X12_back) 22 dX12_back_22 f_X12_19 o_108 rfl (g_108_5 G1) ?_
    refine z_iload_n (M := M_X12_back) 25 dX12_back_25 rfl ?_
    refine z_zaldG (M := M_X12_back) 26 dX12_back_26 o_112 (by omega) (by omega) (g_112 G1 (by omega)) (fun x2 ex2 ax2 bx2 => ?_)
    refine z_if_ne (M := M_X12_back) 27 dX12_back_27 37 rfl (fun c3 => ?_) (fun c3 => ?_)
    · refine z_iconst (M := M_X12_back) 37 dX12_back_37 ?_
      refine z_istore_n (M := M_X12_back) 38 dX12_back_38 (ls' := [some (mR 108), some (mI a1), some (mI 0)]) (by decide) rfl ?_
      exact z_mask [true, true, true] rfl (ih 0 h1 G1 R1 (by omega) (by omega) (by omega) (by omega) (fun q => by omega) (NBk_0 E1) (fun q => by have z := upo1 E1 (by decide : (112 : Nat) ≠ 108) a1.toNat; omega) (by omega))
    · refine z_aload_n (M := M_X12_back) 30 dX12_back_30 rfl ?_
      refine z_bipush (M := M_X12_back) 31 dX12_back_31 ?_
      refine z_vI (M := M_X12_back) 33 dX12_back_33 t_X12_answer l_X12_147 (m_rr_of rfl) (rest := []) (c_X12_answer h1 (-2) G1 ⟨by omega, by omega⟩) o_108 rfl rfl rfl (Nat.le_of_ble_eq_true rfl) ⟨rfl, rfl⟩ (fun x4 h3 qx4 => ?_)
      obtain ⟨G3, S3, rfl⟩ := qx4
      have R3 := R1.call S3 (by decide +kernel)
      exact z_retI (M := M_X12_back) 36 dX12_back_36 rfl ⟨G3, R3, Or.inr (Or.inl ⟨by omega, by omega, (upo1 E1 (by decide) _).symm.trans (by omega), rfl⟩), bkM_no (by decide) E1 S3 (by decide), (NQi.call (NQi.put NQi.rf E1 (by decide)) S3 (fun _ => rfl) (fun _ => rfl) (fun _ => rfl))⟩
  · refine z_if_ne_F (M := M_X12_back) 12 dX12_back_12 21 rfl (by omega) ?_
    refine z_aload_n (M := M_X12_back) 15 dX12_back_15 rfl ?_
    refine z_iconst (M := M_X12_back) 16 dX12_back_16 ?_
    refine z_vI (M := M_X12_back) 17 dX12_back_17 t_X12_answer l_X12_147 (m_rr_of rfl) (rest := []) (c_X12_answer h1 (-1) G1 ⟨by omega, by omega⟩) o_108 rfl rfl rfl (Nat.le_of_ble_eq_true rfl) ⟨rfl, rfl⟩ (fun x5 h4 qx5 => ?_)
    obtain ⟨G4, S4, rfl⟩ := qx5
    have R4 := R1.call S4 (by decide +kernel)
    exact z_retI (M := M_X12_back) 20 dX12_back_20 rfl ⟨G4, R4, Or.inl ⟨by omega, rfl⟩, bkM_no (by decide) E1 S4 (by decide), (NQi.call (NQi.put NQi.rf E1 (by decide)) S4 (fun _ => rfl) (fun _ => rfl) (fun _ => rfl))⟩
abbrev P_X11_quotient2 (h0 : m_H) (a0 a1 : Int) : Int → m_H → Prop := fun x h' => GI h' ∧ FR [] [] h0 h' ∧ a0 / a1 = x
set_option maxHeartbeats 4000000 in
set_option maxRecDepth 100000 in
theorem c_X11_quotient2 (h0 : m_H) (a0 a1 : Int) (G0 : GI h0) (p0 : 0 ≤ a0) (p1 : 0 < a1) : m_CJ M_X11_quotient [mJ a0, mJ a1] h0 (P_X11_quotient2 h0 a0 a1) := by
  refine m_CJ_of ⟨by decide, rfl, by simp [m_arg, m_isL, M_X11_quotient], ⟨rfl, rfl⟩, rfl, rfl⟩ (ls := [some (mJ a0), none, some (mJ a1), none]) rfl ?_
  refine z_lload_n (M := M_X11_quotient) 0 dX11_quotient_0 rfl ?_
  refine z_lconst (M := M_X11_quotient) 1 dX11_quotient_1 (v := 0) ?_
  refine z_lcmp (M := M_X11_quotient) 2 dX11_quotient_2 ?_
  refine z_if_ne_T (M := M_X11_quotient) 3 dX11_quotient_3 10 rfl (fun z => absurd (m_cmp_eq.mp z) (by omega)) ?_
  refine z_lload_n (M := M_X11_quotient) 10 dX11_quotient_10 rfl ?_
  refine z_lload_n (M := M_X11_quotient) 11 dX11_quotient_11 rfl ?_
  refine z_ldivN (M := M_X11_quotient) 12 dX11_quotient_12 p0 p1 ?_
  exact z_retJ (M := M_X11_quotient) 13 dX11_quotient_13 rfl ⟨G0, (FR.rf (cs := []) (ss := []) (h := h0)), rfl⟩
abbrev P_X11_tell2 (h0 : m_H) (a1 a2 : Int) : Int → m_H → Prop := fun x h' => GI h' ∧ FR [8, 107] [(0, 14)] h0 h' ∧ tlQ 8 a1.toNat a1 a2 x h0 h'
set_option maxHeartbeats 4000000 in
set_option maxRecDepth 100000 in
theorem c_X11_tell2 (h0 : m_H) (a1 a2 : Int) (G0 : GI h0) : m_CI M_X11_tell [mR 0, mI a1, mI a2] h0 (P_X11_tell2 h0 a1 a2) := by
  refine m_CI_of ⟨by decide, rfl, by simp [m_arg, m_isL, M_X11_tell], ⟨rfl, rfl⟩, rfl, rfl⟩ (ls := [some (mR 0), some (mI a1), some (mI a2), none]) rfl ?_
  refine z_ok (fun _ _ ok => ?_)
  have oa1 : m_32 a1 := ok 1 _ rfl
  unfold m_32 at oa1
  have oa2 : m_32 a2 := ok 2 _ rfl
  unfold m_32 at oa2
  refine z_iload_n (M := M_X11_tell) 0 dX11_tell_0 rfl ?_
  refine z_iconst (M := M_X11_tell) 1 dX11_tell_1 ?_
  refine z_bipush (M := M_X11_tell) 2 dX11_tell_2 ?_
  refine z_sI (M := M_X11_tell) 4 dX11_tell_4 t_X11_within l_X11_112 (m_rr_of rfl) (rest := []) (c_X11_within h0 a1 0 15 G0) rfl rfl (Nat.le_of_ble_eq_true rfl) ⟨rfl, rfl⟩ (fun x1 h1 qx1 => ?_)
  obtain ⟨rfl, ⟨rfl, cx1⟩ | ⟨rfl, cx1⟩⟩ := qx1
  · refine z_if_eq_F (M := M_X11_tell) 7 dX11_tell_7 21 rfl (by omega) ?_
    refine z_iload_n (M := M_X11_tell) 10 dX11_tell_10 rfl ?_
    refine z_iconst (M := M_X11_tell) 11 dX11_tell_11 ?_
    refine z_sipush (M := M_X11_tell) 12 dX11_tell_12 ?_
    refine z_sI (M := M_X11_tell) 15 dX11_tell_15 t_X11_within l_X11_112 (m_rr_of rfl) (rest := []) (c_X11_within h0 a2 1 9999 G0) rfl rfl (Nat.le_of_ble_eq_true rfl) ⟨rfl, rfl⟩ (fun x2 h2 qx2 => ?_)
    obtain ⟨rfl, ⟨rfl, cx2⟩ | ⟨rfl, cx2⟩⟩ := qx2
    · refine z_if_ne_T (M := M_X11_tell) 18 dX11_tell_18 27 rfl (by omega) ?_
      refine z_aload_n (M := M_X11_tell) 27 dX11_tell_27 rfl ?_
      refine z_getR (M := M_X11_tell) 28 dX11_tell_28 f_X11_12 o_0 rfl (g_0_0 G0) ?_
      refine z_getR (M := M_X11_tell) 31 dX11_tell_31 f_X11_376 o_1 rfl (g_1_6 G0) ?_
      refine z_iload_n (M := M_X11_tell) 34 dX11_tell_34 rfl ?_
      refine z_ialdG (M := M_X11_tell) 35 dX11_tell_35 o_8 (by omega) (by omega) (g_8 G0 (by omega)) (fun x3 ex3 ax3 bx3 => ?_)
      refine z_istore_n (M := M_X11_tell) 36 dX11_tell_36 (ls' := [some (mR 0), some (mI a1), some (mI a2), some (mI x3)]) (by decide) rfl ?_
      refine z_aload_n (M := M_X11_tell) 37 dX11_tell_37 rfl ?_
      refine z_getR (M := M_X11_tell) 38 dX11_tell_38 f_X11_12 o_0 rfl (g_0_0 G0) ?_
      refine z_getR (M := M_X11_tell) 41 dX11_tell_41 f_X11_376 o_1 rfl (g_1_6 G0) ?_
      refine z_iload_n (M := M_X11_tell) 44 dX11_tell_44 rfl ?_
      refine z_iload_n (M := M_X11_tell) 45 dX11_tell_45 rfl ?_
      refine z_iastH (M := M_X11_tell) 46 dX11_tell_46 o_8 (by omega) (by omega) (u_8 G0 (by omega) (by omega)) ((FR.rf (cs := [8, 107]) (ss := [(0, 14)]) (h := h0)).up rfl) (fun h3 E3 G3 R3 => ?_)
      refine z_aload_n (M := M_X11_tell) 47 dX11_tell_47 rfl ?_
      refine z_iload_n (M := M_X11_tell) 48 dX11_tell_48 rfl ?_
      refine z_vI (M := M_X11_tell) 49 dX11_tell_49 t_X11_accept l_X11_123 (m_rr_of rfl) (rest := []) (c_X11_accept h3 x3 G3) o_0 rfl rfl rfl (Nat.le_of_ble_eq_true rfl) ⟨rfl, rfl⟩ (fun x4 h4 qx4 => ?_)
      obtain ⟨G4, S4, rfl⟩ := qx4
      have R4 := R3.call S4 (by decide +kernel)
      exact z_retI (M := M_X11_tell) 52 dX11_tell_52 rfl ⟨G4, R4, Or.inr ⟨by omega, by omega, by omega, by omega, ex3, (S4 8 _ rfl).trans (upE E3), fun j hj => (S4 8 j rfl).trans (upN E3 (fun q => hj q.2))⟩⟩
    · refine z_if_ne_F (M := M_X11_tell) 18 dX11_tell_18 27 rfl (by omega) ?_
      refine z_aload_n (M := M_X11_tell) 21 dX11_tell_21 rfl ?_
      refine z_iconst (M := M_X11_tell) 22 dX11_tell_22 ?_
      refine z_vI (M := M_X11_tell) 23 dX11_tell_23 t_X11_refuse l_X11_116 (m_rr_of rfl) (rest := []) (c_X11_refuse h0 (-1) G0 ⟨by omega, by omega⟩) o_0 rfl rfl rfl (Nat.le_of_ble_eq_true rfl) ⟨rfl, rfl⟩ (fun x5 h5 qx5 => ?_)
      obtain ⟨G5, S5, rfl⟩ := qx5
      have R5 := (FR.rf (cs := [8, 107]) (ss := [(0, 14)]) (h := h0)).call S5 (by decide +kernel)
      exact z_retI (M := M_X11_tell) 26 dX11_tell_26 rfl ⟨G5, R5, Or.inl ⟨by omega, rfl, fun j => S5 8 j rfl⟩⟩
  · refine z_if_eq_T (M := M_X11_tell) 7 dX11_tell_7 21 rfl (by omega) ?_
    refine z_aload_n (M := M_X11_tell) 21 dX11_tell_21 rfl ?_
    refine z_iconst (M := M_X11_tell) 22 dX11_tell_22 ?_
    refine z_vI (M := M_X11_tell) 23 dX11_tell_23 t_X11_refuse l_X11_116 (m_rr_of rfl) (rest := []) (c_X11_refuse h0 (-1) G0 ⟨by omega, by omega⟩) o_0 rfl rfl rfl (Nat.le_of_ble_eq_true rfl) ⟨rfl, rfl⟩ (fun x6 h6 qx6 => ?_)
    obtain ⟨G6, S6, rfl⟩ := qx6
    have R6 := (FR.rf (cs := [8, 107]) (ss := [(0, 14)]) (h := h0)).call S6 (by decide +kernel)
    exact z_retI (M := M_X11_tell) 26 dX11_tell_26 rfl ⟨G6, R6, Or.inl ⟨by omega, rfl, fun j => S6 8 j rfl⟩⟩
def syV (l f k : Int) : Int := if k = 0 then 100 * l / f else if k = 1 then l / f else (2 * l + f) / (2 * f)
def syQ (c i1 i2 : Nat) (a1 a2 a3 x : Int) (h0 : m_H) : Prop := ((a1 < 0 ∨ 11 < a1 ∨ a2 < 0 ∨ 3 < a2 ∨ a3 < 0 ∨ 2 < a3) ∧ x = -1) ∨ (0 ≤ a1 ∧ a1 ≤ 11 ∧ 0 ≤ a2 ∧ a2 ≤ 3 ∧ 0 ≤ a3 ∧ a3 ≤ 2 ∧ x = syV (h0 c i1) (h0 c i2) a3)
theorem sy_0 {l f k x y : Int} (ex : x = l) (ey : y = f) (hk : k = 0) : 100 * l / f = syV x y k := by subst ex ey hk; rfl
theorem sy_1 {l f k x y : Int} (ex : x = l) (ey : y = f) (hk : k = 1) : l / f = syV x y k := by subst ex ey hk; rfl
theorem sy_2 {l f k x y : Int} (ex : x = l) (ey : y = f) (h0 : k ≠ 0) (h1 : k ≠ 1) : (2 * l + f) / (2 * f) = syV x y k := by subst ex ey; unfold syV; rw [if_neg h0, if_neg h1]
abbrev P_X11_says2 (h0 : m_H) (a1 a2 a3 : Int) : Int → m_H → Prop := fun x h' => GI h' ∧ FR [] [] h0 h' ∧ syQ 8 a1.toNat (12 + a2).toNat a1 a2 a3 x h0
set_option maxHeartbeats 4000000 in
set_option maxRecDepth 100000 in
theorem c_X11_says2 (h0 : m_H) (a1 a2 a3 : Int) (G0 : GI h0) : m_CI M_X11_says [mR 0, mI a1, mI a2, mI a3] h0 (P_X11_says2 h0 a1 a2 a3) := by
  refine m_CI_of ⟨by decide, rfl, by simp [m_arg, m_isL, M_X11_says], ⟨rfl, rfl⟩, rfl, rfl⟩ (ls := [some (mR 0), some (mI a1), some (mI a2), some (mI a3), none, none]) rfl ?_
  refine z_ok (fun _ _ ok => ?_)
  have oa1 : m_32 a1 := ok 1 _ rfl
  unfold m_32 at oa1
  have oa2 : m_32 a2 := ok 2 _ rfl
  unfold m_32 at oa2
  have oa3 : m_32 a3 := ok 3 _ rfl
  unfold m_32 at oa3
  refine z_iload_n (M := M_X11_says) 0 dX11_says_0 rfl ?_
  refine z_iconst (M := M_X11_says) 1 dX11_says_1 ?_
  refine z_bipush (M := M_X11_says) 2 dX11_says_2 ?_
  refine z_sI (M := M_X11_says) 4 dX11_says_4 t_X11_within l_X11_112 (m_rr_of rfl) (rest := []) (c_X11_within h0 a1 0 11 G0) rfl rfl (Nat.le_of_ble_eq_true rfl) ⟨rfl, rfl⟩ (fun x1 h1 qx1 => ?_)
  obtain ⟨rfl, ⟨rfl, cx1⟩ | ⟨rfl, cx1⟩⟩ := qx1
  · refine z_if_eq_F (M := M_X11_says) 7 dX11_says_7 24 rfl (by omega) ?_
    refine z_iload_n (M := M_X11_says) 10 dX11_says_10 rfl ?_
    refine z_sI (M := M_X11_says) 11 dX11_says_11 t_X11_isKeeper l_X11_132 (m_rr_of rfl) (rest := []) (c_X11_isKeeper h0 a2 G0) rfl rfl (Nat.le_of_ble_eq_true rfl) ⟨rfl, rfl⟩ (fun x2 h2 qx2 => ?_)
    obtain ⟨rfl, ⟨rfl, cx2⟩ | ⟨rfl, cx2⟩⟩ := qx2
    · refine z_if_eq_F (M := M_X11_says) 14 dX11_says_14 24 rfl (by omega) ?_
      refine z_iload_n (M := M_X11_says) 17 dX11_says_17 rfl ?_
      refine z_sI (M := M_X11_says) 18 dX11_says_18 t_X11_isKind l_X11_301 (m_rr_of rfl) (rest := []) (c_X11_isKind h0 a3 G0) rfl rfl (Nat.le_of_ble_eq_true rfl) ⟨rfl, rfl⟩ (fun x3 h3 qx3 => ?_)
      obtain ⟨rfl, ⟨rfl, cx3⟩ | ⟨rfl, cx3⟩⟩ := qx3
      · refine z_if_ne_T (M := M_X11_says) 21 dX11_says_21 26 rfl (by omega) ?_
        refine z_aload_n (M := M_X11_says) 26 dX11_says_26 rfl ?_
        refine z_getR (M := M_X11_says) 27 dX11_says_27 f_X11_12 o_0 rfl (g_0_0 G0) ?_
        refine z_getR (M := M_X11_says) 30 dX11_says_30 f_X11_376 o_1 rfl (g_1_6 G0) ?_
        refine z_bipush (M := M_X11_says) 33 dX11_says_33 ?_
        refine z_iload_n (M := M_X11_says) 35 dX11_says_35 rfl ?_
        refine z_iaddN (M := M_X11_says) 36 dX11_says_36 (by omega) (by omega) ?_
        refine z_ialdG (M := M_X11_says) 37 dX11_says_37 o_8 (by omega) (by omega) (g_8 G0 (by omega)) (fun x4 ex4 ax4 bx4 => ?_)
        refine z_istore (M := M_X11_says) 38 dX11_says_38 (ls' := [some (mR 0), some (mI a1), some (mI a2), some (mI a3), some (mI x4), none]) (by decide) rfl ?_
        refine z_aload_n (M := M_X11_says) 40 dX11_says_40 rfl ?_
        refine z_getR (M := M_X11_says) 41 dX11_says_41 f_X11_12 o_0 rfl (g_0_0 G0) ?_
        refine z_getR (M := M_X11_says) 44 dX11_says_44 f_X11_376 o_1 rfl (g_1_6 G0) ?_
        refine z_iload_n (M := M_X11_says) 47 dX11_says_47 rfl ?_
        refine z_ialdG (M := M_X11_says) 48 dX11_says_48 o_8 (by omega) (by omega) (g_8 G0 (by omega)) (fun x5 ex5 ax5 bx5 => ?_)
        refine z_istore (M := M_X11_says) 49 dX11_says_49 (ls' := [some (mR 0), some (mI a1), some (mI a2), some (mI a3), some (mI x4), some (mI x5)]) (by decide) rfl ?_
        refine z_iload_n (M := M_X11_says) 51 dX11_says_51 rfl ?_
        by_cases c6 : a3 = 0 ∨ a3 = 1
        · rcases c6 with c6_0 | c6_1
          · refine z_lookup (M := M_X11_says) 52 dX11_says_52 (off := 28) 80 (by decide) (by rw [c6_0]; rfl) rfl ?_
            refine z_ldc2 (M := M_X11_says) 80 dX11_says_80 k_X11_379 ?_
            refine z_iload (M := M_X11_says) 83 dX11_says_83 rfl ?_
            refine z_i2l (M := M_X11_says) 85 dX11_says_85 ?_
            refine z_lmulN (M := M_X11_says) 86 dX11_says_86 (by omega) (by omega) ?_
            refine z_iload (M := M_X11_says) 87 dX11_says_87 rfl ?_
            refine z_i2l (M := M_X11_says) 89 dX11_says_89 ?_
            refine z_sJ (M := M_X11_says) 90 dX11_says_90 t_X11_quotient l_X11_275 (m_rr_of rfl) (rest := []) (c_X11_quotient2 h0 (100 * x5) x4 G0 (by omega) (by omega)) rfl rfl (Nat.le_of_ble_eq_true rfl) ⟨rfl, rfl⟩ (fun x7 h4 qx7 => ?_)
            obtain ⟨G4, S4, rfl⟩ := qx7
            have bq := ediv_bd (x := 100 * x5) (y := x4) (hi := 999900) (by omega) (by omega) (by omega)
            have R4 := (FR.rf (cs := []) (ss := []) (h := h0)).call S4 (by decide +kernel)
            refine z_l2iN (M := M_X11_says) 93 dX11_says_93 (by omega) (by omega) ?_
            exact z_retI (M := M_X11_says) 94 dX11_says_94 rfl ⟨G4, R4, Or.inr ⟨by omega, by omega, by omega, by omega, by omega, by omega, sy_0 ex5 ex4 c6_0⟩⟩
          · refine z_lookup (M := M_X11_says) 52 dX11_says_52 (off := 43) 95 (by decide) (by rw [c6_1]; rfl) rfl ?_
            refine z_iload (M := M_X11_says) 95 dX11_says_95 rfl ?_
            refine z_i2l (M := M_X11_says) 97 dX11_says_97 ?_
            refine z_iload (M := M_X11_says) 98 dX11_says_98 rfl ?_
            refine z_i2l (M := M_X11_says) 100 dX11_says_100 ?_
            refine z_sJ (M := M_X11_says) 101 dX11_says_101 t_X11_quotient l_X11_275 (m_rr_of rfl) (rest := []) (c_X11_quotient2 h0 x5 x4 G0 (by omega) (by omega)) rfl rfl (Nat.le_of_ble_eq_true rfl) ⟨rfl, rfl⟩ (fun x9 h5 qx9 => ?_)
            obtain ⟨G5, S5, rfl⟩ := qx9
            have bq := ediv_bd (x := x5) (y := x4) (hi := 999900) (by omega) (by omega) (by omega)
            have R5 := (FR.rf (cs := []) (ss := []) (h := h0)).call S5 (by decide +kernel)
            refine z_l2iN (M := M_X11_says) 104 dX11_says_104 (by omega) (by omega) ?_
            exact z_retI (M := M_X11_says) 105 dX11_says_105 rfl ⟨G5, R5, Or.inr ⟨by omega, by omega, by omega, by omega, by omega, by omega, sy_1 ex5 ex4 c6_1⟩⟩
        · refine z_lookup (M := M_X11_says) 52 dX11_says_52 (off := 54) 106 (by decide) (by simp only [Op.lookupswitch.offset]; split <;> (try omega) <;> (split <;> omega)) rfl ?_
          refine z_ldc2 (M := M_X11_says) 106 dX11_says_106 k_X11_381 ?_
          refine z_iload (M := M_X11_says) 109 dX11_says_109 rfl ?_
          refine z_i2l (M := M_X11_says) 111 dX11_says_111 ?_
          refine z_lmulN (M := M_X11_says) 112 dX11_says_112 (by omega) (by omega) ?_
          refine z_iload (M := M_X11_says) 113 dX11_says_113 rfl ?_
          refine z_i2l (M := M_X11_says) 115 dX11_says_115 ?_
          refine z_laddN (M := M_X11_says) 116 dX11_says_116 (by omega) (by omega) ?_
          refine z_ldc2 (M := M_X11_says) 117 dX11_says_117 k_X11_381 ?_
          refine z_iload (M := M_X11_says) 120 dX11_says_120 rfl ?_
          refine z_i2l (M := M_X11_says) 122 dX11_says_122 ?_
          refine z_lmulN (M := M_X11_says) 123 dX11_says_123 (by omega) (by omega) ?_
          refine z_sJ (M := M_X11_says) 124 dX11_says_124 t_X11_quotient l_X11_275 (m_rr_of rfl) (rest := []) (c_X11_quotient2 h0 ((2 * x5) + x4) (2 * x4) G0 (by omega) (by omega)) rfl rfl (Nat.le_of_ble_eq_true rfl) ⟨rfl, rfl⟩ (fun x11 h6 qx11 => ?_)
          obtain ⟨G6, S6, rfl⟩ := qx11
          have bq := ediv_bd (x := (2 * x5) + x4) (y := 2 * x4) (hi := 999900) (by omega) (by omega) (by omega)
          have R6 := (FR.rf (cs := []) (ss := []) (h := h0)).call S6 (by decide +kernel)
          refine z_l2iN (M := M_X11_says) 127 dX11_says_127 (by omega) (by omega) ?_
          exact z_retI (M := M_X11_says) 128 dX11_says_128 rfl ⟨G6, R6, Or.inr ⟨by omega, by omega, by omega, by omega, by omega, by omega, sy_2 ex5 ex4 (fun q => c6 (Or.inl q)) (fun q => c6 (Or.inr q))⟩⟩
      · refine z_if_ne_F (M := M_X11_says) 21 dX11_says_21 26 rfl (by omega) ?_
        refine z_iconst (M := M_X11_says) 24 dX11_says_24 ?_
        exact z_retI (M := M_X11_says) 25 dX11_says_25 rfl ⟨G0, (FR.rf (cs := []) (ss := []) (h := h0)), Or.inl ⟨by omega, rfl⟩⟩
    · refine z_if_eq_T (M := M_X11_says) 14 dX11_says_14 24 rfl (by omega) ?_
      refine z_iconst (M := M_X11_says) 24 dX11_says_24 ?_
      exact z_retI (M := M_X11_says) 25 dX11_says_25 rfl ⟨G0, (FR.rf (cs := []) (ss := []) (h := h0)), Or.inl ⟨by omega, rfl⟩⟩
  · refine z_if_eq_T (M := M_X11_says) 7 dX11_says_7 24 rfl (by omega) ?_
    refine z_iconst (M := M_X11_says) 24 dX11_says_24 ?_
    exact z_retI (M := M_X11_says) 25 dX11_says_25 rfl ⟨G0, (FR.rf (cs := []) (ss := []) (h := h0)), Or.inl ⟨by omega, rfl⟩⟩
abbrev P_X12_says2 (h0 : m_H) (a1 a2 a3 : Int) : Int → m_H → Prop := fun x h' => GI h' ∧ FR [] [(108, 0)] h0 h' ∧ syQ 110 (60 + a1).toNat (72 + a2).toNat a1 a2 a3 x h0
set_option maxHeartbeats 4000000 in
set_option maxRecDepth 100000 in
theorem c_X12_says2 (h0 : m_H) (a1 a2 a3 : Int) (G0 : GI h0) : m_CI M_X12_says [mR 108, mI a1, mI a2, mI a3] h0 (P_X12_says2 h0 a1 a2 a3) := by
  refine m_CI_of ⟨by decide, rfl, by simp [m_arg, m_isL, M_X12_says], ⟨rfl, rfl⟩, rfl, rfl⟩ (ls := [some (mR 108), some (mI a1), some (mI a2), some (mI a3), none, none]) rfl ?_
  refine z_ok (fun _ _ ok => ?_)
  have oa1 : m_32 a1 := ok 1 _ rfl
  unfold m_32 at oa1
  have oa2 : m_32 a2 := ok 2 _ rfl
  unfold m_32 at oa2
  have oa3 : m_32 a3 := ok 3 _ rfl
  unfold m_32 at oa3
  refine z_aload_n (M := M_X12_says) 0 dX12_says_0 rfl ?_
  refine z_iconst (M := M_X12_says) 1 dX12_says_1 ?_
  refine z_putIH (M := M_X12_says) 2 dX12_says_2 p_X12_133 o_108 rfl (u_108_0 G0) ((FR.rf (cs := []) (ss := [(108, 0)]) (h := h0)).up rfl) (fun h1 E1 G1 R1 => ?_)
  refine z_iload_n (M := M_X12_says) 5 dX12_says_5 rfl ?_
  refine z_i2l (M := M_X12_says) 6 dX12_says_6 ?_
  refine z_lconst (M := M_X12_says) 7 dX12_says_7 (v := 0) ?_
  refine z_ldc2 (M := M_X12_says) 8 dX12_says_8 k_X12_385 ?_
  refine z_sI (M := M_X12_says) 11 dX12_says_11 t_X12_in l_X12_143 (m_rr_of rfl) (rest := []) (c_X12_in h1 a1 0 11 G1) rfl rfl (Nat.le_of_ble_eq_true rfl) ⟨rfl, rfl⟩ (fun x1 h2 qx1 => ?_)
  obtain ⟨rfl, ⟨rfl, cx1⟩ | ⟨rfl, cx1⟩⟩ := qx1
  · refine z_if_eq_F (M := M_X12_says) 14 dX12_says_14 36 rfl (by omega) ?_
    refine z_iload_n (M := M_X12_says) 17 dX12_says_17 rfl ?_
    refine z_sI (M := M_X12_says) 18 dX12_says_18 t_X12_isKeeper l_X12_169 (m_rr_of rfl) (rest := []) (c_X12_isKeeper h1 a2 G1) rfl rfl (Nat.le_of_ble_eq_true rfl) ⟨rfl, rfl⟩ (fun x2 h3 qx2 => ?_)
    obtain ⟨rfl, ⟨rfl, cx2⟩ | ⟨rfl, cx2⟩⟩ := qx2
    · refine z_if_eq_F (M := M_X12_says) 21 dX12_says_21 36 rfl (by omega) ?_
      refine z_iload_n (M := M_X12_says) 24 dX12_says_24 rfl ?_
      refine z_i2l (M := M_X12_says) 25 dX12_says_25 ?_
      refine z_lconst (M := M_X12_says) 26 dX12_says_26 (v := 0) ?_
      refine z_ldc2 (M := M_X12_says) 27 dX12_says_27 k_X12_182 ?_
      refine z_sI (M := M_X12_says) 30 dX12_says_30 t_X12_in l_X12_143 (m_rr_of rfl) (rest := []) (c_X12_in h1 a3 0 2 G1) rfl rfl (Nat.le_of_ble_eq_true rfl) ⟨rfl, rfl⟩ (fun x3 h4 qx3 => ?_)
      obtain ⟨rfl, ⟨rfl, cx3⟩ | ⟨rfl, cx3⟩⟩ := qx3
      · refine z_if_ne_T (M := M_X12_says) 33 dX12_says_33 38 rfl (by omega) ?_
        refine z_aload_n (M := M_X12_says) 38 dX12_says_38 rfl ?_
        refine z_getR (M := M_X12_says) 39 dX12_says_39 f_X12_13 o_108 rfl (g_108_3 G1) ?_
        refine z_bipush (M := M_X12_says) 42 dX12_says_42 ?_
        refine z_iload_n (M := M_X12_says) 44 dX12_says_44 rfl ?_
        refine z_iaddN (M := M_X12_says) 45 dX12_says_45 (by omega) (by omega) ?_
        refine z_ialdG (M := M_X12_says) 46 dX12_says_46 o_110 (by omega) (by omega) (gw_l G1 (by omega) (by omega)) (fun x4 ex4 ax4 bx4 => ?_)
        refine z_istore (M := M_X12_says) 47 dX12_says_47 (ls' := [some (mR 108), some (mI a1), some (mI a2), some (mI a3), some (mI x4), none]) (by decide) rfl ?_
        refine z_aload_n (M := M_X12_says) 49 dX12_says_49 rfl ?_
        refine z_getR (M := M_X12_says) 50 dX12_says_50 f_X12_13 o_108 rfl (g_108_3 G1) ?_
        refine z_bipush (M := M_X12_says) 53 dX12_says_53 ?_
        refine z_iload_n (M := M_X12_says) 55 dX12_says_55 rfl ?_
        refine z_iaddN (M := M_X12_says) 56 dX12_says_56 (by omega) (by omega) ?_
        refine z_ialdG (M := M_X12_says) 57 dX12_says_57 o_110 (by omega) (by omega) (gw_l G1 (by omega) (by omega)) (fun x5 ex5 ax5 bx5 => ?_)
        refine z_istore (M := M_X12_says) 58 dX12_says_58 (ls' := [some (mR 108), some (mI a1), some (mI a2), some (mI a3), some (mI x4), some (mI x5)]) (by decide) rfl ?_
        refine z_iload_n (M := M_X12_says) 60 dX12_says_60 rfl ?_
        refine z_if_ne (M := M_X12_says) 61 dX12_says_61 75 rfl (fun c6 => ?_) (fun c6 => ?_)
        · refine z_iload_n (M := M_X12_says) 75 dX12_says_75 rfl ?_
          refine z_iconst (M := M_X12_says) 76 dX12_says_76 ?_
          refine z_icmp_ne (M := M_X12_says) 77 dX12_says_77 88 rfl (fun c7 => ?_) (fun c7 => ?_)
          · refine z_iconst (M := M_X12_says) 88 dX12_says_88 ?_
            refine z_iload (M := M_X12_says) 89 dX12_says_89 rfl ?_
            refine z_imulN (M := M_X12_says) 91 dX12_says_91 (by omega) (by omega) ?_
            refine z_iload (M := M_X12_says) 92 dX12_says_92 rfl ?_
            refine z_iaddN (M := M_X12_says) 94 dX12_says_94 (by omega) (by omega) ?_
            refine z_iconst (M := M_X12_says) 95 dX12_says_95 ?_
            refine z_iload (M := M_X12_says) 96 dX12_says_96 rfl ?_
            refine z_imulN (M := M_X12_says) 98 dX12_says_98 (by omega) (by omega) ?_
            refine z_idivN (M := M_X12_says) 99 dX12_says_99 (by omega) (by omega) ?_
            refine z_topBI (lo := 0) (hi := 29997) (ediv_bd (by omega) (by omega) (by omega)) (fun x8 ex8 ax8 bx8 => ?_)
            exact z_retI (M := M_X12_says) 100 dX12_says_100 rfl ⟨G1, R1, Or.inr ⟨by omega, by omega, by omega, by omega, by omega, by omega, ex8.symm.trans (sy_2 ((tl_o E1 (by decide) _).symm.trans ex4) ((tl_o E1 (by decide) _).symm.trans ex5) c6 c7)⟩⟩
          · refine z_iload (M := M_X12_says) 80 dX12_says_80 rfl ?_
            refine z_iload (M := M_X12_says) 82 dX12_says_82 rfl ?_
            refine z_idivN (M := M_X12_says) 84 dX12_says_84 (by omega) (by omega) ?_
            refine z_topBI (lo := 0) (hi := 9999) (ediv_bd (by omega) (by omega) (by omega)) (fun x9 ex9 ax9 bx9 => ?_)
            refine z_goto (M := M_X12_says) 85 dX12_says_85 100 rfl ?_
            exact z_retI (M := M_X12_says) 100 dX12_says_100 rfl ⟨G1, R1, Or.inr ⟨by omega, by omega, by omega, by omega, by omega, by omega, ex9.symm.trans (sy_1 ((tl_o E1 (by decide) _).symm.trans ex4) ((tl_o E1 (by decide) _).symm.trans ex5) (by omega))⟩⟩
        · refine z_bipush (M := M_X12_says) 64 dX12_says_64 ?_
          refine z_iload (M := M_X12_says) 66 dX12_says_66 rfl ?_
          refine z_imulN (M := M_X12_says) 68 dX12_says_68 (by omega) (by omega) ?_
          refine z_iload (M := M_X12_says) 69 dX12_says_69 rfl ?_
          refine z_idivN (M := M_X12_says) 71 dX12_says_71 (by omega) (by omega) ?_
          refine z_topBI (lo := 0) (hi := 999900) (ediv_bd (by omega) (by omega) (by omega)) (fun x10 ex10 ax10 bx10 => ?_)
          refine z_goto (M := M_X12_says) 72 dX12_says_72 100 rfl ?_
          exact z_retI (M := M_X12_says) 100 dX12_says_100 rfl ⟨G1, R1, Or.inr ⟨by omega, by omega, by omega, by omega, by omega, by omega, ex10.symm.trans (sy_0 ((tl_o E1 (by decide) _).symm.trans ex4) ((tl_o E1 (by decide) _).symm.trans ex5) (by omega))⟩⟩
      · refine z_if_ne_F (M := M_X12_says) 33 dX12_says_33 38 rfl (by omega) ?_
        refine z_iconst (M := M_X12_says) 36 dX12_says_36 ?_
        exact z_retI (M := M_X12_says) 37 dX12_says_37 rfl ⟨G1, R1, Or.inl ⟨by omega, rfl⟩⟩
    · refine z_if_eq_T (M := M_X12_says) 21 dX12_says_21 36 rfl (by omega) ?_
      refine z_iconst (M := M_X12_says) 36 dX12_says_36 ?_
      exact z_retI (M := M_X12_says) 37 dX12_says_37 rfl ⟨G1, R1, Or.inl ⟨by omega, rfl⟩⟩
  · refine z_if_eq_T (M := M_X12_says) 14 dX12_says_14 36 rfl (by omega) ?_
    refine z_iconst (M := M_X12_says) 36 dX12_says_36 ?_
    exact z_retI (M := M_X12_says) 37 dX12_says_37 rfl ⟨G1, R1, Or.inl ⟨by omega, rfl⟩⟩
abbrev P_X11_book2 (h0 : m_H) : Int → m_H → Prop := fun x h' => GI h' ∧ FR [2, 3, 4, 5, 6, 7, 8, 10, 11, 12, 13, 14, 15, 16, 107] [(0, 14), (0, 16), (1, 7), (1, 8), (1, 9), (9, 7), (9, 8), (9, 9), (35, 1), (37, 1), (37, 2), (37, 3)] h0 h' ∧ (-6) ≤ x ∧ x ≤ 400 ∧ h' 35 1 = 0 ∧ (∀ j, j < 16 → h' 8 j = h0 8 j)
set_option maxHeartbeats 4000000 in
set_option maxRecDepth 100000 in
theorem c_X11_book2 (h0 : m_H) (G0 : GI h0) : m_CI M_X11_book [mR 0] h0 (P_X11_book2 h0) := by
  refine m_CI_of ⟨by decide, rfl, by simp [m_arg, m_isL, M_X11_book], ⟨rfl, rfl⟩, rfl, rfl⟩ (ls := [some (mR 0), none]) rfl ?_
  obtain ⟨x1, ex1⟩ : ∃ y : Int, h0 35 1 = y := ⟨_, rfl⟩
  have bx1 : 0 ≤ x1 ∧ x1 ≤ 400 := ex1 ▸ g_35_1 G0
  refine z_aload_n (M := M_X11_book) 0 dX11_book_0 rfl ?_
  refine z_getR (M := M_X11_book) 1 dX11_book_1 f_X11_16 o_0 rfl (g_0_1 G0) ?_
  refine z_aload_n (M := M_X11_book) 4 dX11_book_4 rfl ?_
  refine z_getR (M := M_X11_book) 5 dX11_book_5 f_X11_12 o_0 rfl (g_0_0 G0) ?_
  refine z_vV (M := M_X11_book) 8 dX11_book_8 t_X4_copyFrom l_X11_197 (m_rr_of rfl) (rest := []) (c_X4_copyFrom2 h0 9 1 (Or.inr (Or.inl rfl)) (Or.inl rfl) G0) o_9 rfl rfl rfl (Nat.le_of_ble_eq_true rfl) ⟨rfl, rfl⟩ (fun h1 qx2 => ?_)
  obtain ⟨G1, S1, C1⟩ := qx2
  have R1 := (FR.rf (cs := [2, 3, 4, 5, 6, 7, 8, 10, 11, 12, 13, 14, 15, 16, 107]) (ss := [(0, 14), (0, 16), (1, 7), (1, 8), (1, 9), (9, 7), (9, 8), (9, 9), (35, 1), (37, 1), (37, 2), (37, 3)]) (h := h0)).call S1 (by decide +kernel)
  refine z_aload_n (M := M_X11_book) 11 dX11_book_11 rfl ?_
  refine z_getR (M := M_X11_book) 12 dX11_book_12 f_X11_39 o_0 rfl (g_0_5 G1) ?_
  refine z_aload_n (M := M_X11_book) 15 dX11_book_15 rfl ?_
  refine z_getR (M := M_X11_book) 16 dX11_book_16 f_X11_16 o_0 rfl (g_0_1 G1) ?_
  refine z_vI (M := M_X11_book) 19 dX11_book_19 t_X1_readOnto l_X11_201 (m_rr_of rfl) (rest := []) (c_X1_readOnto h1 9 (Or.inr (Or.inl rfl)) G1) o_37 rfl rfl rfl (Nat.le_of_ble_eq_true rfl) ⟨rfl, rfl⟩ (fun x3 h2 qx3 => ?_)
  obtain ⟨G2, S2, ax3, bx3⟩ := qx3
  have R2 := R1.call S2 (by decide +kernel)
  refine z_istore_n (M := M_X11_book) 22 dX11_book_22 (ls' := [some (mR 0), some (mI x3)]) (by decide) rfl ?_
  refine z_aload_n (M := M_X11_book) 23 dX11_book_23 rfl ?_
  refine z_aload_n (M := M_X11_book) 24 dX11_book_24 rfl ?_
  refine z_getR (M := M_X11_book) 25 dX11_book_25 f_X11_39 o_0 rfl (g_0_5 G2) ?_
  refine z_getIV (M := M_X11_book) 28 dX11_book_28 f_X11_205 o_37 (by decide) (fun x4 ex4 => ?_)
  refine z_ok (fun ox4 _ _ => ?_)
  have ox4 := ox4.1; unfold m_ok m_32 at ox4
  refine z_putIH (M := M_X11_book) 31 dX11_book_31 p_X11_105 o_0 rfl (u_0_16 G2) (R2.up rfl) (fun h3 E3 G3 R3 => ?_)
  refine z_aload_n (M := M_X11_book) 34 dX11_book_34 rfl ?_
  refine z_getR (M := M_X11_book) 35 dX11_book_35 f_X11_30 o_0 rfl (g_0_4 G3) ?_
  refine z_iconst (M := M_X11_book) 38 dX11_book_38 ?_
  refine z_putIH (M := M_X11_book) 39 dX11_book_39 p_X11_187 o_35 rfl (u_35_1 G3 (by omega) (by omega)) (R3.up rfl) (fun h4 E4 G4 R4 => ?_)
  refine z_iload_n (M := M_X11_book) 42 dX11_book_42 rfl ?_
  refine z_iconst (M := M_X11_book) 43 dX11_book_43 ?_
  refine z_icmp_ne (M := M_X11_book) 44 dX11_book_44 54 rfl (fun c5 => ?_) (fun c5 => ?_)
  · refine z_aload_n (M := M_X11_book) 54 dX11_book_54 rfl ?_
    refine z_getR (M := M_X11_book) 55 dX11_book_55 f_X11_12 o_0 rfl (g_0_0 G4) ?_
    refine z_aload_n (M := M_X11_book) 58 dX11_book_58 rfl ?_
    refine z_getR (M := M_X11_book) 59 dX11_book_59 f_X11_16 o_0 rfl (g_0_1 G4) ?_
    refine z_vV (M := M_X11_book) 62 dX11_book_62 t_X4_copyFrom l_X11_197 (m_rr_of rfl) (rest := []) (c_X4_copyFrom2 h4 1 9 (Or.inl rfl) (Or.inr (Or.inl rfl)) G4) o_1 rfl rfl rfl (Nat.le_of_ble_eq_true rfl) ⟨rfl, rfl⟩ (fun h5 qx6 => ?_)
    obtain ⟨G5, S5, C5⟩ := qx6
    have R5 := R4.call S5 (by decide +kernel)
    refine z_aload_n (M := M_X11_book) 65 dX11_book_65 rfl ?_
    refine z_iload_n (M := M_X11_book) 66 dX11_book_66 rfl ?_
    refine z_vI (M := M_X11_book) 67 dX11_book_67 t_X11_accept l_X11_123 (m_rr_of rfl) (rest := []) (c_X11_accept h5 x3 G5) o_0 rfl rfl rfl (Nat.le_of_ble_eq_true rfl) ⟨rfl, rfl⟩ (fun x7 h6 qx7 => ?_)
    obtain ⟨G6, S6, rfl⟩ := qx7
    have R6 := R5.call S6 (by decide +kernel)
    have z8 : h6 35 1 = 0 := ((S6 35 1 rfl).trans ((S5 35 1 rfl).trans (upE E4)))
    exact z_retI (M := M_X11_book) 70 dX11_book_70 rfl ⟨G6, R6, by omega, by omega, by omega, fun j hj => (S6 8 j rfl).trans ((C5.2.2.2.2.2.2.1 j hj).trans ((tl_o E4 (by decide) j).trans ((tl_o E3 (by decide) j).trans ((S2 16 j rfl).trans (C1.2.2.2.2.2.2.1 j hj)))))⟩
  · refine z_aload_n (M := M_X11_book) 47 dX11_book_47 rfl ?_
    refine z_bipush (M := M_X11_book) 48 dX11_book_48 ?_
    refine z_vI (M := M_X11_book) 50 dX11_book_50 t_X11_refuse l_X11_116 (m_rr_of rfl) (rest := []) (c_X11_refuse h4 (-6) G4 ⟨by omega, by omega⟩) o_0 rfl rfl rfl (Nat.le_of_ble_eq_true rfl) ⟨rfl, rfl⟩ (fun x8 h7 qx8 => ?_)
    obtain ⟨G7, S7, rfl⟩ := qx8
    have R7 := R4.call S7 (by decide +kernel)
    have z8 : h7 35 1 = 0 := ((S7 35 1 rfl).trans (upE E4))
    exact z_retI (M := M_X11_book) 53 dX11_book_53 rfl ⟨G7, R7, by omega, by omega, by omega, fun j _ => (S7 8 j rfl).trans ((tl_o E4 (by decide) j).trans ((tl_o E3 (by decide) j).trans ((S2 8 j rfl).trans (S1 8 j rfl))))⟩
/-- a ledger's world is a row's -/
def LW (L : Nat) (h : m_H) (r : Nat → Int) : Prop := ∀ j, j < 16 → h (L + 7) j = r (60 + j)
theorem LW.same {L : Nat} {h h' : m_H} {r r' : Nat → Int} (W : LW L h r) (e : ∀ j, j < 16 → h' (L + 7) j = h (L + 7) j) (e2 : ∀ j, 60 ≤ j → j ≤ 75 → r' j = r j) : LW L h' r' := fun j hj => by rw [e j hj, e2 _ (by omega) (by omega)]; exact W j hj
theorem LW.copy {L K : Nat} {h0 h h' : m_H} {r r' : Nat → Int} (W : LW K h r) (e : ∀ j, j < 16 → h0 (K + 7) j = h (K + 7) j) (C : LC L K h0 h') (e2 : ∀ j, 60 ≤ j → j ≤ 75 → r' j = r j) : LW L h' r' := fun j hj => by rw [C.2.2.2.2.2.2.1 j hj, e j hj, e2 _ (by omega) (by omega)]; exact W j hj
def RW (h : m_H) : Prop := KP h ∧ LW 1 h (h 110) ∧ ∀ k, k < 2 → h 34 k ≠ 0 → LW (18 + 8 * k) h (fun j => h 111 (200 * k + j))
theorem RW.gen {h h' : m_H} (R : RW h) (e8 : ∀ j, j < 16 → h' 8 j = h 8 j) (e25 : ∀ k, k < 2 → ∀ j, h' (25 + 8 * k) j = h (25 + 8 * k) j) (e34 : ∀ j, h' 34 j = h 34 j) (e0 : ∀ j, 60 ≤ j → j ≤ 75 → h' 110 j = h 110 j) (e1 : ∀ j, h' 111 j = h 111 j) (e2 : ∀ j, h' 112 j = h 112 j) : RW h' := by
  obtain ⟨a, b, c⟩ := R
  refine ⟨a.call e34 e2, b.same e8 e0, fun k hk hn => ?_⟩
  rw [e34] at hn
  refine (c k hk hn).same (fun j _ => ?_) (fun j _ _ => e1 _)
  have q : 18 + 8 * k + 7 = 25 + 8 * k := by omega
  rw [q]; exact e25 k hk j
theorem RW.cls {h h' : m_H} {cs : List Nat} {ss : List (Nat × Nat)} (R : RW h) (S : FR cs ss h h') (o1 : out 8 8 cs ss = true) (o2 : out 18 34 cs ss = true) (o3 : out 110 112 cs ss = true) : RW h' :=
  R.gen (fun j _ => S _ _ (fr_out o1 (by decide) (by decide) j)) (fun k hk j => S _ _ (fr_out o2 (by omega) (by omega) j)) (fun j => S _ _ (fr_out o2 (by decide) (by decide) j)) (fun j _ _ => S _ _ (fr_out o3 (by decide) (by decide) j)) (fun j => S _ _ (fr_out o3 (by decide) (by decide) j)) (fun j => S _ _ (fr_out o3 (by decide) (by decide) j))
theorem RW.mod {h h' : m_H} {cs : List Nat} {ss : List (Nat × Nat)} (R : RW h) (S : FR cs ss h h') (W : NPi h h') (o1 : out 8 8 cs ss = true) (o2 : out 18 34 cs ss = true) (o3 : out 111 112 cs ss = true) : RW h' :=
  R.gen (fun j _ => S _ _ (fr_out o1 (by decide) (by decide) j)) (fun k hk j => S _ _ (fr_out o2 (by omega) (by omega) j)) (fun j => S _ _ (fr_out o2 (by decide) (by decide) j)) W.2 (fun j => S _ _ (fr_out o3 (by decide) (by decide) j)) (fun j => S _ _ (fr_out o3 (by decide) (by decide) j))
theorem RW.book {h h' : m_H} {cs : List Nat} {ss : List (Nat × Nat)} (R : RW h) (S : FR cs ss h h') (W : ∀ j, j < 16 → h' 8 j = h 8 j) (o2 : out 18 34 cs ss = true) (o3 : out 110 112 cs ss = true) : RW h' :=
  R.gen W (fun k hk j => S _ _ (fr_out o2 (by omega) (by omega) j)) (fun j => S _ _ (fr_out o2 (by decide) (by decide) j)) (fun j _ _ => S _ _ (fr_out o3 (by decide) (by decide) j)) (fun j => S _ _ (fr_out o3 (by decide) (by decide) j)) (fun j => S _ _ (fr_out o3 (by decide) (by decide) j))
theorem RW.tell {h h1 h2 : m_H} {cs cs' : List Nat} {ss ss' : List (Nat × Nat)} {a1 a2 x y : Int} (R : RW h) (S1 : FR cs ss h h1) (S2 : FR cs' ss' h1 h2) (A : tlQ 8 a1.toNat a1 a2 x h h1) (B : tlQ 110 (60 + a1).toNat a1 a2 y h1 h2) (o2 : out 18 34 cs ss = true) (o3 : out 110 112 cs ss = true) (q1 : out 8 8 cs' ss' = true) (q2 : out 18 34 cs' ss' = true) (q3 : out 111 112 cs' ss' = true) : RW h2 ∧ x = y := by
  have f25 : ∀ c, 18 ≤ c → c ≤ 34 → ∀ j, h2 c j = h c j := fun c u v j => (S2 _ _ (fr_out q2 u v j)).trans (S1 _ _ (fr_out o2 u v j))
  have f111 : ∀ c, 111 ≤ c → c ≤ 112 → ∀ j, h2 c j = h c j := fun c u v j => (S2 _ _ (fr_out q3 u v j)).trans (S1 _ _ (fr_out o3 (by omega) v j))
  have f8 : ∀ j, h2 8 j = h1 8 j := fun j => S2 _ _ (fr_out q1 (by decide) (by decide) j)
  have f110 : ∀ j, h1 110 j = h 110 j := fun j => S1 _ _ (fr_out o3 (by decide) (by decide) j)
  by_cases g : a1 < 0 ∨ 15 < a1 ∨ a2 < 1 ∨ 9999 < a2
  · rcases A with ⟨_, ax, a⟩ | ⟨a, b, c, d, _⟩
    · rcases B with ⟨_, bx, b⟩ | ⟨b, c, d, e, _⟩
      · refine ⟨R.gen (fun j _ => (f8 j).trans (a j)) (fun k hk j => f25 _ (by omega) (by omega) j) (f25 34 (by decide) (by decide)) (fun j _ _ => (b j).trans (f110 j)) (f111 111 (by decide) (by decide)) (f111 112 (by decide) (by decide)), by omega⟩
      · omega
    · omega
  · rcases A with ⟨a, _, _⟩ | ⟨a, b, c, d, ax, av, ao⟩
    · exact absurd a g
    rcases B with ⟨b, _, _⟩ | ⟨_, _, _, _, bx, bv, bo⟩
    · exact absurd b g
    have i1 : (60 + a1).toNat = 60 + a1.toNat := by omega
    obtain ⟨r1, r2, r3⟩ := R
    have e := r2 a1.toNat (by omega)
    rw [i1] at bx bv bo
    refine ⟨⟨r1.call (f25 34 (by decide) (by decide)) (f111 112 (by decide) (by decide)), fun j hj => ?_, fun k hk hn => ?_⟩, ?_⟩
    · show h2 8 j = h2 110 (60 + j)
      rw [f8]
      by_cases w : j = a1.toNat
      · rw [w, av, bv]
      · rw [ao j w, bo _ (by omega), f110]; exact r2 j hj
    · rw [f25 34 (by decide) (by decide)] at hn
      exact (r3 k hk hn).same (fun j _ => f25 _ (by omega) (by omega) j) (fun j _ _ => f111 111 (by decide) (by decide) _)
    · rw [← ax, ← bx, f110]; exact e
theorem RW.image {h h1 h2 : m_H} {cs cs' : List Nat} {ss ss' : List (Nat × Nat)} {a1 x y : Int} (R : RW h) (S1 : FR cs ss h h1) (S2 : FR cs' ss' h1 h2) (A : imQ 34 a1 x h h1) (A2 : imC a1 h h1) (B : imQ 112 a1 y h1 h2) (B2 : imM a1 h1 h2) (o1 : out 1 8 cs ss = true) (o3 : out 110 112 cs ss = true) (q1 : out 1 8 cs' ss' = true) (q2 : out 18 34 cs' ss' = true) (q3 : out 110 110 cs' ss' = true) : RW h2 ∧ x = y := by
  obtain ⟨r1, r2, r3⟩ := R
  have f34 : ∀ c, 18 ≤ c → c ≤ 34 → ∀ j, h2 c j = h1 c j := fun c u v j => S2 _ _ (fr_out q2 u v j)
  have k2 := imKP r1 A B (fun j => S1 _ _ (fr_out o3 (by decide) (by decide) j)) (f34 34 (by decide) (by decide))
  have f8 : ∀ j, h2 8 j = h 8 j := fun j => (S2 _ _ (fr_out q1 (by decide) (by decide) j)).trans (S1 _ _ (fr_out o1 (by decide) (by decide) j))
  have f110 : ∀ j, h2 110 j = h 110 j := fun j => (S2 _ _ (fr_out q3 (by decide) (by decide) j)).trans (S1 _ _ (fr_out o3 (by decide) (by decide) j))
  have g110 : ∀ j, h1 110 j = h 110 j := fun j => S1 _ _ (fr_out o3 (by decide) (by decide) j)
  have g111 : ∀ j, h1 111 j = h 111 j := fun j => S1 _ _ (fr_out o3 (by decide) (by decide) j)
  refine ⟨⟨k2.1, LW.same r2 (fun j _ => f8 j) (fun j _ _ => f110 j), fun k hk hn => ?_⟩, k2.2⟩
  by_cases w : (k : Int) = a1
  · have hk2 : a1.toNat = k := by omega
    have l := A2.1 (by omega) (by omega)
    have m := B2.1 (by omega) (by omega)
    rw [hk2] at l m
    refine LW.same (LW.copy (r' := h 110) r2 (fun _ _ => rfl) l (fun _ _ _ => rfl)) (fun j _ => f34 _ (by omega) (by omega) j) (fun j _ hj => ?_)
    rw [m j (by omega), g110]
  · have l := A2.2 k hk w
    have m := B2.2 k hk w
    have hn1 : h 34 k ≠ 0 := by
      rw [f34 34 (by decide) (by decide)] at hn
      rcases A with ⟨_, _, e⟩ | ⟨_, _, _, _, e⟩
      · rw [e] at hn; exact hn
      · rw [e k (by omega)] at hn; exact hn
    refine LW.same (r3 k hk hn1) (fun j _ => (f34 _ (by omega) (by omega) j).trans (l 7 (by decide) j)) (fun j _ hj => ?_)
    show h2 111 _ = _
    rw [m j (by omega), g111]
theorem RW.back {h h1 h2 : m_H} {cs cs' : List Nat} {ss ss' : List (Nat × Nat)} {a1 x y : Int} (R : RW h) (S1 : FR cs ss h h1) (S2 : FR cs' ss' h1 h2) (A : bkQ 34 a1 x h) (A2 : bkC a1 x h h1) (B : bkQ 112 a1 y h1) (B2 : bkM a1 y h1 h2) (o2 : out 18 34 cs ss = true) (o3 : out 110 112 cs ss = true) (q1 : out 1 8 cs' ss' = true) (q2 : out 18 34 cs' ss' = true) (q3 : out 111 112 cs' ss' = true) : RW h2 ∧ x = y := by
  obtain ⟨r1, r2, r3⟩ := R
  have e := bkE r1 A B (fun j => S1 _ _ (fr_out o3 (by decide) (by decide) j))
  have f34 : ∀ c, 18 ≤ c → c ≤ 34 → ∀ j, h2 c j = h c j := fun c u v j => (S2 _ _ (fr_out q2 u v j)).trans (S1 _ _ (fr_out o2 u v j))
  have f111 : ∀ c, 111 ≤ c → c ≤ 112 → ∀ j, h2 c j = h c j := fun c u v j => (S2 _ _ (fr_out q3 u v j)).trans (S1 _ _ (fr_out o3 (by omega) v j))
  have g8 : ∀ c, 1 ≤ c → c ≤ 8 → ∀ j, h2 c j = h1 c j := fun c u v j => S2 _ _ (fr_out q1 u v j)
  have g110 : ∀ c, 110 ≤ c → c ≤ 112 → ∀ j, h1 c j = h c j := fun c u v j => S1 _ _ (fr_out o3 u v j)
  refine ⟨⟨r1.call (f34 34 (by decide) (by decide)) (f111 112 (by decide) (by decide)), ?_, fun k hk hn => ?_⟩, e⟩
  · by_cases w : x = 0
    · obtain ⟨a, b, c⟩ := A2.1 w
      obtain ⟨_, _, d⟩ := B2.1 (by omega)
      have hn : h 34 a1.toNat ≠ 0 := by
        rcases A with ⟨_, q⟩ | ⟨_, _, _, q⟩ | ⟨_, _, q, _⟩
        · omega
        · omega
        · exact q
      refine LW.same (LW.copy (r' := fun j => h 111 (200 * a1.toNat + j)) (r3 a1.toNat (by omega) hn) (fun _ _ => rfl) c (fun _ _ _ => rfl)) (fun j _ => g8 _ (by decide) (by decide) j) (fun j _ hj => ?_)
      rw [d j (by omega), g110 111 (by decide) (by decide)]
    · refine LW.same r2 (fun j _ => (g8 _ (by decide) (by decide) j).trans (A2.2 w 7 (by decide) j)) (fun j _ _ => ?_)
      rw [B2.2 (by omega), g110 110 (by decide) (by decide)]
  · rw [f34 34 (by decide) (by decide)] at hn
    exact LW.same (r3 k hk hn) (fun j _ => f34 _ (by omega) (by omega) j) (fun j _ _ => f111 111 (by decide) (by decide) _)
theorem RW.says {h h1 : m_H} {cs : List Nat} {ss : List (Nat × Nat)} {a1 a2 a3 x y : Int} (R : RW h) (S1 : FR cs ss h h1) (A : syQ 8 a1.toNat (12 + a2).toNat a1 a2 a3 x h) (B : syQ 110 (60 + a1).toNat (72 + a2).toNat a1 a2 a3 y h1) (o3 : out 110 112 cs ss = true) : x = y := by
  have f110 : ∀ j, h1 110 j = h 110 j := fun j => S1 _ _ (fr_out o3 (by decide) (by decide) j)
  by_cases g : a1 < 0 ∨ 11 < a1 ∨ a2 < 0 ∨ 3 < a2 ∨ a3 < 0 ∨ 2 < a3
  · rcases A with ⟨_, ax⟩ | ⟨a, b, c, d, e, f, _⟩
    · rcases B with ⟨_, bx⟩ | ⟨a, b, c, d, e, f, _⟩
      · omega
      · omega
    · omega
  · rcases A with ⟨a, _⟩ | ⟨a, b, c, d, _, _, ax⟩
    · exact absurd a g
    rcases B with ⟨b, _⟩ | ⟨_, _, _, _, _, _, bx⟩
    · exact absurd b g
    have e1 := R.2.1 a1.toNat (by omega)
    have e2 := R.2.1 (12 + a2).toNat (by omega)
    have i1 : (60 + a1).toNat = 60 + a1.toNat := by omega
    have i2 : (72 + a2).toNat = 60 + (12 + a2).toNat := by omega
    rw [i1, i2, f110, f110, ← e1, ← e2] at bx
    exact ax.trans bx.symm
/-! the weeks drawn, the best trade -/
def lcg (s : Int) : Int := (s * 1103 + 12345) % 1000003
def dS (s : Int) : Nat → Int
  | 0 => s
  | w + 1 => lcg (dS s w)
def dr (s : Int) (w : Nat) : Int := dS s (w + 1) % 4
theorem dr_b (s : Int) (w : Nat) : 0 ≤ dr s w ∧ dr s w ≤ 3 := by unfold dr; omega
theorem dS_st {a l2 l3 x : Int} (i0 : l2 = dS a l3.toNat) (h : 0 ≤ l3) (e : (l2 * 1103 + 12345) % 1000003 = x) : x = dS a (l3 + 1).toNat := by
  have q : (l3 + 1).toNat = l3.toNat + 1 := by omega
  rw [q, ← e, i0]; rfl
theorem dr_st {a l2 l3 x2 x3 : Int} {c : Nat} {h h' : m_H} (i0 : l2 = dS a l3.toNat) (i1 : ∀ j : Nat, (j : Int) < l3 → h c j = dr a j) (p : 0 ≤ l3) (e2 : (l2 * 1103 + 12345) % 1000003 = x2) (e3 : x2 % 4 = x3) (E : h' = m_up h c l3.toNat x3) : ∀ j : Nat, (j : Int) < l3 + 1 → h' c j = dr a j := by
  intro j hj
  by_cases q : j = l3.toNat
  · have z := dS_st i0 p e2
    have q1 : (l3 + 1).toNat = j + 1 := by omega
    rw [← q] at E
    rw [upE E, ← e3, z, q1]; rfl
  · rw [upN E (fun z => q z.2)]; exact i1 j (by omega)
def bsS (f : Nat → Int) (p : Nat) (t : Int × Int × Int) : Int × Int × Int := if p / 32 < p % 32 ∧ t.1 < f (p % 32) - f (p / 32) then (f (p % 32) - f (p / 32), ((p / 32 : Nat) : Int), ((p % 32 : Nat) : Int)) else t
def bs (f : Nat → Int) : Nat → Int × Int × Int
  | 0 => (0, -1, -1)
  | p + 1 => bsS f p (bs f p)
theorem bs_congr {f g : Nat → Int} (e : ∀ w, w < 32 → f w = g w) : ∀ p, p ≤ 1024 → bs f p = bs g p
  | 0, _ => rfl
  | p + 1, hp => by
    show bsS f p (bs f p) = bsS g p (bs g p)
    rw [bs_congr e p (by omega)]
    unfold bsS
    rw [e (p % 32) (by omega), e (p / 32) (by omega)]
theorem bs_skip {f : Nat → Int} {b : Nat} : ∀ k, k ≤ b + 1 → k ≤ 32 → bs f (32 * b + k) = bs f (32 * b)
  | 0, _, _ => rfl
  | k + 1, h1, h2 => by
    show bsS f (32 * b + k) (bs f (32 * b + k)) = _
    rw [bs_skip k (by omega) (by omega)]
    unfold bsS
    rw [if_neg (by omega)]
theorem bs_at {f : Nat → Int} {b k : Nat} (hk : k < 32) (hb : b < k) : bs f (32 * b + (k + 1)) = if (bs f (32 * b + k)).1 < f k - f b then (f k - f b, (b : Int), (k : Int)) else bs f (32 * b + k) := by
  show bsS f (32 * b + k) (bs f (32 * b + k)) = _
  unfold bsS
  have e1 : (32 * b + k) / 32 = b := by omega
  have e2 : (32 * b + k) % 32 = k := by omega
  rw [e1, e2]
  by_cases q : (bs f (32 * b + k)).1 < f k - f b
  · rw [if_pos ⟨hb, q⟩, if_pos q]
  · rw [if_neg (fun z => q z.2), if_neg q]
def bI (c : Int) (f : Nat → Int) (p : Nat) (m b s : Int) : Prop := m = c * (bs f p).1 ∧ b = (bs f p).2.1 ∧ s = (bs f p).2.2
theorem bI_0 {c : Int} {f : Nat → Int} {b s : Int} (e1 : b = -1) (e2 : s = -1) : bI c f (32 * (0 : Int).toNat) 0 b s := ⟨(Int.mul_zero c).symm, e1, e2⟩
theorem bI_in {c m b s b' s' l : Int} {f : Nat → Int} (i : bI c f (32 * l.toNat) m b s) (e2 : b' = b) (e3 : s' = s) (h0 : 0 ≤ l) (h1 : l ≤ 31) : bI c f (32 * l.toNat + (l + 1).toNat) m b' s' := by
  unfold bI at i ⊢
  rw [bs_skip (l + 1).toNat (by omega) (by omega), e2, e3]; exact i
theorem bI_out {c m b s l k : Int} {f : Nat → Int} (i : bI c f (32 * l.toNat + k.toNat) m b s) (hk : k = 32) (h0 : 0 ≤ l) : bI c f (32 * (l + 1).toNat) m b s := by
  have q : 32 * (l + 1).toNat = 32 * l.toNat + k.toNat := by omega
  rw [q]; exact i
theorem bI_no {c m b s b' s' l k d : Int} {f : Nat → Int} (i : bI c f (32 * l.toNat + k.toNat) m b s) (e2 : b' = b) (e3 : s' = s) (h0 : 0 ≤ l) (h1 : l < k) (h2 : k < 32) (hc : 1 ≤ c) (ed : d = f k.toNat - f l.toNat) (q : c * d ≤ m) : bI c f (32 * l.toNat + (k + 1).toNat) m b' s' := by
  have q1 : (k + 1).toNat = k.toNat + 1 := by omega
  obtain ⟨i1, i2, i3⟩ := i
  unfold bI
  have z : ¬ (bs f (32 * l.toNat + k.toNat)).1 < f k.toNat - f l.toNat := by
    intro z
    rw [← ed] at z
    have := Int.mul_lt_mul_of_pos_left z (show 0 < c by omega)
    omega
  rw [q1, bs_at (by omega) (by omega), if_neg z, e2, e3]
  exact ⟨i1, i2, i3⟩
theorem bI_yes {c m b s b' s' l k d : Int} {f : Nat → Int} (i : bI c f (32 * l.toNat + k.toNat) m b s) (e2 : b' = l) (e3 : s' = k) (h0 : 0 ≤ l) (h1 : l < k) (h2 : k < 32) (hc : 1 ≤ c) (ed : d = f k.toNat - f l.toNat) (q : ¬ c * d ≤ m) : bI c f (32 * l.toNat + (k + 1).toNat) (c * d) b' s' := by
  have q1 : (k + 1).toNat = k.toNat + 1 := by omega
  obtain ⟨i1, i2, i3⟩ := i
  unfold bI
  have z : (bs f (32 * l.toNat + k.toNat)).1 < f k.toNat - f l.toNat := by
    rw [← ed]
    rw [i1] at q
    exact Int.lt_of_mul_lt_mul_left (by omega) (show 0 ≤ c by omega)
  rw [q1, bs_at (by omega) (by omega), if_pos z, e2, e3, ed]
  exact ⟨rfl, by show l = ((l.toNat : Nat) : Int); omega, by show k = ((k.toNat : Nat) : Int); omega⟩
theorem one_m {c d m : Int} (hc : c = 1) (q : d ≤ m) : c * d ≤ m := by rw [hc, Int.one_mul]; exact q
theorem one_n {c d m : Int} (hc : c = 1) (q : ¬ d ≤ m) : ¬ c * d ≤ m := by rw [hc, Int.one_mul]; exact q
theorem mul_s {a d : Int} (h1 : 1 ≤ a) (h2 : a ≤ 99) (h3 : -9999 ≤ d) (h4 : d ≤ 9999) : -989901 ≤ a * d ∧ a * d ≤ 989901 := by
  have u := Int.mul_le_mul_of_nonneg_left h4 (show 0 ≤ a by omega)
  have v := Int.mul_le_mul_of_nonneg_left h3 (show 0 ≤ a by omega)
  omega
def fC (h : m_H) (L : Nat) (a : Int) : Nat → Int := fun w => h (L + 7) a.toNat / h (L + 7) (12 + h 106 w).toNat
def fM (h : m_H) (a : Int) : Nat → Int := fun w => h 110 (60 + a).toNat / h 110 (72 + h 147 w).toNat
theorem frC {L : Nat} (hL : isL L) (j : Nat) : fr [] [(105, 2), (105, 3)] (L + 7) j = false := by
  refine fr_ne (fun c hc => by cases hc) (fun p hp => ?_) j
  simp only [List.mem_cons, List.not_mem_nil, or_false] at hp
  unfold isL at hL
  rcases hp with rfl | rfl
  · show 105 ≠ _; omega
  · show 105 ≠ _; omega
theorem fC_at {h0 h : m_H} {L : Nat} {a k x2 x3 : Int} (hL : isL L) (R : FR [] [(105, 2), (105, 3)] h0 h) (ex : h 106 k.toNat = x2) (ef : h (L + 7) a.toNat / h (L + 7) (12 + x2).toNat = x3) : x3 = fC h0 L a k.toNat := by
  have e1 : h 106 k.toNat = h0 106 k.toNat := R 106 _ rfl
  unfold fC
  rw [← e1, ex, ← ef, R _ _ (frC hL _), R _ _ (frC hL _)]
theorem fM_at {h0 h : m_H} {cs : List Nat} {ss : List (Nat × Nat)} {a k x2 x3 d : Int} (R : FR cs ss h0 h) (e0 : ∀ j, fr cs ss 110 j = false) (ex : h 147 k.toNat = x2) (ed : h 147 k.toNat = dr d k.toNat) (ef : h 110 (60 + a).toNat / h 110 (72 + x2).toNat = x3) : x3 = h0 110 (60 + a).toNat / h0 110 (72 + dr d k.toNat).toNat := by
  rw [← ed, ex, ← ef, R _ _ (e0 _), R _ _ (e0 _)]
abbrev P_X4_wholeFeet2 (h0 : m_H) (L : Nat) (a1 a2 : Int) : Int → m_H → Prop := fun x h' => GI h' ∧ FR [] [] h0 h' ∧ 0 ≤ x ∧ x ≤ 9999 ∧ h0 (L + 7) a1.toNat / h0 (L + 7) (12 + a2).toNat = x
set_option maxHeartbeats 4000000 in
set_option maxRecDepth 100000 in
theorem c_X4_wholeFeet2 (h0 : m_H) (L : Nat) (a1 a2 : Int) (hL : isL L) (G0 : GI h0) (pa1 : 0 ≤ a1 ∧ a1 ≤ 11) (pa2 : 0 ≤ a2 ∧ a2 ≤ 3) : m_CI M_X4_wholeFeet [mR L, mI a1, mI a2] h0 (P_X4_wholeFeet2 h0 L a1 a2) := by
  refine m_CI_of ⟨by decide, rfl, by simp [m_arg, m_isL, M_X4_wholeFeet], ⟨rfl, rfl⟩, rfl, rfl⟩ (ls := [some (mR L), some (mI a1), some (mI a2)]) rfl ?_
  refine z_aload_n (M := M_X4_wholeFeet) 0 dX4_wholeFeet_0 rfl ?_
  refine z_getR (M := M_X4_wholeFeet) 1 dX4_wholeFeet_1 f_X4_30 (oL hL) rfl (rL_6 hL G0) ?_
  refine z_iload_n (M := M_X4_wholeFeet) 4 dX4_wholeFeet_4 rfl ?_
  refine z_ialdG (M := M_X4_wholeFeet) 5 dX4_wholeFeet_5 (oL_7 hL) (by omega) (by omega) (gL_7 hL G0 (by omega)) (fun x1 ex1 ax1 bx1 => ?_)
  refine z_i2l (M := M_X4_wholeFeet) 6 dX4_wholeFeet_6 ?_
  refine z_aload_n (M := M_X4_wholeFeet) 7 dX4_wholeFeet_7 rfl ?_
  refine z_getR (M := M_X4_wholeFeet) 8 dX4_wholeFeet_8 f_X4_30 (oL hL) rfl (rL_6 hL G0) ?_
  refine z_bipush (M := M_X4_wholeFeet) 11 dX4_wholeFeet_11 ?_
  refine z_iload_n (M := M_X4_wholeFeet) 13 dX4_wholeFeet_13 rfl ?_
  refine z_iaddN (M := M_X4_wholeFeet) 14 dX4_wholeFeet_14 (by omega) (by omega) ?_
  refine z_ialdG (M := M_X4_wholeFeet) 15 dX4_wholeFeet_15 (oL_7 hL) (by omega) (by omega) (gL_7 hL G0 (by omega)) (fun x2 ex2 ax2 bx2 => ?_)
  refine z_i2l (M := M_X4_wholeFeet) 16 dX4_wholeFeet_16 ?_
  refine z_nJ (M := M_X4_wholeFeet) 17 dX4_wholeFeet_17 t_X11_quotient l_X4_84 (m_rr_of rfl) (rest := []) (c_X11_quotient2 h0 x1 x2 G0 (by omega) (by omega)) rfl rfl (Nat.le_of_ble_eq_true rfl) ⟨rfl, rfl⟩ (fun x3 h1 qx3 => ?_)
  obtain ⟨G1, S1, rfl⟩ := qx3
  have bq := ediv_bd (x := x1) (y := x2) (hi := 9999) (by omega) (by omega) (by omega)
  have R1 := (FR.rf (cs := []) (ss := []) (h := h0)).call S1 (by decide +kernel)
  refine z_l2iN (M := M_X4_wholeFeet) 20 dX4_wholeFeet_20 (by omega) (by omega) ?_
  exact z_retI (M := M_X4_wholeFeet) 21 dX4_wholeFeet_21 rfl ⟨G1, R1, bq.1, bq.2, by rw [ex1, ex2]⟩
abbrev P_X12_feetOf2 (h0 : m_H) (a1 a2 : Int) : Int → m_H → Prop := fun x h' => GI h' ∧ FR [] [] h0 h' ∧ 0 ≤ x ∧ x ≤ 9999 ∧ h0 110 (60 + a1).toNat / h0 110 (72 + a2).toNat = x
set_option maxHeartbeats 4000000 in
set_option maxRecDepth 100000 in
theorem c_X12_feetOf2 (h0 : m_H) (a1 a2 : Int) (G0 : GI h0) (pa1 : 0 ≤ a1 ∧ a1 ≤ 11) (pa2 : 0 ≤ a2 ∧ a2 ≤ 3) : m_CI M_X12_feetOf [mR 108, mI a1, mI a2] h0 (P_X12_feetOf2 h0 a1 a2) := by
  refine m_CI_of ⟨by decide, rfl, by simp [m_arg, m_isL, M_X12_feetOf], ⟨rfl, rfl⟩, rfl, rfl⟩ (ls := [some (mR 108), some (mI a1), some (mI a2)]) rfl ?_
  refine z_aload_n (M := M_X12_feetOf) 0 dX12_feetOf_0 rfl ?_
  refine z_getR (M := M_X12_feetOf) 1 dX12_feetOf_1 f_X12_13 o_108 rfl (g_108_3 G0) ?_
  refine z_bipush (M := M_X12_feetOf) 4 dX12_feetOf_4 ?_
  refine z_iload_n (M := M_X12_feetOf) 6 dX12_feetOf_6 rfl ?_
  refine z_iaddN (M := M_X12_feetOf) 7 dX12_feetOf_7 (by omega) (by omega) ?_
  refine z_ialdG (M := M_X12_feetOf) 8 dX12_feetOf_8 o_110 (by omega) (by omega) (gw_l G0 (by omega) (by omega)) (fun x1 ex1 ax1 bx1 => ?_)
  refine z_aload_n (M := M_X12_feetOf) 9 dX12_feetOf_9 rfl ?_
  refine z_getR (M := M_X12_feetOf) 10 dX12_feetOf_10 f_X12_13 o_108 rfl (g_108_3 G0) ?_
  refine z_bipush (M := M_X12_feetOf) 13 dX12_feetOf_13 ?_
  refine z_iload_n (M := M_X12_feetOf) 15 dX12_feetOf_15 rfl ?_
  refine z_iaddN (M := M_X12_feetOf) 16 dX12_feetOf_16 (by omega) (by omega) ?_
  refine z_ialdG (M := M_X12_feetOf) 17 dX12_feetOf_17 o_110 (by omega) (by omega) (gw_l G0 (by omega) (by omega)) (fun x2 ex2 ax2 bx2 => ?_)
  refine z_idivN (M := M_X12_feetOf) 18 dX12_feetOf_18 (by omega) (by omega) ?_
  refine z_topBI (lo := 0) (hi := 9999) (ediv_bd (by omega) (by omega) (by omega)) (fun x3 ex3 ax3 bx3 => ?_)
  exact z_retI (M := M_X12_feetOf) 19 dX12_feetOf_19 rfl ⟨G0, (FR.rf (cs := []) (ss := []) (h := h0)), by omega, by omega, by rw [ex1, ex2, ex3]⟩
theorem bI_one {f : Nat → Int} {p : Nat} {m b s : Int} (i : bI 1 f p (1 * m) b s) : bI 1 f p m b s := by rw [Int.one_mul] at i; exact i
theorem tl_e {h0 h1 h2 : m_H} {x y : Int} (E2 : h2 = m_up h1 105 3 y) (E1 : h1 = m_up h0 105 2 x) : h2 105 2 = x := (upN E2 (fun q => absurd q.2 (by decide))).trans (upE E1)
theorem tl_e2 {h0 h1 h2 : m_H} {x y : Int} (E1 : h1 = m_up h0 105 2 x) (E2 : h2 = m_up h1 105 3 y) : h2 105 2 = x := tl_e E2 E1
theorem tl_e3 {h0 h1 h2 : m_H} {x y : Int} (E1 : h1 = m_up h0 108 61 x) (E2 : h2 = m_up h1 108 62 y) : h2 108 61 = x := (upN E2 (fun q => absurd q.2 (by decide))).trans (upE E1)
abbrev P_X5_draw2 (h0 : m_H) (a1 : Int) : m_H → Prop := fun h' => GI h' ∧ FR [106] [(105, 1)] h0 h' ∧ (∀ j, j < 32 → h' 106 j = dr a1 j) ∧ h' 105 1 = 1
def q_X5_draw2 (h0 : m_H) (a1 : Int) (n : Nat) : Prop := (∀ (l2 l3 : Int) (h : m_H), GI h → FR [106] [(105, 1)] h0 h → 0 ≤ l2 → l2 ≤ 1000002 → 0 ≤ l3 → l3 ≤ 32 → (l2 = dS a1 l3.toNat) → (∀ j : Nat, (j : Int) < l3 → h 106 j = dr a1 j) → 2 * (32 - l3) + (1) ≤ (n : Int) → m_Z oF M_X5_draw 4 [some (mR 105), none, some (mI l2), some (mI l3)] [] h (m_QV (P_X5_draw2 h0 a1)))
set_option maxHeartbeats 4000000 in
set_option maxRecDepth 100000 in
theorem s_X5_draw2_4 (h0 : m_H) (a1 : Int) (G0 : GI h0) (pa1 : 0 ≤ a1 ∧ a1 ≤ 1000000) (n : Nat) (ih : q_X5_draw2 h0 a1 n) : ∀ (l2 l3 : Int) (h : m_H), GI h → FR [106] [(105, 1)] h0 h → 0 ≤ l2 → l2 ≤ 1000002 → 0 ≤ l3 → l3 ≤ 32 → (l2 = dS a1 l3.toNat) → (∀ j : Nat, (j : Int) < l3 → h 106 j = dr a1 j) → 2 * (32 - l3) + (1) ≤ ((n + 1 : Nat) : Int) → m_Z oF M_X5_draw 4 [some (mR 105), none, some (mI l2), some (mI l3)] [] h (m_QV (P_X5_draw2 h0 a1)) := by
  intro l2 l3 h G R v0 v1 v2 v3 i0 i1 hr
  refine z_iload_n (M := M_X5_draw) 4 dX5_draw_4 rfl ?_
  refine z_bipush (M := M_X5_draw) 5 dX5_draw_5 ?_
  refine z_icmp_ge (M := M_X5_draw) 7 dX5_draw_7 38 rfl (fun c1 => ?_) (fun c1 => ?_)
  · refine z_aload_n (M := M_X5_draw) 38 dX5_draw_38 rfl ?_
    refine z_iconst (M := M_X5_draw) 39 dX5_draw_39 ?_
    refine z_putZH (M := M_X5_draw) 40 dX5_draw_40 p_X5_16 o_105 rfl (by omega) (u_105_1 G (by omega) (by omega)) (R.up rfl) (fun h1 E1 G1 R1 => ?_)
    exact z_retV (M := M_X5_draw) 43 dX5_draw_43 rfl ⟨G1, R1, fun j hj => (tl_o E1 (by decide) j).trans (i1 j (by omega)), upE E1⟩
  · refine z_iload_n (M := M_X5_draw) 10 dX5_draw_10 rfl ?_
    refine z_sipush (M := M_X5_draw) 11 dX5_draw_11 ?_
    refine z_imulN (M := M_X5_draw) 14 dX5_draw_14 (by omega) (by omega) ?_
    refine z_sipush (M := M_X5_draw) 15 dX5_draw_15 ?_
    refine z_iaddN (M := M_X5_draw) 18 dX5_draw_18 (by omega) (by omega) ?_
    refine z_ldc (M := M_X5_draw) 19 dX5_draw_19 k_X5_15 ?_
    refine z_iremN (M := M_X5_draw) 21 dX5_draw_21 (by omega) (by omega) ?_
    refine z_topBI (lo := 0) (hi := 1000002) ⟨by omega, by omega⟩ (fun x2 ex2 ax2 bx2 => ?_)
    refine z_istore_n (M := M_X5_draw) 22 dX5_draw_22 (ls' := [some (mR 105), none, some (mI x2), some (mI l3)]) (by decide) rfl ?_
    refine z_aload_n (M := M_X5_draw) 23 dX5_draw_23 rfl ?_
    refine z_getR (M := M_X5_draw) 24 dX5_draw_24 f_X5_9 o_105 rfl (g_105_0 G) ?_
    refine z_iload_n (M := M_X5_draw) 27 dX5_draw_27 rfl ?_
    refine z_iload_n (M := M_X5_draw) 28 dX5_draw_28 rfl ?_
    refine z_iconst (M := M_X5_draw) 29 dX5_draw_29 ?_
    refine z_iremN (M := M_X5_draw) 30 dX5_draw_30 (by omega) (by omega) ?_
    refine z_topBI (lo := 0) (hi := 3) ⟨by omega, by omega⟩ (fun x3 ex3 ax3 bx3 => ?_)
    refine z_iastH (M := M_X5_draw) 31 dX5_draw_31 o_106 (by omega) (by omega) (u_106 G (by omega) (by omega)) (R.up rfl) (fun h2 E2 G2 R2 => ?_)
    refine z_iincN (M := M_X5_draw) 32 dX5_draw_32 (ls' := [some (mR 105), none, some (mI x2), some (mI (l3 + 1))]) (by decide) rfl (by (unfold m_32; decide)) (by omega) (by omega) rfl ?_
    refine z_goto (M := M_X5_draw) 35 dX5_draw_35 4 rfl ?_
    exact z_mask [true, false, true, true] rfl (ih x2 (l3 + 1) h2 G2 R2 (by omega) (by omega) (by omega) (by omega) (dS_st i0 (by omega) ex2) (dr_st i0 i1 (by omega) ex2 ex3 E2) (by omega))
theorem a_X5_draw2 (h0 : m_H) (a1 : Int) (G0 : GI h0) (pa1 : 0 ≤ a1 ∧ a1 ≤ 1000000) : ∀ n, q_X5_draw2 h0 a1 n := by
  intro n
  induction n with
  | zero => unfold q_X5_draw2; intros; omega
  | succ n ih => exact s_X5_draw2_4 h0 a1 G0 pa1 n ih
set_option maxHeartbeats 4000000 in
set_option maxRecDepth 100000 in
theorem c_X5_draw2 (h0 : m_H) (a1 : Int) (G0 : GI h0) (pa1 : 0 ≤ a1 ∧ a1 ≤ 1000000) : m_CV M_X5_draw [mR 105, mI a1] h0 (P_X5_draw2 h0 a1) := by
  refine m_CV_of ⟨by decide, rfl, by simp [m_arg, m_isL, M_X5_draw], ⟨rfl, rfl⟩, rfl, rfl⟩ (ls := [some (mR 105), some (mI a1), none, none]) rfl ?_
  have ih := a_X5_draw2 h0 a1 G0 pa1 72
  refine z_iload_n (M := M_X5_draw) 0 dX5_draw_0 rfl ?_
  refine z_istore_n (M := M_X5_draw) 1 dX5_draw_1 (ls' := [some (mR 105), some (mI a1), some (mI a1), none]) (by decide) rfl ?_
  refine z_iconst (M := M_X5_draw) 2 dX5_draw_2 ?_
  refine z_istore_n (M := M_X5_draw) 3 dX5_draw_3 (ls' := [some (mR 105), some (mI a1), some (mI a1), some (mI 0)]) (by decide) rfl ?_
  exact z_mask [true, false, true, true] rfl (ih a1 0 h0 G0 (FR.rf (cs := [106]) (ss := [(105, 1)]) (h := h0)) (by omega) (by omega) (by omega) (by omega) rfl (fun j hj => by omega) (by omega))
abbrev P_X5_bestTrade2 (h0 : m_H) (L : Nat) (a2 : Int) : Int → m_H → Prop := fun x h' => GI h' ∧ FR [] [(105, 2), (105, 3)] h0 h' ∧ 0 ≤ x ∧ x ≤ 9999 ∧ bI 1 (fC h0 L a2) 1024 x (h' 105 2) (h' 105 3)
def q_X5_bestTrade2 (h0 : m_H) (L : Nat) (a2 : Int) (n : Nat) : Prop := (∀ (l3 l4 : Int) (h : m_H), GI h → FR [] [(105, 2), (105, 3)] h0 h → 0 ≤ l3 → l3 ≤ 9999 → 0 ≤ l4 → l4 ≤ 32 → (bI 1 (fC h0 L a2) (32 * l4.toNat) l3 (h 105 2) (h 105 3)) → 67 * (32 - l4) + (66) ≤ (n : Int) → m_Z oF M_X5_bestTrade 15 [some (mR 105), some (mR L), some (mI a2), some (mI l3), some (mI l4), none, none, none] [] h (m_QI (P_X5_bestTrade2 h0 L a2))) ∧ (∀ (l3 l4 l5 l6 : Int) (h : m_H), GI h → FR [] [(105, 2), (105, 3)] h0 h → 0 ≤ l3 → l3 ≤ 9999 → 0 ≤ l4 → l4 ≤ 31 → 0 ≤ l5 → l5 ≤ 9999 → 1 ≤ l6 → l6 ≤ 32 → (bI 1 (fC h0 L a2) (32 * l4.toNat + l6.toNat) l3 (h 105 2) (h 105 3)) → (l5 = fC h0 L a2 l4.toNat) → (l4 < l6) → 67 * (32 - l4) + 2 * (32 - l6) + (1) ≤ (n : Int) → m_Z oF M_X5_bestTrade 42 [some (mR 105), some (mR L), some (mI a2), some (mI l3), some (mI l4), some (mI l5), some (mI l6), none] [] h (m_QI (P_X5_bestTrade2 h0 L a2)))
set_option maxHeartbeats 4000000 in
set_option maxRecDepth 100000 in
theorem s_X5_bestTrade2_15 (h0 : m_H) (L : Nat) (a2 : Int) (hL : isL L) (G0 : GI h0) (pa2 : 0 ≤ a2 ∧ a2 ≤ 5) (n : Nat) (ih : q_X5_bestTrade2 h0 L a2 n) : ∀ (l3 l4 : Int) (h : m_H), GI h → FR [] [(105, 2), (105, 3)] h0 h → 0 ≤ l3 → l3 ≤ 9999 → 0 ≤ l4 → l4 ≤ 32 → (bI 1 (fC h0 L a2) (32 * l4.toNat) l3 (h 105 2) (h 105 3)) → 67 * (32 - l4) + (66) ≤ ((n + 1 : Nat) : Int) → m_Z oF M_X5_bestTrade 15 [some (mR 105), some (mR L), some (mI a2), some (mI l3), some (mI l4), none, none, none] [] h (m_QI (P_X5_bestTrade2 h0 L a2)) := by
  intro l3 l4 h G R v0 v1 v2 v3 i0 hr
  refine z_iload (M := M_X5_bestTrade) 15 dX5_bestTrade_15 rfl ?_
  refine z_bipush (M := M_X5_bestTrade) 17 dX5_bestTrade_17 ?_
  refine z_icmp_ge (M := M_X5_bestTrade) 19 dX5_bestTrade_19 99 rfl (fun c1 => ?_) (fun c1 => ?_)
  · refine z_iload_n (M := M_X5_bestTrade) 99 dX5_bestTrade_99 rfl ?_
    exact z_retI (M := M_X5_bestTrade) 100 dX5_bestTrade_100 rfl ⟨G, R, by omega, by omega, by have q : 32 * l4.toNat = 1024 := (by omega); rw [← q]; exact i0⟩
  · refine z_aload_n (M := M_X5_bestTrade) 22 dX5_bestTrade_22 rfl ?_
    refine z_iload_n (M := M_X5_bestTrade) 23 dX5_bestTrade_23 rfl ?_
    refine z_aload_n (M := M_X5_bestTrade) 24 dX5_bestTrade_24 rfl ?_
    refine z_getR (M := M_X5_bestTrade) 25 dX5_bestTrade_25 f_X5_9 o_105 rfl (g_105_0 G) ?_
    refine z_iload (M := M_X5_bestTrade) 28 dX5_bestTrade_28 rfl ?_
    refine z_ialdG (M := M_X5_bestTrade) 30 dX5_bestTrade_30 o_106 (by omega) (by omega) (g_106 G (by omega)) (fun x2 ex2 ax2 bx2 => ?_)
    refine z_vI (M := M_X5_bestTrade) 31 dX5_bestTrade_31 t_X4_wholeFeet l_X5_27 (m_rr_of rfl) (rest := []) (c_X4_wholeFeet2 h L a2 x2 hL G ⟨by omega, by omega⟩ ⟨by omega, by omega⟩) (oL hL) rfl rfl rfl (Nat.le_of_ble_eq_true rfl) ⟨rfl, rfl⟩ (fun x3 h1 qx3 => ?_)
    obtain ⟨G1, S1, ax3, bx3, fx3_0⟩ := qx3
    have R1 := R.call S1 (by decide +kernel)
    refine z_istore (M := M_X5_bestTrade) 34 dX5_bestTrade_34 (ls' := [some (mR 105), some (mR L), some (mI a2), some (mI l3), some (mI l4), some (mI x3), none, none]) (by decide) rfl ?_
    refine z_iload (M := M_X5_bestTrade) 36 dX5_bestTrade_36 rfl ?_
    refine z_iconst (M := M_X5_bestTrade) 38 dX5_bestTrade_38 ?_
    refine z_iaddN (M := M_X5_bestTrade) 39 dX5_bestTrade_39 (by omega) (by omega) ?_
    refine z_istore (M := M_X5_bestTrade) 40 dX5_bestTrade_40 (ls' := [some (mR 105), some (mR L), some (mI a2), some (mI l3), some (mI l4), some (mI x3), some (mI (l4 + 1)), none]) (by decide) rfl ?_
    exact z_mask [true, true, true, true, true, true, true, false] rfl (ih.2 l3 l4 x3 (l4 + 1) h1 G1 R1 (by omega) (by omega) (by omega) (by omega) (by omega) (by omega) (by omega) (by omega) (bI_in i0 (S1 105 2 rfl) (S1 105 3 rfl) (by omega) (by omega)) (fC_at hL R ex2 fx3_0) (by omega) (by omega))
set_option maxHeartbeats 4000000 in
set_option maxRecDepth 100000 in
theorem s_X5_bestTrade2_42 (h0 : m_H) (L : Nat) (a2 : Int) (hL : isL L) (G0 : GI h0) (pa2 : 0 ≤ a2 ∧ a2 ≤ 5) (n : Nat) (ih : q_X5_bestTrade2 h0 L a2 n) : ∀ (l3 l4 l5 l6 : Int) (h : m_H), GI h → FR [] [(105, 2), (105, 3)] h0 h → 0 ≤ l3 → l3 ≤ 9999 → 0 ≤ l4 → l4 ≤ 31 → 0 ≤ l5 → l5 ≤ 9999 → 1 ≤ l6 → l6 ≤ 32 → (bI 1 (fC h0 L a2) (32 * l4.toNat + l6.toNat) l3 (h 105 2) (h 105 3)) → (l5 = fC h0 L a2 l4.toNat) → (l4 < l6) → 67 * (32 - l4) + 2 * (32 - l6) + (1) ≤ ((n + 1 : Nat) : Int) → m_Z oF M_X5_bestTrade 42 [some (mR 105), some (mR L), some (mI a2), some (mI l3), some (mI l4), some (mI l5), some (mI l6), none] [] h (m_QI (P_X5_bestTrade2 h0 L a2)) := by
  intro l3 l4 l5 l6 h G R v0 v1 v2 v3 v4 v5 v6 v7 i0 i1 i2 hr
  refine z_iload (M := M_X5_bestTrade) 42 dX5_bestTrade_42 rfl ?_
  refine z_bipush (M := M_X5_bestTrade) 44 dX5_bestTrade_44 ?_
  refine z_icmp_ge (M := M_X5_bestTrade) 46 dX5_bestTrade_46 93 rfl (fun c1 => ?_) (fun c1 => ?_)
  · refine z_iincN (M := M_X5_bestTrade) 93 dX5_bestTrade_93 (ls' := [some (mR 105), some (mR L), some (mI a2), some (mI l3), some (mI (l4 + 1)), some (mI l5), some (mI l6), none]) (by decide) rfl (by (unfold m_32; decide)) (by omega) (by omega) rfl ?_
    refine z_goto (M := M_X5_bestTrade) 96 dX5_bestTrade_96 15 rfl ?_
    exact z_mask [true, true, true, true, true, false, false, false] rfl (ih.1 l3 (l4 + 1) h G R (by omega) (by omega) (by omega) (by omega) (bI_out i0 (by omega) (by omega)) (by omega))
  · refine z_aload_n (M := M_X5_bestTrade) 49 dX5_bestTrade_49 rfl ?_
    refine z_iload_n (M := M_X5_bestTrade) 50 dX5_bestTrade_50 rfl ?_
    refine z_aload_n (M := M_X5_bestTrade) 51 dX5_bestTrade_51 rfl ?_
    refine z_getR (M := M_X5_bestTrade) 52 dX5_bestTrade_52 f_X5_9 o_105 rfl (g_105_0 G) ?_
    refine z_iload (M := M_X5_bestTrade) 55 dX5_bestTrade_55 rfl ?_
    refine z_ialdG (M := M_X5_bestTrade) 57 dX5_bestTrade_57 o_106 (by omega) (by omega) (g_106 G (by omega)) (fun x2 ex2 ax2 bx2 => ?_)
    refine z_vI (M := M_X5_bestTrade) 58 dX5_bestTrade_58 t_X4_wholeFeet l_X5_27 (m_rr_of rfl) (rest := []) (c_X4_wholeFeet2 h L a2 x2 hL G ⟨by omega, by omega⟩ ⟨by omega, by omega⟩) (oL hL) rfl rfl rfl (Nat.le_of_ble_eq_true rfl) ⟨rfl, rfl⟩ (fun x3 h1 qx3 => ?_)
    obtain ⟨G1, S1, ax3, bx3, fx3_0⟩ := qx3
    have R1 := R.call S1 (by decide +kernel)
    refine z_iload (M := M_X5_bestTrade) 61 dX5_bestTrade_61 rfl ?_
    refine z_isubN (M := M_X5_bestTrade) 63 dX5_bestTrade_63 (by omega) (by omega) ?_
    refine z_istore (M := M_X5_bestTrade) 64 dX5_bestTrade_64 (ls' := [some (mR 105), some (mR L), some (mI a2), some (mI l3), some (mI l4), some (mI l5), some (mI l6), some (mI (x3 - l5))]) (by decide) rfl ?_
    refine z_iload (M := M_X5_bestTrade) 66 dX5_bestTrade_66 rfl ?_
    refine z_iload_n (M := M_X5_bestTrade) 68 dX5_bestTrade_68 rfl ?_
    refine z_icmp_le (M := M_X5_bestTrade) 69 dX5_bestTrade_69 87 rfl (fun c4 => ?_) (fun c4 => ?_)
    · refine z_iincN (M := M_X5_bestTrade) 87 dX5_bestTrade_87 (ls' := [some (mR 105), some (mR L), some (mI a2), some (mI l3), some (mI l4), some (mI l5), some (mI (l6 + 1)), some (mI (x3 - l5))]) (by decide) rfl (by (unfold m_32; decide)) (by omega) (by omega) rfl ?_
      refine z_goto (M := M_X5_bestTrade) 90 dX5_bestTrade_90 42 rfl ?_
      exact z_mask [true, true, true, true, true, true, true, false] rfl (ih.2 l3 l4 l5 (l6 + 1) h1 G1 R1 (by omega) (by omega) (by omega) (by omega) (by omega) (by omega) (by omega) (by omega) (bI_no i0 (S1 105 2 rfl) (S1 105 3 rfl) (by omega) (by omega) (by omega) (by omega) (by rw [← i1, ← fC_at hL R ex2 fx3_0]) (one_m rfl (by omega))) i1 (by omega) (by omega))
    · refine z_iload (M := M_X5_bestTrade) 72 dX5_bestTrade_72 rfl ?_
      refine z_istore_n (M := M_X5_bestTrade) 74 dX5_bestTrade_74 (ls' := [some (mR 105), some (mR L), some (mI a2), some (mI (x3 - l5)), some (mI l4), some (mI l5), some (mI l6), some (mI (x3 - l5))]) (by decide) rfl ?_
      refine z_aload_n (M := M_X5_bestTrade) 75 dX5_bestTrade_75 rfl ?_
      refine z_iload (M := M_X5_bestTrade) 76 dX5_bestTrade_76 rfl ?_
      refine z_putIH (M := M_X5_bestTrade) 78 dX5_bestTrade_78 p_X5_20 o_105 rfl (u_105_2 G1) (R1.up rfl) (fun h2 E2 G2 R2 => ?_)
      refine z_aload_n (M := M_X5_bestTrade) 81 dX5_bestTrade_81 rfl ?_
      refine z_iload (M := M_X5_bestTrade) 82 dX5_bestTrade_82 rfl ?_
      refine z_putIH (M := M_X5_bestTrade) 84 dX5_bestTrade_84 p_X5_24 o_105 rfl (u_105_3 G2) (R2.up rfl) (fun h3 E3 G3 R3 => ?_)
      refine z_iincN (M := M_X5_bestTrade) 87 dX5_bestTrade_87 (ls' := [some (mR 105), some (mR L), some (mI a2), some (mI (x3 - l5)), some (mI l4), some (mI l5), some (mI (l6 + 1)), some (mI (x3 - l5))]) (by decide) rfl (by (unfold m_32; decide)) (by omega) (by omega) rfl ?_
      refine z_goto (M := M_X5_bestTrade) 90 dX5_bestTrade_90 42 rfl ?_
      exact z_mask [true, true, true, true, true, true, true, false] rfl (ih.2 (x3 - l5) l4 l5 (l6 + 1) h3 G3 R3 (by omega) (by omega) (by omega) (by omega) (by omega) (by omega) (by omega) (by omega) (bI_one (bI_yes (c := 1) i0 (tl_e2 E2 E3) (upE E3) (by omega) (by omega) (by omega) (by omega) (by rw [← i1, ← fC_at hL R ex2 fx3_0]) (one_n rfl (by omega)))) i1 (by omega) (by omega))
theorem a_X5_bestTrade2 (h0 : m_H) (L : Nat) (a2 : Int) (hL : isL L) (G0 : GI h0) (pa2 : 0 ≤ a2 ∧ a2 ≤ 5) : ∀ n, q_X5_bestTrade2 h0 L a2 n := by
  intro n
  induction n with
  | zero => unfold q_X5_bestTrade2; refine ⟨?_, ?_⟩ <;> (intros; omega)
  | succ n ih => exact ⟨s_X5_bestTrade2_15 h0 L a2 hL G0 pa2 n ih, s_X5_bestTrade2_42 h0 L a2 hL G0 pa2 n ih⟩
set_option maxHeartbeats 4000000 in
set_option maxRecDepth 100000 in
theorem c_X5_bestTrade2 (h0 : m_H) (L : Nat) (a2 : Int) (hL : isL L) (G0 : GI h0) (pa2 : 0 ≤ a2 ∧ a2 ≤ 5) : m_CI M_X5_bestTrade [mR 105, mR L, mI a2] h0 (P_X5_bestTrade2 h0 L a2) := by
  refine m_CI_of ⟨by decide, rfl, by simp [m_arg, m_isL, M_X5_bestTrade], ⟨rfl, rfl⟩, rfl, rfl⟩ (ls := [some (mR 105), some (mR L), some (mI a2), none, none, none, none, none]) rfl ?_
  have ih := a_X5_bestTrade2 h0 L a2 hL G0 pa2 2217
  refine z_iconst (M := M_X5_bestTrade) 0 dX5_bestTrade_0 ?_
  refine z_istore_n (M := M_X5_bestTrade) 1 dX5_bestTrade_1 (ls' := [some (mR 105), some (mR L), some (mI a2), some (mI 0), none, none, none, none]) (by decide) rfl ?_
  refine z_aload_n (M := M_X5_bestTrade) 2 dX5_bestTrade_2 rfl ?_
  refine z_iconst (M := M_X5_bestTrade) 3 dX5_bestTrade_3 ?_
  refine z_putIH (M := M_X5_bestTrade) 4 dX5_bestTrade_4 p_X5_20 o_105 rfl (u_105_2 G0) ((FR.rf (cs := []) (ss := [(105, 2), (105, 3)]) (h := h0)).up rfl) (fun h1 E1 G1 R1 => ?_)
  refine z_aload_n (M := M_X5_bestTrade) 7 dX5_bestTrade_7 rfl ?_
  refine z_iconst (M := M_X5_bestTrade) 8 dX5_bestTrade_8 ?_
  refine z_putIH (M := M_X5_bestTrade) 9 dX5_bestTrade_9 p_X5_24 o_105 rfl (u_105_3 G1) (R1.up rfl) (fun h2 E2 G2 R2 => ?_)
  refine z_iconst (M := M_X5_bestTrade) 12 dX5_bestTrade_12 ?_
  refine z_istore (M := M_X5_bestTrade) 13 dX5_bestTrade_13 (ls' := [some (mR 105), some (mR L), some (mI a2), some (mI 0), some (mI 0), none, none, none]) (by decide) rfl ?_
  exact z_mask [true, true, true, true, true, false, false, false] rfl (ih.1 0 0 h2 G2 R2 (by omega) (by omega) (by omega) (by omega) (bI_0 ((tl_e E2 E1)) (upE E2)) (by omega))
def yrQ (g : Int → Int) (c o s : Nat) (a1 a2 a3 x : Int) (h0 h' : m_H) : Prop := ((a1 < 0 ∨ 1000000 < a1 ∨ a2 < 0 ∨ 5 < a2 ∨ a3 < 1 ∨ 99 < a3) ∧ x = -1 ∧ (∀ j, h' c j = h0 c j) ∧ h' o s = h0 o s ∧ h' o (s + 1) = h0 o (s + 1) ∧ h' o (s + 2) = h0 o (s + 2)) ∨ (0 ≤ a1 ∧ a1 ≤ 1000000 ∧ 0 ≤ a2 ∧ a2 ≤ 5 ∧ 1 ≤ a3 ∧ a3 ≤ 99 ∧ (∀ j, j < 32 → h' c j = dr a1 j) ∧ h' o s = 1 ∧ bI a3 (fun w => g (dr a1 w)) 1024 x (h' o (s + 1)) (h' o (s + 2)))
theorem yrC_ok {a1 a2 a3 x : Int} {h0 h4 h5 h6 : m_H} {cs' : List Nat} {ss' : List (Nat × Nat)} (p1 : 0 ≤ a1) (p2 : a1 ≤ 1000000) (p3 : 0 ≤ a2) (p4 : a2 ≤ 5) (p5 : 1 ≤ a3) (p6 : a3 ≤ 99) (S4 : FR [106] [(105, 1)] h0 h4) (D4 : ∀ j, j < 32 → h4 106 j = dr a1 j) (d4 : h4 105 1 = 1) (S5 : FR [] [(105, 2), (105, 3)] h4 h5) (B5 : bI 1 (fC h4 1 a2) 1024 x (h5 105 2) (h5 105 3)) (S6 : FR cs' ss' h5 h6) (e1 : ∀ j, fr cs' ss' 105 j = false) (e2 : ∀ j, fr cs' ss' 106 j = false) : yrQ (fun k => h0 8 a2.toNat / h0 8 (12 + k).toNat) 106 105 1 a1 a2 a3 (a3 * x) h0 h6 := by
  refine Or.inr ⟨p1, p2, p3, p4, p5, p6, fun j hj => (S6 _ _ (e2 j)).trans ((S5 106 j rfl).trans (D4 j hj)), (S6 _ _ (e1 1)).trans ((S5 105 1 rfl).trans d4), ?_⟩
  have c : bs (fC h4 1 a2) 1024 = bs (fun w => h0 8 a2.toNat / h0 8 (12 + dr a1 w).toNat) 1024 := bs_congr (fun w hw => by
    unfold fC
    rw [D4 w hw]
    show h4 8 _ / h4 8 _ = _
    rw [S4 8 _ rfl, S4 8 _ rfl]) 1024 (Nat.le_refl _)
  unfold bI at B5 ⊢
  rw [c, Int.one_mul] at B5
  rw [S6 _ _ (e1 _), S6 _ _ (e1 _)]
  exact ⟨by rw [B5.1], B5.2.1, B5.2.2⟩
abbrev P_X11_year2 (h0 : m_H) (a1 a2 a3 : Int) : Int → m_H → Prop := fun x h' => GI h' ∧ FR [106, 107] [(0, 14), (105, 1), (105, 2), (105, 3)] h0 h' ∧ yrQ (fun k => h0 8 a2.toNat / h0 8 (12 + k).toNat) 106 105 1 a1 a2 a3 x h0 h'
set_option maxHeartbeats 4000000 in
set_option maxRecDepth 100000 in
theorem c_X11_year2 (h0 : m_H) (a1 a2 a3 : Int) (G0 : GI h0) : m_CI M_X11_year [mR 0, mI a1, mI a2, mI a3] h0 (P_X11_year2 h0 a1 a2 a3) := by
  refine m_CI_of ⟨by decide, rfl, by simp [m_arg, m_isL, M_X11_year], ⟨rfl, rfl⟩, rfl, rfl⟩ (ls := [some (mR 0), some (mI a1), some (mI a2), some (mI a3)]) rfl ?_
  refine z_ok (fun _ _ ok => ?_)
  have oa1 : m_32 a1 := ok 1 _ rfl
  unfold m_32 at oa1
  have oa2 : m_32 a2 := ok 2 _ rfl
  unfold m_32 at oa2
  have oa3 : m_32 a3 := ok 3 _ rfl
  unfold m_32 at oa3
  refine z_iload_n (M := M_X11_year) 0 dX11_year_0 rfl ?_
  refine z_iconst (M := M_X11_year) 1 dX11_year_1 ?_
  refine z_ldcw (M := M_X11_year) 2 dX11_year_2 k_X11_392 ?_
  refine z_sI (M := M_X11_year) 5 dX11_year_5 t_X11_within l_X11_112 (m_rr_of rfl) (rest := []) (c_X11_within h0 a1 0 1000000 G0) rfl rfl (Nat.le_of_ble_eq_true rfl) ⟨rfl, rfl⟩ (fun x1 h1 qx1 => ?_)
  obtain ⟨rfl, ⟨rfl, cx1⟩ | ⟨rfl, cx1⟩⟩ := qx1
  · refine z_if_eq_F (M := M_X11_year) 8 dX11_year_8 28 rfl (by omega) ?_
    refine z_iload_n (M := M_X11_year) 11 dX11_year_11 rfl ?_
    refine z_sI (M := M_X11_year) 12 dX11_year_12 t_X11_isThing l_X11_126 (m_rr_of rfl) (rest := []) (c_X11_isThing h0 a2 G0) rfl rfl (Nat.le_of_ble_eq_true rfl) ⟨rfl, rfl⟩ (fun x2 h2 qx2 => ?_)
    obtain ⟨rfl, ⟨rfl, cx2⟩ | ⟨rfl, cx2⟩⟩ := qx2
    · refine z_if_eq_F (M := M_X11_year) 15 dX11_year_15 28 rfl (by omega) ?_
      refine z_iload_n (M := M_X11_year) 18 dX11_year_18 rfl ?_
      refine z_iconst (M := M_X11_year) 19 dX11_year_19 ?_
      refine z_bipush (M := M_X11_year) 20 dX11_year_20 ?_
      refine z_sI (M := M_X11_year) 22 dX11_year_22 t_X11_within l_X11_112 (m_rr_of rfl) (rest := []) (c_X11_within h0 a3 1 99 G0) rfl rfl (Nat.le_of_ble_eq_true rfl) ⟨rfl, rfl⟩ (fun x3 h3 qx3 => ?_)
      obtain ⟨rfl, ⟨rfl, cx3⟩ | ⟨rfl, cx3⟩⟩ := qx3
      · refine z_if_ne_T (M := M_X11_year) 25 dX11_year_25 34 rfl (by omega) ?_
        refine z_aload_n (M := M_X11_year) 34 dX11_year_34 rfl ?_
        refine z_getR (M := M_X11_year) 35 dX11_year_35 f_X11_90 o_0 rfl (g_0_12 G0) ?_
        refine z_iload_n (M := M_X11_year) 38 dX11_year_38 rfl ?_
        refine z_vV (M := M_X11_year) 39 dX11_year_39 t_X5_draw l_X11_393 (m_rr_of rfl) (rest := []) (c_X5_draw2 h0 a1 G0 ⟨by omega, by omega⟩) o_105 rfl rfl rfl (Nat.le_of_ble_eq_true rfl) ⟨rfl, rfl⟩ (fun h4 qx4 => ?_)
        obtain ⟨G4, S4, D4, d4⟩ := qx4
        have R4 := (FR.rf (cs := [106, 107]) (ss := [(0, 14), (105, 1), (105, 2), (105, 3)]) (h := h0)).call S4 (by decide +kernel)
        refine z_aload_n (M := M_X11_year) 42 dX11_year_42 rfl ?_
        refine z_iload_n (M := M_X11_year) 43 dX11_year_43 rfl ?_
        refine z_aload_n (M := M_X11_year) 44 dX11_year_44 rfl ?_
        refine z_getR (M := M_X11_year) 45 dX11_year_45 f_X11_90 o_0 rfl (g_0_12 G4) ?_
        refine z_aload_n (M := M_X11_year) 48 dX11_year_48 rfl ?_
        refine z_getR (M := M_X11_year) 49 dX11_year_49 f_X11_12 o_0 rfl (g_0_0 G4) ?_
        refine z_iload_n (M := M_X11_year) 52 dX11_year_52 rfl ?_
        refine z_vI (M := M_X11_year) 53 dX11_year_53 t_X5_bestTrade l_X11_396 (m_rr_of rfl) (rest := [mI a3, mR 0]) (c_X5_bestTrade2 h4 1 a2 (Or.inl rfl) G4 ⟨by omega, by omega⟩) o_105 rfl rfl rfl (Nat.le_of_ble_eq_true rfl) ⟨rfl, rfl⟩ (fun x5 h5 qx5 => ?_)
        obtain ⟨G5, S5, ax5, bx5, B5⟩ := qx5
        have R5 := R4.call S5 (by decide +kernel)
        have mb := mul_s (a := a3) (d := x5) (by omega) (by omega) (by omega) (by omega)
        refine z_imulN (M := M_X11_year) 56 dX11_year_56 (by omega) (by omega) ?_
        refine z_vI (M := M_X11_year) 57 dX11_year_57 t_X11_accept l_X11_123 (m_rr_of rfl) (rest := []) (c_X11_accept h5 (a3 * x5) G5) o_0 rfl rfl rfl (Nat.le_of_ble_eq_true rfl) ⟨rfl, rfl⟩ (fun x7 h6 qx7 => ?_)
        obtain ⟨G6, S6, rfl⟩ := qx7
        have R6 := R5.call S6 (by decide +kernel)
        exact z_retI (M := M_X11_year) 60 dX11_year_60 rfl ⟨G6, R6, yrC_ok (by omega) (by omega) (by omega) (by omega) (by omega) (by omega) S4 D4 d4 S5 B5 S6 (fun _ => rfl) (fun _ => rfl)⟩
      · refine z_if_ne_F (M := M_X11_year) 25 dX11_year_25 34 rfl (by omega) ?_
        refine z_aload_n (M := M_X11_year) 28 dX11_year_28 rfl ?_
        refine z_iconst (M := M_X11_year) 29 dX11_year_29 ?_
        refine z_vI (M := M_X11_year) 30 dX11_year_30 t_X11_refuse l_X11_116 (m_rr_of rfl) (rest := []) (c_X11_refuse h0 (-1) G0 ⟨by omega, by omega⟩) o_0 rfl rfl rfl (Nat.le_of_ble_eq_true rfl) ⟨rfl, rfl⟩ (fun x8 h7 qx8 => ?_)
        obtain ⟨G7, S7, rfl⟩ := qx8
        have R7 := (FR.rf (cs := [106, 107]) (ss := [(0, 14), (105, 1), (105, 2), (105, 3)]) (h := h0)).call S7 (by decide +kernel)
        exact z_retI (M := M_X11_year) 33 dX11_year_33 rfl ⟨G7, R7, Or.inl ⟨by omega, rfl, fun j => S7 106 j rfl, S7 105 1 rfl, S7 105 2 rfl, S7 105 3 rfl⟩⟩
    · refine z_if_eq_T (M := M_X11_year) 15 dX11_year_15 28 rfl (by omega) ?_
      refine z_aload_n (M := M_X11_year) 28 dX11_year_28 rfl ?_
      refine z_iconst (M := M_X11_year) 29 dX11_year_29 ?_
      refine z_vI (M := M_X11_year) 30 dX11_year_30 t_X11_refuse l_X11_116 (m_rr_of rfl) (rest := []) (c_X11_refuse h0 (-1) G0 ⟨by omega, by omega⟩) o_0 rfl rfl rfl (Nat.le_of_ble_eq_true rfl) ⟨rfl, rfl⟩ (fun x9 h8 qx9 => ?_)
      obtain ⟨G8, S8, rfl⟩ := qx9
      have R8 := (FR.rf (cs := [106, 107]) (ss := [(0, 14), (105, 1), (105, 2), (105, 3)]) (h := h0)).call S8 (by decide +kernel)
      exact z_retI (M := M_X11_year) 33 dX11_year_33 rfl ⟨G8, R8, Or.inl ⟨by omega, rfl, fun j => S8 106 j rfl, S8 105 1 rfl, S8 105 2 rfl, S8 105 3 rfl⟩⟩
  · refine z_if_eq_T (M := M_X11_year) 8 dX11_year_8 28 rfl (by omega) ?_
    refine z_aload_n (M := M_X11_year) 28 dX11_year_28 rfl ?_
    refine z_iconst (M := M_X11_year) 29 dX11_year_29 ?_
    refine z_vI (M := M_X11_year) 30 dX11_year_30 t_X11_refuse l_X11_116 (m_rr_of rfl) (rest := []) (c_X11_refuse h0 (-1) G0 ⟨by omega, by omega⟩) o_0 rfl rfl rfl (Nat.le_of_ble_eq_true rfl) ⟨rfl, rfl⟩ (fun x10 h9 qx10 => ?_)
    obtain ⟨G9, S9, rfl⟩ := qx10
    have R9 := (FR.rf (cs := [106, 107]) (ss := [(0, 14), (105, 1), (105, 2), (105, 3)]) (h := h0)).call S9 (by decide +kernel)
    exact z_retI (M := M_X11_year) 33 dX11_year_33 rfl ⟨G9, R9, Or.inl ⟨by omega, rfl, fun j => S9 106 j rfl, S9 105 1 rfl, S9 105 2 rfl, S9 105 3 rfl⟩⟩
def trQ (c o s : Nat) (a1 x : Int) (h0 : m_H) : Prop := ((h0 o s = 0 ∨ a1 < 0 ∨ 33 < a1) ∧ x = -1) ∨ (h0 o s ≠ 0 ∧ a1 = 0 ∧ h0 o (s + 1) = x) ∨ (h0 o s ≠ 0 ∧ a1 = 1 ∧ h0 o (s + 2) = x) ∨ (h0 o s ≠ 0 ∧ 2 ≤ a1 ∧ a1 ≤ 33 ∧ h0 c (a1 - 2).toNat = x)
abbrev P_X11_trade2 (h0 : m_H) (a1 : Int) : Int → m_H → Prop := fun x h' => GI h' ∧ FR [] [] h0 h' ∧ trQ 106 105 1 a1 x h0
set_option maxHeartbeats 4000000 in
set_option maxRecDepth 100000 in
theorem c_X11_trade2 (h0 : m_H) (a1 : Int) (G0 : GI h0) : m_CI M_X11_trade [mR 0, mI a1] h0 (P_X11_trade2 h0 a1) := by
  refine m_CI_of ⟨by decide, rfl, by simp [m_arg, m_isL, M_X11_trade], ⟨rfl, rfl⟩, rfl, rfl⟩ (ls := [some (mR 0), some (mI a1)]) rfl ?_
  refine z_ok (fun _ _ ok => ?_)
  have oa1 : m_32 a1 := ok 1 _ rfl
  unfold m_32 at oa1
  refine z_aload_n (M := M_X11_trade) 0 dX11_trade_0 rfl ?_
  refine z_getR (M := M_X11_trade) 1 dX11_trade_1 f_X11_90 o_0 rfl (g_0_12 G0) ?_
  refine z_getIG (M := M_X11_trade) 4 dX11_trade_4 f_X11_399 o_105 (by decide) (g_105_1 G0) (fun x1 ex1 ax1 bx1 => ?_)
  refine z_if_ne (M := M_X11_trade) 7 dX11_trade_7 12 rfl (fun c2 => ?_) (fun c2 => ?_)
  · refine z_iload_n (M := M_X11_trade) 12 dX11_trade_12 rfl ?_
    refine z_if_ne (M := M_X11_trade) 13 dX11_trade_13 24 rfl (fun c3 => ?_) (fun c3 => ?_)
    · refine z_iload_n (M := M_X11_trade) 24 dX11_trade_24 rfl ?_
      refine z_iconst (M := M_X11_trade) 25 dX11_trade_25 ?_
      refine z_icmp_ne (M := M_X11_trade) 26 dX11_trade_26 37 rfl (fun c4 => ?_) (fun c4 => ?_)
      · refine z_iload_n (M := M_X11_trade) 37 dX11_trade_37 rfl ?_
        refine z_iconst (M := M_X11_trade) 38 dX11_trade_38 ?_
        refine z_bipush (M := M_X11_trade) 39 dX11_trade_39 ?_
        refine z_sI (M := M_X11_trade) 41 dX11_trade_41 t_X11_within l_X11_112 (m_rr_of rfl) (rest := []) (c_X11_within h0 a1 2 33 G0) rfl rfl (Nat.le_of_ble_eq_true rfl) ⟨rfl, rfl⟩ (fun x5 h1 qx5 => ?_)
        obtain ⟨rfl, ⟨rfl, cx5⟩ | ⟨rfl, cx5⟩⟩ := qx5
        · refine z_if_eq_F (M := M_X11_trade) 44 dX11_trade_44 61 rfl (by omega) ?_
          refine z_aload_n (M := M_X11_trade) 47 dX11_trade_47 rfl ?_
          refine z_getR (M := M_X11_trade) 48 dX11_trade_48 f_X11_90 o_0 rfl (g_0_12 G0) ?_
          refine z_getR (M := M_X11_trade) 51 dX11_trade_51 f_X11_408 o_105 rfl (g_105_0 G0) ?_
          refine z_iload_n (M := M_X11_trade) 54 dX11_trade_54 rfl ?_
          refine z_iconst (M := M_X11_trade) 55 dX11_trade_55 ?_
          refine z_isubN (M := M_X11_trade) 56 dX11_trade_56 (by omega) (by omega) ?_
          refine z_ialdG (M := M_X11_trade) 57 dX11_trade_57 o_106 (by omega) (by omega) (g_106 G0 (by omega)) (fun x6 ex6 ax6 bx6 => ?_)
          refine z_goto (M := M_X11_trade) 58 dX11_trade_58 62 rfl ?_
          exact z_retI (M := M_X11_trade) 62 dX11_trade_62 rfl ⟨G0, (FR.rf (cs := []) (ss := []) (h := h0)), Or.inr (Or.inr (Or.inr ⟨by omega, by omega, by omega, ex6⟩))⟩
        · refine z_if_eq_T (M := M_X11_trade) 44 dX11_trade_44 61 rfl (by omega) ?_
          refine z_iconst (M := M_X11_trade) 61 dX11_trade_61 ?_
          exact z_retI (M := M_X11_trade) 62 dX11_trade_62 rfl ⟨G0, (FR.rf (cs := []) (ss := []) (h := h0)), Or.inl ⟨by omega, rfl⟩⟩
      · refine z_aload_n (M := M_X11_trade) 29 dX11_trade_29 rfl ?_
        refine z_getR (M := M_X11_trade) 30 dX11_trade_30 f_X11_90 o_0 rfl (g_0_12 G0) ?_
        refine z_getIV (M := M_X11_trade) 33 dX11_trade_33 f_X11_405 o_105 (by decide) (fun x7 ex7 => ?_)
        refine z_ok (fun ox7 _ _ => ?_)
        have ox7 := ox7.1; unfold m_ok m_32 at ox7
        exact z_retI (M := M_X11_trade) 36 dX11_trade_36 rfl ⟨G0, (FR.rf (cs := []) (ss := []) (h := h0)), Or.inr (Or.inr (Or.inl ⟨by omega, by omega, ex7⟩))⟩
    · refine z_aload_n (M := M_X11_trade) 16 dX11_trade_16 rfl ?_
      refine z_getR (M := M_X11_trade) 17 dX11_trade_17 f_X11_90 o_0 rfl (g_0_12 G0) ?_
      refine z_getIV (M := M_X11_trade) 20 dX11_trade_20 f_X11_402 o_105 (by decide) (fun x8 ex8 => ?_)
      refine z_ok (fun ox8 _ _ => ?_)
      have ox8 := ox8.1; unfold m_ok m_32 at ox8
      exact z_retI (M := M_X11_trade) 23 dX11_trade_23 rfl ⟨G0, (FR.rf (cs := []) (ss := []) (h := h0)), Or.inr (Or.inl ⟨by omega, by omega, ex8⟩)⟩
  · refine z_iconst (M := M_X11_trade) 10 dX11_trade_10 ?_
    exact z_retI (M := M_X11_trade) 11 dX11_trade_11 rfl ⟨G0, (FR.rf (cs := []) (ss := []) (h := h0)), Or.inl ⟨by omega, rfl⟩⟩
theorem tl_s {h h' : m_H} {c i j : Nat} {v : Int} (E : h' = m_up h c i v) (hj : j ≠ i) : h' c j = h c j := upN E (fun q => hj q.2)
abbrev P_X12_trade2 (h0 : m_H) (a1 : Int) : Int → m_H → Prop := fun x h' => GI h' ∧ FR [] [(108, 0)] h0 h' ∧ trQ 147 108 60 a1 x h0
set_option maxHeartbeats 4000000 in
set_option maxRecDepth 100000 in
theorem c_X12_trade2 (h0 : m_H) (a1 : Int) (G0 : GI h0) : m_CI M_X12_trade [mR 108, mI a1] h0 (P_X12_trade2 h0 a1) := by
  refine m_CI_of ⟨by decide, rfl, by simp [m_arg, m_isL, M_X12_trade], ⟨rfl, rfl⟩, rfl, rfl⟩ (ls := [some (mR 108), some (mI a1)]) rfl ?_
  refine z_ok (fun _ _ ok => ?_)
  have oa1 : m_32 a1 := ok 1 _ rfl
  unfold m_32 at oa1
  refine z_aload_n (M := M_X12_trade) 0 dX12_trade_0 rfl ?_
  refine z_iconst (M := M_X12_trade) 1 dX12_trade_1 ?_
  refine z_putIH (M := M_X12_trade) 2 dX12_trade_2 p_X12_133 o_108 rfl (u_108_0 G0) ((FR.rf (cs := []) (ss := [(108, 0)]) (h := h0)).up rfl) (fun h1 E1 G1 R1 => ?_)
  refine z_aload_n (M := M_X12_trade) 5 dX12_trade_5 rfl ?_
  refine z_getIG (M := M_X12_trade) 6 dX12_trade_6 f_X12_512 o_108 (by decide) (g_108_60 G1) (fun x1 ex1 ax1 bx1 => ?_)
  refine z_if_eq (M := M_X12_trade) 9 dX12_trade_9 24 rfl (fun c2 => ?_) (fun c2 => ?_)
  · refine z_iconst (M := M_X12_trade) 24 dX12_trade_24 ?_
    exact z_retI (M := M_X12_trade) 25 dX12_trade_25 rfl ⟨G1, R1, Or.inl ⟨(by first | (right; omega) | (left; exact (tl_s E1 (j := 60) (by decide)).symm.trans (by omega))), rfl⟩⟩
  · refine z_iload_n (M := M_X12_trade) 12 dX12_trade_12 rfl ?_
    refine z_i2l (M := M_X12_trade) 13 dX12_trade_13 ?_
    refine z_lconst (M := M_X12_trade) 14 dX12_trade_14 (v := 0) ?_
    refine z_ldc2 (M := M_X12_trade) 15 dX12_trade_15 k_X12_524 ?_
    refine z_sI (M := M_X12_trade) 18 dX12_trade_18 t_X12_in l_X12_143 (m_rr_of rfl) (rest := []) (c_X12_in h1 a1 0 33 G1) rfl rfl (Nat.le_of_ble_eq_true rfl) ⟨rfl, rfl⟩ (fun x3 h2 qx3 => ?_)
    obtain ⟨rfl, ⟨rfl, cx3⟩ | ⟨rfl, cx3⟩⟩ := qx3
    · refine z_if_ne_T (M := M_X12_trade) 21 dX12_trade_21 26 rfl (by omega) ?_
      refine z_iload_n (M := M_X12_trade) 26 dX12_trade_26 rfl ?_
      refine z_if_ne (M := M_X12_trade) 27 dX12_trade_27 37 rfl (fun c4 => ?_) (fun c4 => ?_)
      · refine z_iload_n (M := M_X12_trade) 37 dX12_trade_37 rfl ?_
        refine z_iconst (M := M_X12_trade) 38 dX12_trade_38 ?_
        refine z_icmp_ne (M := M_X12_trade) 39 dX12_trade_39 49 rfl (fun c5 => ?_) (fun c5 => ?_)
        · refine z_aload_n (M := M_X12_trade) 49 dX12_trade_49 rfl ?_
          refine z_getR (M := M_X12_trade) 50 dX12_trade_50 f_X12_130 o_108 rfl (g_108_59 G1) ?_
          refine z_iload_n (M := M_X12_trade) 53 dX12_trade_53 rfl ?_
          refine z_iconst (M := M_X12_trade) 54 dX12_trade_54 ?_
          refine z_isubN (M := M_X12_trade) 55 dX12_trade_55 (by omega) (by omega) ?_
          refine z_ialdG (M := M_X12_trade) 56 dX12_trade_56 o_147 (by omega) (by omega) (g_147 G1 (by omega)) (fun x6 ex6 ax6 bx6 => ?_)
          exact z_retI (M := M_X12_trade) 57 dX12_trade_57 rfl ⟨G1, R1, Or.inr (Or.inr (Or.inr ⟨(fun q => by have z := tl_s E1 (j := 60) (by decide); omega), by omega, by omega, (tl_o E1 (by decide) _).symm.trans ex6⟩))⟩
        · refine z_aload_n (M := M_X12_trade) 42 dX12_trade_42 rfl ?_
          refine z_getIG (M := M_X12_trade) 43 dX12_trade_43 f_X12_518 o_108 (by decide) (g_108_62 G1) (fun x7 ex7 ax7 bx7 => ?_)
          refine z_goto (M := M_X12_trade) 46 dX12_trade_46 57 rfl ?_
          exact z_retI (M := M_X12_trade) 57 dX12_trade_57 rfl ⟨G1, R1, Or.inr (Or.inr (Or.inl ⟨(fun q => by have z := tl_s E1 (j := 60) (by decide); omega), by omega, (tl_s E1 (by decide)).symm.trans ex7⟩))⟩
      · refine z_aload_n (M := M_X12_trade) 30 dX12_trade_30 rfl ?_
        refine z_getIG (M := M_X12_trade) 31 dX12_trade_31 f_X12_515 o_108 (by decide) (g_108_61 G1) (fun x8 ex8 ax8 bx8 => ?_)
        refine z_goto (M := M_X12_trade) 34 dX12_trade_34 57 rfl ?_
        exact z_retI (M := M_X12_trade) 57 dX12_trade_57 rfl ⟨G1, R1, Or.inr (Or.inl ⟨(fun q => by have z := tl_s E1 (j := 60) (by decide); omega), by omega, (tl_s E1 (by decide)).symm.trans ex8⟩)⟩
    · refine z_if_ne_F (M := M_X12_trade) 21 dX12_trade_21 26 rfl (by omega) ?_
      refine z_iconst (M := M_X12_trade) 24 dX12_trade_24 ?_
      exact z_retI (M := M_X12_trade) 25 dX12_trade_25 rfl ⟨G1, R1, Or.inl ⟨(by first | (right; omega) | (left; exact (tl_s E1 (j := 60) (by decide)).symm.trans (by omega))), rfl⟩⟩
theorem bI_eq {c m m' b s : Int} {f : Nat → Int} {p : Nat} (i : bI c f p m b s) (e : m = m') : bI c f p m' b s := e ▸ i
theorem yrM_ok {c m b s b' s' l : Int} {f : Nat → Int} (i : bI c f (32 * l.toNat) m b s) (hl : l = 32) (e2 : b' = b) (e3 : s' = s) : bI c f 1024 m b' s' := by
  have q : 32 * l.toNat = 1024 := by omega
  rw [q] at i; rw [e2, e3]; exact i
abbrev P_X12_year2 (h0 : m_H) (a1 a2 a3 : Int) : Int → m_H → Prop := fun x h' => GI h' ∧ FR [109, 147] [(108, 0), (108, 1), (108, 60), (108, 61), (108, 62)] h0 h' ∧ yrQ (fun k => h0 110 (60 + a2).toNat / h0 110 (72 + k).toNat) 147 108 60 a1 a2 a3 x h0 h'
def q_X12_year2 (h0 : m_H) (a1 a2 a3 : Int) (n : Nat) : Prop := (∀ (l4 l6 : Int) (h : m_H), GI h → FR [109, 147] [(108, 0), (108, 1), (108, 60), (108, 61), (108, 62)] h0 h → 0 ≤ l4 → l4 ≤ 1000002 → 0 ≤ l6 → l6 ≤ 32 → 0 ≤ a1 → a1 ≤ 1000000 → 0 ≤ a2 → a2 ≤ 5 → 1 ≤ a3 → a3 ≤ 99 → (l4 = dS a1 l6.toNat) → (∀ j : Nat, (j : Int) < l6 → h 147 j = dr a1 j) → 2 * (32 - l6) + (2213) ≤ (n : Int) → m_Z oF M_X12_year 49 [some (mR 108), none, some (mI a2), some (mI a3), some (mJ l4), none, some (mI l6), none, none, none] [] h (m_QI (P_X12_year2 h0 a1 a2 a3))) ∧ (∀ (l6 l7 : Int) (h : m_H), GI h → FR [109, 147] [(108, 0), (108, 1), (108, 60), (108, 61), (108, 62)] h0 h → 0 ≤ l6 → l6 ≤ 989901 → 0 ≤ l7 → l7 ≤ 32 → 0 ≤ a1 → a1 ≤ 1000000 → 0 ≤ a2 → a2 ≤ 5 → 1 ≤ a3 → a3 ≤ 99 → (bI a3 (fun w => h0 110 (60 + a2).toNat / h0 110 (72 + dr a1 w).toNat) (32 * l7.toNat) l6 (h 108 61) (h 108 62)) → (∀ j : Nat, (j : Int) < 32 → h 147 j = dr a1 j) → (h 108 60 = 1) → 67 * (32 - l7) + (66) ≤ (n : Int) → m_Z oF M_X12_year 113 [some (mR 108), none, some (mI a2), some (mI a3), none, none, some (mI l6), some (mI l7), none, none] [] h (m_QI (P_X12_year2 h0 a1 a2 a3))) ∧ (∀ (l6 l7 l8 : Int) (h : m_H), GI h → FR [109, 147] [(108, 0), (108, 1), (108, 60), (108, 61), (108, 62)] h0 h → 0 ≤ l6 → l6 ≤ 989901 → 0 ≤ l7 → l7 ≤ 31 → 1 ≤ l8 → l8 ≤ 32 → 0 ≤ a1 → a1 ≤ 1000000 → 0 ≤ a2 → a2 ≤ 5 → 1 ≤ a3 → a3 ≤ 99 → (bI a3 (fun w => h0 110 (60 + a2).toNat / h0 110 (72 + dr a1 w).toNat) (32 * l7.toNat + l8.toNat) l6 (h 108 61) (h 108 62)) → (∀ j : Nat, (j : Int) < 32 → h 147 j = dr a1 j) → (h 108 60 = 1) → (l7 < l8) → 67 * (32 - l7) + 2 * (32 - l8) + (1) ≤ (n : Int) → m_Z oF M_X12_year 126 [some (mR 108), none, some (mI a2), some (mI a3), none, none, some (mI l6), some (mI l7), some (mI l8), none] [] h (m_QI (P_X12_year2 h0 a1 a2 a3)))
set_option maxHeartbeats 4000000 in
set_option maxRecDepth 100000 in
theorem s_X12_year2_49 (h0 : m_H) (a1 a2 a3 : Int) (G0 : GI h0) (n : Nat) (ih : q_X12_year2 h0 a1 a2 a3 n) : ∀ (l4 l6 : Int) (h : m_H), GI h → FR [109, 147] [(108, 0), (108, 1), (108, 60), (108, 61), (108, 62)] h0 h → 0 ≤ l4 → l4 ≤ 1000002 → 0 ≤ l6 → l6 ≤ 32 → 0 ≤ a1 → a1 ≤ 1000000 → 0 ≤ a2 → a2 ≤ 5 → 1 ≤ a3 → a3 ≤ 99 → (l4 = dS a1 l6.toNat) → (∀ j : Nat, (j : Int) < l6 → h 147 j = dr a1 j) → 2 * (32 - l6) + (2213) ≤ ((n + 1 : Nat) : Int) → m_Z oF M_X12_year 49 [some (mR 108), none, some (mI a2), some (mI a3), some (mJ l4), none, some (mI l6), none, none, none] [] h (m_QI (P_X12_year2 h0 a1 a2 a3)) := by
  intro l4 l6 h G R v0 v1 v2 v3 v4 v5 v6 v7 v8 v9 i0 i1 hr
  refine z_iload (M := M_X12_year) 49 dX12_year_49 rfl ?_
  refine z_bipush (M := M_X12_year) 51 dX12_year_51 ?_
  refine z_icmp_ge (M := M_X12_year) 53 dX12_year_53 92 rfl (fun c1 => ?_) (fun c1 => ?_)
  · refine z_aload_n (M := M_X12_year) 92 dX12_year_92 rfl ?_
    refine z_iconst (M := M_X12_year) 93 dX12_year_93 ?_
    refine z_putZH (M := M_X12_year) 94 dX12_year_94 p_X12_512 o_108 rfl (by omega) (u_108_60 G (by omega) (by omega)) (R.up rfl) (fun h1 E1 G1 R1 => ?_)
    refine z_aload_n (M := M_X12_year) 97 dX12_year_97 rfl ?_
    refine z_iconst (M := M_X12_year) 98 dX12_year_98 ?_
    refine z_putIH (M := M_X12_year) 99 dX12_year_99 p_X12_515 o_108 rfl (u_108_61 G1 (by omega) (by omega)) (R1.up rfl) (fun h2 E2 G2 R2 => ?_)
    refine z_aload_n (M := M_X12_year) 102 dX12_year_102 rfl ?_
    refine z_iconst (M := M_X12_year) 103 dX12_year_103 ?_
    refine z_putIH (M := M_X12_year) 104 dX12_year_104 p_X12_518 o_108 rfl (u_108_62 G2 (by omega) (by omega)) (R2.up rfl) (fun h3 E3 G3 R3 => ?_)
    refine z_iconst (M := M_X12_year) 107 dX12_year_107 ?_
    refine z_istore (M := M_X12_year) 108 dX12_year_108 (ls' := [some (mR 108), none, some (mI a2), some (mI a3), some (mJ l4), none, some (mI 0), none, none, none]) (by decide) rfl ?_
    refine z_iconst (M := M_X12_year) 110 dX12_year_110 ?_
    refine z_istore (M := M_X12_year) 111 dX12_year_111 (ls' := [some (mR 108), none, some (mI a2), some (mI a3), some (mJ l4), none, some (mI 0), some (mI 0), none, none]) (by decide) rfl ?_
    exact z_mask [true, false, true, true, false, false, true, true, false, false] rfl (ih.2.1 0 0 h3 G3 R3 (by omega) (by omega) (by omega) (by omega) (by omega) (by omega) (by omega) (by omega) (by omega) (by omega) (bI_0 (tl_e3 E2 E3) (upE E3)) (fun j hj => ((tl_o E3 (by decide) j).trans ((tl_o E2 (by decide) j).trans (tl_o E1 (by decide) j))).trans (i1 j (by omega))) ((tl_s E3 (by decide)).trans ((tl_s E2 (by decide)).trans (upE E1))) (by omega))
  · refine z_lload (M := M_X12_year) 56 dX12_year_56 rfl ?_
    refine z_ldc2 (M := M_X12_year) 58 dX12_year_58 k_X12_504 ?_
    refine z_lmulN (M := M_X12_year) 61 dX12_year_61 (by omega) (by omega) ?_
    refine z_ldc2 (M := M_X12_year) 62 dX12_year_62 k_X12_506 ?_
    refine z_laddN (M := M_X12_year) 65 dX12_year_65 (by omega) (by omega) ?_
    refine z_ldc2 (M := M_X12_year) 66 dX12_year_66 k_X12_508 ?_
    refine z_lremN (M := M_X12_year) 69 dX12_year_69 (by omega) (by omega) ?_
    refine z_topBJ (lo := 0) (hi := 1000002) ⟨by omega, by omega⟩ (fun x2 ex2 ax2 bx2 => ?_)
    refine z_lstore (M := M_X12_year) 70 dX12_year_70 (ls' := [some (mR 108), none, some (mI a2), some (mI a3), some (mJ x2), none, some (mI l6), none, none, none]) (by decide) rfl ?_
    refine z_aload_n (M := M_X12_year) 72 dX12_year_72 rfl ?_
    refine z_getR (M := M_X12_year) 73 dX12_year_73 f_X12_130 o_108 rfl (g_108_59 G) ?_
    refine z_iload (M := M_X12_year) 76 dX12_year_76 rfl ?_
    refine z_lload (M := M_X12_year) 78 dX12_year_78 rfl ?_
    refine z_ldc2 (M := M_X12_year) 80 dX12_year_80 k_X12_510 ?_
    refine z_lremN (M := M_X12_year) 83 dX12_year_83 (by omega) (by omega) ?_
    refine z_topBJ (lo := 0) (hi := 3) ⟨by omega, by omega⟩ (fun x3 ex3 ax3 bx3 => ?_)
    refine z_l2iN (M := M_X12_year) 84 dX12_year_84 (by omega) (by omega) ?_
    refine z_iastH (M := M_X12_year) 85 dX12_year_85 o_147 (by omega) (by omega) (u_147 G (by omega) (by omega)) (R.up rfl) (fun h4 E4 G4 R4 => ?_)
    refine z_iincN (M := M_X12_year) 86 dX12_year_86 (ls' := [some (mR 108), none, some (mI a2), some (mI a3), some (mJ x2), none, some (mI (l6 + 1)), none, none, none]) (by decide) rfl (by (unfold m_32; decide)) (by omega) (by omega) rfl ?_
    refine z_goto (M := M_X12_year) 89 dX12_year_89 49 rfl ?_
    exact z_mask [true, false, true, true, true, false, true, false, false, false] rfl (ih.1 x2 (l6 + 1) h4 G4 R4 (by omega) (by omega) (by omega) (by omega) (by omega) (by omega) (by omega) (by omega) (by omega) (by omega) (dS_st i0 (by omega) ex2) (dr_st i0 i1 (by omega) ex2 ex3 E4) (by omega))
set_option maxHeartbeats 4000000 in
set_option maxRecDepth 100000 in
theorem s_X12_year2_113 (h0 : m_H) (a1 a2 a3 : Int) (G0 : GI h0) (n : Nat) (ih : q_X12_year2 h0 a1 a2 a3 n) : ∀ (l6 l7 : Int) (h : m_H), GI h → FR [109, 147] [(108, 0), (108, 1), (108, 60), (108, 61), (108, 62)] h0 h → 0 ≤ l6 → l6 ≤ 989901 → 0 ≤ l7 → l7 ≤ 32 → 0 ≤ a1 → a1 ≤ 1000000 → 0 ≤ a2 → a2 ≤ 5 → 1 ≤ a3 → a3 ≤ 99 → (bI a3 (fun w => h0 110 (60 + a2).toNat / h0 110 (72 + dr a1 w).toNat) (32 * l7.toNat) l6 (h 108 61) (h 108 62)) → (∀ j : Nat, (j : Int) < 32 → h 147 j = dr a1 j) → (h 108 60 = 1) → 67 * (32 - l7) + (66) ≤ ((n + 1 : Nat) : Int) → m_Z oF M_X12_year 113 [some (mR 108), none, some (mI a2), some (mI a3), none, none, some (mI l6), some (mI l7), none, none] [] h (m_QI (P_X12_year2 h0 a1 a2 a3)) := by
  intro l6 l7 h G R v0 v1 v2 v3 v4 v5 v6 v7 v8 v9 i0 i1 i2 hr
  refine z_iload (M := M_X12_year) 113 dX12_year_113 rfl ?_
  refine z_bipush (M := M_X12_year) 115 dX12_year_115 ?_
  refine z_icmp_ge (M := M_X12_year) 117 dX12_year_117 197 rfl (fun c1 => ?_) (fun c1 => ?_)
  · refine z_aload_n (M := M_X12_year) 197 dX12_year_197 rfl ?_
    refine z_iload (M := M_X12_year) 198 dX12_year_198 rfl ?_
    refine z_vI (M := M_X12_year) 200 dX12_year_200 t_X12_answer l_X12_147 (m_rr_of rfl) (rest := []) (c_X12_answer h l6 G ⟨by omega, by omega⟩) o_108 rfl rfl rfl (Nat.le_of_ble_eq_true rfl) ⟨rfl, rfl⟩ (fun x2 h1 qx2 => ?_)
    obtain ⟨G1, S1, rfl⟩ := qx2
    have R1 := R.call S1 (by decide +kernel)
    exact z_retI (M := M_X12_year) 203 dX12_year_203 rfl ⟨G1, R1, Or.inr ⟨by omega, by omega, by omega, by omega, by omega, by omega, fun j hj => (S1 147 j rfl).trans (i1 j (by omega)), (S1 108 60 rfl).trans i2, yrM_ok i0 (by omega) (S1 108 61 rfl) (S1 108 62 rfl)⟩⟩
  · refine z_iload (M := M_X12_year) 120 dX12_year_120 rfl ?_
    refine z_iconst (M := M_X12_year) 122 dX12_year_122 ?_
    refine z_iaddN (M := M_X12_year) 123 dX12_year_123 (by omega) (by omega) ?_
    refine z_istore (M := M_X12_year) 124 dX12_year_124 (ls' := [some (mR 108), none, some (mI a2), some (mI a3), none, none, some (mI l6), some (mI l7), some (mI (l7 + 1)), none]) (by decide) rfl ?_
    exact z_mask [true, false, true, true, false, false, true, true, true, false] rfl (ih.2.2 l6 l7 (l7 + 1) h G R (by omega) (by omega) (by omega) (by omega) (by omega) (by omega) (by omega) (by omega) (by omega) (by omega) (by omega) (by omega) (bI_in i0 rfl rfl (by omega) (by omega)) i1 i2 (by omega) (by omega))
set_option maxHeartbeats 4000000 in
set_option maxRecDepth 100000 in
theorem s_X12_year2_126 (h0 : m_H) (a1 a2 a3 : Int) (G0 : GI h0) (n : Nat) (ih : q_X12_year2 h0 a1 a2 a3 n) : ∀ (l6 l7 l8 : Int) (h : m_H), GI h → FR [109, 147] [(108, 0), (108, 1), (108, 60), (108, 61), (108, 62)] h0 h → 0 ≤ l6 → l6 ≤ 989901 → 0 ≤ l7 → l7 ≤ 31 → 1 ≤ l8 → l8 ≤ 32 → 0 ≤ a1 → a1 ≤ 1000000 → 0 ≤ a2 → a2 ≤ 5 → 1 ≤ a3 → a3 ≤ 99 → (bI a3 (fun w => h0 110 (60 + a2).toNat / h0 110 (72 + dr a1 w).toNat) (32 * l7.toNat + l8.toNat) l6 (h 108 61) (h 108 62)) → (∀ j : Nat, (j : Int) < 32 → h 147 j = dr a1 j) → (h 108 60 = 1) → (l7 < l8) → 67 * (32 - l7) + 2 * (32 - l8) + (1) ≤ ((n + 1 : Nat) : Int) → m_Z oF M_X12_year 126 [some (mR 108), none, some (mI a2), some (mI a3), none, none, some (mI l6), some (mI l7), some (mI l8), none] [] h (m_QI (P_X12_year2 h0 a1 a2 a3)) := by
  intro l6 l7 l8 h G R v0 v1 v2 v3 v4 v5 v6 v7 v8 v9 v10 v11 i0 i1 i2 i3 hr
  refine z_iload (M := M_X12_year) 126 dX12_year_126 rfl ?_
  refine z_bipush (M := M_X12_year) 128 dX12_year_128 ?_
  refine z_icmp_ge (M := M_X12_year) 130 dX12_year_130 191 rfl (fun c1 => ?_) (fun c1 => ?_)
  · refine z_iincN (M := M_X12_year) 191 dX12_year_191 (ls' := [some (mR 108), none, some (mI a2), some (mI a3), none, none, some (mI l6), some (mI (l7 + 1)), some (mI l8), none]) (by decide) rfl (by (unfold m_32; decide)) (by omega) (by omega) rfl ?_
    refine z_goto (M := M_X12_year) 194 dX12_year_194 113 rfl ?_
    exact z_mask [true, false, true, true, false, false, true, true, false, false] rfl (ih.2.1 l6 (l7 + 1) h G R (by omega) (by omega) (by omega) (by omega) (by omega) (by omega) (by omega) (by omega) (by omega) (by omega) (bI_out i0 (by omega) (by omega)) i1 i2 (by omega))
  · refine z_iload_n (M := M_X12_year) 133 dX12_year_133 rfl ?_
    refine z_aload_n (M := M_X12_year) 134 dX12_year_134 rfl ?_
    refine z_iload_n (M := M_X12_year) 135 dX12_year_135 rfl ?_
    refine z_aload_n (M := M_X12_year) 136 dX12_year_136 rfl ?_
    refine z_getR (M := M_X12_year) 137 dX12_year_137 f_X12_130 o_108 rfl (g_108_59 G) ?_
    refine z_iload (M := M_X12_year) 140 dX12_year_140 rfl ?_
    refine z_ialdG (M := M_X12_year) 142 dX12_year_142 o_147 (by omega) (by omega) (g_147 G (by omega)) (fun x2 ex2 ax2 bx2 => ?_)
    refine z_vI (M := M_X12_year) 143 dX12_year_143 t_X12_feetOf l_X12_521 (m_rr_of rfl) (rest := [mI a3]) (c_X12_feetOf2 h a2 x2 G ⟨by omega, by omega⟩ ⟨by omega, by omega⟩) o_108 rfl rfl rfl (Nat.le_of_ble_eq_true rfl) ⟨rfl, rfl⟩ (fun x3 h1 qx3 => ?_)
    obtain ⟨G1, S1, ax3, bx3, fx3_0⟩ := qx3
    have R1 := R.call S1 (by decide +kernel)
    refine z_aload_n (M := M_X12_year) 146 dX12_year_146 rfl ?_
    refine z_iload_n (M := M_X12_year) 147 dX12_year_147 rfl ?_
    refine z_aload_n (M := M_X12_year) 148 dX12_year_148 rfl ?_
    refine z_getR (M := M_X12_year) 149 dX12_year_149 f_X12_130 o_108 rfl (g_108_59 G1) ?_
    refine z_iload (M := M_X12_year) 152 dX12_year_152 rfl ?_
    refine z_ialdG (M := M_X12_year) 154 dX12_year_154 o_147 (by omega) (by omega) (g_147 G1 (by omega)) (fun x4 ex4 ax4 bx4 => ?_)
    refine z_vI (M := M_X12_year) 155 dX12_year_155 t_X12_feetOf l_X12_521 (m_rr_of rfl) (rest := [mI x3, mI a3]) (c_X12_feetOf2 h1 a2 x4 G1 ⟨by omega, by omega⟩ ⟨by omega, by omega⟩) o_108 rfl rfl rfl (Nat.le_of_ble_eq_true rfl) ⟨rfl, rfl⟩ (fun x5 h2 qx5 => ?_)
    obtain ⟨G2, S2, ax5, bx5, fx5_0⟩ := qx5
    have R2 := R1.call S2 (by decide +kernel)
    refine z_isubN (M := M_X12_year) 158 dX12_year_158 (by omega) (by omega) ?_
    have mb := mul_s (a := a3) (d := (x3 - x5)) (by omega) (by omega) (by omega) (by omega)
    refine z_imulN (M := M_X12_year) 159 dX12_year_159 (by omega) (by omega) ?_
    refine z_topBI (lo := (-989901)) (hi := 989901) ⟨by omega, by omega⟩ (fun x6 ex6 ax6 bx6 => ?_)
    refine z_istore (M := M_X12_year) 160 dX12_year_160 (ls' := [some (mR 108), none, some (mI a2), some (mI a3), none, none, some (mI l6), some (mI l7), some (mI l8), some (mI x6)]) (by decide) rfl ?_
    refine z_iload (M := M_X12_year) 162 dX12_year_162 rfl ?_
    refine z_iload (M := M_X12_year) 164 dX12_year_164 rfl ?_
    refine z_icmp_le (M := M_X12_year) 166 dX12_year_166 185 rfl (fun c7 => ?_) (fun c7 => ?_)
    · refine z_iincN (M := M_X12_year) 185 dX12_year_185 (ls' := [some (mR 108), none, some (mI a2), some (mI a3), none, none, some (mI l6), some (mI l7), some (mI (l8 + 1)), some (mI x6)]) (by decide) rfl (by (unfold m_32; decide)) (by omega) (by omega) rfl ?_
      refine z_goto (M := M_X12_year) 188 dX12_year_188 126 rfl ?_
      exact z_mask [true, false, true, true, false, false, true, true, true, false] rfl (ih.2.2 l6 l7 (l8 + 1) h2 G2 R2 (by omega) (by omega) (by omega) (by omega) (by omega) (by omega) (by omega) (by omega) (by omega) (by omega) (by omega) (by omega) (bI_no i0 ((S2 108 61 rfl).trans (S1 108 61 rfl)) ((S2 108 62 rfl).trans (S1 108 62 rfl)) (by omega) (by omega) (by omega) (by omega) (congr (congrArg HSub.hSub (fM_at R (fun _ => rfl) ex2 (i1 _ (by omega)) fx3_0)) (fM_at R1 (fun _ => rfl) ex4 ((S1 147 _ rfl).trans (i1 _ (by omega))) fx5_0)) (by omega)) (fun j hj => (S2 147 j rfl).trans ((S1 147 j rfl).trans (i1 j hj))) ((S2 108 60 rfl).trans ((S1 108 60 rfl).trans i2)) (by omega) (by omega))
    · refine z_iload (M := M_X12_year) 169 dX12_year_169 rfl ?_
      refine z_istore (M := M_X12_year) 171 dX12_year_171 (ls' := [some (mR 108), none, some (mI a2), some (mI a3), none, none, some (mI x6), some (mI l7), some (mI l8), some (mI x6)]) (by decide) rfl ?_
      refine z_aload_n (M := M_X12_year) 173 dX12_year_173 rfl ?_
      refine z_iload (M := M_X12_year) 174 dX12_year_174 rfl ?_
      refine z_putIH (M := M_X12_year) 176 dX12_year_176 p_X12_515 o_108 rfl (u_108_61 G2 (by omega) (by omega)) (R2.up rfl) (fun h3 E3 G3 R3 => ?_)
      refine z_aload_n (M := M_X12_year) 179 dX12_year_179 rfl ?_
      refine z_iload (M := M_X12_year) 180 dX12_year_180 rfl ?_
      refine z_putIH (M := M_X12_year) 182 dX12_year_182 p_X12_518 o_108 rfl (u_108_62 G3 (by omega) (by omega)) (R3.up rfl) (fun h4 E4 G4 R4 => ?_)
      refine z_iincN (M := M_X12_year) 185 dX12_year_185 (ls' := [some (mR 108), none, some (mI a2), some (mI a3), none, none, some (mI x6), some (mI l7), some (mI (l8 + 1)), some (mI x6)]) (by decide) rfl (by (unfold m_32; decide)) (by omega) (by omega) rfl ?_
      refine z_goto (M := M_X12_year) 188 dX12_year_188 126 rfl ?_
      exact z_mask [true, false, true, true, false, false, true, true, true, false] rfl (ih.2.2 x6 l7 (l8 + 1) h4 G4 R4 (by omega) (by omega) (by omega) (by omega) (by omega) (by omega) (by omega) (by omega) (by omega) (by omega) (by omega) (by omega) (bI_eq (bI_yes i0 (tl_e3 E3 E4) (upE E4) (by omega) (by omega) (by omega) (by omega) (congr (congrArg HSub.hSub (fM_at R (fun _ => rfl) ex2 (i1 _ (by omega)) fx3_0)) (fM_at R1 (fun _ => rfl) ex4 ((S1 147 _ rfl).trans (i1 _ (by omega))) fx5_0)) (by omega)) ex6) (fun j hj => (tl_o E4 (by decide) j).trans ((tl_o E3 (by decide) j).trans ((S2 147 j rfl).trans ((S1 147 j rfl).trans (i1 j hj))))) ((tl_s E4 (by decide)).trans ((tl_s E3 (by decide)).trans ((S2 108 60 rfl).trans ((S1 108 60 rfl).trans i2)))) (by omega) (by omega))
theorem a_X12_year2 (h0 : m_H) (a1 a2 a3 : Int) (G0 : GI h0) : ∀ n, q_X12_year2 h0 a1 a2 a3 n := by
  intro n
  induction n with
  | zero => unfold q_X12_year2; refine ⟨?_, ?_, ?_⟩ <;> (intros; omega)
  | succ n ih => exact ⟨s_X12_year2_49 h0 a1 a2 a3 G0 n ih, s_X12_year2_113 h0 a1 a2 a3 G0 n ih, s_X12_year2_126 h0 a1 a2 a3 G0 n ih⟩
set_option maxHeartbeats 4000000 in
set_option maxRecDepth 100000 in
theorem c_X12_year2 (h0 : m_H) (a1 a2 a3 : Int) (G0 : GI h0) : m_CI M_X12_year [mR 108, mI a1, mI a2, mI a3] h0 (P_X12_year2 h0 a1 a2 a3) := by
  refine m_CI_of ⟨by decide, rfl, by simp [m_arg, m_isL, M_X12_year], ⟨rfl, rfl⟩, rfl, rfl⟩ (ls := [some (mR 108), some (mI a1), some (mI a2), some (mI a3), none, none, none, none, none, none]) rfl ?_
  have ih := a_X12_year2 h0 a1 a2 a3 G0 2284
  refine z_ok (fun _ _ ok => ?_)
  have oa1 : m_32 a1 := ok 1 _ rfl
  unfold m_32 at oa1
  have oa2 : m_32 a2 := ok 2 _ rfl
  unfold m_32 at oa2
  have oa3 : m_32 a3 := ok 3 _ rfl
  unfold m_32 at oa3
  refine z_aload_n (M := M_X12_year) 0 dX12_year_0 rfl ?_
  refine z_iconst (M := M_X12_year) 1 dX12_year_1 ?_
  refine z_putIH (M := M_X12_year) 2 dX12_year_2 p_X12_133 o_108 rfl (u_108_0 G0) ((FR.rf (cs := [109, 147]) (ss := [(108, 0), (108, 1), (108, 60), (108, 61), (108, 62)]) (h := h0)).up rfl) (fun h1 E1 G1 R1 => ?_)
  refine z_iload_n (M := M_X12_year) 5 dX12_year_5 rfl ?_
  refine z_i2l (M := M_X12_year) 6 dX12_year_6 ?_
  refine z_lconst (M := M_X12_year) 7 dX12_year_7 (v := 0) ?_
  refine z_ldc2 (M := M_X12_year) 8 dX12_year_8 k_X12_241 ?_
  refine z_sI (M := M_X12_year) 11 dX12_year_11 t_X12_in l_X12_143 (m_rr_of rfl) (rest := []) (c_X12_in h1 a1 0 1000000 G1) rfl rfl (Nat.le_of_ble_eq_true rfl) ⟨rfl, rfl⟩ (fun x1 h2 qx1 => ?_)
  obtain ⟨rfl, ⟨rfl, cx1⟩ | ⟨rfl, cx1⟩⟩ := qx1
  · refine z_if_eq_F (M := M_X12_year) 14 dX12_year_14 36 rfl (by omega) ?_
    refine z_iload_n (M := M_X12_year) 17 dX12_year_17 rfl ?_
    refine z_sI (M := M_X12_year) 18 dX12_year_18 t_X12_isThing l_X12_166 (m_rr_of rfl) (rest := []) (c_X12_isThing h1 a2 G1) rfl rfl (Nat.le_of_ble_eq_true rfl) ⟨rfl, rfl⟩ (fun x2 h3 qx2 => ?_)
    obtain ⟨rfl, ⟨rfl, cx2⟩ | ⟨rfl, cx2⟩⟩ := qx2
    · refine z_if_eq_F (M := M_X12_year) 21 dX12_year_21 36 rfl (by omega) ?_
      refine z_iload_n (M := M_X12_year) 24 dX12_year_24 rfl ?_
      refine z_i2l (M := M_X12_year) 25 dX12_year_25 ?_
      refine z_lconst (M := M_X12_year) 26 dX12_year_26 (v := 1) ?_
      refine z_ldc2 (M := M_X12_year) 27 dX12_year_27 k_X12_180 ?_
      refine z_sI (M := M_X12_year) 30 dX12_year_30 t_X12_in l_X12_143 (m_rr_of rfl) (rest := []) (c_X12_in h1 a3 1 99 G1) rfl rfl (Nat.le_of_ble_eq_true rfl) ⟨rfl, rfl⟩ (fun x3 h4 qx3 => ?_)
      obtain ⟨rfl, ⟨rfl, cx3⟩ | ⟨rfl, cx3⟩⟩ := qx3
      · refine z_if_ne_T (M := M_X12_year) 33 dX12_year_33 42 rfl (by omega) ?_
        refine z_iload_n (M := M_X12_year) 42 dX12_year_42 rfl ?_
        refine z_i2l (M := M_X12_year) 43 dX12_year_43 ?_
        refine z_lstore (M := M_X12_year) 44 dX12_year_44 (ls' := [some (mR 108), some (mI a1), some (mI a2), some (mI a3), some (mJ a1), none, none, none, none, none]) (by decide) rfl ?_
        refine z_iconst (M := M_X12_year) 46 dX12_year_46 ?_
        refine z_istore (M := M_X12_year) 47 dX12_year_47 (ls' := [some (mR 108), some (mI a1), some (mI a2), some (mI a3), some (mJ a1), none, some (mI 0), none, none, none]) (by decide) rfl ?_
        exact z_mask [true, false, true, true, true, false, true, false, false, false] rfl (ih.1 a1 0 h1 G1 R1 (by omega) (by omega) (by omega) (by omega) (by omega) (by omega) (by omega) (by omega) (by omega) (by omega) rfl (fun j hj => by omega) (by omega))
      · refine z_if_ne_F (M := M_X12_year) 33 dX12_year_33 42 rfl (by omega) ?_
        refine z_aload_n (M := M_X12_year) 36 dX12_year_36 rfl ?_
        refine z_iconst (M := M_X12_year) 37 dX12_year_37 ?_
        refine z_vI (M := M_X12_year) 38 dX12_year_38 t_X12_answer l_X12_147 (m_rr_of rfl) (rest := []) (c_X12_answer h1 (-1) G1 ⟨by omega, by omega⟩) o_108 rfl rfl rfl (Nat.le_of_ble_eq_true rfl) ⟨rfl, rfl⟩ (fun x4 h5 qx4 => ?_)
        obtain ⟨G5, S5, rfl⟩ := qx4
        have R5 := R1.call S5 (by decide +kernel)
        exact z_retI (M := M_X12_year) 41 dX12_year_41 rfl ⟨G5, R5, Or.inl ⟨by omega, rfl, fun j => (S5 147 j rfl).trans (tl_o E1 (by decide) j), (S5 108 60 rfl).trans (tl_s E1 (by decide)), (S5 108 61 rfl).trans (tl_s E1 (by decide)), (S5 108 62 rfl).trans (tl_s E1 (by decide))⟩⟩
    · refine z_if_eq_T (M := M_X12_year) 21 dX12_year_21 36 rfl (by omega) ?_
      refine z_aload_n (M := M_X12_year) 36 dX12_year_36 rfl ?_
      refine z_iconst (M := M_X12_year) 37 dX12_year_37 ?_
      refine z_vI (M := M_X12_year) 38 dX12_year_38 t_X12_answer l_X12_147 (m_rr_of rfl) (rest := []) (c_X12_answer h1 (-1) G1 ⟨by omega, by omega⟩) o_108 rfl rfl rfl (Nat.le_of_ble_eq_true rfl) ⟨rfl, rfl⟩ (fun x5 h6 qx5 => ?_)
      obtain ⟨G6, S6, rfl⟩ := qx5
      have R6 := R1.call S6 (by decide +kernel)
      exact z_retI (M := M_X12_year) 41 dX12_year_41 rfl ⟨G6, R6, Or.inl ⟨by omega, rfl, fun j => (S6 147 j rfl).trans (tl_o E1 (by decide) j), (S6 108 60 rfl).trans (tl_s E1 (by decide)), (S6 108 61 rfl).trans (tl_s E1 (by decide)), (S6 108 62 rfl).trans (tl_s E1 (by decide))⟩⟩
  · refine z_if_eq_T (M := M_X12_year) 14 dX12_year_14 36 rfl (by omega) ?_
    refine z_aload_n (M := M_X12_year) 36 dX12_year_36 rfl ?_
    refine z_iconst (M := M_X12_year) 37 dX12_year_37 ?_
    refine z_vI (M := M_X12_year) 38 dX12_year_38 t_X12_answer l_X12_147 (m_rr_of rfl) (rest := []) (c_X12_answer h1 (-1) G1 ⟨by omega, by omega⟩) o_108 rfl rfl rfl (Nat.le_of_ble_eq_true rfl) ⟨rfl, rfl⟩ (fun x6 h7 qx6 => ?_)
    obtain ⟨G7, S7, rfl⟩ := qx6
    have R7 := R1.call S7 (by decide +kernel)
    exact z_retI (M := M_X12_year) 41 dX12_year_41 rfl ⟨G7, R7, Or.inl ⟨by omega, rfl, fun j => (S7 147 j rfl).trans (tl_o E1 (by decide) j), (S7 108 60 rfl).trans (tl_s E1 (by decide)), (S7 108 61 rfl).trans (tl_s E1 (by decide)), (S7 108 62 rfl).trans (tl_s E1 (by decide))⟩⟩
/-! the relation of what was drawn -/
def DR (h : m_H) : Prop := h 105 1 = h 108 60 ∧ (h 105 1 ≠ 0 → h 105 2 = h 108 61 ∧ h 105 3 = h 108 62 ∧ ∀ j, j < 32 → h 106 j = h 147 j)
theorem DR.cls {h h' : m_H} {cs : List Nat} {ss : List (Nat × Nat)} (R : DR h) (S : FR cs ss h h') (o1 : out 105 106 cs ss = true) (o2 : fr cs ss 108 60 = false ∧ fr cs ss 108 61 = false ∧ fr cs ss 108 62 = false) (o3 : out 147 147 cs ss = true) : DR h' := by
  have f : ∀ c, 105 ≤ c → c ≤ 106 → ∀ j, h' c j = h c j := fun c u v j => S _ _ (fr_out o1 u v j)
  have f3 : ∀ j, h' 147 j = h 147 j := fun j => S _ _ (fr_out o3 (Nat.le_refl _) (Nat.le_refl _) j)
  unfold DR
  rw [f 105 (by decide) (by decide), f 105 (by decide) (by decide), f 105 (by decide) (by decide), S _ _ o2.1, S _ _ o2.2.1, S _ _ o2.2.2]
  refine ⟨R.1, fun q => ⟨(R.2 q).1, (R.2 q).2.1, fun j hj => ?_⟩⟩
  rw [f 106 (by decide) (by decide), f3]; exact (R.2 q).2.2 j hj
theorem DR.year {h h1 h2 : m_H} {cs cs' : List Nat} {ss ss' : List (Nat × Nat)} {a1 a2 a3 x y : Int} (R : DR h) (W : LW 1 h (h 110)) (S1 : FR cs ss h h1) (S2 : FR cs' ss' h1 h2) (A : yrQ (fun k => h 8 a2.toNat / h 8 (12 + k).toNat) 106 105 1 a1 a2 a3 x h h1) (B : yrQ (fun k => h1 110 (60 + a2).toNat / h1 110 (72 + k).toNat) 147 108 60 a1 a2 a3 y h1 h2) (o1 : out 108 147 cs ss = true) (o2 : out 105 106 cs' ss' = true) : DR h2 ∧ x = y := by
  have f : ∀ c, 108 ≤ c → c ≤ 147 → ∀ j, h1 c j = h c j := fun c u v j => S1 _ _ (fr_out o1 u v j)
  have g : ∀ c, 105 ≤ c → c ≤ 106 → ∀ j, h2 c j = h1 c j := fun c u v j => S2 _ _ (fr_out o2 u v j)
  by_cases q : a1 < 0 ∨ 1000000 < a1 ∨ a2 < 0 ∨ 5 < a2 ∨ a3 < 1 ∨ 99 < a3
  · rcases A with ⟨_, ax, a, b, c, d⟩ | ⟨a, b, c, d, e, f, _⟩
    · rcases B with ⟨_, bx, a', b', c', d'⟩ | ⟨a, b, c, d, e, f, _⟩
      · refine ⟨?_, by omega⟩
        unfold DR
        rw [g 105 (by decide) (by decide), g 105 (by decide) (by decide), g 105 (by decide) (by decide), b, c, d, b', c', d', f 108 (by decide) (by decide), f 108 (by decide) (by decide), f 108 (by decide) (by decide)]
        refine ⟨R.1, fun q => ⟨(R.2 q).1, (R.2 q).2.1, fun j hj => ?_⟩⟩
        rw [g 106 (by decide) (by decide), a, a', f 147 (by decide) (by decide)]; exact (R.2 q).2.2 j hj
      · omega
    · omega
  · rcases A with ⟨a, _⟩ | ⟨a, b, c, d, e, f', aw, a0, A⟩
    · exact absurd a q
    rcases B with ⟨b, _⟩ | ⟨_, _, _, _, _, _, bw, b0, B⟩
    · exact absurd b q
    have e : bs (fun w => h1 110 (60 + a2).toNat / h1 110 (72 + dr a1 w).toNat) 1024 = bs (fun w => h 8 a2.toNat / h 8 (12 + dr a1 w).toNat) 1024 := bs_congr (fun w _ => by
      have z := dr_b a1 w
      have i1 : (60 + a2).toNat = 60 + a2.toNat := by omega
      have i2 : (72 + dr a1 w).toNat = 60 + (12 + dr a1 w).toNat := by omega
      have e1 := W a2.toNat (by omega)
      have e2 := W (12 + dr a1 w).toNat (by omega)
      rw [i1, i2, f 110 (by decide) (by decide), f 110 (by decide) (by decide), ← e1, ← e2]) 1024 (Nat.le_refl _)
    obtain ⟨A1, A2, A3⟩ := A
    obtain ⟨B1, B2, B3⟩ := B
    have e' : bs (fun w => (fun k => h1 110 (60 + a2).toNat / h1 110 (72 + k).toNat) (dr a1 w)) 1024 = bs (fun w => (fun k => h 8 a2.toNat / h 8 (12 + k).toNat) (dr a1 w)) 1024 := e
    rw [e'] at B1 B2 B3
    refine ⟨⟨?_, fun _ => ⟨?_, ?_, fun j hj => ?_⟩⟩, A1.trans B1.symm⟩
    · rw [g 105 (by decide) (by decide), a0, b0]
    · rw [g 105 (by decide) (by decide)]; exact A2.trans B2.symm
    · rw [g 105 (by decide) (by decide)]; exact A3.trans B3.symm
    · rw [g 106 (by decide) (by decide), aw j hj, bw j hj]
theorem DR.trade {h h1 : m_H} {cs : List Nat} {ss : List (Nat × Nat)} {a1 x y : Int} (R : DR h) (S1 : FR cs ss h h1) (A : trQ 106 105 1 a1 x h) (B : trQ 147 108 60 a1 y h1) (o1 : out 108 147 cs ss = true) : x = y := by
  have f : ∀ c, 108 ≤ c → c ≤ 147 → ∀ j, h1 c j = h c j := fun c u v j => S1 _ _ (fr_out o1 u v j)
  unfold trQ at B
  rw [f 108 (by decide) (by decide), f 108 (by decide) (by decide), f 108 (by decide) (by decide), f 147 (by decide) (by decide), ← R.1] at B
  by_cases q : h 105 1 = 0 ∨ a1 < 0 ∨ 33 < a1
  · rcases A with ⟨_, a⟩ | ⟨a, b, _⟩ | ⟨a, b, _⟩ | ⟨a, b, c, _⟩
    · rcases B with ⟨_, b⟩ | ⟨a, b, _⟩ | ⟨a, b, _⟩ | ⟨a, b, c, _⟩ <;> omega
    · omega
    · omega
    · omega
  · have n : h 105 1 ≠ 0 := fun z => q (Or.inl z)
    obtain ⟨r1, r2, r3⟩ := R.2 n
    rcases A with ⟨a, _⟩ | ⟨_, a, e⟩ | ⟨_, a, e⟩ | ⟨_, a, b, e⟩
    · exact absurd a q
    · rcases B with ⟨a, _⟩ | ⟨_, _, e'⟩ | ⟨_, b, _⟩ | ⟨_, b, _, _⟩
      · exact absurd a q
      · exact e.symm.trans (r1.trans e')
      · omega
      · omega
    · rcases B with ⟨a, _⟩ | ⟨_, b, _⟩ | ⟨_, _, e'⟩ | ⟨_, b, _, _⟩
      · exact absurd a q
      · omega
      · exact e.symm.trans (r2.trans e')
      · omega
    · rcases B with ⟨a, _⟩ | ⟨_, b, _⟩ | ⟨_, b, _⟩ | ⟨_, _, _, e'⟩
      · exact absurd a q
      · omega
      · omega
      · exact e.symm.trans ((r3 _ (by omega)).trans e')
/-! tokens of a tape: what both readers go through -/
noncomputable def cif {α : Type} (p : Prop) (a b : α) : α := @ite α p (Classical.propDecidable p) a b
theorem cif_pos {α : Type} {p : Prop} {a b : α} (h : p) : cif p a b = a := @if_pos p (Classical.propDecidable p) h α a b
theorem cif_neg {α : Type} {p : Prop} {a b : α} (h : ¬ p) : cif p a b = b := @if_neg p (Classical.propDecidable p) h α a b
def fam (c : Int) : Int := if 97 ≤ c ∧ c ≤ 122 then 1 else if 48 ≤ c ∧ c ≤ 57 then 2 else 0
theorem fam_1 {c : Int} (h1 : 97 ≤ c) (h2 : c ≤ 122) : fam c = 1 := if_pos ⟨h1, h2⟩
theorem fam_2 {c : Int} (h1 : 48 ≤ c) (h2 : c ≤ 57) : fam c = 2 := by unfold fam; rw [if_neg (by omega), if_pos ⟨h1, h2⟩]
theorem fam_0 {c : Int} (h1 : ¬ (97 ≤ c ∧ c ≤ 122)) (h2 : ¬ (48 ≤ c ∧ c ≤ 57)) : fam c = 0 := by unfold fam; rw [if_neg h1, if_neg h2]
theorem fam_d {c : Int} : fam c = 2 ↔ 48 ≤ c ∧ c ≤ 57 := by
  unfold fam
  by_cases h1 : 97 ≤ c ∧ c ≤ 122
  · rw [if_pos h1]; omega
  · rw [if_neg h1]
    by_cases h2 : 48 ≤ c ∧ c ≤ 57
    · rw [if_pos h2]; omega
    · rw [if_neg h2]; omega
theorem fam_l {c : Int} : fam c = 1 ↔ 97 ≤ c ∧ c ≤ 122 := by
  unfold fam
  by_cases h1 : 97 ≤ c ∧ c ≤ 122
  · rw [if_pos h1]; omega
  · rw [if_neg h1]
    by_cases h2 : 48 ≤ c ∧ c ≤ 57
    · rw [if_pos h2]; omega
    · rw [if_neg h2]; omega
theorem fam_b (c : Int) : fam c = 0 ∨ fam c = 1 ∨ fam c = 2 := by
  unfold fam
  by_cases h1 : 97 ≤ c ∧ c ≤ 122
  · rw [if_pos h1]; omega
  · rw [if_neg h1]
    by_cases h2 : 48 ≤ c ∧ c ≤ 57
    · rw [if_pos h2]; omega
    · rw [if_neg h2]; omega
def Sk (b : Nat → Int) (n p s : Int) : Prop := p ≤ s ∧ (∀ j : Nat, p ≤ (j : Int) → (j : Int) < s → (j : Int) < n ∧ b j = 32) ∧ (s < n → b s.toNat ≠ 32)
def En (b : Nat → Int) (n s e : Int) : Prop := (n ≤ s ∧ e = s) ∨ (s < n ∧ fam (b s.toNat) = 0 ∧ e = s + 1) ∨ (s < n ∧ fam (b s.toNat) ≠ 0 ∧ s < e ∧ e ≤ n ∧ (∀ j : Nat, s ≤ (j : Int) → (j : Int) < e → fam (b j) = fam (b s.toNat)) ∧ (e < n → fam (b e.toNat) ≠ fam (b s.toNat)))
def Tok (b : Nat → Int) (n p : Int) (q : Int × Int) : Prop := Sk b n p q.1 ∧ En b n q.1 q.2
theorem Sk_u {b : Nat → Int} {n p s s' : Int} (hp : 0 ≤ p) (A : Sk b n p s) (B : Sk b n p s') : s = s' := by
  obtain ⟨a1, a2, a3⟩ := A
  obtain ⟨b1, b2, b3⟩ := B
  rcases Int.lt_trichotomy s s' with h | h | h
  · have z := b2 s.toNat (by omega) (by omega)
    exact absurd z.2 (a3 (by omega))
  · exact h
  · have z := a2 s'.toNat (by omega) (by omega)
    exact absurd z.2 (b3 (by omega))
theorem En_u {b : Nat → Int} {n s e e' : Int} (hs : 0 ≤ s) (A : En b n s e) (B : En b n s e') : e = e' := by
  rcases A with ⟨a1, a2⟩ | ⟨a1, a2, a3⟩ | ⟨a1, a2, a3, a4, a5, a6⟩
  · rcases B with ⟨b1, b2⟩ | ⟨b1, _⟩ | ⟨b1, _⟩ <;> omega
  · rcases B with ⟨b1, b2⟩ | ⟨b1, b2, b3⟩ | ⟨b1, b2, _⟩
    · omega
    · omega
    · exact absurd a2 b2
  · rcases B with ⟨b1, b2⟩ | ⟨b1, b2, b3⟩ | ⟨b1, b2, b3, b4, b5, b6⟩
    · omega
    · exact absurd b2 a2
    · rcases Int.lt_trichotomy e e' with h | h | h
      · exact absurd (b5 e.toNat (by omega) (by omega)) (a6 (by omega))
      · exact h
      · exact absurd (a5 e'.toNat (by omega) (by omega)) (b6 (by omega))
theorem Tok_u {b : Nat → Int} {n p : Int} {q q' : Int × Int} (hp : 0 ≤ p) (A : Tok b n p q) (B : Tok b n p q') : q = q' := by
  have e1 := Sk_u hp A.1 B.1
  have e2 := En_u (by have := A.1.1; omega) A.2 (by rw [e1]; exact B.2)
  exact Prod.ext e1 e2
noncomputable def nx (b : Nat → Int) (n p : Int) : Int × Int := Classical.epsilon (fun q => Tok b n p q)
theorem nx_eq {b : Nat → Int} {n p : Int} {q : Int × Int} (hp : 0 ≤ p) (T : Tok b n p q) : nx b n p = q := Tok_u hp (Classical.epsilon_spec (p := fun q => Tok b n p q) ⟨q, T⟩) T
/-- what is asked of a tape: only its n bytes count -/
theorem Sk_c {b b' : Nat → Int} {n p s : Int} (hp : 0 ≤ p) (e : ∀ j : Nat, (j : Int) < n → b' j = b j) (A : Sk b n p s) : Sk b' n p s := by
  obtain ⟨a1, a2, a3⟩ := A
  refine ⟨a1, fun j u v => ?_, fun u => ?_⟩
  · have z := a2 j u v
    exact ⟨z.1, by rw [e j z.1]; exact z.2⟩
  · rw [e _ (by omega)]; exact a3 u
theorem En_c {b b' : Nat → Int} {n s t : Int} (hs : 0 ≤ s) (e : ∀ j : Nat, (j : Int) < n → b' j = b j) (A : En b n s t) : En b' n s t := by
  rcases A with ⟨a1, a2⟩ | ⟨a1, a2, a3⟩ | ⟨a1, a2, a3, a4, a5, a6⟩
  · exact Or.inl ⟨a1, a2⟩
  · exact Or.inr (Or.inl ⟨a1, by rw [e _ (by omega)]; exact a2, a3⟩)
  · refine Or.inr (Or.inr ⟨a1, by rw [e _ (by omega)]; exact a2, a3, a4, fun j u v => ?_, fun u => ?_⟩)
    · rw [e _ (by omega), e _ (by omega)]; exact a5 j u v
    · rw [e _ (by omega), e _ (by omega)]; exact a6 u
/-- the tokens themselves -/
def isW (b : Nat → Int) (q : Int × Int) (w : Nat) : Prop := q.2 - q.1 = slen w ∧ ∀ i : Nat, (i : Int) < slen w → b (q.1 + i).toNat = sch w i
def dC (b : Nat → Int) (s : Int) : Nat → Int
  | 0 => 0
  | k + 1 => if 10 * dC b s k + b (s + k).toNat - 48 < 1000 then 10 * dC b s k + b (s + k).toNat - 48 else 1000
def num (b : Nat → Int) (q : Int × Int) : Int := dC b q.1 (q.2 - q.1).toNat
def nOk (b : Nat → Int) (n : Int) (q : Int × Int) (lo hi : Int) : Prop := q.1 < n ∧ fam (b q.1.toNat) = 2 ∧ lo ≤ num b q ∧ num b q ≤ hi
theorem dC_b {b : Nat → Int} {s : Int} : ∀ k : Nat, (∀ j : Nat, (j : Int) < k → 48 ≤ b (s + j).toNat) → 0 ≤ dC b s k ∧ dC b s k ≤ 1000
  | 0, _ => by unfold dC; omega
  | k + 1, h => by
    have i := dC_b k (fun j hj => h j (by omega))
    have z := h k (by omega)
    unfold dC
    split <;> omega
/-! on the way to a token -/
def Sp (b : Nat → Int) (n p s : Int) : Prop := p ≤ s ∧ ∀ j : Nat, p ≤ (j : Int) → (j : Int) < s → (j : Int) < n ∧ b j = 32
theorem Sp_0 {b : Nat → Int} {n p s : Int} (e : p = s) : Sp b n p s := ⟨by omega, fun j u v => by omega⟩
theorem Sp_s {b : Nat → Int} {n p s : Int} (i : Sp b n p s) (hp : 0 ≤ s) (h : s < n) (hb : b s.toNat = 32) : Sp b n p (s + 1) := by
  refine ⟨by have := i.1; omega, fun j u v => ?_⟩
  by_cases q : (j : Int) = s
  · have e : j = s.toNat := by omega
    rw [e]; exact ⟨by omega, hb⟩
  · exact i.2 j u (by omega)
theorem Sk_of {b : Nat → Int} {n p s : Int} (i : Sp b n p s) (h : s < n → b s.toNat ≠ 32) : Sk b n p s := ⟨i.1, i.2, h⟩
def Ep (b : Nat → Int) (n s e l : Int) : Prop := s < n ∧ fam (b s.toNat) = l ∧ s < e ∧ e ≤ n ∧ (l = 0 → e = s + 1) ∧ ∀ j : Nat, s ≤ (j : Int) → (j : Int) < e → fam (b j) = l
theorem Ep_1 {b : Nat → Int} {n s x l : Int} (hs : 0 ≤ s) (h : s < n) (eb : b s.toNat = x) (ef : fam x = l) : Ep b n s (s + 1) l := by
  refine ⟨h, by rw [eb]; exact ef, by omega, by omega, fun _ => rfl, fun j u v => ?_⟩
  have e : j = s.toNat := by omega
  rw [e, eb]; exact ef
theorem Ep_s {b : Nat → Int} {n s e x l : Int} (i : Ep b n s e l) (hs : 0 ≤ s) (h : e < n) (hl : l ≠ 0) (eb : b e.toNat = x) (ef : fam x = l) : Ep b n s (e + 1) l := by
  obtain ⟨i1, i2, i3, i4, i5, i6⟩ := i
  refine ⟨i1, i2, by omega, by omega, fun q => absurd q hl, fun j u v => ?_⟩
  by_cases q : (j : Int) = e
  · have e' : j = e.toNat := by omega
    rw [e', eb]; exact ef
  · exact i6 j u (by omega)
theorem En_0 {b : Nat → Int} {n s : Int} (h : n ≤ s) : En b n s s := Or.inl ⟨h, rfl⟩
theorem En_1 {b : Nat → Int} {n s e l : Int} (i : Ep b n s e l) (hl : l = 0) : En b n s e := Or.inr (Or.inl ⟨i.1, i.2.1.trans hl, i.2.2.2.2.1 hl⟩)
theorem En_2 {b : Nat → Int} {n s e l : Int} (i : Ep b n s e l) (hl : l ≠ 0) (h : e < n → fam (b e.toNat) ≠ l) : En b n s e := by
  obtain ⟨i1, i2, i3, i4, i5, i6⟩ := i
  exact Or.inr (Or.inr ⟨i1, by rw [i2]; exact hl, i3, i4, fun j u v => by rw [i2]; exact i6 j u v, fun q => by rw [i2]; exact h q⟩)
theorem Tok_of {b : Nat → Int} {n p s e s' e' : Int} (e1 : s' = s) (e2 : e' = e) (A : Sk b n p s) (B : En b n s e) : Tok b n p (s', e') := by rw [e1, e2]; exact ⟨A, B⟩
theorem ne_of {x y z : Int} (e : x = y) (h : y ≠ z) : x ≠ z := by rw [e]; exact h
theorem fam_r (c : Int) : 0 ≤ fam c ∧ fam c ≤ 2 := by rcases fam_b c with h | h | h <;> omega
theorem En_dig {b : Nat → Int} {n s e : Int} (E : En b n s e) (h0 : s < n) (hf : fam (b s.toNat) = 2) {j : Nat} (h1 : s ≤ (j : Int)) (h2 : (j : Int) < e) : 48 ≤ b j ∧ b j ≤ 57 := by
  rcases E with ⟨a1, a2⟩ | ⟨a1, a2, a3⟩ | ⟨a1, a2, a3, a4, a5, a6⟩
  · omega
  · omega
  · exact fam_d.mp ((a5 j h1 h2).trans hf)
theorem rowz {cs : List Nat} {ss : List (Nat × Nat)} {h h' : m_H} {c : Nat} (S : FR cs ss h h') (e : ∀ j, fr cs ss c j = false) : h' c = h c := funext fun j => S c j (e j)
def EnS (h : m_H) : Prop := En (h 36) (h 35 1) (h 37 1) (h 37 2)
def Qc (h : m_H) : Int × Int := (h 37 1, h 37 2)
theorem dig_h {h0 h : m_H} {l : Int} (hE : EnS h0) (R : ∀ j, h 36 j = h0 36 j) (i : h0 37 1 < h0 35 1 ∧ fam (h0 36 (h0 37 1).toNat) = 2) (hs : 0 ≤ l) (h1 : h0 37 1 ≤ l) (h2 : l < h0 37 2) : 48 ≤ h 36 l.toNat ∧ h 36 l.toNat ≤ 57 := by
  rw [R]; exact En_dig hE i.1 i.2 (by omega) (by omega)
def vlQ (b : Nat → Int) (n : Int) (q : Int × Int) (x : Int) : Prop := (¬ (q.1 < n ∧ fam (b q.1.toNat) = 2) ∧ x = -1) ∨ (q.1 < n ∧ fam (b q.1.toNat) = 2 ∧ x = num b q)
theorem dC_st {b : Nat → Int} {s l l1 x y : Int} (i : l1 = dC b s (l - s).toNat) (h1 : 0 ≤ s) (h : s ≤ l) (eb : b l.toNat = x) (ey : (if 10 * l1 + x - 48 < 1000 then 10 * l1 + x - 48 else 1000) = y) : y = dC b s (l + 1 - s).toNat := by
  have e : (l + 1 - s).toNat = (l - s).toNat + 1 := by omega
  have e2 : (s + ((l - s).toNat : Nat)).toNat = l.toNat := by omega
  rw [e, ← ey]
  show _ = (if 10 * dC b s (l - s).toNat + b (s + ((l - s).toNat : Nat)).toNat - 48 < 1000 then _ else _)
  rw [e2, eb, ← i]
theorem vl_end {h0 : m_H} {l l1 : Int} (i : l1 = dC (h0 36) (h0 37 1) (l - h0 37 1).toNat) (j : h0 37 1 < h0 35 1 ∧ fam (h0 36 (h0 37 1).toNat) = 2) (e : l = h0 37 2) : vlQ (h0 36) (h0 35 1) (Qc h0) l1 := by
  rw [e] at i
  exact Or.inr ⟨j.1, j.2, i⟩
def tnQ (lo hi x : Int) (h0 h' : m_H) : Prop := (x = -1 ∧ ¬ nOk (h0 36) (h0 35 1) (Qc h0) lo hi ∧ Qc h' = Qc h0) ∨ (x = num (h0 36) (Qc h0) ∧ nOk (h0 36) (h0 35 1) (Qc h0) lo hi ∧ Qc h' = nx (h0 36) (h0 35 1) (h0 37 2))
def tkQ (w : Nat) (x : Int) (h0 h' : m_H) : Prop := (x = 1 ∧ isW (h0 36) (Qc h0) w ∧ Qc h' = nx (h0 36) (h0 35 1) (h0 37 2)) ∨ (x = 0 ∧ ¬ isW (h0 36) (Qc h0) w ∧ Qc h' = Qc h0)
theorem EnS.fr {h0 h' : m_H} (E : EnS h0) (e1 : h' 36 = h0 36) (e2 : h' 35 1 = h0 35 1) (e : Qc h' = Qc h0) : EnS h' := by
  have a : h' 37 1 = h0 37 1 := congrArg Prod.fst e
  have b : h' 37 2 = h0 37 2 := congrArg Prod.snd e
  unfold EnS; rw [e1, e2, a, b]; exact E
theorem tn_no {lo hi x : Int} {h0 h' : m_H} (hE : EnS h0) (V : vlQ (h0 36) (h0 35 1) (Qc h0) x) (S : FR [] [] h0 h') (h1 : 0 ≤ lo) (c : ¬ (lo ≤ x ∧ x ≤ hi)) : EnS h' ∧ tnQ lo hi (-1) h0 h' := by
  have q : Qc h' = Qc h0 := by unfold Qc; rw [S 37 1 rfl, S 37 2 rfl]
  refine ⟨hE.fr (rowz S (fun _ => rfl)) (S 35 1 rfl) q, Or.inl ⟨rfl, fun z => ?_, q⟩⟩
  rcases V with ⟨a, b⟩ | ⟨a, b, d⟩
  · exact a ⟨z.1, z.2.1⟩
  · exact c (by rw [d]; exact ⟨z.2.2.1, z.2.2.2⟩)
theorem tn_ok {lo hi x : Int} {h0 h1 h' : m_H} (hp : 0 ≤ h0 37 2) (V : vlQ (h0 36) (h0 35 1) (Qc h0) x) (S1 : FR [] [] h0 h1) (S : FR [] [(37, 1), (37, 2)] h1 h') (T : Tok (h1 36) (h1 35 1) (h1 37 2) (h' 37 1, h' 37 2)) (h1' : 0 ≤ lo) (c : lo ≤ x ∧ x ≤ hi) : EnS h' ∧ tnQ lo hi x h0 h' := by
  have r1 : h1 36 = h0 36 := rowz S1 (fun _ => rfl)
  have r2 : h' 36 = h1 36 := rowz S (fun _ => rfl)
  have e1 : h1 35 1 = h0 35 1 := S1 35 1 rfl
  have e2 : h' 35 1 = h1 35 1 := S 35 1 rfl
  have e3 : h1 37 2 = h0 37 2 := S1 37 2 rfl
  refine ⟨?_, ?_⟩
  · unfold EnS; rw [r2, e2]; exact T.2
  · rw [r1, e1, e3] at T
    rcases V with ⟨a, b⟩ | ⟨a, b, d⟩
    · omega
    · exact Or.inr ⟨d, ⟨a, b, by rw [← d]; exact c.1, by rw [← d]; exact c.2⟩, (nx_eq hp T).symm⟩
theorem tk_ok {w : Nat} {h0 h1 h' : m_H} (hp : 0 ≤ h0 37 2) (W : isW (h0 36) (Qc h0) w) (S1 : FR [] [] h0 h1) (S : FR [] [(37, 1), (37, 2)] h1 h') (T : Tok (h1 36) (h1 35 1) (h1 37 2) (h' 37 1, h' 37 2)) : EnS h' ∧ tkQ w 1 h0 h' := by
  have r1 : h1 36 = h0 36 := rowz S1 (fun _ => rfl)
  have r2 : h' 36 = h1 36 := rowz S (fun _ => rfl)
  have e1 : h1 35 1 = h0 35 1 := S1 35 1 rfl
  have e2 : h' 35 1 = h1 35 1 := S 35 1 rfl
  have e3 : h1 37 2 = h0 37 2 := S1 37 2 rfl
  refine ⟨?_, ?_⟩
  · unfold EnS; rw [r2, e2]; exact T.2
  · rw [r1, e1, e3] at T
    exact Or.inl ⟨rfl, W, (nx_eq hp T).symm⟩
theorem tk_no {w : Nat} {h0 h' : m_H} (hE : EnS h0) (W : ¬ isW (h0 36) (Qc h0) w) (S : FR [] [] h0 h') : EnS h' ∧ tkQ w 0 h0 h' := by
  have q : Qc h' = Qc h0 := by unfold Qc; rw [S 37 1 rfl, S 37 2 rfl]
  exact ⟨hE.fr (rowz S (fun _ => rfl)) (S 35 1 rfl) q, Or.inr ⟨rfl, W, q⟩⟩
def sdQ (w : Nat) (x : Int) (h0 : m_H) : Prop := (x = 1 ∧ isW (h0 36) (Qc h0) w) ∨ (x = 0 ∧ ¬ isW (h0 36) (Qc h0) w)
theorem sd_st {b : Nat → Int} {s l : Int} {w : Nat} (i : ∀ i : Nat, (i : Int) < l → b (s + i).toNat = sch w i) (hl : 0 ≤ l) (e : b (s + l).toNat = sch w l) : ∀ i : Nat, (i : Int) < l + 1 → b (s + i).toNat = sch w i := by
  intro k hk
  by_cases q : (k : Int) = l
  · rw [q]; exact e
  · exact i k (by omega)
theorem sd_1 {h0 : m_H} {w : Nat} {l : Int} (e : h0 37 2 - h0 37 1 = slen w) (i : ∀ i : Nat, (i : Int) < l → h0 36 (h0 37 1 + i).toNat = sch w i) (hl : slen w ≤ l) : sdQ w 1 h0 := Or.inl ⟨rfl, e, fun k hk => i k (by omega)⟩
theorem sd_0 {h0 : m_H} {w : Nat} (e : h0 37 2 - h0 37 1 ≠ slen w) : sdQ w 0 h0 := Or.inr ⟨rfl, fun z => e z.1⟩
theorem sd_2 {h0 : m_H} {w : Nat} {l : Int} (hl : 0 ≤ l) (h : l < slen w) (e : h0 36 (h0 37 1 + l).toNat ≠ sch w l) : sdQ w 0 h0 := by
  refine Or.inr ⟨rfl, fun z => e ?_⟩
  have q := z.2 l.toNat (by omega)
  have e2 : ((l.toNat : Nat) : Int) = l := by omega
  rw [e2] at q
  exact q
theorem EnS.le {h : m_H} (E : EnS h) : h 37 1 ≤ h 37 2 := by
  rcases E with ⟨_, a⟩ | ⟨_, _, a⟩ | ⟨_, _, a, _⟩ <;> omega
abbrev P_X1_familyOf2 (h0 : m_H) (a0 : Int) : Int → m_H → Prop := fun x h' => h0 = h' ∧ fam a0 = x
set_option maxHeartbeats 4000000 in
set_option maxRecDepth 100000 in
theorem c_X1_familyOf2 (h0 : m_H) (a0 : Int) (G0 : GI h0) : m_CI M_X1_familyOf [mI a0] h0 (P_X1_familyOf2 h0 a0) := by
  refine m_CI_of ⟨by decide, rfl, by simp [m_arg, m_isL, M_X1_familyOf], ⟨rfl, rfl⟩, rfl, rfl⟩ (ls := [some (mI a0)]) rfl ?_
  refine z_ok (fun _ _ ok => ?_)
  have oa0 : m_32 a0 := ok 0 _ rfl
  unfold m_32 at oa0
  refine z_iload_n (M := M_X1_familyOf) 0 dX1_familyOf_0 rfl ?_
  refine z_bipush (M := M_X1_familyOf) 1 dX1_familyOf_1 ?_
  refine z_icmp_lt (M := M_X1_familyOf) 3 dX1_familyOf_3 14 rfl (fun c1 => ?_) (fun c1 => ?_)
  · refine z_iload_n (M := M_X1_familyOf) 14 dX1_familyOf_14 rfl ?_
    refine z_bipush (M := M_X1_familyOf) 15 dX1_familyOf_15 ?_
    refine z_icmp_lt (M := M_X1_familyOf) 17 dX1_familyOf_17 30 rfl (fun c2 => ?_) (fun c2 => ?_)
    · refine z_iconst (M := M_X1_familyOf) 30 dX1_familyOf_30 ?_
      exact z_retI (M := M_X1_familyOf) 31 dX1_familyOf_31 rfl ⟨rfl, fam_0 (by omega) (by omega)⟩
    · refine z_iload_n (M := M_X1_familyOf) 20 dX1_familyOf_20 rfl ?_
      refine z_bipush (M := M_X1_familyOf) 21 dX1_familyOf_21 ?_
      refine z_icmp_gt (M := M_X1_familyOf) 23 dX1_familyOf_23 30 rfl (fun c3 => ?_) (fun c3 => ?_)
      · refine z_iconst (M := M_X1_familyOf) 30 dX1_familyOf_30 ?_
        exact z_retI (M := M_X1_familyOf) 31 dX1_familyOf_31 rfl ⟨rfl, fam_0 (by omega) (by omega)⟩
      · refine z_iconst (M := M_X1_familyOf) 26 dX1_familyOf_26 ?_
        refine z_goto (M := M_X1_familyOf) 27 dX1_familyOf_27 31 rfl ?_
        exact z_retI (M := M_X1_familyOf) 31 dX1_familyOf_31 rfl ⟨rfl, fam_2 (by omega) (by omega)⟩
  · refine z_iload_n (M := M_X1_familyOf) 6 dX1_familyOf_6 rfl ?_
    refine z_bipush (M := M_X1_familyOf) 7 dX1_familyOf_7 ?_
    refine z_icmp_gt (M := M_X1_familyOf) 9 dX1_familyOf_9 14 rfl (fun c4 => ?_) (fun c4 => ?_)
    · refine z_iload_n (M := M_X1_familyOf) 14 dX1_familyOf_14 rfl ?_
      refine z_bipush (M := M_X1_familyOf) 15 dX1_familyOf_15 ?_
      refine z_icmp_lt_F (M := M_X1_familyOf) 17 dX1_familyOf_17 30 rfl (by omega) ?_
      refine z_iload_n (M := M_X1_familyOf) 20 dX1_familyOf_20 rfl ?_
      refine z_bipush (M := M_X1_familyOf) 21 dX1_familyOf_21 ?_
      refine z_icmp_gt_T (M := M_X1_familyOf) 23 dX1_familyOf_23 30 rfl (by omega) ?_
      refine z_iconst (M := M_X1_familyOf) 30 dX1_familyOf_30 ?_
      exact z_retI (M := M_X1_familyOf) 31 dX1_familyOf_31 rfl ⟨rfl, fam_0 (by omega) (by omega)⟩
    · refine z_iconst (M := M_X1_familyOf) 12 dX1_familyOf_12 ?_
      exact z_retI (M := M_X1_familyOf) 13 dX1_familyOf_13 rfl ⟨rfl, fam_1 (by omega) (by omega)⟩
abbrev P_X1_advance2 (h0 : m_H) : m_H → Prop := fun h' => GI h' ∧ FR [] [(37, 1), (37, 2)] h0 h' ∧ Tok (h0 36) (h0 35 1) (h0 37 2) (h' 37 1, h' 37 2)
def q_X1_advance2 (h0 : m_H) (n : Nat) : Prop := (∀ (y_37_1 y_37_2 : Int) (h : m_H), GI h → FR [] [(37, 1), (37, 2)] h0 h → 0 ≤ y_37_1 → y_37_1 ≤ 400 → 0 ≤ y_37_2 → y_37_2 ≤ 400 → (h 37 1 = y_37_1) → (h 37 2 = y_37_2) → (Sp (h0 36) (h0 35 1) (h0 37 2) y_37_1) → 2 * (400 - y_37_1) + (804) ≤ (n : Int) → m_Z oF M_X1_advance 8 [some (mR 37), none] [] h (m_QV (P_X1_advance2 h0))) ∧ (∀ (l1 y_37_1 y_37_2 : Int) (h : m_H), GI h → FR [] [(37, 1), (37, 2)] h0 h → 0 ≤ l1 → l1 ≤ 2 → 0 ≤ y_37_1 → y_37_1 ≤ 400 → 1 ≤ y_37_2 → y_37_2 ≤ 400 → (h 37 1 = y_37_1) → (h 37 2 = y_37_2) → (Sk (h0 36) (h0 35 1) (h0 37 2) y_37_1) → (Ep (h0 36) (h0 35 1) y_37_1 y_37_2 l1) → 2 * (400 - y_37_2) + (1) ≤ (n : Int) → m_Z oF M_X1_advance 101 [some (mR 37), some (mI l1)] [] h (m_QV (P_X1_advance2 h0)))
set_option maxHeartbeats 4000000 in
set_option maxRecDepth 100000 in
theorem s_X1_advance2_8 (h0 : m_H) (G0 : GI h0) (n : Nat) (ih : q_X1_advance2 h0 n) : ∀ (y_37_1 y_37_2 : Int) (h : m_H), GI h → FR [] [(37, 1), (37, 2)] h0 h → 0 ≤ y_37_1 → y_37_1 ≤ 400 → 0 ≤ y_37_2 → y_37_2 ≤ 400 → (h 37 1 = y_37_1) → (h 37 2 = y_37_2) → (Sp (h0 36) (h0 35 1) (h0 37 2) y_37_1) → 2 * (400 - y_37_1) + (804) ≤ ((n + 1 : Nat) : Int) → m_Z oF M_X1_advance 8 [some (mR 37), none] [] h (m_QV (P_X1_advance2 h0)) := by
  intro y_37_1 y_37_2 h G R v0 v1 v2 v3 t_37_1 t_37_2 i0 hr
  refine z_aload_n (M := M_X1_advance) 8 dX1_advance_8 rfl ?_
  refine z_getIE (M := M_X1_advance) 9 dX1_advance_9 f_X1_43 o_37 (by decide) t_37_1 ?_
  refine z_aload_n (M := M_X1_advance) 12 dX1_advance_12 rfl ?_
  refine z_getR (M := M_X1_advance) 13 dX1_advance_13 f_X1_9 o_37 rfl (g_37_0 G) ?_
  refine z_getIG (M := M_X1_advance) 16 dX1_advance_16 f_X1_46 o_35 (by decide) (g_35_1 G) (fun x1 ex1 ax1 bx1 => ?_)
  refine z_icmp_ge (M := M_X1_advance) 19 dX1_advance_19 52 rfl (fun c2 => ?_) (fun c2 => ?_)
  · refine z_aload_n (M := M_X1_advance) 52 dX1_advance_52 rfl ?_
    refine z_aload_n (M := M_X1_advance) 53 dX1_advance_53 rfl ?_
    refine z_getIE (M := M_X1_advance) 54 dX1_advance_54 f_X1_43 o_37 (by decide) t_37_1 ?_
    refine z_putIH (M := M_X1_advance) 57 dX1_advance_57 p_X1_19 o_37 rfl (u_37_2 G (by omega) (by omega)) (R.up rfl) (fun h1 E1 G1 R1 => ?_)
    refine z_aload_n (M := M_X1_advance) 60 dX1_advance_60 rfl ?_
    refine z_getIE (M := M_X1_advance) 61 dX1_advance_61 f_X1_43 o_37 (by decide) ((upN E1 (fun q => absurd q.2 (by decide))).trans t_37_1) ?_
    refine z_aload_n (M := M_X1_advance) 64 dX1_advance_64 rfl ?_
    refine z_getR (M := M_X1_advance) 65 dX1_advance_65 f_X1_9 o_37 rfl (g_37_0 G1) ?_
    refine z_getIE (M := M_X1_advance) 68 dX1_advance_68 f_X1_46 o_35 (by decide) ((upN E1 (fun q => absurd q.1 (by decide))).trans ex1) ?_
    refine z_icmp_lt (M := M_X1_advance) 71 dX1_advance_71 75 rfl (fun c3 => ?_) (fun c3 => ?_)
    · refine z_aload_n (M := M_X1_advance) 75 dX1_advance_75 rfl ?_
      refine z_getR (M := M_X1_advance) 76 dX1_advance_76 f_X1_9 o_37 rfl (g_37_0 G1) ?_
      refine z_getR (M := M_X1_advance) 79 dX1_advance_79 f_X1_128 o_35 rfl (g_35_0 G1) ?_
      refine z_aload_n (M := M_X1_advance) 82 dX1_advance_82 rfl ?_
      refine z_getIE (M := M_X1_advance) 83 dX1_advance_83 f_X1_43 o_37 (by decide) ((upN E1 (fun q => absurd q.2 (by decide))).trans t_37_1) ?_
      refine z_ialdG (M := M_X1_advance) 86 dX1_advance_86 o_36 (by omega) (by omega) (g_36 G1 (by omega)) (fun x4 ex4 ax4 bx4 => ?_)
      refine z_sI (M := M_X1_advance) 87 dX1_advance_87 t_X1_familyOf l_X1_139 (m_rr_of rfl) (rest := []) (c_X1_familyOf2 h1 x4 G1) rfl rfl (Nat.le_of_ble_eq_true rfl) ⟨rfl, rfl⟩ (fun x5 h2 qx5 => ?_)
      obtain ⟨rfl, fx5⟩ := qx5
      have bx5 : 0 ≤ x5 ∧ x5 ≤ 2 := fx5 ▸ fam_r _
      refine z_istore_n (M := M_X1_advance) 90 dX1_advance_90 (ls' := [some (mR 37), some (mI x5)]) (by decide) rfl ?_
      refine z_aload_n (M := M_X1_advance) 91 dX1_advance_91 rfl ?_
      refine z_dup (M := M_X1_advance) 92 dX1_advance_92 rfl ?_
      refine z_getIE (M := M_X1_advance) 93 dX1_advance_93 f_X1_19 o_37 (by decide) (upE E1) ?_
      refine z_iconst (M := M_X1_advance) 96 dX1_advance_96 ?_
      refine z_iaddN (M := M_X1_advance) 97 dX1_advance_97 (by omega) (by omega) ?_
      refine z_putIH (M := M_X1_advance) 98 dX1_advance_98 p_X1_19 o_37 rfl (u_37_2 G1 (by omega) (by omega)) (R1.up rfl) (fun h3 E3 G3 R3 => ?_)
      have w6 : h0 35 1 = x1 := (R3 35 1 rfl).symm.trans ((upN E3 (fun q => absurd q.1 (by decide))).trans ((upN E1 (fun q => absurd q.1 (by decide))).trans ex1))
      exact z_mask [true, true] rfl (ih.2 x5 y_37_1 (y_37_1 + 1) h3 G3 R3 (by omega) (by omega) (by omega) (by omega) (by omega) (by omega) ((upN E3 (fun q => absurd q.2 (by decide))).trans ((upN E1 (fun q => absurd q.2 (by decide))).trans t_37_1)) (upE E3) (by first | exact trivial | (exfalso; omega)) (by first | exact Ep_1 (by omega) (by omega) ((R1 36 _ rfl).symm.trans ex4) fx5 | (exfalso; omega)) (by omega))
    · have w7 : h0 35 1 = x1 := (R1 35 1 rfl).symm.trans ((upN E1 (fun q => absurd q.1 (by decide))).trans ex1)
      exact z_retV (M := M_X1_advance) 74 dX1_advance_74 rfl ⟨G1, R1, Tok_of ((upN E1 (fun q => absurd q.2 (by decide))).trans t_37_1) (upE E1) (Sk_of i0 (fun q => absurd q (by omega))) (En_0 (by omega))⟩
  · refine z_aload_n (M := M_X1_advance) 22 dX1_advance_22 rfl ?_
    refine z_getR (M := M_X1_advance) 23 dX1_advance_23 f_X1_9 o_37 rfl (g_37_0 G) ?_
    refine z_getR (M := M_X1_advance) 26 dX1_advance_26 f_X1_128 o_35 rfl (g_35_0 G) ?_
    refine z_aload_n (M := M_X1_advance) 29 dX1_advance_29 rfl ?_
    refine z_getIE (M := M_X1_advance) 30 dX1_advance_30 f_X1_43 o_37 (by decide) t_37_1 ?_
    refine z_ialdG (M := M_X1_advance) 33 dX1_advance_33 o_36 (by omega) (by omega) (g_36 G (by omega)) (fun x8 ex8 ax8 bx8 => ?_)
    refine z_bipush (M := M_X1_advance) 34 dX1_advance_34 ?_
    refine z_icmp_ne (M := M_X1_advance) 36 dX1_advance_36 52 rfl (fun c9 => ?_) (fun c9 => ?_)
    · refine z_aload_n (M := M_X1_advance) 52 dX1_advance_52 rfl ?_
      refine z_aload_n (M := M_X1_advance) 53 dX1_advance_53 rfl ?_
      refine z_getIE (M := M_X1_advance) 54 dX1_advance_54 f_X1_43 o_37 (by decide) t_37_1 ?_
      refine z_putIH (M := M_X1_advance) 57 dX1_advance_57 p_X1_19 o_37 rfl (u_37_2 G (by omega) (by omega)) (R.up rfl) (fun h4 E4 G4 R4 => ?_)
      refine z_aload_n (M := M_X1_advance) 60 dX1_advance_60 rfl ?_
      refine z_getIE (M := M_X1_advance) 61 dX1_advance_61 f_X1_43 o_37 (by decide) ((upN E4 (fun q => absurd q.2 (by decide))).trans t_37_1) ?_
      refine z_aload_n (M := M_X1_advance) 64 dX1_advance_64 rfl ?_
      refine z_getR (M := M_X1_advance) 65 dX1_advance_65 f_X1_9 o_37 rfl (g_37_0 G4) ?_
      refine z_getIE (M := M_X1_advance) 68 dX1_advance_68 f_X1_46 o_35 (by decide) ((upN E4 (fun q => absurd q.1 (by decide))).trans ex1) ?_
      refine z_icmp_lt (M := M_X1_advance) 71 dX1_advance_71 75 rfl (fun c10 => ?_) (fun c10 => ?_)
      · refine z_aload_n (M := M_X1_advance) 75 dX1_advance_75 rfl ?_
        refine z_getR (M := M_X1_advance) 76 dX1_advance_76 f_X1_9 o_37 rfl (g_37_0 G4) ?_
        refine z_getR (M := M_X1_advance) 79 dX1_advance_79 f_X1_128 o_35 rfl (g_35_0 G4) ?_
        refine z_aload_n (M := M_X1_advance) 82 dX1_advance_82 rfl ?_
        refine z_getIE (M := M_X1_advance) 83 dX1_advance_83 f_X1_43 o_37 (by decide) ((upN E4 (fun q => absurd q.2 (by decide))).trans t_37_1) ?_
        refine z_ialdG (M := M_X1_advance) 86 dX1_advance_86 o_36 (by omega) (by omega) (g_36 G4 (by omega)) (fun x11 ex11 ax11 bx11 => ?_)
        refine z_sI (M := M_X1_advance) 87 dX1_advance_87 t_X1_familyOf l_X1_139 (m_rr_of rfl) (rest := []) (c_X1_familyOf2 h4 x11 G4) rfl rfl (Nat.le_of_ble_eq_true rfl) ⟨rfl, rfl⟩ (fun x12 h5 qx12 => ?_)
        obtain ⟨rfl, fx12⟩ := qx12
        have bx12 : 0 ≤ x12 ∧ x12 ≤ 2 := fx12 ▸ fam_r _
        refine z_istore_n (M := M_X1_advance) 90 dX1_advance_90 (ls' := [some (mR 37), some (mI x12)]) (by decide) rfl ?_
        refine z_aload_n (M := M_X1_advance) 91 dX1_advance_91 rfl ?_
        refine z_dup (M := M_X1_advance) 92 dX1_advance_92 rfl ?_
        refine z_getIE (M := M_X1_advance) 93 dX1_advance_93 f_X1_19 o_37 (by decide) (upE E4) ?_
        refine z_iconst (M := M_X1_advance) 96 dX1_advance_96 ?_
        refine z_iaddN (M := M_X1_advance) 97 dX1_advance_97 (by omega) (by omega) ?_
        refine z_putIH (M := M_X1_advance) 98 dX1_advance_98 p_X1_19 o_37 rfl (u_37_2 G4 (by omega) (by omega)) (R4.up rfl) (fun h6 E6 G6 R6 => ?_)
        have w13 : h0 35 1 = x1 := (R6 35 1 rfl).symm.trans ((upN E6 (fun q => absurd q.1 (by decide))).trans ((upN E4 (fun q => absurd q.1 (by decide))).trans ex1))
        exact z_mask [true, true] rfl (ih.2 x12 y_37_1 (y_37_1 + 1) h6 G6 R6 (by omega) (by omega) (by omega) (by omega) (by omega) (by omega) ((upN E6 (fun q => absurd q.2 (by decide))).trans ((upN E4 (fun q => absurd q.2 (by decide))).trans t_37_1)) (upE E6) (by first | exact Sk_of i0 (fun _ => ne_of ((R 36 _ rfl).symm.trans ex8) (by omega)) | (exfalso; omega)) (by first | exact Ep_1 (by omega) (by omega) ((R4 36 _ rfl).symm.trans ex11) fx12 | (exfalso; omega)) (by omega))
      · have w14 : h0 35 1 = x1 := (R4 35 1 rfl).symm.trans ((upN E4 (fun q => absurd q.1 (by decide))).trans ex1)
        exact z_retV (M := M_X1_advance) 74 dX1_advance_74 rfl ⟨G4, R4, Tok_of ((upN E4 (fun q => absurd q.2 (by decide))).trans t_37_1) (upE E4) (Sk_of i0 (fun q => ne_of ((R 36 _ rfl).symm.trans ex8) (by omega))) (En_0 (by omega))⟩
    · refine z_aload_n (M := M_X1_advance) 39 dX1_advance_39 rfl ?_
      refine z_dup (M := M_X1_advance) 40 dX1_advance_40 rfl ?_
      refine z_getIE (M := M_X1_advance) 41 dX1_advance_41 f_X1_43 o_37 (by decide) t_37_1 ?_
      refine z_iconst (M := M_X1_advance) 44 dX1_advance_44 ?_
      refine z_iaddN (M := M_X1_advance) 45 dX1_advance_45 (by omega) (by omega) ?_
      refine z_putIH (M := M_X1_advance) 46 dX1_advance_46 p_X1_43 o_37 rfl (u_37_1 G (by omega) (by omega)) (R.up rfl) (fun h7 E7 G7 R7 => ?_)
      refine z_goto (M := M_X1_advance) 49 dX1_advance_49 8 rfl ?_
      have w15 : h0 35 1 = x1 := (R7 35 1 rfl).symm.trans ((upN E7 (fun q => absurd q.1 (by decide))).trans ex1)
      exact z_mask [true, false] rfl (ih.1 (y_37_1 + 1) y_37_2 h7 G7 R7 (by omega) (by omega) (by omega) (by omega) (upE E7) ((upN E7 (fun q => absurd q.2 (by decide))).trans t_37_2) (Sp_s i0 (by omega) (by omega) (((R 36 _ rfl).symm.trans ex8).trans (by omega))) (by omega))
set_option maxHeartbeats 4000000 in
set_option maxRecDepth 100000 in
theorem s_X1_advance2_101 (h0 : m_H) (G0 : GI h0) (n : Nat) (ih : q_X1_advance2 h0 n) : ∀ (l1 y_37_1 y_37_2 : Int) (h : m_H), GI h → FR [] [(37, 1), (37, 2)] h0 h → 0 ≤ l1 → l1 ≤ 2 → 0 ≤ y_37_1 → y_37_1 ≤ 400 → 1 ≤ y_37_2 → y_37_2 ≤ 400 → (h 37 1 = y_37_1) → (h 37 2 = y_37_2) → (Sk (h0 36) (h0 35 1) (h0 37 2) y_37_1) → (Ep (h0 36) (h0 35 1) y_37_1 y_37_2 l1) → 2 * (400 - y_37_2) + (1) ≤ ((n + 1 : Nat) : Int) → m_Z oF M_X1_advance 101 [some (mR 37), some (mI l1)] [] h (m_QV (P_X1_advance2 h0)) := by
  intro l1 y_37_1 y_37_2 h G R v0 v1 v2 v3 v4 v5 t_37_1 t_37_2 i0 i1 hr
  refine z_iload_n (M := M_X1_advance) 101 dX1_advance_101 rfl ?_
  refine z_if_eq (M := M_X1_advance) 102 dX1_advance_102 151 rfl (fun c1 => ?_) (fun c1 => ?_)
  · obtain ⟨x2, ex2⟩ : ∃ y : Int, h 35 1 = y := ⟨_, rfl⟩
    have bx2 : 0 ≤ x2 ∧ x2 ≤ 400 := ex2 ▸ g_35_1 G
    have w3 : h0 35 1 = x2 := (R 35 1 rfl).symm.trans ex2
    exact z_retV (M := M_X1_advance) 151 dX1_advance_151 rfl ⟨G, R, Tok_of t_37_1 t_37_2 i0 (En_1 i1 (by omega))⟩
  · refine z_aload_n (M := M_X1_advance) 105 dX1_advance_105 rfl ?_
    refine z_getIE (M := M_X1_advance) 106 dX1_advance_106 f_X1_19 o_37 (by decide) t_37_2 ?_
    refine z_aload_n (M := M_X1_advance) 109 dX1_advance_109 rfl ?_
    refine z_getR (M := M_X1_advance) 110 dX1_advance_110 f_X1_9 o_37 rfl (g_37_0 G) ?_
    refine z_getIG (M := M_X1_advance) 113 dX1_advance_113 f_X1_46 o_35 (by decide) (g_35_1 G) (fun x4 ex4 ax4 bx4 => ?_)
    refine z_icmp_ge (M := M_X1_advance) 116 dX1_advance_116 151 rfl (fun c5 => ?_) (fun c5 => ?_)
    · have w6 : h0 35 1 = x4 := (R 35 1 rfl).symm.trans ex4
      exact z_retV (M := M_X1_advance) 151 dX1_advance_151 rfl ⟨G, R, Tok_of t_37_1 t_37_2 i0 (En_2 i1 (by omega) (fun q => absurd q (by omega)))⟩
    · refine z_aload_n (M := M_X1_advance) 119 dX1_advance_119 rfl ?_
      refine z_getR (M := M_X1_advance) 120 dX1_advance_120 f_X1_9 o_37 rfl (g_37_0 G) ?_
      refine z_getR (M := M_X1_advance) 123 dX1_advance_123 f_X1_128 o_35 rfl (g_35_0 G) ?_
      refine z_aload_n (M := M_X1_advance) 126 dX1_advance_126 rfl ?_
      refine z_getIE (M := M_X1_advance) 127 dX1_advance_127 f_X1_19 o_37 (by decide) t_37_2 ?_
      refine z_ialdG (M := M_X1_advance) 130 dX1_advance_130 o_36 (by omega) (by omega) (g_36 G (by omega)) (fun x7 ex7 ax7 bx7 => ?_)
      refine z_sI (M := M_X1_advance) 131 dX1_advance_131 t_X1_familyOf l_X1_139 (m_rr_of rfl) (rest := []) (c_X1_familyOf2 h x7 G) rfl rfl (Nat.le_of_ble_eq_true rfl) ⟨rfl, rfl⟩ (fun x8 h1 qx8 => ?_)
      obtain ⟨rfl, fx8⟩ := qx8
      have bx8 : 0 ≤ x8 ∧ x8 ≤ 2 := fx8 ▸ fam_r _
      refine z_iload_n (M := M_X1_advance) 134 dX1_advance_134 rfl ?_
      refine z_icmp_ne (M := M_X1_advance) 135 dX1_advance_135 151 rfl (fun c9 => ?_) (fun c9 => ?_)
      · have w10 : h0 35 1 = x4 := (R 35 1 rfl).symm.trans ex4
        exact z_retV (M := M_X1_advance) 151 dX1_advance_151 rfl ⟨G, R, Tok_of t_37_1 t_37_2 i0 (En_2 i1 (by omega) (fun _ => ne_of ((congrArg fam ((R 36 _ rfl).symm.trans ex7)).trans fx8) (by omega)))⟩
      · refine z_aload_n (M := M_X1_advance) 138 dX1_advance_138 rfl ?_
        refine z_dup (M := M_X1_advance) 139 dX1_advance_139 rfl ?_
        refine z_getIE (M := M_X1_advance) 140 dX1_advance_140 f_X1_19 o_37 (by decide) t_37_2 ?_
        refine z_iconst (M := M_X1_advance) 143 dX1_advance_143 ?_
        refine z_iaddN (M := M_X1_advance) 144 dX1_advance_144 (by omega) (by omega) ?_
        refine z_putIH (M := M_X1_advance) 145 dX1_advance_145 p_X1_19 o_37 rfl (u_37_2 G (by omega) (by omega)) (R.up rfl) (fun h2 E2 G2 R2 => ?_)
        refine z_goto (M := M_X1_advance) 148 dX1_advance_148 101 rfl ?_
        have w11 : h0 35 1 = x4 := (R2 35 1 rfl).symm.trans ((upN E2 (fun q => absurd q.1 (by decide))).trans ex4)
        exact z_mask [true, true] rfl (ih.2 l1 y_37_1 (y_37_2 + 1) h2 G2 R2 (by omega) (by omega) (by omega) (by omega) (by omega) (by omega) ((upN E2 (fun q => absurd q.2 (by decide))).trans t_37_1) (upE E2) i0 (Ep_s i1 (by omega) (by omega) (by omega) ((R 36 _ rfl).symm.trans ex7) (fx8.trans (by omega))) (by omega))
theorem a_X1_advance2 (h0 : m_H) (G0 : GI h0) : ∀ n, q_X1_advance2 h0 n := by
  intro n
  induction n with
  | zero => unfold q_X1_advance2; refine ⟨?_, ?_⟩ <;> (intros; omega)
  | succ n ih => exact ⟨s_X1_advance2_8 h0 G0 n ih, s_X1_advance2_101 h0 G0 n ih⟩
set_option maxHeartbeats 4000000 in
set_option maxRecDepth 100000 in
theorem c_X1_advance2 (h0 : m_H) (G0 : GI h0) : m_CV M_X1_advance [mR 37] h0 (P_X1_advance2 h0) := by
  refine m_CV_of ⟨by decide, rfl, by simp [m_arg, m_isL, M_X1_advance], ⟨rfl, rfl⟩, rfl, rfl⟩ (ls := [some (mR 37), none]) rfl ?_
  have ih := a_X1_advance2 h0 G0 1611
  obtain ⟨x1, ex1⟩ : ∃ y : Int, h0 37 2 = y := ⟨_, rfl⟩
  have bx1 : 0 ≤ x1 ∧ x1 ≤ 400 := ex1 ▸ g_37_2 G0
  refine z_aload_n (M := M_X1_advance) 0 dX1_advance_0 rfl ?_
  refine z_aload_n (M := M_X1_advance) 1 dX1_advance_1 rfl ?_
  refine z_getIE (M := M_X1_advance) 2 dX1_advance_2 f_X1_19 o_37 (by decide) ex1 ?_
  refine z_putIH (M := M_X1_advance) 5 dX1_advance_5 p_X1_43 o_37 rfl (u_37_1 G0 (by omega) (by omega)) ((FR.rf (cs := []) (ss := [(37, 1), (37, 2)]) (h := h0)).up rfl) (fun h1 E1 G1 R1 => ?_)
  obtain ⟨x2, ex2⟩ : ∃ y : Int, h1 35 1 = y := ⟨_, rfl⟩
  have bx2 : 0 ≤ x2 ∧ x2 ≤ 400 := ex2 ▸ g_35_1 G1
  have w3 : h0 35 1 = x2 := (R1 35 1 rfl).symm.trans ex2
  exact z_mask [true, false] rfl (ih.1 x1 x1 h1 G1 R1 (by omega) (by omega) (by omega) (by omega) (upE E1) ((upN E1 (fun q => absurd q.2 (by decide))).trans ex1) (Sp_0 ex1) (by omega))
abbrev P_X1_value2 (h0 : m_H) : Int → m_H → Prop := fun x h' => GI h' ∧ FR [] [] h0 h' ∧ vlQ (h0 36) (h0 35 1) (Qc h0) x
def q_X1_value2 (h0 : m_H) (n : Nat) : Prop := (∀ (l1 l2 : Int) (h : m_H), GI h → FR [] [] h0 h → 0 ≤ l1 → l1 ≤ 1000 → 0 ≤ l2 → l2 ≤ 400 → (l1 = dC (h0 36) (h0 37 1) (l2 - h0 37 1).toNat) → (h0 37 1 < h0 35 1 ∧ fam (h0 36 (h0 37 1).toNat) = 2) → (h0 37 1 ≤ l2 ∧ l2 ≤ h0 37 2) → 2 * (400 - l2) + (1) ≤ (n : Int) → m_Z oF M_X1_value 42 [some (mR 37), some (mI l1), some (mI l2)] [] h (m_QI (P_X1_value2 h0)))
set_option maxHeartbeats 4000000 in
set_option maxRecDepth 100000 in
theorem s_X1_value2_42 (h0 : m_H) (G0 : GI h0) (hE : EnS h0) (n : Nat) (ih : q_X1_value2 h0 n) : ∀ (l1 l2 : Int) (h : m_H), GI h → FR [] [] h0 h → 0 ≤ l1 → l1 ≤ 1000 → 0 ≤ l2 → l2 ≤ 400 → (l1 = dC (h0 36) (h0 37 1) (l2 - h0 37 1).toNat) → (h0 37 1 < h0 35 1 ∧ fam (h0 36 (h0 37 1).toNat) = 2) → (h0 37 1 ≤ l2 ∧ l2 ≤ h0 37 2) → 2 * (400 - l2) + (1) ≤ ((n + 1 : Nat) : Int) → m_Z oF M_X1_value 42 [some (mR 37), some (mI l1), some (mI l2)] [] h (m_QI (P_X1_value2 h0)) := by
  intro l1 l2 h G R v0 v1 v2 v3 i0 i1 i2 hr
  refine z_iload_n (M := M_X1_value) 42 dX1_value_42 rfl ?_
  refine z_aload_n (M := M_X1_value) 43 dX1_value_43 rfl ?_
  refine z_getIG (M := M_X1_value) 44 dX1_value_44 f_X1_19 o_37 (by decide) (g_37_2 G) (fun x1 ex1 ax1 bx1 => ?_)
  refine z_icmp_ge (M := M_X1_value) 47 dX1_value_47 80 rfl (fun c2 => ?_) (fun c2 => ?_)
  · refine z_iload_n (M := M_X1_value) 80 dX1_value_80 rfl ?_
    exact z_retI (M := M_X1_value) 81 dX1_value_81 rfl ⟨G, R, vl_end i0 i1 (by have w_ : h0 37 2 = x1 := (R 37 2 rfl).symm.trans ex1; omega)⟩
  · have w_ : h0 37 2 = x1 := (R 37 2 rfl).symm.trans ex1
    refine z_sipush (M := M_X1_value) 50 dX1_value_50 ?_
    refine z_bipush (M := M_X1_value) 53 dX1_value_53 ?_
    refine z_iload_n (M := M_X1_value) 55 dX1_value_55 rfl ?_
    refine z_imulN (M := M_X1_value) 56 dX1_value_56 (by omega) (by omega) ?_
    refine z_aload_n (M := M_X1_value) 57 dX1_value_57 rfl ?_
    refine z_getR (M := M_X1_value) 58 dX1_value_58 f_X1_9 o_37 rfl (g_37_0 G) ?_
    refine z_getR (M := M_X1_value) 61 dX1_value_61 f_X1_128 o_35 rfl (g_35_0 G) ?_
    refine z_iload_n (M := M_X1_value) 64 dX1_value_64 rfl ?_
    refine z_ialdG (M := M_X1_value) 65 dX1_value_65 o_36 (by omega) (by omega) (dig_h hE (fun _ => R 36 _ rfl) i1 (by omega) i2.1 (by omega)) (fun x3 ex3 ax3 bx3 => ?_)
    refine z_iaddN (M := M_X1_value) 66 dX1_value_66 (by omega) (by omega) ?_
    refine z_bipush (M := M_X1_value) 67 dX1_value_67 ?_
    refine z_isubN (M := M_X1_value) 69 dX1_value_69 (by omega) (by omega) ?_
    refine z_minI (M := M_X1_value) 70 dX1_value_70 ml_X1_143 (rest := []) (Nat.le_of_ble_eq_true rfl) (Nat.le_of_ble_eq_true rfl) ?_
    refine z_topBI (lo := 0) (hi := 1000) ⟨by split <;> omega, by split <;> omega⟩ (fun x4 ex4 ax4 bx4 => ?_)
    refine z_istore_n (M := M_X1_value) 73 dX1_value_73 (ls' := [some (mR 37), some (mI x4), some (mI l2)]) (by decide) rfl ?_
    refine z_iincN (M := M_X1_value) 74 dX1_value_74 (ls' := [some (mR 37), some (mI x4), some (mI (l2 + 1))]) (by decide) rfl (by (unfold m_32; decide)) (by omega) (by omega) rfl ?_
    refine z_goto (M := M_X1_value) 77 dX1_value_77 42 rfl ?_
    exact z_mask [true, true, true] rfl (ih x4 (l2 + 1) h G R (by omega) (by omega) (by omega) (by omega) (dC_st i0 (by have := g_37_1 G0; omega) i2.1 ((R 36 _ rfl).symm.trans ex3) ex4) i1 ⟨by omega, by omega⟩ (by omega))
theorem a_X1_value2 (h0 : m_H) (G0 : GI h0) (hE : EnS h0) : ∀ n, q_X1_value2 h0 n := by
  intro n
  induction n with
  | zero => unfold q_X1_value2; intros; omega
  | succ n ih => exact s_X1_value2_42 h0 G0 hE n ih
set_option maxHeartbeats 4000000 in
set_option maxRecDepth 100000 in
theorem c_X1_value2 (h0 : m_H) (G0 : GI h0) (hE : EnS h0) : m_CI M_X1_value [mR 37] h0 (P_X1_value2 h0) := by
  refine m_CI_of ⟨by decide, rfl, by simp [m_arg, m_isL, M_X1_value], ⟨rfl, rfl⟩, rfl, rfl⟩ (ls := [some (mR 37), none, none]) rfl ?_
  have ih := a_X1_value2 h0 G0 hE 808
  refine z_aload_n (M := M_X1_value) 0 dX1_value_0 rfl ?_
  refine z_getIG (M := M_X1_value) 1 dX1_value_1 f_X1_43 o_37 (by decide) (g_37_1 G0) (fun x1 ex1 ax1 bx1 => ?_)
  refine z_aload_n (M := M_X1_value) 4 dX1_value_4 rfl ?_
  refine z_getR (M := M_X1_value) 5 dX1_value_5 f_X1_9 o_37 rfl (g_37_0 G0) ?_
  refine z_getIG (M := M_X1_value) 8 dX1_value_8 f_X1_46 o_35 (by decide) (g_35_1 G0) (fun x2 ex2 ax2 bx2 => ?_)
  refine z_icmp_ge (M := M_X1_value) 11 dX1_value_11 33 rfl (fun c3 => ?_) (fun c3 => ?_)
  · refine z_iconst (M := M_X1_value) 33 dX1_value_33 ?_
    exact z_retI (M := M_X1_value) 34 dX1_value_34 rfl ⟨G0, (FR.rf (cs := []) (ss := []) (h := h0)), Or.inl ⟨fun q => by have z := q.1; rw [show (Qc h0).1 = h0 37 1 from rfl, ex1, ex2] at z; omega, rfl⟩⟩
  · refine z_aload_n (M := M_X1_value) 14 dX1_value_14 rfl ?_
    refine z_getR (M := M_X1_value) 15 dX1_value_15 f_X1_9 o_37 rfl (g_37_0 G0) ?_
    refine z_getR (M := M_X1_value) 18 dX1_value_18 f_X1_128 o_35 rfl (g_35_0 G0) ?_
    refine z_aload_n (M := M_X1_value) 21 dX1_value_21 rfl ?_
    refine z_getIE (M := M_X1_value) 22 dX1_value_22 f_X1_43 o_37 (by decide) ex1 ?_
    refine z_ialdG (M := M_X1_value) 25 dX1_value_25 o_36 (by omega) (by omega) (g_36 G0 (by omega)) (fun x4 ex4 ax4 bx4 => ?_)
    refine z_sI (M := M_X1_value) 26 dX1_value_26 t_X1_familyOf l_X1_139 (m_rr_of rfl) (rest := []) (c_X1_familyOf2 h0 x4 G0) rfl rfl (Nat.le_of_ble_eq_true rfl) ⟨rfl, rfl⟩ (fun x5 h1 qx5 => ?_)
    obtain ⟨rfl, fx5⟩ := qx5
    have bx5 : 0 ≤ x5 ∧ x5 ≤ 2 := fx5 ▸ fam_r _
    refine z_iconst (M := M_X1_value) 29 dX1_value_29 ?_
    refine z_icmp_eq (M := M_X1_value) 30 dX1_value_30 35 rfl (fun c6 => ?_) (fun c6 => ?_)
    · refine z_iconst (M := M_X1_value) 35 dX1_value_35 ?_
      refine z_istore_n (M := M_X1_value) 36 dX1_value_36 (ls' := [some (mR 37), some (mI 0), none]) (by decide) rfl ?_
      refine z_aload_n (M := M_X1_value) 37 dX1_value_37 rfl ?_
      refine z_getIE (M := M_X1_value) 38 dX1_value_38 f_X1_43 o_37 (by decide) ex1 ?_
      refine z_istore_n (M := M_X1_value) 41 dX1_value_41 (ls' := [some (mR 37), some (mI 0), some (mI x1)]) (by decide) rfl ?_
      have w1_ : h0 37 1 = x1 := ex1
      exact z_mask [true, true, true] rfl (ih 0 x1 h0 G0 (FR.rf (cs := []) (ss := []) (h := h0)) (by omega) (by omega) (by omega) (by omega) (by rw [ex1, Int.sub_self]; rfl) ⟨by rw [ex1, ex2]; omega, by rw [ex1, ex4]; exact fx5.trans (by omega)⟩ ⟨by omega, by have := hE.le; omega⟩ (by omega))
    · refine z_iconst (M := M_X1_value) 33 dX1_value_33 ?_
      exact z_retI (M := M_X1_value) 34 dX1_value_34 rfl ⟨G0, (FR.rf (cs := []) (ss := []) (h := h0)), Or.inl ⟨fun q => by have z := q.2; rw [show (Qc h0).1 = h0 37 1 from rfl, ex1, ex4, fx5] at z; omega, rfl⟩⟩
abbrev P_X1_stands2 (h0 : m_H) (w : Nat) : Int → m_H → Prop := fun x h' => GI h' ∧ FR [] [] h0 h' ∧ 0 ≤ x ∧ x ≤ 1 ∧ sdQ w x h0
def q_X1_stands2 (h0 : m_H) (w : Nat) (n : Nat) : Prop := (∀ (l2 y_37_1 y_37_2 : Int) (h : m_H), GI h → FR [] [] h0 h → 0 ≤ l2 → l2 ≤ 6 → 0 ≤ y_37_1 → y_37_1 ≤ 400 → 0 ≤ y_37_2 → y_37_2 ≤ 400 → (h 37 1 = y_37_1) → (h 37 2 = y_37_2) → (y_37_2 - y_37_1 = slen w) → (∀ i : Nat, (i : Int) < l2 → h0 36 (h0 37 1 + i).toNat = sch w i) → 2 * (6 - l2) + (1) ≤ (n : Int) → m_Z oF M_X1_stands 20 [some (mR 37), some (mO w), some (mI l2)] [] h (m_QI (P_X1_stands2 h0 w)))
set_option maxHeartbeats 4000000 in
set_option maxRecDepth 100000 in
theorem s_X1_stands2_20 (h0 : m_H) (w : Nat) (hw : w < 16) (G0 : GI h0) (n : Nat) (ih : q_X1_stands2 h0 w n) : ∀ (l2 y_37_1 y_37_2 : Int) (h : m_H), GI h → FR [] [] h0 h → 0 ≤ l2 → l2 ≤ 6 → 0 ≤ y_37_1 → y_37_1 ≤ 400 → 0 ≤ y_37_2 → y_37_2 ≤ 400 → (h 37 1 = y_37_1) → (h 37 2 = y_37_2) → (y_37_2 - y_37_1 = slen w) → (∀ i : Nat, (i : Int) < l2 → h0 36 (h0 37 1 + i).toNat = sch w i) → 2 * (6 - l2) + (1) ≤ ((n + 1 : Nat) : Int) → m_Z oF M_X1_stands 20 [some (mR 37), some (mO w), some (mI l2)] [] h (m_QI (P_X1_stands2 h0 w)) := by
  intro l2 y_37_1 y_37_2 h G R v0 v1 v2 v3 v4 v5 t_37_1 t_37_2 i0 i1 hr
  refine z_iload_n (M := M_X1_stands) 20 dX1_stands_20 rfl ?_
  refine z_aload_nO (M := M_X1_stands) 21 dX1_stands_21 rfl ?_
  refine z_vIO (M := M_X1_stands) 22 dX1_stands_22 t_J0_length_8abf5 l_X1_124 (m_rr_of rfl) (rest := [mI l2]) (c_J0_length_8abf5 h w hw) hw rfl rfl rfl (Nat.le_of_ble_eq_true rfl) ⟨rfl, rfl⟩ (fun x1 h1 qx1 => ?_)
  obtain ⟨rfl, ex1⟩ := qx1
  have bx1 := slen_b w
  refine z_icmp_ge (M := M_X1_stands) 25 dX1_stands_25 58 rfl (fun c2 => ?_) (fun c2 => ?_)
  · refine z_iconst (M := M_X1_stands) 58 dX1_stands_58 ?_
    have u1 : h0 37 1 = y_37_1 := (R 37 1 rfl).symm.trans t_37_1
    have u2 : h0 37 2 = y_37_2 := (R 37 2 rfl).symm.trans t_37_2
    exact z_retZ (M := M_X1_stands) 59 dX1_stands_59 rfl (by omega) ⟨G, R, by omega, by omega, sd_1 (by omega) i1 (by omega)⟩
  · refine z_aload_n (M := M_X1_stands) 28 dX1_stands_28 rfl ?_
    refine z_getR (M := M_X1_stands) 29 dX1_stands_29 f_X1_9 o_37 rfl (g_37_0 G) ?_
    refine z_getR (M := M_X1_stands) 32 dX1_stands_32 f_X1_128 o_35 rfl (g_35_0 G) ?_
    refine z_aload_n (M := M_X1_stands) 35 dX1_stands_35 rfl ?_
    refine z_getIE (M := M_X1_stands) 36 dX1_stands_36 f_X1_43 o_37 (by decide) t_37_1 ?_
    refine z_iload_n (M := M_X1_stands) 39 dX1_stands_39 rfl ?_
    refine z_iaddN (M := M_X1_stands) 40 dX1_stands_40 (by omega) (by omega) ?_
    refine z_ialdG (M := M_X1_stands) 41 dX1_stands_41 o_36 (by omega) (by omega) (g_36 G (by omega)) (fun x3 ex3 ax3 bx3 => ?_)
    refine z_aload_nO (M := M_X1_stands) 42 dX1_stands_42 rfl ?_
    refine z_iload_n (M := M_X1_stands) 43 dX1_stands_43 rfl ?_
    refine z_vIO (M := M_X1_stands) 44 dX1_stands_44 t_J0_charAt_5068e l_X1_131 (m_rr_of rfl) (rest := [mI x3]) (c_J0_charAt_5068e h w l2 hw (by omega) (by omega)) hw rfl rfl rfl (Nat.le_of_ble_eq_true rfl) ⟨rfl, rfl⟩ (fun x4 h2 qx4 => ?_)
    obtain ⟨rfl, ex4⟩ := qx4
    have bx4 := (sch_ok (i := w) (a := l2) hw (by omega) (by omega)).1
    refine z_icmp_eq (M := M_X1_stands) 47 dX1_stands_47 52 rfl (fun c5 => ?_) (fun c5 => ?_)
    · refine z_iincN (M := M_X1_stands) 52 dX1_stands_52 (ls' := [some (mR 37), some (mO w), some (mI (l2 + 1))]) (by decide) rfl (by (unfold m_32; decide)) (by omega) (by omega) rfl ?_
      refine z_goto (M := M_X1_stands) 55 dX1_stands_55 20 rfl ?_
      exact z_mask [true, true, true] rfl (ih (l2 + 1) y_37_1 y_37_2 h G R (by omega) (by omega) (by omega) (by omega) (by omega) (by omega) t_37_1 t_37_2 (by omega) (sd_st i1 (by omega) (by rw [(R 37 1 rfl).symm.trans t_37_1, ← R 36 _ rfl, ex3]; omega)) (by omega))
    · refine z_iconst (M := M_X1_stands) 50 dX1_stands_50 ?_
      have u1 : h0 37 1 = y_37_1 := (R 37 1 rfl).symm.trans t_37_1
      have u2 : h0 37 2 = y_37_2 := (R 37 2 rfl).symm.trans t_37_2
      exact z_retZ (M := M_X1_stands) 51 dX1_stands_51 rfl (by omega) ⟨G, R, by omega, by omega, sd_2 (l := l2) (by omega) (by omega) (by rw [u1, ← R 36 _ rfl, ex3]; omega)⟩
theorem a_X1_stands2 (h0 : m_H) (w : Nat) (hw : w < 16) (G0 : GI h0) : ∀ n, q_X1_stands2 h0 w n := by
  intro n
  induction n with
  | zero => unfold q_X1_stands2; intros; omega
  | succ n ih => exact s_X1_stands2_20 h0 w hw G0 n ih
set_option maxHeartbeats 4000000 in
set_option maxRecDepth 100000 in
theorem c_X1_stands2 (h0 : m_H) (w : Nat) (hw : w < 16) (G0 : GI h0) : m_CI M_X1_stands [mR 37, mO w] h0 (P_X1_stands2 h0 w) := by
  refine m_CI_of ⟨by decide, rfl, by simp [m_arg, m_isL, M_X1_stands], ⟨rfl, rfl⟩, rfl, rfl⟩ (ls := [some (mR 37), some (mO w), none]) rfl ?_
  have ih := a_X1_stands2 h0 w hw G0 20
  obtain ⟨x1, ex1⟩ : ∃ y : Int, h0 37 1 = y := ⟨_, rfl⟩
  have bx1 : 0 ≤ x1 ∧ x1 ≤ 400 := ex1 ▸ g_37_1 G0
  obtain ⟨x2, ex2⟩ : ∃ y : Int, h0 37 2 = y := ⟨_, rfl⟩
  have bx2 : 0 ≤ x2 ∧ x2 ≤ 400 := ex2 ▸ g_37_2 G0
  refine z_aload_n (M := M_X1_stands) 0 dX1_stands_0 rfl ?_
  refine z_getIE (M := M_X1_stands) 1 dX1_stands_1 f_X1_19 o_37 (by decide) ex2 ?_
  refine z_aload_n (M := M_X1_stands) 4 dX1_stands_4 rfl ?_
  refine z_getIE (M := M_X1_stands) 5 dX1_stands_5 f_X1_43 o_37 (by decide) ex1 ?_
  refine z_isubN (M := M_X1_stands) 8 dX1_stands_8 (by omega) (by omega) ?_
  refine z_aload_nO (M := M_X1_stands) 9 dX1_stands_9 rfl ?_
  refine z_vIO (M := M_X1_stands) 10 dX1_stands_10 t_J0_length_8abf5 l_X1_124 (m_rr_of rfl) (rest := [mI (x2 - x1)]) (c_J0_length_8abf5 h0 w hw) hw rfl rfl rfl (Nat.le_of_ble_eq_true rfl) ⟨rfl, rfl⟩ (fun x3 h1 qx3 => ?_)
  obtain ⟨rfl, ex3⟩ := qx3
  have bx3 := slen_b w
  refine z_icmp_eq (M := M_X1_stands) 13 dX1_stands_13 18 rfl (fun c4 => ?_) (fun c4 => ?_)
  · refine z_iconst (M := M_X1_stands) 18 dX1_stands_18 ?_
    refine z_istore_n (M := M_X1_stands) 19 dX1_stands_19 (ls' := [some (mR 37), some (mO w), some (mI 0)]) (by decide) rfl ?_
    exact z_mask [true, true, true] rfl (ih 0 x1 x2 h0 G0 (FR.rf (cs := []) (ss := []) (h := h0)) (by omega) (by omega) (by omega) (by omega) (by omega) (by omega) ex1 ex2 (by omega) (fun i hi => by omega) (by omega))
  · refine z_iconst (M := M_X1_stands) 16 dX1_stands_16 ?_
    exact z_retZ (M := M_X1_stands) 17 dX1_stands_17 rfl (by omega) ⟨G0, (FR.rf (cs := []) (ss := []) (h := h0)), by omega, by omega, sd_0 (by rw [ex2, ex1]; omega)⟩
abbrev P_X1_takeNumber2 (h0 : m_H) (a1 a2 : Int) : Int → m_H → Prop := fun x h' => GI h' ∧ FR [] [(37, 1), (37, 2)] h0 h' ∧ -1 ≤ x ∧ x ≤ a2 ∧ (x = -1 ∨ a1 ≤ x) ∧ EnS h' ∧ tnQ a1 a2 x h0 h'
set_option maxHeartbeats 4000000 in
set_option maxRecDepth 100000 in
theorem c_X1_takeNumber2 (h0 : m_H) (a1 a2 : Int) (G0 : GI h0) (hE : EnS h0) (pa1 : 0 ≤ a1 ∧ a1 ≤ 31) (pa2 : 0 ≤ a2 ∧ a2 ≤ 99) : m_CI M_X1_takeNumber [mR 37, mI a1, mI a2] h0 (P_X1_takeNumber2 h0 a1 a2) := by
  refine m_CI_of ⟨by decide, rfl, by simp [m_arg, m_isL, M_X1_takeNumber], ⟨rfl, rfl⟩, rfl, rfl⟩ (ls := [some (mR 37), some (mI a1), some (mI a2), none]) rfl ?_
  refine z_aload_n (M := M_X1_takeNumber) 0 dX1_takeNumber_0 rfl ?_
  refine z_vI (M := M_X1_takeNumber) 1 dX1_takeNumber_1 t_X1_value l_X1_72 (m_rr_of rfl) (rest := []) (c_X1_value2 h0 G0 hE) o_37 rfl rfl rfl (Nat.le_of_ble_eq_true rfl) ⟨rfl, rfl⟩ (fun x1 h1 qx1 => ?_)
  obtain ⟨G1, S1, V1⟩ := qx1
  have R1 := (FR.rf (cs := []) (ss := [(37, 1), (37, 2)]) (h := h0)).call S1 (by decide +kernel)
  refine z_istore_n (M := M_X1_takeNumber) 4 dX1_takeNumber_4 (ls' := [some (mR 37), some (mI a1), some (mI a2), some (mI x1)]) (by decide) rfl ?_
  refine z_iload_n (M := M_X1_takeNumber) 5 dX1_takeNumber_5 rfl ?_
  refine z_iload_n (M := M_X1_takeNumber) 6 dX1_takeNumber_6 rfl ?_
  refine z_iload_n (M := M_X1_takeNumber) 7 dX1_takeNumber_7 rfl ?_
  refine z_nI (M := M_X1_takeNumber) 8 dX1_takeNumber_8 t_X11_within l_X1_135 (m_rr_of rfl) (rest := []) (c_X11_within h1 x1 a1 a2 G1) rfl rfl (Nat.le_of_ble_eq_true rfl) ⟨rfl, rfl⟩ (fun x2 h2 qx2 => ?_)
  obtain ⟨rfl, ⟨rfl, cx2⟩ | ⟨rfl, cx2⟩⟩ := qx2
  · refine z_if_ne_T (M := M_X1_takeNumber) 11 dX1_takeNumber_11 16 rfl (by omega) ?_
    refine z_aload_n (M := M_X1_takeNumber) 16 dX1_takeNumber_16 rfl ?_
    refine z_vV (M := M_X1_takeNumber) 17 dX1_takeNumber_17 t_X1_advance l_X1_22 (m_rr_of rfl) (rest := []) (c_X1_advance2 h1 G1) o_37 rfl rfl rfl (Nat.le_of_ble_eq_true rfl) ⟨rfl, rfl⟩ (fun h3 qx3 => ?_)
    obtain ⟨G3, S3, T3⟩ := qx3
    have tn := tn_ok (lo := a1) (hi := a2) (g_37_2 G0).1 V1 S1 S3 T3 (by omega) cx2
    have R3 := R1.call S3 (by decide +kernel)
    refine z_iload_n (M := M_X1_takeNumber) 20 dX1_takeNumber_20 rfl ?_
    exact z_retI (M := M_X1_takeNumber) 21 dX1_takeNumber_21 rfl ⟨G3, R3, by omega, by omega, by omega, tn.1, tn.2⟩
  · refine z_if_ne_F (M := M_X1_takeNumber) 11 dX1_takeNumber_11 16 rfl (by omega) ?_
    refine z_iconst (M := M_X1_takeNumber) 14 dX1_takeNumber_14 ?_
    exact z_retI (M := M_X1_takeNumber) 15 dX1_takeNumber_15 rfl ⟨G1, R1, by omega, by omega, by omega, (tn_no hE V1 S1 (by omega) cx2).1, (tn_no hE V1 S1 (by omega) cx2).2⟩
abbrev P_X1_take2 (h0 : m_H) (w : Nat) : Int → m_H → Prop := fun x h' => GI h' ∧ FR [] [(37, 1), (37, 2)] h0 h' ∧ EnS h' ∧ tkQ w x h0 h'
set_option maxHeartbeats 4000000 in
set_option maxRecDepth 100000 in
theorem c_X1_take2 (h0 : m_H) (w : Nat) (hw : w < 16) (G0 : GI h0) (hE : EnS h0) : m_CI M_X1_take [mR 37, mO w] h0 (P_X1_take2 h0 w) := by
  refine m_CI_of ⟨by decide, rfl, by simp [m_arg, m_isL, M_X1_take], ⟨rfl, rfl⟩, rfl, rfl⟩ (ls := [some (mR 37), some (mO w)]) rfl ?_
  refine z_aload_n (M := M_X1_take) 0 dX1_take_0 rfl ?_
  refine z_aload_nO (M := M_X1_take) 1 dX1_take_1 rfl ?_
  refine z_vI (M := M_X1_take) 2 dX1_take_2 t_X1_stands l_X1_121 (m_rr_of rfl) (rest := []) (c_X1_stands2 h0 w hw G0) o_37 rfl rfl rfl (Nat.le_of_ble_eq_true rfl) ⟨rfl, rfl⟩ (fun x1 h1 qx1 => ?_)
  obtain ⟨G1, S1, ax1, bx1, D1⟩ := qx1
  have R1 := (FR.rf (cs := []) (ss := [(37, 1), (37, 2)]) (h := h0)).call S1 (by decide +kernel)
  refine z_if_ne (M := M_X1_take) 5 dX1_take_5 10 rfl (fun c2 => ?_) (fun c2 => ?_)
  · refine z_aload_n (M := M_X1_take) 10 dX1_take_10 rfl ?_
    refine z_vV (M := M_X1_take) 11 dX1_take_11 t_X1_advance l_X1_22 (m_rr_of rfl) (rest := []) (c_X1_advance2 h1 G1) o_37 rfl rfl rfl (Nat.le_of_ble_eq_true rfl) ⟨rfl, rfl⟩ (fun h2 qx3 => ?_)
    obtain ⟨G2, S2, T2⟩ := qx3
    have tk := tk_ok (g_37_2 G0).1 (D1.resolve_right (fun z => by omega)).2 S1 S2 T2
    have R2 := R1.call S2 (by decide +kernel)
    refine z_iconst (M := M_X1_take) 14 dX1_take_14 ?_
    exact z_retZ (M := M_X1_take) 15 dX1_take_15 rfl (by omega) ⟨G2, R2, tk.1, tk.2⟩
  · refine z_iconst (M := M_X1_take) 8 dX1_take_8 ?_
    exact z_retZ (M := M_X1_take) 9 dX1_take_9 rfl (by omega) ⟨G1, R1, (tk_no hE (D1.resolve_left (fun z => by omega)).2 S1).1, (tk_no hE (D1.resolve_left (fun z => by omega)).2 S1).2⟩
/-! bits, and how many -/
def bt (c : Int) (e : Nat) : Bool := (Int32.ofInt c).toBitVec.getLsbD e
theorem sh_am : ∀ e : Fin 32, ((Int32.ofInt (e.1 : Int) &&& 31).toBitVec.smod 32) = BitVec.ofNat 32 e.1 := by decide +kernel
theorem bit_1 (x : BitVec 32) : (x &&& 1#32 = 1#32) ↔ x.getLsbD 0 = true := by
  constructor
  · intro h
    have := congrArg (fun y => BitVec.getLsbD y 0) h
    simpa using this
  · intro h
    ext i hi
    by_cases q : i = 0
    · subst q; simp [← BitVec.getLsbD_eq_getElem, h]
    · simp [q]
theorem hasBit_iff {c : Int} {e : Nat} (he : e < 32) : m_and (m_shr c e) 1 = 1 ↔ bt c e = true := by
  unfold m_and m_shr bt
  rw [Int32.ofInt_toInt]
  have k : ∀ x : Int32, x.toInt = 1 ↔ x.toBitVec = 1#32 := by
    intro x
    constructor
    · intro h
      have : x = 1 := Int32.toInt_inj.mp h
      rw [this]; rfl
    · intro h
      have : x = 1 := Int32.toBitVec_inj.mp h
      rw [this]; rfl
  rw [k]
  rw [Int32.toBitVec_and, Int32.toBitVec_shiftRight, sh_am ⟨e, he⟩]
  show (_ &&& 1#32) = 1#32 ↔ _
  rw [bit_1]
  rw [BitVec.sshiftRight_eq', BitVec.getLsbD_sshiftRight]
  have e1 : (BitVec.ofNat 32 e).toNat = e := by simp [Nat.mod_eq_of_lt (show e < 4294967296 by omega)]
  rw [e1]
  have e2 : e + 0 < 32 := by omega
  simp [he]
theorem one_sh {e j : Nat} (he : e < 32) (hj : j < 32) : BitVec.getLsbD ((1#32 : BitVec 32) <<< BitVec.ofNat 32 e) j = decide (j = e) := by
  have e1 : (BitVec.ofNat 32 e).toNat = e := by simp [Nat.mod_eq_of_lt (show e < 4294967296 by omega)]
  rw [BitVec.shiftLeft_eq', e1, BitVec.getLsbD_shiftLeft]
  by_cases q : j < e
  · simp [q, hj]; omega
  · by_cases q2 : j = e
    · subst q2; simp [hj]
    · have : j - e ≠ 0 := by omega
      simp [hj, q, q2]; omega
theorem bt_or {c : Int} {e j : Nat} (he : e < 32) (hj : j < 32) : bt (m_or c (m_shl 1 e)) j = (bt c j || decide (j = e)) := by
  unfold bt m_or m_shl
  rw [Int32.ofInt_toInt, Int32.ofInt_toInt, Int32.toBitVec_or, Int32.toBitVec_shiftLeft, sh_am ⟨e, he⟩, BitVec.getLsbD_or]
  congr 1
  exact one_sh he hj
theorem ones_b : ∀ j : Fin 32, (Int32.ofInt (-1)).toBitVec.getLsbD j.1 = true := by decide
theorem bt_an {c : Int} {e j : Nat} (he : e < 32) (hj : j < 32) : bt (m_and c (m_xor (m_shl 1 e) (-1))) j = (bt c j && !decide (j = e)) := by
  unfold bt m_and m_xor m_shl
  rw [Int32.ofInt_toInt, Int32.ofInt_toInt, Int32.ofInt_toInt, Int32.toBitVec_and, Int32.toBitVec_xor, Int32.toBitVec_shiftLeft, sh_am ⟨e, he⟩, BitVec.getLsbD_and, BitVec.getLsbD_xor, ones_b ⟨j, hj⟩]
  congr 1
  rw [Bool.xor_true]
  exact congrArg (fun x => !x) (one_sh he hj)
theorem nb {a : Nat} : (Int32.ofInt (a : Int)).toBitVec = BitVec.ofNat 32 a := by
  show BitVec.ofInt 32 (a : Int) = _
  rw [BitVec.ofInt_natCast]
theorem nbi {v : BitVec 32} {a : Nat} (h : v.toNat = a) (ha : a < 2147483648) : v.toInt = (a : Int) := by
  rw [BitVec.toInt_eq_toNat_of_lt (by omega), h]
theorem m_and_n {a b : Nat} (ha : a < 2147483648) (hb : b < 2147483648) : m_and (a : Int) (b : Int) = ((a &&& b : Nat) : Int) := by
  unfold m_and
  show ((Int32.ofInt (a : Int) &&& Int32.ofInt (b : Int)).toBitVec).toInt = _
  rw [Int32.toBitVec_and, nb, nb]
  refine nbi ?_ (Nat.lt_of_le_of_lt Nat.and_le_left ha)
  rw [BitVec.toNat_and, BitVec.toNat_ofNat, BitVec.toNat_ofNat, Nat.mod_eq_of_lt (show a < 2 ^ 32 by omega), Nat.mod_eq_of_lt (show b < 2 ^ 32 by omega)]
theorem us_am : ∀ k : Fin 32, ((Int32.ofInt (k.1 : Int)).toUInt32 &&& Int32.toUInt32 31).toBitVec = BitVec.ofNat 32 k.1 := by decide +kernel
theorem us_mod : ∀ k : Fin 32, (BitVec.ofNat 32 k.1 % 32#32) = BitVec.ofNat 32 k.1 := by decide +kernel
theorem m_ushr_n {a k : Nat} (ha : a < 2147483648) (hk : k < 32) : m_ushr (a : Int) (k : Int) = ((a >>> k : Nat) : Int) := by
  unfold m_ushr
  show (((Int32.ofInt (a : Int)).toUInt32 >>> ((Int32.ofInt (k : Int)).toUInt32 &&& Int32.toUInt32 31)).toBitVec).toInt = _
  have hs : a >>> k ≤ a := by rw [Nat.shiftRight_eq_div_pow]; exact Nat.div_le_self _ _
  refine nbi ?_ (Nat.lt_of_le_of_lt hs ha)
  rw [UInt32.toBitVec_shiftRight, us_am ⟨k, hk⟩]
  show ((Int32.ofInt (a : Int)).toBitVec >>> (BitVec.ofNat 32 k % 32#32)).toNat = _
  rw [us_mod ⟨k, hk⟩, nb, BitVec.ushiftRight_eq', BitVec.toNat_ushiftRight, BitVec.toNat_ofNat, BitVec.toNat_ofNat, Nat.mod_eq_of_lt (show a < 2 ^ 32 by omega), Nat.mod_eq_of_lt (show k < 2 ^ 32 by omega)]
def bcN (x : Nat) : Nat :=
  let a := x - ((x >>> 1) &&& 1431655765)
  let b := (a &&& 858993459) + ((a >>> 2) &&& 858993459)
  let c := (b + (b >>> 4)) &&& 252645135
  let d := c + (c >>> 8)
  let e := d + (d >>> 16)
  e &&& 63
def T8 (l : Nat) : Nat := (l % 2) + (l / 2 % 2) + (l / 4 % 2) + (l / 8 % 2) + (l / 16 % 2) + (l / 32 % 2) + (l / 64 % 2) + (l / 128 % 2)
def bAll (n : Nat) (f : Nat → Bool) : Bool := n.rec true (fun k r => f k && r)
theorem bc_all : bAll 256 (fun h => bAll 256 (fun l => Nat.beq (bcN (256 * h + l)) (T8 h + T8 l))) = true := by decide +kernel
theorem T8_all : bAll 256 (fun l => bAll 8 (fun p => l / 2 ^ p % 2 == 1 || T8 (l + 2 ^ p) == T8 l + 1)) = true := by decide +kernel
theorem bAll_s {f : Nat → Bool} : ∀ {n : Nat}, bAll n f = true → ∀ k, k < n → f k = true
  | 0, _, k, hk => absurd hk (Nat.not_lt_zero _)
  | n + 1, h, k, hk => by
    have h' : (f n && bAll n f) = true := h
    rw [Bool.and_eq_true] at h'
    by_cases q : k = n
    · rw [q]; exact h'.1
    · exact bAll_s h'.2 k (by omega)
theorem bc_split {h l : Nat} (hh : h < 256) (hl : l < 256) : bcN (256 * h + l) = T8 h + T8 l := Nat.eq_of_beq_eq_true (bAll_s (bAll_s bc_all h hh) l hl)
theorem T8_add {l p : Nat} (hl : l < 256) (hp : p < 8) (hb : l / 2 ^ p % 2 = 0) : T8 (l + 2 ^ p) = T8 l + 1 := by
  have z := bAll_s (bAll_s T8_all l hl) p hp
  rw [Bool.or_eq_true, beq_iff_eq, beq_iff_eq] at z
  omega
theorem bc_add {x p : Nat} (hx : x < 65536) (hp : p < 16) (hb : x / 2 ^ p % 2 = 0) : bcN (x + 2 ^ p) = bcN x + 1 := by
  have e0 : x = 256 * (x / 256) + x % 256 := by omega
  have l1 : x % 256 < 256 := by omega
  have l2 : x / 256 < 256 := by omega
  have s0 : bcN x = T8 (x / 256) + T8 (x % 256) := by rw [e0]; rw [bc_split (by omega) (by omega)]; congr 2 <;> omega
  have q : p = 0 ∨ p = 1 ∨ p = 2 ∨ p = 3 ∨ p = 4 ∨ p = 5 ∨ p = 6 ∨ p = 7 ∨ p = 8 ∨ p = 9 ∨ p = 10 ∨ p = 11 ∨ p = 12 ∨ p = 13 ∨ p = 14 ∨ p = 15 := by omega
  rcases q with rfl | rfl | rfl | rfl | rfl | rfl | rfl | rfl | rfl | rfl | rfl | rfl | rfl | rfl | rfl | rfl
  · have t := T8_add (l := x % 256) (p := 0) l1 (by omega) (by omega)
    have e1 : x + 2 ^ 0 = 256 * (x / 256) + (x % 256 + 2 ^ 0) := by omega
    rw [e1, bc_split l2 (by omega), t, s0]; omega
  · have t := T8_add (l := x % 256) (p := 1) l1 (by omega) (by omega)
    have e1 : x + 2 ^ 1 = 256 * (x / 256) + (x % 256 + 2 ^ 1) := by omega
    rw [e1, bc_split l2 (by omega), t, s0]; omega
  · have t := T8_add (l := x % 256) (p := 2) l1 (by omega) (by omega)
    have e1 : x + 2 ^ 2 = 256 * (x / 256) + (x % 256 + 2 ^ 2) := by omega
    rw [e1, bc_split l2 (by omega), t, s0]; omega
  · have t := T8_add (l := x % 256) (p := 3) l1 (by omega) (by omega)
    have e1 : x + 2 ^ 3 = 256 * (x / 256) + (x % 256 + 2 ^ 3) := by omega
    rw [e1, bc_split l2 (by omega), t, s0]; omega
  · have t := T8_add (l := x % 256) (p := 4) l1 (by omega) (by omega)
    have e1 : x + 2 ^ 4 = 256 * (x / 256) + (x % 256 + 2 ^ 4) := by omega
    rw [e1, bc_split l2 (by omega), t, s0]; omega
  · have t := T8_add (l := x % 256) (p := 5) l1 (by omega) (by omega)
    have e1 : x + 2 ^ 5 = 256 * (x / 256) + (x % 256 + 2 ^ 5) := by omega
    rw [e1, bc_split l2 (by omega), t, s0]; omega
  · have t := T8_add (l := x % 256) (p := 6) l1 (by omega) (by omega)
    have e1 : x + 2 ^ 6 = 256 * (x / 256) + (x % 256 + 2 ^ 6) := by omega
    rw [e1, bc_split l2 (by omega), t, s0]; omega
  · have t := T8_add (l := x % 256) (p := 7) l1 (by omega) (by omega)
    have e1 : x + 2 ^ 7 = 256 * (x / 256) + (x % 256 + 2 ^ 7) := by omega
    rw [e1, bc_split l2 (by omega), t, s0]; omega
  · have t := T8_add (l := x / 256) (p := 0) l2 (by omega) (by omega)
    have e1 : x + 2 ^ 8 = 256 * (x / 256 + 2 ^ 0) + x % 256 := by omega
    rw [e1, bc_split (by omega) l1, t, s0]; omega
  · have t := T8_add (l := x / 256) (p := 1) l2 (by omega) (by omega)
    have e1 : x + 2 ^ 9 = 256 * (x / 256 + 2 ^ 1) + x % 256 := by omega
    rw [e1, bc_split (by omega) l1, t, s0]; omega
  · have t := T8_add (l := x / 256) (p := 2) l2 (by omega) (by omega)
    have e1 : x + 2 ^ 10 = 256 * (x / 256 + 2 ^ 2) + x % 256 := by omega
    rw [e1, bc_split (by omega) l1, t, s0]; omega
  · have t := T8_add (l := x / 256) (p := 3) l2 (by omega) (by omega)
    have e1 : x + 2 ^ 11 = 256 * (x / 256 + 2 ^ 3) + x % 256 := by omega
    rw [e1, bc_split (by omega) l1, t, s0]; omega
  · have t := T8_add (l := x / 256) (p := 4) l2 (by omega) (by omega)
    have e1 : x + 2 ^ 12 = 256 * (x / 256 + 2 ^ 4) + x % 256 := by omega
    rw [e1, bc_split (by omega) l1, t, s0]; omega
  · have t := T8_add (l := x / 256) (p := 5) l2 (by omega) (by omega)
    have e1 : x + 2 ^ 13 = 256 * (x / 256 + 2 ^ 5) + x % 256 := by omega
    rw [e1, bc_split (by omega) l1, t, s0]; omega
  · have t := T8_add (l := x / 256) (p := 6) l2 (by omega) (by omega)
    have e1 : x + 2 ^ 14 = 256 * (x / 256 + 2 ^ 6) + x % 256 := by omega
    rw [e1, bc_split (by omega) l1, t, s0]; omega
  · have t := T8_add (l := x / 256) (p := 7) l2 (by omega) (by omega)
    have e1 : x + 2 ^ 15 = 256 * (x / 256 + 2 ^ 7) + x % 256 := by omega
    rw [e1, bc_split (by omega) l1, t, s0]; omega
theorem bc_run {n : Nat} (hn : n < 65536) {x1 x2 x3 x4 x5 x6 x7 x8 x9 x10 x11 x12 x13 x14 x15 : Int} (e1 : m_ushr (n : Int) 1 = x1) (e2 : m_and x1 1431655765 = x2) (e3 : m_w ((n : Int) - x2) = x3) (e4 : m_and x3 858993459 = x4) (e5 : m_ushr x3 2 = x5) (e6 : m_and x5 858993459 = x6) (e7 : m_w (x4 + x6) = x7) (e8 : m_ushr x7 4 = x8) (e9 : m_w (x7 + x8) = x9) (e10 : m_and x9 252645135 = x10) (e11 : m_ushr x10 8 = x11) (e12 : m_w (x10 + x11) = x12) (e13 : m_ushr x12 16 = x13) (e14 : m_w (x12 + x13) = x14) (e15 : m_and x14 63 = x15) : x15 = (bcN n : Int) := by
  have sh : ∀ a k : Nat, a >>> k ≤ a := fun a k => by rw [Nat.shiftRight_eq_div_pow]; exact Nat.div_le_self _ _
  have f1 : x1 = ((n >>> 1 : Nat) : Int) := e1.symm.trans (m_ushr_n (k := 1) (by omega) (by decide))
  have b1 := sh n 1
  have f2 : x2 = (((n >>> 1) &&& 1431655765 : Nat) : Int) := by rw [← e2, f1]; exact m_and_n (b := 1431655765) (by omega) (by decide)
  have b2 : (n >>> 1) &&& 1431655765 ≤ n >>> 1 := Nat.and_le_left
  generalize hA : n - ((n >>> 1) &&& 1431655765) = A
  have f3 : x3 = (A : Int) := by rw [← e3, m_w_id (by omega) (by omega)]; omega
  have f4 : x4 = ((A &&& 858993459 : Nat) : Int) := by rw [← e4, f3]; exact m_and_n (b := 858993459) (by omega) (by decide)
  have f5 : x5 = ((A >>> 2 : Nat) : Int) := by rw [← e5, f3]; exact m_ushr_n (k := 2) (by omega) (by decide)
  have b5 := sh A 2
  have f6 : x6 = (((A >>> 2) &&& 858993459 : Nat) : Int) := by rw [← e6, f5]; exact m_and_n (b := 858993459) (by omega) (by decide)
  have b4 : A &&& 858993459 ≤ A := Nat.and_le_left
  have b6 : (A >>> 2) &&& 858993459 ≤ A >>> 2 := Nat.and_le_left
  generalize hB : (A &&& 858993459) + ((A >>> 2) &&& 858993459) = B
  have f7 : x7 = (B : Int) := by rw [← e7, m_w_id (by omega) (by omega)]; omega
  have f8 : x8 = ((B >>> 4 : Nat) : Int) := by rw [← e8, f7]; exact m_ushr_n (k := 4) (by omega) (by decide)
  have b8 := sh B 4
  have f9 : x9 = ((B + (B >>> 4) : Nat) : Int) := by rw [← e9, m_w_id (by omega) (by omega)]; omega
  generalize hC : (B + (B >>> 4)) &&& 252645135 = C
  have b10 : (B + (B >>> 4)) &&& 252645135 ≤ B + (B >>> 4) := Nat.and_le_left
  have f10 : x10 = (C : Int) := by rw [← e10, f9, ← hC]; exact m_and_n (b := 252645135) (by omega) (by decide)
  have f11 : x11 = ((C >>> 8 : Nat) : Int) := by rw [← e11, f10]; exact m_ushr_n (k := 8) (by omega) (by decide)
  have b11 := sh C 8
  generalize hD : C + (C >>> 8) = D
  have f12 : x12 = (D : Int) := by rw [← e12, m_w_id (by omega) (by omega)]; omega
  have f13 : x13 = ((D >>> 16 : Nat) : Int) := by rw [← e13, f12]; exact m_ushr_n (k := 16) (by omega) (by decide)
  have b13 := sh D 16
  have f14 : x14 = ((D + (D >>> 16) : Nat) : Int) := by rw [← e14, m_w_id (by omega) (by omega)]; omega
  have f15 : x15 = (((D + (D >>> 16)) &&& 63 : Nat) : Int) := by rw [← e15, f14]; exact m_and_n (b := 63) (by omega) (by decide)
  rw [f15]
  unfold bcN
  simp only [hA, hB, hC, hD]
/-- a bit that is not set is added -/
theorem bt_div {x : Nat} (hx : x < 65536) {p : Nat} : bt (x : Int) p = decide (x / 2 ^ p % 2 = 1) := by
  unfold bt
  rw [nb]
  show (BitVec.ofNat 32 x).toNat.testBit p = _
  rw [BitVec.toNat_ofNat, Nat.mod_eq_of_lt (show x < 2 ^ 32 by omega), Nat.testBit_eq_decide_div_mod_eq]
theorem or_add {x p : Nat} (hx : x < 65536) (hp : p < 16) (hb : bt (x : Int) p = false) : m_or (x : Int) (m_shl 1 (p : Int)) = ((x + 2 ^ p : Nat) : Int) := by
  unfold m_or m_shl
  rw [Int32.ofInt_toInt]
  show ((Int32.ofInt (x : Int) ||| _).toBitVec).toInt = _
  rw [Int32.toBitVec_or, Int32.toBitVec_shiftLeft, sh_am ⟨p, by omega⟩, nb]
  have h1 : BitVec.ofNat 32 x &&& ((1#32 : BitVec 32) <<< BitVec.ofNat 32 p) = 0#32 := by
    apply BitVec.eq_of_getLsbD_eq
    intro i hi
    rw [BitVec.getLsbD_and, one_sh (by omega) hi, BitVec.getLsbD_zero]
    by_cases q : i = p
    · subst q
      have z : (BitVec.ofNat 32 x).getLsbD i = false := by unfold bt at hb; rw [nb] at hb; exact hb
      rw [z]; rfl
    · rw [decide_eq_false q, Bool.and_false]
  show (BitVec.ofNat 32 x ||| ((1#32 : BitVec 32) <<< BitVec.ofNat 32 p)).toInt = _
  rw [← BitVec.add_eq_or_of_and_eq_zero _ _ h1]
  have e1 : (BitVec.ofNat 32 p).toNat = p := by rw [BitVec.toNat_ofNat]; omega
  have h2 : ((1#32 : BitVec 32) <<< BitVec.ofNat 32 p).toNat = 2 ^ p := by
    rw [BitVec.shiftLeft_eq', e1, BitVec.toNat_shiftLeft, Nat.shiftLeft_eq]
    have : 2 ^ p < 2 ^ 32 := Nat.pow_lt_pow_right (by decide) (by omega)
    show 1 * 2 ^ p % 2 ^ 32 = _
    rw [Nat.one_mul, Nat.mod_eq_of_lt this]
  have h3 : 2 ^ p < 65536 := Nat.lt_of_lt_of_le (Nat.pow_lt_pow_right (by decide) hp) (by decide)
  refine nbi ?_ (by omega)
  rw [BitVec.toNat_add, h2, BitVec.toNat_ofNat]
  omega
/-! rows, and a ledger that is a row -/
def rE (r : Nat → Int) (t w n k : Int) : Nat → Int := fun j => if j = 0 then r 0 + 1 else if j = 5 * (r 0).toNat + 80 then t else if j = 5 * (r 0).toNat + 81 then w else if j = 5 * (r 0).toNat + 82 then n else if j = 5 * (r 0).toNat + 83 then k else if j = 5 * (r 0).toNat + 84 then 1 else r j
def rS (r : Nat → Int) (a b : Int) : Nat → Int := fun j => if j = 1 then r 1 + 1 else if j = 2 * (r 1).toNat + 48 then a else if j = 2 * (r 1).toNat + 49 then b else r j
def rW (r : Nat → Int) (f l k : Int) : Nat → Int := fun j => if 10 + f ≤ (j : Int) ∧ (j : Int) ≤ 10 + l then k else r j
def rU (r : Nat → Int) (i : Nat) (v : Int) : Nat → Int := fun j => if j = i then v else r j
def iS (r : Nat → Int) (a b : Int) : Prop := ∃ k : Nat, (k : Int) < r 1 ∧ r (2 * k + 48) = a ∧ r (2 * k + 49) = b
def CB (c : Int) (r : Nat → Int) : Prop := ∀ e : Nat, e < 32 → (bt c e = true ↔ ((e : Int) < r 0 ∧ r (5 * e + 84) = 1))
def SB (s : Int) (r : Nat → Int) : Prop := 0 ≤ s ∧ s < 65536 ∧ ((bcN s.toNat : Nat) : Int) = r 1 ∧ ∀ p : Nat, p < 16 → (bt s p = true ↔ iS r ((p / 4 : Nat) : Int) ((p % 4 : Nat) : Int))
/-- a row as it can be -/
def RB (r : Nat → Int) : Prop := 0 ≤ r 0 ∧ r 0 ≤ 24 ∧ 0 ≤ r 1 ∧ r 1 ≤ 6
def LE (L : Nat) (h : m_H) (r : Nat → Int) : Prop := ∀ e : Nat, (e : Int) < r 0 → h (L + 3) e = r (5 * e + 80) ∧ h (L + 4) e = r (5 * e + 81) ∧ h (L + 5) e = r (5 * e + 82) ∧ h (L + 6) e = r (5 * e + 83)
def LR (L : Nat) (h : m_H) (r : Nat → Int) : Prop := RB r ∧ (∀ j, j < 32 → h (L + 1) j = r (10 + j)) ∧ (∀ j, j < 6 → h (L + 2) j = r (42 + j)) ∧ (∀ j, j < 16 → h (L + 7) j = r (60 + j)) ∧ h L 7 = r 0 ∧ LE L h r ∧ CB (h L 8) r ∧ SB (h L 9) r
theorem iS_c {r r' : Nat → Int} {a b : Int} (e : ∀ j, j < 200 → r' j = r j) (h1 : r 1 ≤ 6) : iS r' a b ↔ iS r a b := by
  unfold iS
  rw [e 1 (by decide)]
  constructor
  · rintro ⟨k, h, u, v⟩
    rw [e _ (by omega)] at u v
    exact ⟨k, h, u, v⟩
  · rintro ⟨k, h, u, v⟩
    refine ⟨k, h, ?_, ?_⟩
    · rw [e _ (by omega)]; exact u
    · rw [e _ (by omega)]; exact v
theorem LR.same {L : Nat} {h h' : m_H} {r r' : Nat → Int} (R : LR L h r) (e : ∀ i, i < 8 → ∀ j, h' (L + i) j = h (L + i) j) (e2 : ∀ j, j < 200 → r' j = r j) : LR L h' r' := by
  obtain ⟨b, k, c, w, n, q, cb, sb⟩ := R
  have e0 : r' 0 = r 0 := e2 0 (by decide)
  have e1 : r' 1 = r 1 := e2 1 (by decide)
  obtain ⟨b1, b2, b3, b4⟩ := b
  refine ⟨⟨by omega, by omega, by omega, by omega⟩, fun j hj => ?_, fun j hj => ?_, fun j hj => ?_, ?_, fun x hx => ?_, fun x hx => ?_, ?_⟩
  · rw [e 1 (by decide), e2 _ (by omega)]; exact k j hj
  · rw [e 2 (by decide), e2 _ (by omega)]; exact c j hj
  · rw [e 7 (by decide), e2 _ (by omega)]; exact w j hj
  · rw [e0]; exact (e 0 (by decide) 7).trans n
  · rw [e0] at hx
    rw [e 3 (by decide), e 4 (by decide), e 5 (by decide), e 6 (by decide), e2 _ (by omega), e2 _ (by omega), e2 _ (by omega), e2 _ (by omega)]
    exact q x hx
  · have z : h' L 8 = h L 8 := e 0 (by decide) 8
    rw [z, e0, cb x hx]
    constructor
    · rintro ⟨u, v⟩; exact ⟨u, by rw [e2 _ (by omega)]; exact v⟩
    · rintro ⟨u, v⟩; exact ⟨u, by rw [e2 _ (by omega)] at v; exact v⟩
  · have z : h' L 9 = h L 9 := e 0 (by decide) 9
    obtain ⟨s1, s2, s3, s4⟩ := sb
    rw [z]
    exact ⟨s1, s2, by rw [e1]; exact s3, fun p hp => (s4 p hp).trans (iS_c e2 b4).symm⟩
theorem LR.copy {L K : Nat} {h h' : m_H} {r : Nat → Int} (R : LR K h r) (C : LC L K h h') : LR L h' r := by
  obtain ⟨b, k, c, w, n, q, cb, sb⟩ := R
  obtain ⟨c1, c2, c3, c4, c5, c6, c7, c8, c9, c10⟩ := C
  obtain ⟨b1, b2, b3, b4⟩ := b
  refine ⟨⟨b1, b2, b3, b4⟩, fun j hj => (c1 j hj).trans (k j hj), fun j hj => (c2 j hj).trans (c j hj), fun j hj => (c7 j hj).trans (w j hj), c8.trans n, fun x hx => ?_, by rw [c9]; exact cb, by rw [c10]; exact sb⟩
  have z := q x hx
  exact ⟨(c3 x (by omega)).trans z.1, (c4 x (by omega)).trans z.2.1, (c5 x (by omega)).trans z.2.2.1, (c6 x (by omega)).trans z.2.2.2⟩
/-- one entry more -/
theorem LR.addE {L : Nat} {h h1 h2 h3 h4 h5 h6 : m_H} {r : Nat → Int} {x t w n k y c : Int} (hL : isL L) (R : LR L h r) (hr : r 0 ≤ 23) (ex : h L 7 = x) (E1 : h1 = m_up h (L + 3) x.toNat t) (E2 : h2 = m_up h1 (L + 4) x.toNat w) (E3 : h3 = m_up h2 (L + 5) x.toNat n) (E4 : h4 = m_up h3 (L + 6) x.toNat k) (ec : h L 8 = c) (E5 : h5 = m_up h4 L 8 (m_or c (m_shl 1 x))) (ey : y = x) (E6 : h6 = m_up h5 L 7 (y + 1)) : LR L h6 (rE r t w n k) := by
  obtain ⟨b, kk, cc, ww, nn, q, cb, sb⟩ := R
  obtain ⟨b1, b2, b3, b4⟩ := b
  have hx : r 0 = x := nn.symm.trans ex
  rw [ey] at E6
  have e0 : rE r t w n k 0 = r 0 + 1 := rfl
  have lo : ∀ j : Nat, j ≠ 0 → j < 80 → rE r t w n k j = r j := fun j u v => by
    unfold rE; rw [if_neg u, if_neg (by omega), if_neg (by omega), if_neg (by omega), if_neg (by omega), if_neg (by omega)]
  have at_ : ∀ (e i : Nat), i < 5 → e ≠ (r 0).toNat → rE r t w n k (5 * e + (80 + i)) = r (5 * e + (80 + i)) := fun e i u v => by
    unfold rE; rw [if_neg (by omega), if_neg (by omega), if_neg (by omega), if_neg (by omega), if_neg (by omega), if_neg (by omega)]
  have v0 : rE r t w n k (5 * (r 0).toNat + 80) = t := by unfold rE; rw [if_neg (by omega), if_pos rfl]
  have v1 : rE r t w n k (5 * (r 0).toNat + 81) = w := by unfold rE; rw [if_neg (by omega), if_neg (by omega), if_pos rfl]
  have v2 : rE r t w n k (5 * (r 0).toNat + 82) = n := by unfold rE; rw [if_neg (by omega), if_neg (by omega), if_neg (by omega), if_pos rfl]
  have v3 : rE r t w n k (5 * (r 0).toNat + 83) = k := by unfold rE; rw [if_neg (by omega), if_neg (by omega), if_neg (by omega), if_neg (by omega), if_pos rfl]
  have v4 : rE r t w n k (5 * (r 0).toNat + 84) = 1 := by unfold rE; rw [if_neg (by omega), if_neg (by omega), if_neg (by omega), if_neg (by omega), if_neg (by omega), if_pos rfl]
  have o6 : ∀ i, i ≠ 0 → ∀ j, h6 (L + i) j = h4 (L + i) j := fun i hi j => (upN E6 (fun z => by have := z.1; omega)).trans (upN E5 (fun z => by have := z.1; omega))
  have o4 : ∀ i, i < 3 ∨ i = 7 → ∀ j, h4 (L + i) j = h (L + i) j := fun i hi j => (upN E4 (fun z => by have := z.1; omega)).trans ((upN E3 (fun z => by have := z.1; omega)).trans ((upN E2 (fun z => by have := z.1; omega)).trans (upN E1 (fun z => by have := z.1; omega))))
  refine ⟨⟨by rw [e0]; omega, by rw [e0]; omega, by rw [lo 1 (by decide) (by decide)]; exact b3, by rw [lo 1 (by decide) (by decide)]; exact b4⟩, fun j hj => ?_, fun j hj => ?_, fun j hj => ?_, ?_, fun e he => ?_, fun e he => ?_, ?_⟩
  · rw [o6 1 (by decide), o4 1 (by decide), lo _ (by omega) (by omega)]; exact kk j hj
  · rw [o6 2 (by decide), o4 2 (by decide), lo _ (by omega) (by omega)]; exact cc j hj
  · rw [o6 7 (by decide), o4 7 (by decide), lo _ (by omega) (by omega)]; exact ww j hj
  · rw [upE E6, e0, hx]
  · rw [e0] at he
    rw [o6 3 (by decide), o6 4 (by decide), o6 5 (by decide), o6 6 (by decide)]
    by_cases g : e = (r 0).toNat
    · have g2 : x.toNat = e := by omega
      rw [g2] at E1 E2 E3 E4
      have w0 : h4 (L + 3) e = t := (upN E4 (fun z => by have := z.1; omega)).trans ((upN E3 (fun z => by have := z.1; omega)).trans ((upN E2 (fun z => by have := z.1; omega)).trans (upE E1)))
      have w1 : h4 (L + 4) e = w := (upN E4 (fun z => by have := z.1; omega)).trans ((upN E3 (fun z => by have := z.1; omega)).trans (upE E2))
      have w2 : h4 (L + 5) e = n := (upN E4 (fun z => by have := z.1; omega)).trans (upE E3)
      rw [w0, w1, w2, upE E4, g, v0, v1, v2, v3]
      exact ⟨rfl, rfl, rfl, rfl⟩
    · have g2 : e ≠ x.toNat := by omega
      have w0 : h4 (L + 3) e = h (L + 3) e := (upN E4 (fun z => g2 z.2)).trans ((upN E3 (fun z => g2 z.2)).trans ((upN E2 (fun z => g2 z.2)).trans (upN E1 (fun z => g2 z.2))))
      have w1 : h4 (L + 4) e = h (L + 4) e := (upN E4 (fun z => g2 z.2)).trans ((upN E3 (fun z => g2 z.2)).trans ((upN E2 (fun z => g2 z.2)).trans (upN E1 (fun z => g2 z.2))))
      have w2 : h4 (L + 5) e = h (L + 5) e := (upN E4 (fun z => g2 z.2)).trans ((upN E3 (fun z => g2 z.2)).trans ((upN E2 (fun z => g2 z.2)).trans (upN E1 (fun z => g2 z.2))))
      have w3 : h4 (L + 6) e = h (L + 6) e := (upN E4 (fun z => g2 z.2)).trans ((upN E3 (fun z => g2 z.2)).trans ((upN E2 (fun z => g2 z.2)).trans (upN E1 (fun z => g2 z.2))))
      have a0 := at_ e 0 (by decide) g
      have a1 := at_ e 1 (by decide) g
      have a2 := at_ e 2 (by decide) g
      have a3 := at_ e 3 (by decide) g
      rw [w0, w1, w2, w3, a0, a1, a2, a3]
      exact q e (by omega)
  · have z : h6 L 8 = m_or c (m_shl 1 x) := (upN E6 (fun z => by have := z.2; omega)).trans (upE E5)
    have hx2 : x = ((r 0).toNat : Int) := by omega
    rw [z, hx2, bt_or (by omega) he, e0, Bool.or_eq_true, ← ec, cb e he, decide_eq_true_eq]
    by_cases g : e = (r 0).toNat
    · rw [g, v4]
      constructor
      · intro _; exact ⟨by omega, rfl⟩
      · intro _; exact Or.inr rfl
    · have a4 := at_ e 4 (by decide) g
      rw [a4]
      constructor
      · rintro (⟨u, v⟩ | u)
        · exact ⟨by omega, v⟩
        · exact absurd u g
      · rintro ⟨u, v⟩; exact Or.inl ⟨by omega, v⟩
  · have z : h6 L 9 = h L 9 := (upN E6 (fun z => by have := z.2; omega)).trans ((upN E5 (fun z => by have := z.2; omega)).trans (o4 0 (by decide) 9))
    rw [z]
    obtain ⟨s1, s2, s3, s4⟩ := sb
    refine ⟨s1, s2, by rw [lo 1 (by decide) (by decide)]; exact s3, fun p hp => (s4 p hp).trans ?_⟩
    unfold iS
    rw [lo 1 (by decide) (by decide)]
    constructor
    · rintro ⟨k', u, v, w'⟩
      refine ⟨k', u, ?_, ?_⟩
      · rw [lo _ (by omega) (by omega)]; exact v
      · rw [lo _ (by omega) (by omega)]; exact w'
    · rintro ⟨k', u, v, w'⟩
      rw [lo _ (by omega) (by omega)] at v w'
      exact ⟨k', u, v, w'⟩
/-- one shorter more -/
theorem iS_add {r : Nat → Int} {a b u v : Int} (h0 : 0 ≤ r 1) (h1 : r 1 ≤ 5) : iS (rS r a b) u v ↔ (iS r u v ∨ (u = a ∧ v = b)) := by
  have e1 : rS r a b 1 = r 1 + 1 := rfl
  have va : rS r a b (2 * (r 1).toNat + 48) = a := by unfold rS; rw [if_neg (by omega), if_pos rfl]
  have vb : rS r a b (2 * (r 1).toNat + 49) = b := by unfold rS; rw [if_neg (by omega), if_neg (by omega), if_pos rfl]
  have o : ∀ k : Nat, (k : Int) < r 1 → rS r a b (2 * k + 48) = r (2 * k + 48) ∧ rS r a b (2 * k + 49) = r (2 * k + 49) := fun k hk => by
    unfold rS
    rw [if_neg (by omega), if_neg (by omega), if_neg (by omega), if_neg (by omega), if_neg (by omega), if_neg (by omega)]
    exact ⟨rfl, rfl⟩
  unfold iS
  rw [e1]
  constructor
  · rintro ⟨k, hk, x, y⟩
    by_cases g : (k : Int) < r 1
    · rw [(o k g).1] at x; rw [(o k g).2] at y
      exact Or.inl ⟨k, g, x, y⟩
    · have g2 : k = (r 1).toNat := by omega
      rw [g2, va] at x; rw [g2, vb] at y
      exact Or.inr ⟨x.symm, y.symm⟩
  · rintro (⟨k, hk, x, y⟩ | ⟨x, y⟩)
    · exact ⟨k, by omega, (o k hk).1.trans x, (o k hk).2.trans y⟩
    · exact ⟨(r 1).toNat, by omega, va.trans x.symm, vb.trans y.symm⟩
theorem LR.addS {L : Nat} {h h' : m_H} {r : Nat → Int} {a b c i : Int} (hL : isL L) (R : LR L h r) (h1 : r 1 ≤ 5) (ha : 0 ≤ a) (ha3 : a ≤ 3) (hb : 0 ≤ b) (hb3 : b ≤ 3) (hn : ¬ iS r a b) (ec : h L 9 = c) (ei : i = a * 4 + b) (E : h' = m_up h L 9 (m_or c (m_shl 1 i))) : LR L h' (rS r a b) := by
  obtain ⟨bb, kk, cc, ww, nn, q, cb, sb⟩ := R
  obtain ⟨b1, b2, b3, b4⟩ := bb
  have lo : ∀ j : Nat, j ≠ 1 → j < 48 ∨ 60 ≤ j → rS r a b j = r j := fun j u v => by
    unfold rS; rw [if_neg u, if_neg (by omega), if_neg (by omega)]
  have e1 : rS r a b 1 = r 1 + 1 := rfl
  have o : ∀ k j, j ≠ 9 → h' k j = h k j := fun k j hj => upN E (fun z => hj z.2)
  have o1 : ∀ k, k ≠ 0 → ∀ j, h' (L + k) j = h (L + k) j := fun k hk j => upN E (fun z => by have := z.1; omega)
  refine ⟨⟨by rw [lo 0 (by decide) (by decide)]; exact b1, by rw [lo 0 (by decide) (by decide)]; exact b2, by rw [e1]; omega, by rw [e1]; omega⟩, fun j hj => ?_, fun j hj => ?_, fun j hj => ?_, ?_, fun e he => ?_, fun e he => ?_, ?_⟩
  · rw [o1 1 (by decide), lo _ (by omega) (by omega)]; exact kk j hj
  · rw [o1 2 (by decide), lo _ (by omega) (by omega)]; exact cc j hj
  · rw [o1 7 (by decide), lo _ (by omega) (by omega)]; exact ww j hj
  · rw [o L 7 (by decide), lo 0 (by decide) (by decide)]; exact nn
  · rw [lo 0 (by decide) (by decide)] at he
    rw [o1 3 (by decide), o1 4 (by decide), o1 5 (by decide), o1 6 (by decide), lo _ (by omega) (by omega), lo _ (by omega) (by omega), lo _ (by omega) (by omega), lo _ (by omega) (by omega)]
    exact q e he
  · rw [o L 8 (by decide), lo 0 (by decide) (by decide), lo _ (by omega) (by omega)]; exact cb e he
  · obtain ⟨s1, s2, s3, s4⟩ := sb
    rw [ec] at s1 s2 s3 s4
    obtain ⟨s, hs⟩ : ∃ s : Nat, c = (s : Int) := ⟨c.toNat, by omega⟩
    obtain ⟨p, hp⟩ : ∃ p : Nat, i = (p : Int) := ⟨i.toNat, by omega⟩
    have hp16 : p < 16 := by omega
    have d1 : ((p / 4 : Nat) : Int) = a := by omega
    have d2 : ((p % 4 : Nat) : Int) = b := by omega
    subst hs
    have nb' : bt (s : Int) p = false := by
      have z := s4 p hp16
      rw [d1, d2] at z
      cases g : bt (s : Int) p
      · rfl
      · exact absurd (z.mp g) hn
    have hs2 : s < 65536 := by omega
    have v : h' L 9 = ((s + 2 ^ p : Nat) : Int) := by rw [upE E, hp]; exact or_add hs2 hp16 nb'
    have nb2 : s / 2 ^ p % 2 = 0 := by rw [bt_div hs2, decide_eq_false_iff_not] at nb'; omega
    have sm : s + 2 ^ p < 65536 := by
      have q : p = 0 ∨ p = 1 ∨ p = 2 ∨ p = 3 ∨ p = 4 ∨ p = 5 ∨ p = 6 ∨ p = 7 ∨ p = 8 ∨ p = 9 ∨ p = 10 ∨ p = 11 ∨ p = 12 ∨ p = 13 ∨ p = 14 ∨ p = 15 := by omega
      rcases q with rfl | rfl | rfl | rfl | rfl | rfl | rfl | rfl | rfl | rfl | rfl | rfl | rfl | rfl | rfl | rfl <;> omega
    rw [v]
    refine ⟨Int.natCast_nonneg _, Int.ofNat_lt.mpr sm, ?_, fun p' hp' => ?_⟩
    · have t := bc_add hs2 hp16 nb2
      rw [Int.toNat_natCast, t, e1]
      rw [Int.toNat_natCast] at s3
      omega
    · rw [iS_add b3 h1, ← or_add hs2 hp16 nb', bt_or (by omega) (by omega), Bool.or_eq_true, s4 p' hp', decide_eq_true_eq]
      constructor
      · rintro (x | x)
        · exact Or.inl x
        · subst x; exact Or.inr ⟨d1, d2⟩
      · rintro (x | ⟨x, y⟩)
        · exact Or.inl x
        · exact Or.inr (by omega)
/-! the grammar, over tokens and rows -/
noncomputable def nxt (b : Nat → Int) (n : Int) (q : Int × Int) : Int × Int := nx b n q.2
noncomputable def rdBy (b : Nat → Int) (n : Int) (q : Int × Int) (r : Nat → Int) (f l : Int) : Except Int ((Int × Int) × (Nat → Int)) :=
  cif (isW b q 2) (cif (isW b (nxt b n q) 3) (.ok (nxt b n (nxt b n q), rW r f l (-1))) (cif (nOk b n (nxt b n q) 0 3) (.ok (nxt b n (nxt b n q), rW r f l (num b (nxt b n q)))) (.error (nxt b n q).1))) (.error q.1)
noncomputable def rdWeeks (b : Nat → Int) (n : Int) (q : Int × Int) (r : Nat → Int) : Except Int ((Int × Int) × (Nat → Int)) :=
  cif (nOk b n q 0 31) (cif (isW b (nxt b n q) 1) (cif (nOk b n (nxt b n (nxt b n q)) (num b q) 31) (rdBy b n (nxt b n (nxt b n (nxt b n q))) r (num b q) (num b (nxt b n (nxt b n q)))) (.error (nxt b n (nxt b n q)).1)) (rdBy b n (nxt b n q) r (num b q) (num b q))) (.error q.1)
noncomputable def rdCut (b : Nat → Int) (n : Int) (q : Int × Int) (r : Nat → Int) (t : Int) : Except Int ((Int × Int) × (Nat → Int)) :=
  cif (isW b q 6) (.ok (nxt b n q, rU r (42 + t).toNat (-1))) (cif (isW b q 7) (cif (nOk b n (nxt b n q) 1 31) (.ok (nxt b n (nxt b n q), rU r (42 + t).toNat (num b (nxt b n q)))) (.error (nxt b n q).1)) (.error q.1))
noncomputable def rdKind (b : Nat → Int) (q : Int × Int) : Int := cif (isW b q 9) 1 (cif (isW b q 10) 2 0)
noncomputable def rdKq (b : Nat → Int) (n : Int) (q : Int × Int) : Int × Int := cif (isW b q 9 ∨ isW b q 10 ∨ isW b q 11) (nxt b n q) q
noncomputable def rdMeas (b : Nat → Int) (n : Int) (q : Int × Int) (r : Nat → Int) (t : Int) : Except Int ((Int × Int) × (Nat → Int)) :=
  cif (r 0 ≤ 23 ∧ isW b q 7) (cif (nOk b n (nxt b n q) 0 31) (cif (isW b (nxt b n (nxt b n q)) 8) (cif (nOk b n (nxt b n (nxt b n (nxt b n q))) 1 99)
    (.ok (rdKq b n (nxt b n (nxt b n (nxt b n (nxt b n q)))), rE r t (num b (nxt b n q)) (num b (nxt b n (nxt b n (nxt b n q)))) (rdKind b (nxt b n (nxt b n (nxt b n (nxt b n q)))))))
    (.error (nxt b n (nxt b n (nxt b n q))).1)) (.error (nxt b n (nxt b n q)).1)) (.error (nxt b n q).1)) (.error q.1)
noncomputable def rdMs (b : Nat → Int) (n : Int) (t : Int) : Nat → Int × Int → (Nat → Int) → Except Int ((Int × Int) × (Nat → Int))
  | 0, q, _ => .error q.1
  | f + 1, q, r => match rdMeas b n q r t with
    | .error e => .error e
    | .ok p => cif (isW b p.1 12) (rdMs b n t f (nxt b n p.1) p.2) (.ok p)
noncomputable def rdThing (b : Nat → Int) (n : Int) (q : Int × Int) (r : Nat → Int) : Except Int ((Int × Int) × (Nat → Int)) :=
  cif (nOk b n q 0 5) (cif (isW b (nxt b n q) 5) (rdCut b n (nxt b n (nxt b n q)) r (num b q)) (rdMs b n (num b q) 25 (nxt b n q) r)) (.error q.1)
noncomputable def rdShort (b : Nat → Int) (n : Int) (pl : Int) (q : Int × Int) (r : Nat → Int) : Except Int ((Int × Int) × (Nat → Int)) :=
  cif (nOk b n q 0 3) (cif (isW b (nxt b n q) 14) (cif (nOk b n (nxt b n (nxt b n q)) 0 3 ∧ num b (nxt b n (nxt b n q)) ≠ num b q)
    (cif (iS r (num b q) (num b (nxt b n (nxt b n q)))) (.ok (nxt b n (nxt b n (nxt b n q)), r)) (cif (r 1 ≤ 5) (.ok (nxt b n (nxt b n (nxt b n q)), rS r (num b q) (num b (nxt b n (nxt b n q))))) (.error pl)))
    (.error (nxt b n (nxt b n q)).1)) (.error (nxt b n q).1)) (.error q.1)
noncomputable def rdCl (b : Nat → Int) (n : Int) (q : Int × Int) (r : Nat → Int) : Except Int ((Int × Int) × (Nat → Int)) :=
  cif (isW b q 0) (rdWeeks b n (nxt b n q) r) (cif (isW b q 4) (rdThing b n (nxt b n q) r) (cif (isW b q 13) (rdShort b n q.1 (nxt b n q) r) (.error q.1)))
noncomputable def rdBook (b : Nat → Int) (n : Int) : Nat → Int × Int → (Nat → Int) → Int → Except Int (Int × (Nat → Int))
  | 0, q, _, _ => .error q.1
  | f + 1, q, r, k => match rdCl b n q r with
    | .error e => .error e
    | .ok p => cif (n ≤ p.1.1) (.ok (k, p.2)) (cif (isW b p.1 15) (rdBook b n f (nxt b n p.1) p.2 (k + 1)) (.error p.1.1))
/-! the class's walk through it -/
def okQ (L : Nat) (z : Except Int ((Int × Int) × (Nat → Int))) (x : Int) (h0 h' : m_H) : Prop := match z with
  | .ok p => x = 1 ∧ Qc h' = p.1 ∧ LR L h' p.2 ∧ h' 37 3 = h0 37 3
  | .error e => x = 0 ∧ (h0 37 3 = -1 → (if h' 37 3 = -1 then h' 37 1 else h' 37 3) = e)
theorem ok_of {L : Nat} {z : Except Int ((Int × Int) × (Nat → Int))} {p : (Int × Int) × (Nat → Int)} {h0 h' : m_H} (e : z = .ok p) (q : Qc h' = p.1) (R : LR L h' p.2) (u : h' 37 3 = h0 37 3) : okQ L z 1 h0 h' := by rw [e]; exact ⟨rfl, q, R, u⟩
theorem er_of {L : Nat} {z : Except Int ((Int × Int) × (Nat → Int))} {q : Int × Int} {h0 h' : m_H} (e : z = .error q.1) (eq : Qc h' = q) (u : h' 37 3 = h0 37 3) : okQ L z 0 h0 h' := by
  rw [e]
  refine ⟨rfl, fun z => ?_⟩
  rw [u, if_pos z, ← eq]; rfl
theorem tkc_ {w : Nat} {x : Int} {b : Nat → Int} {n : Int} {q : Int × Int} {h h' : m_H} (eb : h 36 = b) (en : h 35 1 = n) (eq : Qc h = q) (T : tkQ w x h h') : (x = 1 ∧ isW b q w ∧ Qc h' = nxt b n q) ∨ (x = 0 ∧ ¬ isW b q w ∧ Qc h' = q) := by
  subst eb en eq; exact T
theorem tn_c {lo hi x : Int} {b : Nat → Int} {n : Int} {q : Int × Int} {h h' : m_H} (eb : h 36 = b) (en : h 35 1 = n) (eq : Qc h = q) (T : tnQ lo hi x h h') : (x = -1 ∧ ¬ nOk b n q lo hi ∧ Qc h' = q) ∨ (x = num b q ∧ nOk b n q lo hi ∧ Qc h' = nxt b n q) := by
  subst eb en eq; exact T
theorem vl_c {x : Int} {b : Nat → Int} {n : Int} {q : Int × Int} {h : m_H} (eb : h 36 = b) (en : h 35 1 = n) (eq : Qc h = q) (V : vlQ (h 36) (h 35 1) (Qc h) x) : vlQ b n q x := by subst eb en eq; exact V
/-! what the class's steps do to a row -/
theorem LR.setU {L : Nat} {h h' : m_H} {r : Nat → Int} {i c : Nat} {v : Int} (R : LR L h r) (hc : (c = L + 1 ∧ i < 32) ∨ (c = L + 2 ∧ i < 6) ∨ (c = L + 7 ∧ i < 16)) (E : h' = m_up h c i v) : LR L h' (rU r ((if c = L + 1 then 10 else if c = L + 2 then 42 else 60) + i) v) := by
  obtain ⟨b, k, cc, w, n, q, cb, sb⟩ := R
  obtain ⟨b1, b2, b3, b4⟩ := b
  have o : ∀ a j, a ≠ c → h' a j = h a j := fun a j ha => upN E (fun z => ha z.1)
  generalize hd : (if c = L + 1 then 10 else if c = L + 2 then 42 else 60) + i = d
  have dlo : 10 ≤ d ∧ d < 48 ∨ 60 ≤ d ∧ d < 76 := by
    rcases hc with ⟨g, u⟩ | ⟨g, u⟩ | ⟨g, u⟩
    · rw [if_pos g] at hd; omega
    · rw [if_neg (by omega), if_pos g] at hd; omega
    · rw [if_neg (by omega), if_neg (by omega)] at hd; omega
  have lo : ∀ j, j ≠ d → rU r d v j = r j := fun j hj => by unfold rU; rw [if_neg hj]
  refine ⟨⟨by rw [lo 0 (by omega)]; exact b1, by rw [lo 0 (by omega)]; exact b2, by rw [lo 1 (by omega)]; exact b3, by rw [lo 1 (by omega)]; exact b4⟩, fun j hj => ?_, fun j hj => ?_, fun j hj => ?_, ?_, fun e he => ?_, fun e he => ?_, ?_⟩
  · by_cases g : c = L + 1
    · rw [if_pos g] at hd
      by_cases g2 : j = i
      · have e1 : 10 + j = d := by omega
        rw [← g, g2, upE E, ← g2, e1]; unfold rU; rw [if_pos rfl]
      · rw [upN E (fun z => g2 z.2), lo _ (by omega)]; exact k j hj
    · rw [o _ _ (fun z => g z.symm), lo _ (by
        rcases hc with ⟨u, _⟩ | ⟨u, v⟩ | ⟨u, v⟩
        · exact absurd u g
        · rw [if_neg g, if_pos u] at hd; omega
        · rw [if_neg g, if_neg (by omega)] at hd; omega)]; exact k j hj
  · by_cases g : c = L + 2
    · rw [if_neg (by omega), if_pos g] at hd
      by_cases g2 : j = i
      · have e1 : 42 + j = d := by omega
        rw [← g, g2, upE E, ← g2, e1]; unfold rU; rw [if_pos rfl]
      · rw [upN E (fun z => g2 z.2), lo _ (by omega)]; exact cc j hj
    · rw [o _ _ (fun z => g z.symm), lo _ (by
        rcases hc with ⟨u, v⟩ | ⟨u, _⟩ | ⟨u, v⟩
        · rw [if_pos u] at hd; omega
        · exact absurd u g
        · rw [if_neg (by omega), if_neg (by omega)] at hd; omega)]; exact cc j hj
  · by_cases g : c = L + 7
    · rw [if_neg (by omega), if_neg (by omega)] at hd
      by_cases g2 : j = i
      · have e1 : 60 + j = d := by omega
        rw [← g, g2, upE E, ← g2, e1]; unfold rU; rw [if_pos rfl]
      · rw [upN E (fun z => g2 z.2), lo _ (by omega)]; exact w j hj
    · rw [o _ _ (fun z => g z.symm), lo _ (by
        rcases hc with ⟨u, v⟩ | ⟨u, v⟩ | ⟨u, _⟩
        · rw [if_pos u] at hd; omega
        · rw [if_neg (by omega), if_pos u] at hd; omega
        · exact absurd u g)]; exact w j hj
  · rw [o _ _ (by omega), lo 0 (by omega)]; exact n
  · rw [lo 0 (by omega)] at he
    rw [o _ _ (by omega), o _ _ (by omega), o _ _ (by omega), o _ _ (by omega), lo _ (by omega), lo _ (by omega), lo _ (by omega), lo _ (by omega)]; exact q e he
  · rw [o _ _ (by omega), lo 0 (by omega), lo _ (by omega)]; exact cb e he
  · rw [o _ _ (by omega)]
    obtain ⟨s1, s2, s3, s4⟩ := sb
    refine ⟨s1, s2, by rw [lo 1 (by omega)]; exact s3, fun p hp => (s4 p hp).trans ?_⟩
    unfold iS
    rw [lo 1 (by omega)]
    constructor
    · rintro ⟨k', u, v, w'⟩
      exact ⟨k', u, by rw [lo _ (by omega)]; exact v, by rw [lo _ (by omega)]; exact w'⟩
    · rintro ⟨k', u, v, w'⟩
      rw [lo _ (by omega)] at v w'
      exact ⟨k', u, v, w'⟩
theorem LR.wk {L : Nat} {h h' : m_H} {r : Nat → Int} {f w k : Int} (R : LR L h (rW r f (w - 1) k)) (h0 : 0 ≤ f) (h1 : f ≤ w) (h2 : w ≤ 31) (E : h' = m_up h (L + 1) w.toNat k) : LR L h' (rW r f w k) := by
  have z := R.setU (i := w.toNat) (Or.inl ⟨rfl, by omega⟩) E
  rw [if_pos rfl] at z
  refine z.same (fun _ _ _ => rfl) (fun j _ => ?_)
  unfold rW rU
  by_cases g : j = 10 + w.toNat
  · rw [if_pos g, if_pos (by omega)]
  · rw [if_neg g]
    show (if 10 + f ≤ (j : Int) ∧ (j : Int) ≤ 10 + w then k else r j) = (if 10 + f ≤ (j : Int) ∧ (j : Int) ≤ 10 + (w - 1) then k else r j)
    by_cases g2 : 10 + f ≤ (j : Int) ∧ (j : Int) ≤ 10 + (w - 1)
    · rw [if_pos g2, if_pos (by omega)]
    · rw [if_neg g2, if_neg (by omega)]
theorem rW_0 {r : Nat → Int} {f k : Int} : rW r f (f - 1) k = r := by
  funext j; unfold rW; rw [if_neg (by omega)]
theorem LR.ct {L : Nat} {h h' : m_H} {r : Nat → Int} {t k : Int} (R : LR L h r) (h0 : 0 ≤ t) (h1 : t ≤ 5) (E : h' = m_up h (L + 2) t.toNat k) : LR L h' (rU r (42 + t).toNat k) := by
  have z := R.setU (i := t.toNat) (Or.inr (Or.inl ⟨rfl, by omega⟩)) E
  rw [if_neg (by omega), if_pos rfl] at z
  have e : (42 + t).toNat = 42 + t.toNat := by omega
  rw [e]; exact z
theorem ok_c {L : Nat} {F : (Nat → Int) → Int → Int × Int → Except Int ((Int × Int) × (Nat → Int))} {b : Nat → Int} {n : Int} {q : Int × Int} {x : Int} {h0 h h' : m_H} (eb : h 36 = b) (en : h 35 1 = n) (eq : Qc h = q) (e3 : h 37 3 = h0 37 3) (K : okQ L (F (h 36) (h 35 1) (Qc h)) x h h') : okQ L (F b n q) x h0 h' := by
  subst eb en eq
  unfold okQ at K ⊢
  cases e : F (h 36) (h 35 1) (Qc h) with
  | ok p => rw [e] at K; exact ⟨K.1, K.2.1, K.2.2.1, K.2.2.2.trans e3⟩
  | error z => rw [e] at K; exact ⟨K.1, fun u => K.2 (e3.trans u)⟩
theorem ok_cs {L : Nat} {z : Except Int ((Int × Int) × (Nat → Int))} {x : Int} {h0 h' : m_H} (K : okQ L z x h0 h') : (∃ p, z = .ok p ∧ x = 1 ∧ Qc h' = p.1 ∧ LR L h' p.2 ∧ h' 37 3 = h0 37 3) ∨ (∃ e, z = .error e ∧ x = 0 ∧ (h0 37 3 = -1 → (if h' 37 3 = -1 then h' 37 1 else h' 37 3) = e)) := by
  unfold okQ at K
  cases z with
  | ok p => exact Or.inl ⟨p, rfl, K⟩
  | error e => exact Or.inr ⟨e, rfl, K⟩
theorem er2_of {L : Nat} {z : Except Int ((Int × Int) × (Nat → Int))} {e : Int} {h0 h' : m_H} (ez : z = .error e) (F : h0 37 3 = -1 → (if h' 37 3 = -1 then h' 37 1 else h' 37 3) = e) : okQ L z 0 h0 h' := by rw [ez]; exact ⟨rfl, F⟩
theorem Qc_S {cs : List Nat} {ss : List (Nat × Nat)} {h h' : m_H} (S : FR cs ss h h') (e1 : fr cs ss 37 1 = false) (e2 : fr cs ss 37 2 = false) : Qc h' = Qc h := by unfold Qc; rw [S _ _ e1, S _ _ e2]
theorem tl_r {h h' : m_H} {c j : Nat} {v : Int} (E : h' = m_up h c j v) {k : Nat} (hk : k ≠ c) : h' k = h k := funext fun i => tl_o E hk i
theorem tl_q {h h' : m_H} {c j : Nat} {v : Int} (E : h' = m_up h c j v) (hk : 37 ≠ c) : Qc h' = Qc h := by unfold Qc; rw [tl_o E hk, tl_o E hk]
def wkI (z : Except Int ((Int × Int) × (Nat → Int))) (r : Nat → Int) (f l k w : Int) (h0 h : m_H) : Prop := (∃ q, z = .ok (q, rW r f l k) ∧ Qc h = q) ∧ h 37 3 = h0 37 3 ∧ LR 9 h (rW r f (w - 1) k) ∧ 0 ≤ f ∧ f ≤ w ∧ w ≤ l + 1 ∧ l ≤ 31
theorem wk_0 {z : Except Int ((Int × Int) × (Nat → Int))} {r : Nat → Int} {f l k : Int} {q : Int × Int} {h0 h : m_H} (ez : z = .ok (q, rW r f l k)) (eq : Qc h = q) (u : h 37 3 = h0 37 3) (R : LR 9 h r) (h1 : 0 ≤ f) (h2 : f ≤ l) (h3 : l ≤ 31) : wkI z r f l k f h0 h := ⟨⟨q, ez, eq⟩, u, by rw [rW_0]; exact R, h1, Int.le_refl _, by omega, h3⟩
theorem wk_st {z : Except Int ((Int × Int) × (Nat → Int))} {r : Nat → Int} {f l k w : Int} {h0 h h' : m_H} (i : wkI z r f l k w h0 h) (hw : w ≤ l) (E : h' = m_up h 10 w.toNat k) : wkI z r f l k (w + 1) h0 h' := by
  obtain ⟨⟨q, i1, i2⟩, i3, i4, i5, i6, i7, i8⟩ := i
  refine ⟨⟨q, i1, (tl_q E (by decide)).trans i2⟩, (tl_o E (by decide) _).trans i3, ?_, i5, by omega, by omega, i8⟩
  have e : w + 1 - 1 = w := by omega
  rw [e]
  exact LR.wk i4 i5 i6 (by omega) E
theorem wk_end {z : Except Int ((Int × Int) × (Nat → Int))} {r : Nat → Int} {f l k w : Int} {h0 h : m_H} (i : wkI z r f l k w h0 h) (hw : l < w) : okQ 9 z 1 h0 h := by
  obtain ⟨⟨q, i1, i2⟩, i3, i4, i5, i6, i7, i8⟩ := i
  have e : w - 1 = l := by omega
  rw [e] at i4
  exact ok_of i1 i2 i4 i3
theorem kq_9 {b : Nat → Int} {n : Int} {q : Int × Int} (w : isW b q 9) : rdKq b n q = nxt b n q ∧ rdKind b q = 1 := ⟨cif_pos (Or.inl w), cif_pos w⟩
theorem kq_10 {b : Nat → Int} {n : Int} {q : Int × Int} (v : ¬ isW b q 9) (w : isW b q 10) : rdKq b n q = nxt b n q ∧ rdKind b q = 2 := ⟨cif_pos (Or.inr (Or.inl w)), (cif_neg v).trans (cif_pos w)⟩
theorem kq_11 {b : Nat → Int} {n : Int} {q : Int × Int} (v : ¬ isW b q 9) (v2 : ¬ isW b q 10) (w : isW b q 11) : rdKq b n q = nxt b n q ∧ rdKind b q = 0 := ⟨cif_pos (Or.inr (Or.inr w)), (cif_neg v).trans (cif_neg v2)⟩
theorem kq_0 {b : Nat → Int} {n : Int} {q : Int × Int} (v : ¬ isW b q 9) (v2 : ¬ isW b q 10) (w : ¬ isW b q 11) : rdKq b n q = q ∧ rdKind b q = 0 := ⟨cif_neg (fun z => z.elim v (fun z => z.elim v2 w)), (cif_neg v).trans (cif_neg v2)⟩
theorem rdMeas_0 {b : Nat → Int} {n : Int} {q : Int × Int} {r : Nat → Int} {t : Int} {p : (Int × Int) × (Nat → Int)} (h : rdMeas b n q r t = .ok p) : p.2 0 = r 0 + 1 := by
  unfold rdMeas at h
  by_cases c1 : r 0 ≤ 23 ∧ isW b q 7
  · rw [cif_pos c1] at h
    by_cases c2 : nOk b n (nxt b n q) 0 31
    · rw [cif_pos c2] at h
      by_cases c3 : isW b (nxt b n (nxt b n q)) 8
      · rw [cif_pos c3] at h
        by_cases c4 : nOk b n (nxt b n (nxt b n (nxt b n q))) 1 99
        · rw [cif_pos c4] at h
          injection h with h
          rw [← h]; rfl
        · rw [cif_neg c4] at h; cases h
      · rw [cif_neg c3] at h; cases h
    · rw [cif_neg c2] at h; cases h
  · rw [cif_neg c1] at h; cases h
theorem ms_er {b : Nat → Int} {n t : Int} {k : Nat} {q : Int × Int} {r : Nat → Int} {e : Int} (M : rdMeas b n q r t = .error e) : rdMs b n t (k + 1) q r = .error e := by unfold rdMs; rw [M]
theorem ms_ok {b : Nat → Int} {n t : Int} {k : Nat} {q : Int × Int} {r : Nat → Int} {p : (Int × Int) × (Nat → Int)} (M : rdMeas b n q r t = .ok p) (w : ¬ isW b p.1 12) : rdMs b n t (k + 1) q r = .ok p := by unfold rdMs; rw [M]; exact cif_neg w
theorem ms_nx {b : Nat → Int} {n t : Int} {k : Nat} {q : Int × Int} {r : Nat → Int} {p : (Int × Int) × (Nat → Int)} (M : rdMeas b n q r t = .ok p) (w : isW b p.1 12) : rdMs b n t (k + 1) q r = rdMs b n t k (nxt b n p.1) p.2 := by
  conv => lhs; unfold rdMs
  rw [M]; exact cif_pos w
def thI (z : Except Int ((Int × Int) × (Nat → Int))) (b : Nat → Int) (n t i : Int) (h0 h : m_H) (rr : Nat → Int) : Prop := LR 9 h rr ∧ rdMs b n t (25 - i).toNat (Qc h) rr = z ∧ h 37 3 = h0 37 3 ∧ i ≤ rr 0
noncomputable def rdS3 (b : Nat → Int) (n : Int) (q : Int × Int) (r : Nat → Int) : Except Int ((Int × Int) × (Nat → Int)) := cif (isW b q 13) (rdShort b n q.1 (nxt b n q) r) (.error q.1)
theorem vl_n {b : Nat → Int} {n x lo hi : Int} {q : Int × Int} (V : vlQ b n q x) (k : nOk b n q lo hi) : x = num b q := by
  rcases V with ⟨a, _⟩ | ⟨_, _, c⟩
  · exact absurd ⟨k.1, k.2.1⟩ a
  · exact c
theorem Qc_3 {h h' : m_H} {v : Int} (E : h' = m_up h 37 3 v) : Qc h' = Qc h := by
  unfold Qc
  rw [upN E (fun z => absurd z.2 (by decide)), upN E (fun z => absurd z.2 (by decide))]
theorem LR.S9 {h : m_H} {r : Nat → Int} {L : Nat} (R : LR L h r) : (0 ≤ h L 9 ∧ h L 9 < 65536) ∧ ((bcN (h L 9).toNat : Nat) : Int) = r 1 := ⟨⟨R.2.2.2.2.2.2.2.1, R.2.2.2.2.2.2.2.2.1⟩, R.2.2.2.2.2.2.2.2.2.1⟩
theorem LR.up37 {h h' : m_H} {r : Nat → Int} {j : Nat} {v : Int} (R : LR 9 h r) (E : h' = m_up h 37 j v) : LR 9 h' r := R.same (fun i hi k => tl_o E (by omega) k) (fun _ _ => rfl)
def onI (z : Except Int (Int × (Nat → Int))) (b : Nat → Int) (n k : Int) (h : m_H) (rr : Nat → Int) : Prop := LR 9 h rr ∧ rdBook b n (401 - k).toNat (Qc h) rr k = z ∧ h 37 3 = -1
def onQ (z : Except Int (Int × (Nat → Int))) (x : Int) (h' : m_H) : Prop := match z with
  | .ok p => x = p.1 ∧ 1 ≤ x ∧ LR 9 h' p.2 ∧ h' 37 3 = -1
  | .error e => x = -1 ∧ h' 37 3 = e
theorem on_ok {z : Except Int (Int × (Nat → Int))} {x : Int} {r : Nat → Int} {h' : m_H} (e : z = .ok (x, r)) (hx : 1 ≤ x) (R : LR 9 h' r) (u : h' 37 3 = -1) : onQ z x h' := by rw [e]; exact ⟨rfl, hx, R, u⟩
theorem on_er {z : Except Int (Int × (Nat → Int))} {e : Int} {h' : m_H} (ez : z = .error e) (u : h' 37 3 = e) : onQ z (-1) h' := by rw [ez]; exact ⟨rfl, u⟩
theorem bk_er {b : Nat → Int} {n k : Int} {f : Nat} {q : Int × Int} {r : Nat → Int} {e : Int} (C : rdCl b n q r = .error e) : rdBook b n (f + 1) q r k = .error e := by
  conv => lhs; unfold rdBook
  rw [C]
theorem bk_end {b : Nat → Int} {n k : Int} {f : Nat} {q : Int × Int} {r : Nat → Int} {p : (Int × Int) × (Nat → Int)} (C : rdCl b n q r = .ok p) (h : n ≤ p.1.1) : rdBook b n (f + 1) q r k = .ok (k, p.2) := by
  conv => lhs; unfold rdBook
  rw [C]; exact cif_pos h
theorem bk_no {b : Nat → Int} {n k : Int} {f : Nat} {q : Int × Int} {r : Nat → Int} {p : (Int × Int) × (Nat → Int)} (C : rdCl b n q r = .ok p) (h : ¬ n ≤ p.1.1) (w : ¬ isW b p.1 15) : rdBook b n (f + 1) q r k = .error p.1.1 := by
  conv => lhs; unfold rdBook
  rw [C]; exact (cif_neg h).trans (cif_neg w)
theorem bk_nx {b : Nat → Int} {n k : Int} {f : Nat} {q : Int × Int} {r : Nat → Int} {p : (Int × Int) × (Nat → Int)} (C : rdCl b n q r = .ok p) (h : ¬ n ≤ p.1.1) (w : isW b p.1 15) : rdBook b n (f + 1) q r k = rdBook b n f (nxt b n p.1) p.2 (k + 1) := by
  conv => lhs; unfold rdBook
  rw [C]; exact (cif_neg h).trans (cif_pos w)
theorem adv_0 {h1 h2 : m_H} {b : Nat → Int} {n : Int} (S : FR [] [(37, 1), (37, 2)] h1 h2) (T : Tok (h1 36) (h1 35 1) (h1 37 2) (h2 37 1, h2 37 2)) (e : h1 37 2 = 0) (eb : h1 36 = b) (en : h1 35 1 = n) : EnS h2 ∧ Qc h2 = nx b n 0 := by
  have r1 : h2 36 = h1 36 := rowz S (fun _ => rfl)
  have r2 : h2 35 1 = h1 35 1 := S 35 1 rfl
  refine ⟨?_, ?_⟩
  · unfold EnS; rw [r1, r2]; exact T.2
  · rw [e, eb, en] at T
    exact (nx_eq (Int.le_refl 0) T).symm
abbrev P_J6_bitCount_0f7a42 (h0 : m_H) (a0 : Int) : Int → m_H → Prop := fun x h' => GI h' ∧ FR [] [] h0 h' ∧ 0 ≤ x ∧ x ≤ 63 ∧ ((bcN a0.toNat : Nat) : Int) = x
set_option maxHeartbeats 4000000 in
set_option maxRecDepth 100000 in
theorem c_J6_bitCount_0f7a42 (h0 : m_H) (a0 : Int) (G0 : GI h0) (pa0 : 0 ≤ a0 ∧ a0 < 65536) : m_CI M_J6_bitCount_0f7a4 [mI a0] h0 (P_J6_bitCount_0f7a42 h0 a0) := by
  refine m_CI_of ⟨by decide, rfl, by simp [m_arg, m_isL, M_J6_bitCount_0f7a4], ⟨rfl, rfl⟩, rfl, rfl⟩ (ls := [some (mI a0)]) rfl ?_
  refine z_ok (fun _ _ ok => ?_)
  have oa0 : m_32 a0 := ok 0 _ rfl
  unfold m_32 at oa0
  obtain ⟨n, rfl⟩ : ∃ n : Nat, a0 = (n : Int) := ⟨a0.toNat, by omega⟩
  refine z_iload_n (M := M_J6_bitCount_0f7a4) 0 dJ6_bitCount_0f7a4_0 rfl ?_
  refine z_iload_n (M := M_J6_bitCount_0f7a4) 1 dJ6_bitCount_0f7a4_1 rfl ?_
  refine z_iconst (M := M_J6_bitCount_0f7a4) 2 dJ6_bitCount_0f7a4_2 ?_
  refine z_iushr (M := M_J6_bitCount_0f7a4) 3 dJ6_bitCount_0f7a4_3 ?_
  refine z_topm (fun x1 ex1 ox1 => ?_)
  unfold m_32 at ox1
  refine z_ldcw (M := M_J6_bitCount_0f7a4) 4 dJ6_bitCount_0f7a4_4 k_J6_265 ?_
  refine z_iand (M := M_J6_bitCount_0f7a4) 7 dJ6_bitCount_0f7a4_7 ?_
  refine z_topm (fun x2 ex2 ox2 => ?_)
  unfold m_32 at ox2
  refine z_isub (M := M_J6_bitCount_0f7a4) 8 dJ6_bitCount_0f7a4_8 ?_
  refine z_topm (fun x3 ex3 ox3 => ?_)
  unfold m_32 at ox3
  refine z_istore_n (M := M_J6_bitCount_0f7a4) 9 dJ6_bitCount_0f7a4_9 (ls' := [some (mI x3)]) (by decide) rfl ?_
  refine z_iload_n (M := M_J6_bitCount_0f7a4) 10 dJ6_bitCount_0f7a4_10 rfl ?_
  refine z_ldcw (M := M_J6_bitCount_0f7a4) 11 dJ6_bitCount_0f7a4_11 k_J6_266 ?_
  refine z_iand (M := M_J6_bitCount_0f7a4) 14 dJ6_bitCount_0f7a4_14 ?_
  refine z_topm (fun x4 ex4 ox4 => ?_)
  unfold m_32 at ox4
  refine z_iload_n (M := M_J6_bitCount_0f7a4) 15 dJ6_bitCount_0f7a4_15 rfl ?_
  refine z_iconst (M := M_J6_bitCount_0f7a4) 16 dJ6_bitCount_0f7a4_16 ?_
  refine z_iushr (M := M_J6_bitCount_0f7a4) 17 dJ6_bitCount_0f7a4_17 ?_
  refine z_topm (fun x5 ex5 ox5 => ?_)
  unfold m_32 at ox5
  refine z_ldcw (M := M_J6_bitCount_0f7a4) 18 dJ6_bitCount_0f7a4_18 k_J6_266 ?_
  refine z_iand (M := M_J6_bitCount_0f7a4) 21 dJ6_bitCount_0f7a4_21 ?_
  refine z_topm (fun x6 ex6 ox6 => ?_)
  unfold m_32 at ox6
  refine z_iadd (M := M_J6_bitCount_0f7a4) 22 dJ6_bitCount_0f7a4_22 ?_
  refine z_topm (fun x7 ex7 ox7 => ?_)
  unfold m_32 at ox7
  refine z_istore_n (M := M_J6_bitCount_0f7a4) 23 dJ6_bitCount_0f7a4_23 (ls' := [some (mI x7)]) (by decide) rfl ?_
  refine z_iload_n (M := M_J6_bitCount_0f7a4) 24 dJ6_bitCount_0f7a4_24 rfl ?_
  refine z_iload_n (M := M_J6_bitCount_0f7a4) 25 dJ6_bitCount_0f7a4_25 rfl ?_
  refine z_iconst (M := M_J6_bitCount_0f7a4) 26 dJ6_bitCount_0f7a4_26 ?_
  refine z_iushr (M := M_J6_bitCount_0f7a4) 27 dJ6_bitCount_0f7a4_27 ?_
  refine z_topm (fun x8 ex8 ox8 => ?_)
  unfold m_32 at ox8
  refine z_iadd (M := M_J6_bitCount_0f7a4) 28 dJ6_bitCount_0f7a4_28 ?_
  refine z_topm (fun x9 ex9 ox9 => ?_)
  unfold m_32 at ox9
  refine z_ldcw (M := M_J6_bitCount_0f7a4) 29 dJ6_bitCount_0f7a4_29 k_J6_267 ?_
  refine z_iand (M := M_J6_bitCount_0f7a4) 32 dJ6_bitCount_0f7a4_32 ?_
  refine z_topm (fun x10 ex10 ox10 => ?_)
  unfold m_32 at ox10
  refine z_istore_n (M := M_J6_bitCount_0f7a4) 33 dJ6_bitCount_0f7a4_33 (ls' := [some (mI x10)]) (by decide) rfl ?_
  refine z_iload_n (M := M_J6_bitCount_0f7a4) 34 dJ6_bitCount_0f7a4_34 rfl ?_
  refine z_iload_n (M := M_J6_bitCount_0f7a4) 35 dJ6_bitCount_0f7a4_35 rfl ?_
  refine z_bipush (M := M_J6_bitCount_0f7a4) 36 dJ6_bitCount_0f7a4_36 ?_
  refine z_iushr (M := M_J6_bitCount_0f7a4) 38 dJ6_bitCount_0f7a4_38 ?_
  refine z_topm (fun x11 ex11 ox11 => ?_)
  unfold m_32 at ox11
  refine z_iadd (M := M_J6_bitCount_0f7a4) 39 dJ6_bitCount_0f7a4_39 ?_
  refine z_topm (fun x12 ex12 ox12 => ?_)
  unfold m_32 at ox12
  refine z_istore_n (M := M_J6_bitCount_0f7a4) 40 dJ6_bitCount_0f7a4_40 (ls' := [some (mI x12)]) (by decide) rfl ?_
  refine z_iload_n (M := M_J6_bitCount_0f7a4) 41 dJ6_bitCount_0f7a4_41 rfl ?_
  refine z_iload_n (M := M_J6_bitCount_0f7a4) 42 dJ6_bitCount_0f7a4_42 rfl ?_
  refine z_bipush (M := M_J6_bitCount_0f7a4) 43 dJ6_bitCount_0f7a4_43 ?_
  refine z_iushr (M := M_J6_bitCount_0f7a4) 45 dJ6_bitCount_0f7a4_45 ?_
  refine z_topm (fun x13 ex13 ox13 => ?_)
  unfold m_32 at ox13
  refine z_iadd (M := M_J6_bitCount_0f7a4) 46 dJ6_bitCount_0f7a4_46 ?_
  refine z_topm (fun x14 ex14 ox14 => ?_)
  unfold m_32 at ox14
  refine z_istore_n (M := M_J6_bitCount_0f7a4) 47 dJ6_bitCount_0f7a4_47 (ls' := [some (mI x14)]) (by decide) rfl ?_
  refine z_iload_n (M := M_J6_bitCount_0f7a4) 48 dJ6_bitCount_0f7a4_48 rfl ?_
  refine z_bipush (M := M_J6_bitCount_0f7a4) 49 dJ6_bitCount_0f7a4_49 ?_
  refine z_iand (M := M_J6_bitCount_0f7a4) 51 dJ6_bitCount_0f7a4_51 ?_
  refine z_topBI (m_and_63 _) (fun x15 ex15 ax15 bx15 => ?_)
  exact z_retI (M := M_J6_bitCount_0f7a4) 52 dJ6_bitCount_0f7a4_52 rfl ⟨G0, (FR.rf (cs := []) (ss := []) (h := h0)), by omega, by omega, by rw [Int.toNat_natCast]; exact (bc_run (by omega) ex1 ex2 ex3 ex4 ex5 ex6 ex7 ex8 ex9 ex10 ex11 ex12 ex13 ex14 ex15).symm⟩
abbrev P_X4_shorters2 (h0 : m_H) (L : Nat) : Int → m_H → Prop := fun x h' => GI h' ∧ FR [] [] h0 h' ∧ 0 ≤ x ∧ x ≤ 63 ∧ ((bcN (h0 L 9).toNat : Nat) : Int) = x
set_option maxHeartbeats 4000000 in
set_option maxRecDepth 100000 in
theorem c_X4_shorters2 (h0 : m_H) (L : Nat) (hL : isL L) (G0 : GI h0) (hS : 0 ≤ h0 L 9 ∧ h0 L 9 < 65536) : m_CI M_X4_shorters [mR L] h0 (P_X4_shorters2 h0 L) := by
  refine m_CI_of ⟨by decide, rfl, by simp [m_arg, m_isL, M_X4_shorters], ⟨rfl, rfl⟩, rfl, rfl⟩ (ls := [some (mR L)]) rfl ?_
  refine z_aload_n (M := M_X4_shorters) 0 dX4_shorters_0 rfl ?_
  refine z_getIV (M := M_X4_shorters) 1 dX4_shorters_1 f_X4_52 (oL hL) (by decide) (fun x1 ex1 => ?_)
  refine z_ok (fun ox1 _ _ => ?_)
  have ox1 := ox1.1; unfold m_ok m_32 at ox1
  refine z_sI (M := M_X4_shorters) 4 dX4_shorters_4 t_J6_bitCount_0f7a4 l_X4_63 (m_rr_of rfl) (rest := []) (c_J6_bitCount_0f7a42 h0 x1 G0 (ex1 ▸ hS)) rfl rfl (Nat.le_of_ble_eq_true rfl) ⟨rfl, rfl⟩ (fun x2 h1 qx2 => ?_)
  obtain ⟨G1, S1, ax2, bx2, F1⟩ := qx2
  have R1 := (FR.rf (cs := []) (ss := []) (h := h0)).call S1 (by decide +kernel)
  exact z_retI (M := M_X4_shorters) 7 dX4_shorters_7 rfl ⟨G1, R1, by omega, by omega, by rw [ex1]; exact F1⟩
abbrev P_X4_hasRoomForShorter2 (h0 : m_H) (L : Nat) : Int → m_H → Prop := fun x h' => GI h' ∧ FR [] [] h0 h' ∧ 0 ≤ x ∧ x ≤ 1 ∧ (x = 1 ↔ ((bcN (h0 L 9).toNat : Nat) : Int) < 6)
set_option maxHeartbeats 4000000 in
set_option maxRecDepth 100000 in
theorem c_X4_hasRoomForShorter2 (h0 : m_H) (L : Nat) (hL : isL L) (G0 : GI h0) (hS : 0 ≤ h0 L 9 ∧ h0 L 9 < 65536) : m_CI M_X4_hasRoomForShorter [mR L] h0 (P_X4_hasRoomForShorter2 h0 L) := by
  refine m_CI_of ⟨by decide, rfl, by simp [m_arg, m_isL, M_X4_hasRoomForShorter], ⟨rfl, rfl⟩, rfl, rfl⟩ (ls := [some (mR L)]) rfl ?_
  refine z_aload_n (M := M_X4_hasRoomForShorter) 0 dX4_hasRoomForShorter_0 rfl ?_
  refine z_vI (M := M_X4_hasRoomForShorter) 1 dX4_hasRoomForShorter_1 t_X4_shorters l_X4_69 (m_rr_of rfl) (rest := []) (c_X4_shorters2 h0 L hL G0 hS) (oL hL) rfl rfl rfl (Nat.le_of_ble_eq_true rfl) ⟨rfl, rfl⟩ (fun x1 h1 qx1 => ?_)
  obtain ⟨G1, S1, ax1, bx1, F1⟩ := qx1
  have R1 := (FR.rf (cs := []) (ss := []) (h := h0)).call S1 (by decide +kernel)
  refine z_bipush (M := M_X4_hasRoomForShorter) 4 dX4_hasRoomForShorter_4 ?_
  refine z_icmp_ge (M := M_X4_hasRoomForShorter) 6 dX4_hasRoomForShorter_6 13 rfl (fun c2 => ?_) (fun c2 => ?_)
  · refine z_iconst (M := M_X4_hasRoomForShorter) 13 dX4_hasRoomForShorter_13 ?_
    exact z_retZ (M := M_X4_hasRoomForShorter) 14 dX4_hasRoomForShorter_14 rfl (by omega) ⟨G1, R1, by omega, by omega, by omega⟩
  · refine z_iconst (M := M_X4_hasRoomForShorter) 9 dX4_hasRoomForShorter_9 ?_
    refine z_goto (M := M_X4_hasRoomForShorter) 10 dX4_hasRoomForShorter_10 14 rfl ?_
    exact z_retZ (M := M_X4_hasRoomForShorter) 14 dX4_hasRoomForShorter_14 rfl (by omega) ⟨G1, R1, by omega, by omega, by omega⟩
theorem is_sh {L : Nat} {h : m_H} {r : Nat → Int} {a b : Int} (R : LR L h r) (ha : 0 ≤ a) (ha3 : a ≤ 3) (hb : 0 ≤ b) (hb3 : b ≤ 3) : m_and (m_shr (h L 9) (a * 4 + b)) 1 = 1 ↔ iS r a b := by
  obtain ⟨p, hp⟩ : ∃ p : Nat, a * 4 + b = (p : Int) := ⟨(a * 4 + b).toNat, by omega⟩
  have d1 : ((p / 4 : Nat) : Int) = a := by omega
  have d2 : ((p % 4 : Nat) : Int) = b := by omega
  have z := R.2.2.2.2.2.2.2.2.2.2 p (by omega)
  rw [hp, hasBit_iff (by omega), z, d1, d2]
abbrev P_X4_isShorter2 (h0 : m_H) (L : Nat) (a1 a2 : Int) : Int → m_H → Prop := fun x h' => GI h' ∧ FR [] [] h0 h' ∧ 0 ≤ x ∧ x ≤ 1 ∧ (x = 1 ↔ m_and (m_shr (h0 L 9) (a1 * 4 + a2)) 1 = 1)
set_option maxHeartbeats 4000000 in
set_option maxRecDepth 100000 in
theorem c_X4_isShorter2 (h0 : m_H) (L : Nat) (a1 a2 : Int) (hL : isL L) (G0 : GI h0) (pa1 : 0 ≤ a1 ∧ a1 ≤ 3) (pa2 : 0 ≤ a2 ∧ a2 ≤ 3) : m_CI M_X4_isShorter [mR L, mI a1, mI a2] h0 (P_X4_isShorter2 h0 L a1 a2) := by
  refine m_CI_of ⟨by decide, rfl, by simp [m_arg, m_isL, M_X4_isShorter], ⟨rfl, rfl⟩, rfl, rfl⟩ (ls := [some (mR L), some (mI a1), some (mI a2)]) rfl ?_
  refine z_ok (fun _ _ ok => ?_)
  have oa1 : m_32 a1 := ok 1 _ rfl
  unfold m_32 at oa1
  have oa2 : m_32 a2 := ok 2 _ rfl
  unfold m_32 at oa2
  refine z_aload_n (M := M_X4_isShorter) 0 dX4_isShorter_0 rfl ?_
  refine z_getIV (M := M_X4_isShorter) 1 dX4_isShorter_1 f_X4_52 (oL hL) (by decide) (fun x1 ex1 => ?_)
  refine z_ok (fun ox1 _ _ => ?_)
  have ox1 := ox1.1; unfold m_ok m_32 at ox1
  refine z_iload_n (M := M_X4_isShorter) 4 dX4_isShorter_4 rfl ?_
  refine z_iconst (M := M_X4_isShorter) 5 dX4_isShorter_5 ?_
  refine z_imulN (M := M_X4_isShorter) 6 dX4_isShorter_6 (by omega) (by omega) ?_
  refine z_iload_n (M := M_X4_isShorter) 7 dX4_isShorter_7 rfl ?_
  refine z_iaddN (M := M_X4_isShorter) 8 dX4_isShorter_8 (by omega) (by omega) ?_
  refine z_nI (M := M_X4_isShorter) 9 dX4_isShorter_9 t_X11_hasBit l_X4_59 (m_rr_of rfl) (rest := []) (c_X11_hasBit h0 x1 (a1 * 4 + a2) G0) rfl rfl (Nat.le_of_ble_eq_true rfl) ⟨rfl, rfl⟩ (fun x4 h1 qx4 => ?_)
  obtain ⟨rfl, ⟨rfl, cx4⟩ | ⟨rfl, cx4⟩⟩ := qx4
  · exact z_retZ (M := M_X4_isShorter) 12 dX4_isShorter_12 rfl (by omega) ⟨G0, (FR.rf (cs := []) (ss := []) (h := h0)), by omega, by omega, fun _ => ex1 ▸ cx4, fun _ => rfl⟩
  · exact z_retZ (M := M_X4_isShorter) 12 dX4_isShorter_12 rfl (by omega) ⟨G0, (FR.rf (cs := []) (ss := []) (h := h0)), by omega, by omega, fun q => absurd q (by decide), fun q => absurd (ex1 ▸ q) cx4⟩
abbrev P_X4_addShorter2 (h0 : m_H) (L : Nat) (a1 a2 : Int) : m_H → Prop := fun h' => GI h' ∧ FR [] [(L, 9)] h0 h' ∧ (∀ r, LR L h0 r → r 1 ≤ 5 → ¬ iS r a1 a2 → LR L h' (rS r a1 a2))
set_option maxHeartbeats 4000000 in
set_option maxRecDepth 100000 in
theorem c_X4_addShorter2 (h0 : m_H) (L : Nat) (a1 a2 : Int) (hL : isL L) (G0 : GI h0) (pa1 : 0 ≤ a1 ∧ a1 ≤ 3) (pa2 : 0 ≤ a2 ∧ a2 ≤ 3) : m_CV M_X4_addShorter [mR L, mI a1, mI a2] h0 (P_X4_addShorter2 h0 L a1 a2) := by
  refine m_CV_of ⟨by decide, rfl, by simp [m_arg, m_isL, M_X4_addShorter], ⟨rfl, rfl⟩, rfl, rfl⟩ (ls := [some (mR L), some (mI a1), some (mI a2)]) rfl ?_
  refine z_aload_n (M := M_X4_addShorter) 0 dX4_addShorter_0 rfl ?_
  refine z_dup (M := M_X4_addShorter) 1 dX4_addShorter_1 rfl ?_
  refine z_getIV (M := M_X4_addShorter) 2 dX4_addShorter_2 f_X4_52 (oL hL) (by decide) (fun x1 ex1 => ?_)
  refine z_ok (fun ox1 _ _ => ?_)
  have ox1 := ox1.1; unfold m_ok m_32 at ox1
  refine z_iconst (M := M_X4_addShorter) 5 dX4_addShorter_5 ?_
  refine z_iload_n (M := M_X4_addShorter) 6 dX4_addShorter_6 rfl ?_
  refine z_iconst (M := M_X4_addShorter) 7 dX4_addShorter_7 ?_
  refine z_imulN (M := M_X4_addShorter) 8 dX4_addShorter_8 (by omega) (by omega) ?_
  refine z_iload_n (M := M_X4_addShorter) 9 dX4_addShorter_9 rfl ?_
  refine z_iaddN (M := M_X4_addShorter) 10 dX4_addShorter_10 (by omega) (by omega) ?_
  refine z_ishl (M := M_X4_addShorter) 11 dX4_addShorter_11 ?_
  refine z_ior (M := M_X4_addShorter) 12 dX4_addShorter_12 ?_
  refine z_putIH (M := M_X4_addShorter) 13 dX4_addShorter_13 p_X4_52 (oL hL) rfl (uL9 hL G0) ((FR.rf (cs := []) (ss := [(L, 9)]) (h := h0)).up (by simp [fr])) (fun h1 E1 G1 R1 => ?_)
  exact z_retV (M := M_X4_addShorter) 16 dX4_addShorter_16 rfl ⟨G1, R1, fun r Rr h5 hn => LR.addS hL Rr h5 (by omega) (by omega) (by omega) (by omega) hn ex1 rfl E1⟩
abbrev P_X4_addEntry2 (h0 : m_H) (L : Nat) (a1 a2 a3 a4 : Int) : m_H → Prop := fun h' => GI h' ∧ FR [(L + 3), (L + 4), (L + 5), (L + 6)] [(L, 7), (L, 8)] h0 h' ∧ (∀ r, LR L h0 r → r 0 ≤ 23 → LR L h' (rE r a1 a2 a3 a4))
set_option maxHeartbeats 4000000 in
set_option maxRecDepth 100000 in
theorem c_X4_addEntry2 (h0 : m_H) (L : Nat) (a1 a2 a3 a4 : Int) (hL : isL L) (G0 : GI h0) (pa1 : 0 ≤ a1 ∧ a1 ≤ 5) (pa2 : 0 ≤ a2 ∧ a2 ≤ 31) (pa3 : 1 ≤ a3 ∧ a3 ≤ 99) (pa4 : 0 ≤ a4 ∧ a4 ≤ 2) : m_CV M_X4_addEntry [mR L, mI a1, mI a2, mI a3, mI a4] h0 (P_X4_addEntry2 h0 L a1 a2 a3 a4) := by
  refine m_CV_of ⟨by decide, rfl, by simp [m_arg, m_isL, M_X4_addEntry], ⟨rfl, rfl⟩, rfl, rfl⟩ (ls := [some (mR L), some (mI a1), some (mI a2), some (mI a3), some (mI a4)]) rfl ?_
  refine z_aload_n (M := M_X4_addEntry) 0 dX4_addEntry_0 rfl ?_
  refine z_vI (M := M_X4_addEntry) 1 dX4_addEntry_1 t_X4_hasRoom l_X4_55 (m_rr_of rfl) (rest := []) (c_X4_hasRoom h0 L hL G0) (oL hL) rfl rfl rfl (Nat.le_of_ble_eq_true rfl) ⟨rfl, rfl⟩ (fun x1 h1 qx1 => ?_)
  obtain ⟨rfl, ⟨rfl, cx1⟩ | ⟨rfl, cx1⟩⟩ := qx1
  · refine z_if_ne_T (M := M_X4_addEntry) 4 dX4_addEntry_4 8 rfl (by omega) ?_
    refine z_aload_n (M := M_X4_addEntry) 8 dX4_addEntry_8 rfl ?_
    refine z_getR (M := M_X4_addEntry) 9 dX4_addEntry_9 f_X4_18 (oL hL) rfl (rL_2 hL G0) ?_
    refine z_aload_n (M := M_X4_addEntry) 12 dX4_addEntry_12 rfl ?_
    refine z_getIG (M := M_X4_addEntry) 13 dX4_addEntry_13 f_X4_45 (oL hL) (by decide) (gL7 hL G0) (fun x2 ex2 ax2 bx2 => ?_)
    refine z_iload_n (M := M_X4_addEntry) 16 dX4_addEntry_16 rfl ?_
    refine z_iastH (M := M_X4_addEntry) 17 dX4_addEntry_17 (oL_3 hL) (by omega) (by omega) (uL_3 hL G0 (by omega) (by omega)) ((FR.rf (cs := [(L + 3), (L + 4), (L + 5), (L + 6)]) (ss := [(L, 7), (L, 8)]) (h := h0)).up (by simp [fr])) (fun h2 E2 G2 R2 => ?_)
    refine z_aload_n (M := M_X4_addEntry) 18 dX4_addEntry_18 rfl ?_
    refine z_getR (M := M_X4_addEntry) 19 dX4_addEntry_19 f_X4_21 (oL hL) rfl (rL_3 hL G2) ?_
    refine z_aload_n (M := M_X4_addEntry) 22 dX4_addEntry_22 rfl ?_
    refine z_getIE (M := M_X4_addEntry) 23 dX4_addEntry_23 f_X4_45 (oL hL) (by decide) ((upN E2 (fun q => absurd q.1 (by omega))).trans ex2) ?_
    refine z_iload_n (M := M_X4_addEntry) 26 dX4_addEntry_26 rfl ?_
    refine z_iastH (M := M_X4_addEntry) 27 dX4_addEntry_27 (oL_4 hL) (by omega) (by omega) (uL_4 hL G2 (by omega) (by omega)) (R2.up (by simp [fr])) (fun h3 E3 G3 R3 => ?_)
    refine z_aload_n (M := M_X4_addEntry) 28 dX4_addEntry_28 rfl ?_
    refine z_getR (M := M_X4_addEntry) 29 dX4_addEntry_29 f_X4_24 (oL hL) rfl (rL_4 hL G3) ?_
    refine z_aload_n (M := M_X4_addEntry) 32 dX4_addEntry_32 rfl ?_
    refine z_getIE (M := M_X4_addEntry) 33 dX4_addEntry_33 f_X4_45 (oL hL) (by decide) ((upN E3 (fun q => absurd q.1 (by omega))).trans ((upN E2 (fun q => absurd q.1 (by omega))).trans ex2)) ?_
    refine z_iload_n (M := M_X4_addEntry) 36 dX4_addEntry_36 rfl ?_
    refine z_iastH (M := M_X4_addEntry) 37 dX4_addEntry_37 (oL_5 hL) (by omega) (by omega) (uL_5 hL G3 (by omega) (by omega)) (R3.up (by simp [fr])) (fun h4 E4 G4 R4 => ?_)
    refine z_aload_n (M := M_X4_addEntry) 38 dX4_addEntry_38 rfl ?_
    refine z_getR (M := M_X4_addEntry) 39 dX4_addEntry_39 f_X4_27 (oL hL) rfl (rL_5 hL G4) ?_
    refine z_aload_n (M := M_X4_addEntry) 42 dX4_addEntry_42 rfl ?_
    refine z_getIE (M := M_X4_addEntry) 43 dX4_addEntry_43 f_X4_45 (oL hL) (by decide) ((upN E4 (fun q => absurd q.1 (by omega))).trans ((upN E3 (fun q => absurd q.1 (by omega))).trans ((upN E2 (fun q => absurd q.1 (by omega))).trans ex2))) ?_
    refine z_iload (M := M_X4_addEntry) 46 dX4_addEntry_46 rfl ?_
    refine z_iastH (M := M_X4_addEntry) 48 dX4_addEntry_48 (oL_6 hL) (by omega) (by omega) (uL_6 hL G4 (by omega) (by omega)) (R4.up (by simp [fr])) (fun h5 E5 G5 R5 => ?_)
    refine z_aload_n (M := M_X4_addEntry) 49 dX4_addEntry_49 rfl ?_
    refine z_dup (M := M_X4_addEntry) 50 dX4_addEntry_50 rfl ?_
    refine z_getIV (M := M_X4_addEntry) 51 dX4_addEntry_51 f_X4_49 (oL hL) (by decide) (fun x3 ex3 => ?_)
    refine z_ok (fun ox3 _ _ => ?_)
    have ox3 := ox3.1; unfold m_ok m_32 at ox3
    refine z_iconst (M := M_X4_addEntry) 54 dX4_addEntry_54 ?_
    refine z_aload_n (M := M_X4_addEntry) 55 dX4_addEntry_55 rfl ?_
    refine z_getIE (M := M_X4_addEntry) 56 dX4_addEntry_56 f_X4_45 (oL hL) (by decide) ((upN E5 (fun q => absurd q.1 (by omega))).trans ((upN E4 (fun q => absurd q.1 (by omega))).trans ((upN E3 (fun q => absurd q.1 (by omega))).trans ((upN E2 (fun q => absurd q.1 (by omega))).trans ex2)))) ?_
    refine z_ishl (M := M_X4_addEntry) 59 dX4_addEntry_59 ?_
    refine z_ior (M := M_X4_addEntry) 60 dX4_addEntry_60 ?_
    refine z_putIH (M := M_X4_addEntry) 61 dX4_addEntry_61 p_X4_49 (oL hL) rfl (uL8 hL G5) (R5.up (by simp [fr])) (fun h6 E6 G6 R6 => ?_)
    refine z_aload_n (M := M_X4_addEntry) 64 dX4_addEntry_64 rfl ?_
    refine z_dup (M := M_X4_addEntry) 65 dX4_addEntry_65 rfl ?_
    refine z_getIE (M := M_X4_addEntry) 66 dX4_addEntry_66 f_X4_45 (oL hL) (by decide) ((upN E6 (fun q => absurd q.2 (by decide))).trans ((upN E5 (fun q => absurd q.1 (by omega))).trans ((upN E4 (fun q => absurd q.1 (by omega))).trans ((upN E3 (fun q => absurd q.1 (by omega))).trans ((upN E2 (fun q => absurd q.1 (by omega))).trans ex2))))) ?_
    refine z_iconst (M := M_X4_addEntry) 69 dX4_addEntry_69 ?_
    refine z_iaddN (M := M_X4_addEntry) 70 dX4_addEntry_70 (by omega) (by omega) ?_
    refine z_putIH (M := M_X4_addEntry) 71 dX4_addEntry_71 p_X4_45 (oL hL) rfl (uL7 hL G6 (by omega) (by omega)) (R6.up (by simp [fr])) (fun h7 E7 G7 R7 => ?_)
    exact z_retV (M := M_X4_addEntry) 74 dX4_addEntry_74 rfl ⟨G7, R7, fun r Rr hr => LR.addE hL Rr hr ex2 E2 E3 E4 E5 (((upN E5 (fun q => absurd q.1 (by omega))).trans ((upN E4 (fun q => absurd q.1 (by omega))).trans ((upN E3 (fun q => absurd q.1 (by omega))).trans (upN E2 (fun q => absurd q.1 (by omega)))))).symm.trans ex3) E6 rfl E7⟩
  · refine z_if_ne_F (M := M_X4_addEntry) 4 dX4_addEntry_4 8 rfl (by omega) ?_
    exact z_retV (M := M_X4_addEntry) 7 dX4_addEntry_7 rfl ⟨G0, (FR.rf (cs := [(L + 3), (L + 4), (L + 5), (L + 6)]) (ss := [(L, 7), (L, 8)]) (h := h0)), fun r Rr hr => False.elim (by have := Rr.2.2.2.2.1; omega)⟩
