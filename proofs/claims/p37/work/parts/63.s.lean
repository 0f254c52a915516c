theorem n_L_7 : m_nf RL 7 11 17 := ⟨_, _, cf11, ⟨m_inG 117 (by decide +kernel) rfl, m_inG 118 (by decide +kernel) rfl, m_inG 95 (by decide +kernel) rfl⟩, by decide +kernel⟩
theorem n_L_10 : m_nf RL 10 12 63 := ⟨_, _, cf12, ⟨m_inG 1190 (by decide +kernel) rfl, m_inG 1191 (by decide +kernel) rfl, m_inG 109 (by decide +kernel) rfl⟩, by decide +kernel⟩
theorem il_L_9 : Cond.methodLink RL 9 yX11_init ∈ m_G := m_inG 119 (by decide +kernel) rfl
theorem il_L_12 : Cond.methodLink RL 12 yX12_init ∈ m_G := m_inG 1192 (by decide +kernel) rfl
theorem tk_148 : m_sz (oF.take 148) ≤ 7302249 := by decide +kernel
theorem tk_all : oF.take 148 = oF := List.take_of_length_le (by rw [oF_len]; exact Nat.le_refl _)
theorem tk_bL {n : Nat} (h : n ≤ 148) : m_b (oF.take n) M_law := by
  have a1 := tk_m h
  have a2 := tk_148
  refine ⟨⟨Nat.zero_le _, Nat.zero_le _⟩, ?_, ?_⟩
  · show (oF.take n).length - 0 ≤ 600000; rw [tk_l h]; omega
  · show m_sz (oF.take n) - 0 ≤ 7302249; omega
theorem tk_cL {R' : String} {y' : MethodName} {c' : ByteArray} {mx' f' l' a b : Nat} {ret' : Option FieldType} (hab : a ≤ b) (h2 : b ≤ 148) : m_cr (oF.take a) (oF.take b) M_law (mkM R' y' c' mx' f' l' a b ret') := by
  refine ⟨⟨?_, rfl⟩, ⟨?_, tk_m hab⟩, tk_bL h2⟩
  · show b - a = _; rw [tk_l (by omega), tk_l (by omega)]
  · rw [tk_l (by omega), tk_l (by omega)]; exact hab
theorem g_bt_lt {k : Nat} {q : Nat × (Nat → Int → Prop)} (h : g_bt[k]? = some q) : k < 148 := (List.getElem?_eq_some_iff.mp h).1
set_option maxHeartbeats 4000000 in
set_option maxRecDepth 100000 in
theorem lk_start {L : Nat} {xs : Nat → Int32} (hL : L ≤ 3072) (h : m_H) : m_Y (xL L xs) (oF.take 0) M_law 0 [some (mO 41), none, none, none] [] h Ql := by
  refine y_new (M := M_law) 0 dL_law_0 n_L_7 (tk_s o_0) (tk_l (by decide)) (tk_bL (by decide)) (fun h1 E1 => ?_)
  refine y_dup (M := M_law) 3 dL_law_3 rfl ?_
  refine y_callI (M := M_law) 4 dL_law_4 t_X11_init il_L_9 (m_rr_of rfl) xL_A (as := []) (rest := [mR 0]) (c_X11_init_1 h1) rfl rfl (Nat.le_of_ble_eq_true rfl) (tk_cL (by decide) (by decide)) (fun r h2 q => ?_)
  obtain ⟨rfl, G2, -, e2, k0, k1, l7, l8, l9, d1, w15, w16, ak, ac, aw, tz⟩ := q
  refine y_astore_n (M := M_law) 7 dL_law_7 (ls' := [some (mO 41), some (mR 0), none, none]) (by decide) rfl ?_
  refine y_new (M := M_law) 8 dL_law_8 n_L_10 (tk_s o_108) (tk_l (by decide)) (tk_bL (by decide)) (fun h3 E3 => ?_)
  refine y_dup (M := M_law) 11 dL_law_11 rfl ?_
  refine y_callI (M := M_law) 12 dL_law_12 t_X12_init il_L_12 (m_rr_of rfl) xL_A (as := []) (rest := [mR 108]) (c_X12_init_109 h3 ((m_nw_at E3 6).trans rfl) ((m_nw_at E3 8).trans rfl) ((m_nw_at E3 9).trans rfl) ((m_nw_at E3 10).trans rfl) ((m_nw_at E3 11).trans rfl) ((m_nw_at E3 14).trans rfl) ((m_nw_at E3 16).trans rfl) ((m_nw_at E3 17).trans rfl) ((m_nw_at E3 18).trans rfl) ((m_nw_at E3 21).trans rfl) ((m_nw_at E3 44).trans rfl) ((m_nw_at E3 45).trans rfl) ((m_nw_at E3 46).trans rfl) ((m_nw_at E3 47).trans rfl) ((m_nw_at E3 54).trans rfl) ((m_nw_at E3 55).trans rfl) ((m_nw_at E3 58).trans rfl) ((m_nw_at E3 60).trans rfl) ((m_nw_at E3 61).trans rfl) ((m_nw_at E3 62).trans rfl)) rfl rfl (Nat.le_of_ble_eq_true rfl) (tk_cL (by decide) (by decide)) (fun r h4 q => ?_)
  obtain ⟨rfl, G4, F4, e8, e110, e112, e112', d60, b6, b13, mrow, mz⟩ := q
  have G3 : gR 0 148 h4 := ((G2.nw E3 (by decide)).fr F4 (by decide)).join G4
  have d105 : h4 105 1 = 0 := by rw [F4 105 (by decide)]; exact nw_u E3 (by decide) d1
  have e35 : h4 35 1 = 0 := by rw [F4 35 (by decide)]; exact nw_u E3 (by decide) e2
  refine y_astore_n (M := M_law) 15 dL_law_15 (ls' := [some (mO 41), some (mR 0), some (mR 108), none]) (by decide) rfl ?_
  rw [tk_all]
  refine y_iconst (M := M_law) 16 dL_law_16 ?_
  refine y_istore_n (M := M_law) 17 dL_law_17 (ls' := [some (mO 41), some (mR 0), some (mR 108), some (mI 0)]) (by decide) rfl ?_
  refine lk_loop hL (L + 6) 0 h4 (by omega) (by omega) (by omega) ⟨⟨fun k q hq j hj => G3 k (Nat.zero_le _) (g_bt_lt hq) q hq j hj, fun k hk hne => ?_⟩, ⟨fun e he => ?_, fun k hk hne => ?_⟩, by omega, ⟨fun k hk => ?_, LR_0 mrow (fun j hj => by rw [F4 2 (by decide)]; exact nw_u E3 (by decide) (ak j hj)) (fun j hj => by rw [F4 3 (by decide)]; exact nw_u E3 (by decide) (ac j hj)) (fun j hj => by rw [F4 8 (by decide)]; exact nw_u E3 (by decide) (aw j hj)) (by rw [F4 1 (by decide)]; exact nw_u E3 (by decide) l7) (by rw [F4 1 (by decide)]; exact nw_u E3 (by decide) l8) (by rw [F4 1 (by decide)]; exact nw_u E3 (by decide) l9), fun k hk hn => ?_, ((F4 36 (by decide)).trans ((m_nw_ne E3 (by decide)).trans tz)).trans mz.symm, (show h4 0 15 = 0 from by rw [F4 0 (by decide)]; exact nw_u E3 (by decide) w15).trans b6.symm, (show h4 0 16 = -1 from by rw [F4 0 (by decide)]; exact nw_u E3 (by decide) w16).trans b13.symm⟩, d105.trans d60.symm, fun q => absurd d105 q⟩
  · have : k = 0 ∨ k = 1 := by omega
    rcases this with rfl | rfl
    · exact absurd e112 hne
    · exact absurd e112' hne
  · omega
  · have : k = 0 ∨ k = 1 := by omega
    rcases this with rfl | rfl
    · exact absurd e112 hne
    · exact absurd e112' hne
  · have : k = 0 ∨ k = 1 := by omega
    rcases this with rfl | rfl
    · rw [e112, F4 34 (by decide)]; exact nw_u E3 (by decide) k0
    · rw [e112', F4 34 (by decide)]; exact nw_u E3 (by decide) k1
  · exfalso
    have : k = 0 ∨ k = 1 := by omega
    rcases this with rfl | rfl
    · exact hn (by rw [F4 34 (by decide)]; exact nw_u E3 (by decide) k0)
    · exact hn (by rw [F4 34 (by decide)]; exact nw_u E3 (by decide) k1)
