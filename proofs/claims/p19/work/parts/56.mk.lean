theorem t_X12_init {n0 n1 f l : Nat} : m_mI (mkM RX12 yX12_init cX12_init 2 f l n0 n1 none) 0 := ⟨⟨(m_inG 1193 (by decide +kernel) rfl : Cond.instanceMethod yX12_init ∈ m_G), rfl, rfl⟩, ⟨(m_inG 109 (by decide +kernel) rfl : Cond.initialized RX12 ∈ m_G), (m_inG 1194 (by decide +kernel) rfl : Cond.code yX12_init cX12_init 2 none ∈ m_G)⟩, ⟨(by decide +kernel : RX12 ≠ "java/lang/invoke/MethodHandle"), (by decide +kernel : RX12 ≠ "java/lang/invoke/VarHandle"), (by decide +kernel : (parseMethodDescriptor yX12_init.desc).map (fun d => d.parameters.length) = some 0)⟩⟩
theorem ol_X12 : Cond.methodLink RX12 1 Lib.objectInit ∈ m_G := m_inG 1195 (by decide +kernel) rfl
theorem bt_109 : g_bt[109]? = some (7, g_p109) := rfl
theorem ff_X12_7 : m_ff RX12 7 12 63 2 := ⟨_, _, cf12, by decide, m_inG 1198 (by decide +kernel) rfl, rfl, rfl⟩
theorem ff_X12_13 : m_ff RX12 13 12 63 3 := ⟨_, _, cf12, by decide, m_inG 1199 (by decide +kernel) rfl, rfl, rfl⟩
theorem bt_111 : g_bt[111]? = some (400, g_p111) := rfl
theorem ff_X12_16 : m_ff RX12 16 12 63 4 := ⟨_, _, cf12, by decide, m_inG 1200 (by decide +kernel) rfl, rfl, rfl⟩
theorem bt_112 : g_bt[112]? = some (2, g_p112) := rfl
theorem ff_X12_19 : m_ff RX12 19 12 63 5 := ⟨_, _, cf12, by decide, m_inG 1201 (by decide +kernel) rfl, rfl, rfl⟩
theorem bt_113 : g_bt[113]? = some (400, g_p113) := rfl
theorem ff_X12_23 : m_ff RX12 23 12 63 7 := ⟨_, _, cf12, by decide, m_inG 1203 (by decide +kernel) rfl, rfl, rfl⟩
theorem bt_114 : g_bt[114]? = some (1000, g_p114) := rfl
theorem ff_X12_30 : m_ff RX12 30 12 63 15 := ⟨_, _, cf12, by decide, m_inG 1211 (by decide +kernel) rfl, rfl, rfl⟩
theorem bt_115 : g_bt[115]? = some (10, g_p115) := rfl
theorem ff_X12_33 : m_ff RX12 33 12 63 19 := ⟨_, _, cf12, by decide, m_inG 1215 (by decide +kernel) rfl, rfl, rfl⟩
theorem bt_116 : g_bt[116]? = some (10, g_p116) := rfl
theorem ff_X12_37 : m_ff RX12 37 12 63 20 := ⟨_, _, cf12, by decide, m_inG 1216 (by decide +kernel) rfl, rfl, rfl⟩
theorem bt_117 : g_bt[117]? = some (60, g_p117) := rfl
theorem ff_X12_40 : m_ff RX12 40 12 63 22 := ⟨_, _, cf12, by decide, m_inG 1218 (by decide +kernel) rfl, rfl, rfl⟩
theorem bt_118 : g_bt[118]? = some (60, g_p118) := rfl
theorem ff_X12_43 : m_ff RX12 43 12 63 23 := ⟨_, _, cf12, by decide, m_inG 1219 (by decide +kernel) rfl, rfl, rfl⟩
theorem bt_119 : g_bt[119]? = some (60, g_p119) := rfl
theorem ff_X12_46 : m_ff RX12 46 12 63 24 := ⟨_, _, cf12, by decide, m_inG 1220 (by decide +kernel) rfl, rfl, rfl⟩
theorem bt_120 : g_bt[120]? = some (60, g_p120) := rfl
theorem ff_X12_49 : m_ff RX12 49 12 63 25 := ⟨_, _, cf12, by decide, m_inG 1221 (by decide +kernel) rfl, rfl, rfl⟩
theorem bt_121 : g_bt[121]? = some (60, g_p121) := rfl
theorem ff_X12_52 : m_ff RX12 52 12 63 26 := ⟨_, _, cf12, by decide, m_inG 1222 (by decide +kernel) rfl, rfl, rfl⟩
theorem bt_122 : g_bt[122]? = some (32, g_p122) := rfl
theorem ff_X12_55 : m_ff RX12 55 12 63 27 := ⟨_, _, cf12, by decide, m_inG 1223 (by decide +kernel) rfl, rfl, rfl⟩
theorem bt_123 : g_bt[123]? = some (6, g_p123) := rfl
theorem ff_X12_58 : m_ff RX12 58 12 63 28 := ⟨_, _, cf12, by decide, m_inG 1224 (by decide +kernel) rfl, rfl, rfl⟩
theorem bt_124 : g_bt[124]? = some (80, g_p124) := rfl
theorem ff_X12_61 : m_ff RX12 61 12 63 29 := ⟨_, _, cf12, by decide, m_inG 1225 (by decide +kernel) rfl, rfl, rfl⟩
theorem bt_125 : g_bt[125]? = some (80, g_p125) := rfl
theorem ff_X12_64 : m_ff RX12 64 12 63 30 := ⟨_, _, cf12, by decide, m_inG 1226 (by decide +kernel) rfl, rfl, rfl⟩
theorem bt_126 : g_bt[126]? = some (16, g_p126) := rfl
theorem ff_X12_67 : m_ff RX12 67 12 63 31 := ⟨_, _, cf12, by decide, m_inG 1227 (by decide +kernel) rfl, rfl, rfl⟩
theorem bt_127 : g_bt[127]? = some (16, g_p127) := rfl
theorem ff_X12_70 : m_ff RX12 70 12 63 32 := ⟨_, _, cf12, by decide, m_inG 1228 (by decide +kernel) rfl, rfl, rfl⟩
theorem bt_128 : g_bt[128]? = some (80, g_p128) := rfl
theorem ff_X12_73 : m_ff RX12 73 12 63 33 := ⟨_, _, cf12, by decide, m_inG 1229 (by decide +kernel) rfl, rfl, rfl⟩
theorem bt_129 : g_bt[129]? = some (80, g_p129) := rfl
theorem ff_X12_76 : m_ff RX12 76 12 63 34 := ⟨_, _, cf12, by decide, m_inG 1230 (by decide +kernel) rfl, rfl, rfl⟩
theorem bt_130 : g_bt[130]? = some (16, g_p130) := rfl
theorem ff_X12_79 : m_ff RX12 79 12 63 35 := ⟨_, _, cf12, by decide, m_inG 1231 (by decide +kernel) rfl, rfl, rfl⟩
theorem bt_131 : g_bt[131]? = some (16, g_p131) := rfl
theorem ff_X12_82 : m_ff RX12 82 12 63 36 := ⟨_, _, cf12, by decide, m_inG 1232 (by decide +kernel) rfl, rfl, rfl⟩
theorem bt_132 : g_bt[132]? = some (5, g_p132) := rfl
theorem ff_X12_85 : m_ff RX12 85 12 63 37 := ⟨_, _, cf12, by decide, m_inG 1233 (by decide +kernel) rfl, rfl, rfl⟩
theorem bt_133 : g_bt[133]? = some (5, g_p133) := rfl
theorem ff_X12_88 : m_ff RX12 88 12 63 38 := ⟨_, _, cf12, by decide, m_inG 1234 (by decide +kernel) rfl, rfl, rfl⟩
theorem bt_134 : g_bt[134]? = some (256, g_p134) := rfl
theorem ff_X12_91 : m_ff RX12 91 12 63 39 := ⟨_, _, cf12, by decide, m_inG 1235 (by decide +kernel) rfl, rfl, rfl⟩
theorem bt_135 : g_bt[135]? = some (10, g_p135) := rfl
theorem ff_X12_94 : m_ff RX12 94 12 63 40 := ⟨_, _, cf12, by decide, m_inG 1236 (by decide +kernel) rfl, rfl, rfl⟩
theorem bt_136 : g_bt[136]? = some (10, g_p136) := rfl
theorem ff_X12_97 : m_ff RX12 97 12 63 41 := ⟨_, _, cf12, by decide, m_inG 1237 (by decide +kernel) rfl, rfl, rfl⟩
theorem bt_137 : g_bt[137]? = some (5, g_p137) := rfl
theorem ff_X12_100 : m_ff RX12 100 12 63 42 := ⟨_, _, cf12, by decide, m_inG 1238 (by decide +kernel) rfl, rfl, rfl⟩
theorem bt_138 : g_bt[138]? = some (20, g_p138) := rfl
theorem ff_X12_103 : m_ff RX12 103 12 63 43 := ⟨_, _, cf12, by decide, m_inG 1239 (by decide +kernel) rfl, rfl, rfl⟩
theorem bt_139 : g_bt[139]? = some (10, g_p139) := rfl
theorem ff_X12_106 : m_ff RX12 106 12 63 48 := ⟨_, _, cf12, by decide, m_inG 1244 (by decide +kernel) rfl, rfl, rfl⟩
theorem bt_140 : g_bt[140]? = some (10, g_p140) := rfl
theorem ff_X12_109 : m_ff RX12 109 12 63 49 := ⟨_, _, cf12, by decide, m_inG 1245 (by decide +kernel) rfl, rfl, rfl⟩
theorem bt_141 : g_bt[141]? = some (10, g_p141) := rfl
theorem ff_X12_112 : m_ff RX12 112 12 63 50 := ⟨_, _, cf12, by decide, m_inG 1246 (by decide +kernel) rfl, rfl, rfl⟩
theorem bt_142 : g_bt[142]? = some (10, g_p142) := rfl
theorem ff_X12_115 : m_ff RX12 115 12 63 51 := ⟨_, _, cf12, by decide, m_inG 1247 (by decide +kernel) rfl, rfl, rfl⟩
theorem bt_143 : g_bt[143]? = some (3, g_p143) := rfl
theorem ff_X12_118 : m_ff RX12 118 12 63 52 := ⟨_, _, cf12, by decide, m_inG 1248 (by decide +kernel) rfl, rfl, rfl⟩
theorem bt_144 : g_bt[144]? = some (3, g_p144) := rfl
theorem ff_X12_121 : m_ff RX12 121 12 63 53 := ⟨_, _, cf12, by decide, m_inG 1249 (by decide +kernel) rfl, rfl, rfl⟩
theorem bt_145 : g_bt[145]? = some (16, g_p145) := rfl
theorem ff_X12_124 : m_ff RX12 124 12 63 56 := ⟨_, _, cf12, by decide, m_inG 1252 (by decide +kernel) rfl, rfl, rfl⟩
theorem bt_146 : g_bt[146]? = some (3, g_p146) := rfl
theorem ff_X12_127 : m_ff RX12 127 12 63 57 := ⟨_, _, cf12, by decide, m_inG 1253 (by decide +kernel) rfl, rfl, rfl⟩
theorem bt_147 : g_bt[147]? = some (32, g_p147) := rfl
theorem ff_X12_130 : m_ff RX12 130 12 63 59 := ⟨_, _, cf12, by decide, m_inG 1255 (by decide +kernel) rfl, rfl, rfl⟩
theorem bt_108 : g_bt[108]? = some (63, g_p108) := rfl
abbrev M_mi : m_M := mkM RX12 yX12_init cX12_init 2 1 20 109 148 none
def sl (L : List (Nat × Int)) (f : Nat → Int) : Prop := ∀ p ∈ L, f p.1 = p.2
theorem sl_nil {f : Nat → Int} : sl [] f := fun p hp => by cases hp
theorem sl_c {L : List (Nat × Int)} {f : Nat → Int} {j : Nat} {v : Int} (e : f j = v) (s : sl L f) : sl ((j, v) :: L) f := fun p hp => by
  rcases List.mem_cons.mp hp with rfl | q
  · exact e
  · exact s p q
theorem sl_up {L : List (Nat × Int)} {h h' : m_H} {c j : Nat} {v : Int} (s : sl L (h c)) (E : h' = m_up h c j v) (hj : L.all (fun p => p.1 != j) = true) : sl L (h' c) := fun p hp => by
  have h1 := List.all_eq_true.mp hj p hp
  rw [upN E (fun z => by rw [z.2] at h1; simp at h1)]
  exact s p hp
theorem sl_same {L : List (Nat × Int)} {f f' : Nat → Int} (s : sl L f) (e : f' = f) : sl L f' := by rw [e]; exact s
theorem sl_g {L : List (Nat × Int)} {f : Nat → Int} (s : sl L f) (j : Nat) (v : Int) (hm : (j, v) ∈ L) : f j = v := s (j, v) hm
def rwF (a b c : Nat) (j : Nat) : Int := if 10 ≤ j ∧ j < 10 + a then -1 else if 42 ≤ j ∧ j < 42 + b then -1 else if 60 ≤ j ∧ j < 60 + c then 100 else 0
def rwI (hs : m_H) (a b c : Nat) (h : m_H) : Prop := (∀ k, k ≠ 110 → h k = hs k) ∧ ∀ j, h 110 j = rwF a b c j
theorem rwI_1 {hs h : m_H} {b c : Nat} {i : Int} (h0 : 0 ≤ i) (h1 : i < 32) (I : rwI hs i.toNat b c h) : rwI hs (i + 1).toNat b c (m_up h 110 (10 + i).toNat (-1)) := by
  refine ⟨fun k hk => (m_up_row hk).trans (I.1 k hk), fun j => ?_⟩
  have n1 : (i + 1).toNat = i.toNat + 1 := by omega
  have n2 : (10 + i).toNat = 10 + i.toNat := by omega
  rw [n1, n2]
  by_cases e : j = 10 + i.toNat
  · rw [e, m_up_eq]; unfold rwF; rw [if_pos (by omega)]
  · rw [m_up_ne (fun z => e z.2), I.2]; unfold rwF
    by_cases q : 10 ≤ j ∧ j < 10 + i.toNat
    · rw [if_pos q, if_pos (show 10 ≤ j ∧ j < 10 + (i.toNat + 1) by omega)]
    · rw [if_neg q, if_neg (show ¬ (10 ≤ j ∧ j < 10 + (i.toNat + 1)) by omega)]
theorem rwI_2 {hs h : m_H} {c : Nat} {i : Int} (h0 : 0 ≤ i) (h1 : i < 6) (I : rwI hs 32 i.toNat c h) : rwI hs 32 (i + 1).toNat c (m_up h 110 (42 + i).toNat (-1)) := by
  refine ⟨fun k hk => (m_up_row hk).trans (I.1 k hk), fun j => ?_⟩
  have n1 : (i + 1).toNat = i.toNat + 1 := by omega
  have n2 : (42 + i).toNat = 42 + i.toNat := by omega
  rw [n1, n2]
  by_cases e : j = 42 + i.toNat
  · rw [e, m_up_eq]; unfold rwF; rw [if_neg (by omega), if_pos (by omega)]
  · rw [m_up_ne (fun z => e z.2), I.2]; unfold rwF
    by_cases q0 : 10 ≤ j ∧ j < 10 + 32
    · rw [if_pos q0, if_pos q0]
    · rw [if_neg q0, if_neg q0]
      by_cases q : 42 ≤ j ∧ j < 42 + i.toNat
      · rw [if_pos q, if_pos (show 42 ≤ j ∧ j < 42 + (i.toNat + 1) by omega)]
      · rw [if_neg q, if_neg (show ¬ (42 ≤ j ∧ j < 42 + (i.toNat + 1)) by omega)]
theorem rwI_3 {hs h : m_H} {i : Int} (h0 : 0 ≤ i) (h1 : i < 16) (I : rwI hs 32 6 i.toNat h) : rwI hs 32 6 (i + 1).toNat (m_up h 110 (60 + i).toNat 100) := by
  refine ⟨fun k hk => (m_up_row hk).trans (I.1 k hk), fun j => ?_⟩
  have n1 : (i + 1).toNat = i.toNat + 1 := by omega
  have n2 : (60 + i).toNat = 60 + i.toNat := by omega
  rw [n1, n2]
  by_cases e : j = 60 + i.toNat
  · rw [e, m_up_eq]; unfold rwF; rw [if_neg (by omega), if_neg (by omega), if_pos (by omega)]
  · rw [m_up_ne (fun z => e z.2), I.2]; unfold rwF
    by_cases q0 : 10 ≤ j ∧ j < 10 + 32
    · rw [if_pos q0, if_pos q0]
    · rw [if_neg q0, if_neg q0]
      by_cases q1 : 42 ≤ j ∧ j < 42 + 6
      · rw [if_pos q1, if_pos q1]
      · rw [if_neg q1, if_neg q1]
        by_cases q : 60 ≤ j ∧ j < 60 + i.toNat
        · rw [if_pos q, if_pos (show 60 ≤ j ∧ j < 60 + (i.toNat + 1) by omega)]
        · rw [if_neg q, if_neg (show ¬ (60 ≤ j ∧ j < 60 + (i.toNat + 1)) by omega)]
theorem mi_1 {hs : m_H} {Q : m_W → Option m_V → m_H → Prop} (e3 : hs 108 3 = ((110 : Nat) : Int)) (K : ∀ h, rwI hs 32 0 0 h → m_Y (xI "<init>") (oF.take 148) M_mi 363 [some (mR 108), some (mI 32)] [] h Q) : ∀ (n : Nat) (i : Int) (h : m_H), 0 ≤ i → i ≤ 32 → 32 - i ≤ n → rwI hs i.toNat 0 0 h → m_Y (xI "<init>") (oF.take 148) M_mi 341 [some (mR 108), some (mI i)] [] h Q
  | n, i, h, h1, h2, hn, I => by
    refine y_iload_n (M := M_mi) 341 dX12_init_341 rfl ?_
    refine y_bipush (M := M_mi) 342 dX12_init_342 ?_
    refine y_icmp_ge (M := M_mi) 344 dX12_init_344 363 rfl (fun q => ?_) (fun q => ?_)
    · have e : i = 32 := by omega
      subst e
      exact K h I
    · match n, hn with
      | 0, hn => omega
      | n + 1, hn =>
        refine y_aload_n (M := M_mi) 347 dX12_init_347 rfl ?_
        refine y_getR (M := M_mi) 348 dX12_init_348 f_X12_13 (tk_g (by decide) o_108) rfl (t := 110) (by rw [I.1 108 (by decide)]; exact e3) ?_
        refine y_bipush (M := M_mi) 351 dX12_init_351 ?_
        refine y_iload_n (M := M_mi) 353 dX12_init_353 rfl ?_
        refine y_iaddN (M := M_mi) 354 dX12_init_354 (by omega) (by omega) ?_
        refine y_iconst (M := M_mi) 355 dX12_init_355 ?_
        refine y_iast (M := M_mi) 356 dX12_init_356 (tk_g (by decide) o_110) (by omega) (by omega) ?_
        refine y_iincN (M := M_mi) 357 dX12_init_357 (ls' := [some (mR 108), some (mI (i + 1))]) (by decide) rfl (by (unfold m_32; decide)) (by omega) (by omega) rfl ?_
        refine y_goto (M := M_mi) 360 dX12_init_360 341 rfl ?_
        exact mi_1 e3 K n (i + 1) _ (by omega) (by omega) (by omega) (rwI_1 (by omega) (by omega) I)
theorem mi_2 {hs : m_H} {Q : m_W → Option m_V → m_H → Prop} (e3 : hs 108 3 = ((110 : Nat) : Int)) (K : ∀ h, rwI hs 32 6 0 h → m_Y (xI "<init>") (oF.take 148) M_mi 387 [some (mR 108), some (mI 6)] [] h Q) : ∀ (n : Nat) (i : Int) (h : m_H), 0 ≤ i → i ≤ 6 → 6 - i ≤ n → rwI hs 32 i.toNat 0 h → m_Y (xI "<init>") (oF.take 148) M_mi 365 [some (mR 108), some (mI i)] [] h Q
  | n, i, h, h1, h2, hn, I => by
    refine y_iload_n (M := M_mi) 365 dX12_init_365 rfl ?_
    refine y_bipush (M := M_mi) 366 dX12_init_366 ?_
    refine y_icmp_ge (M := M_mi) 368 dX12_init_368 387 rfl (fun q => ?_) (fun q => ?_)
    · have e : i = 6 := by omega
      subst e
      exact K h I
    · match n, hn with
      | 0, hn => omega
      | n + 1, hn =>
        refine y_aload_n (M := M_mi) 371 dX12_init_371 rfl ?_
        refine y_getR (M := M_mi) 372 dX12_init_372 f_X12_13 (tk_g (by decide) o_108) rfl (t := 110) (by rw [I.1 108 (by decide)]; exact e3) ?_
        refine y_bipush (M := M_mi) 375 dX12_init_375 ?_
        refine y_iload_n (M := M_mi) 377 dX12_init_377 rfl ?_
        refine y_iaddN (M := M_mi) 378 dX12_init_378 (by omega) (by omega) ?_
        refine y_iconst (M := M_mi) 379 dX12_init_379 ?_
        refine y_iast (M := M_mi) 380 dX12_init_380 (tk_g (by decide) o_110) (by omega) (by omega) ?_
        refine y_iincN (M := M_mi) 381 dX12_init_381 (ls' := [some (mR 108), some (mI (i + 1))]) (by decide) rfl (by (unfold m_32; decide)) (by omega) (by omega) rfl ?_
        refine y_goto (M := M_mi) 384 dX12_init_384 365 rfl ?_
        exact mi_2 e3 K n (i + 1) _ (by omega) (by omega) (by omega) (rwI_2 (by omega) (by omega) I)
theorem mi_3 {hs : m_H} {Q : m_W → Option m_V → m_H → Prop} (e3 : hs 108 3 = ((110 : Nat) : Int)) (K : ∀ h, rwI hs 32 6 16 h → m_Y (xI "<init>") (oF.take 148) M_mi 412 [some (mR 108), some (mI 16)] [] h Q) : ∀ (n : Nat) (i : Int) (h : m_H), 0 ≤ i → i ≤ 16 → 16 - i ≤ n → rwI hs 32 6 i.toNat h → m_Y (xI "<init>") (oF.take 148) M_mi 389 [some (mR 108), some (mI i)] [] h Q
  | n, i, h, h1, h2, hn, I => by
    refine y_iload_n (M := M_mi) 389 dX12_init_389 rfl ?_
    refine y_bipush (M := M_mi) 390 dX12_init_390 ?_
    refine y_icmp_ge (M := M_mi) 392 dX12_init_392 412 rfl (fun q => ?_) (fun q => ?_)
    · have e : i = 16 := by omega
      subst e
      exact K h I
    · match n, hn with
      | 0, hn => omega
      | n + 1, hn =>
        refine y_aload_n (M := M_mi) 395 dX12_init_395 rfl ?_
        refine y_getR (M := M_mi) 396 dX12_init_396 f_X12_13 (tk_g (by decide) o_108) rfl (t := 110) (by rw [I.1 108 (by decide)]; exact e3) ?_
        refine y_bipush (M := M_mi) 399 dX12_init_399 ?_
        refine y_iload_n (M := M_mi) 401 dX12_init_401 rfl ?_
        refine y_iaddN (M := M_mi) 402 dX12_init_402 (by omega) (by omega) ?_
        refine y_bipush (M := M_mi) 403 dX12_init_403 ?_
        refine y_iast (M := M_mi) 405 dX12_init_405 (tk_g (by decide) o_110) (by omega) (by omega) ?_
        refine y_iincN (M := M_mi) 406 dX12_init_406 (ls' := [some (mR 108), some (mI (i + 1))]) (by decide) rfl (by (unfold m_32; decide)) (by omega) (by omega) rfl ?_
        refine y_goto (M := M_mi) 409 dX12_init_409 389 rfl ?_
        exact mi_3 e3 K n (i + 1) _ (by omega) (by omega) (by omega) (rwI_3 (by omega) (by omega) I)
theorem rwF_0 (j : Nat) : rwF (0 : Int).toNat 0 0 j = 0 := by
  show rwF 0 0 0 j = 0
  unfold rwF
  rw [if_neg (by omega), if_neg (by omega), if_neg (by omega)]
theorem rw_all : ∀ j, j < 200 → r_lo j ≤ rwF 32 6 16 j ∧ rwF 32 6 16 j ≤ r_hi j := by decide +kernel
theorem rw_ok {f : Nat → Int} (H : ∀ j, f j = rwF 32 6 16 j) : gC 110 f := by
  refine gC_of (n := 200) (P := g_p110) rfl (fun j hj => ?_)
  show r_lo j ≤ f j ∧ f j ≤ r_hi j
  rw [H]
  exact rw_all j hj
