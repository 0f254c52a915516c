theorem ow2 : Cond.instanceMethod Lib.objectInit ∈ m_G := m_inG 123 (by decide +kernel) rfl
theorem ow3 : Cond.code Lib.objectInit ⟨#[0xb1]⟩ 1 none ∈ m_G := m_inG 124 (by decide +kernel) rfl
theorem acI : Cond.arrayClass .int ∈ m_G := m_inG 188 (by decide +kernel) rfl
theorem acJ : Cond.arrayClass .long ∈ m_G := m_inG 324 (by decide +kernel) rfl
theorem acZ : Cond.arrayClass .boolean ∈ m_G := m_inG 207 (by decide +kernel) rfl
theorem nwI {h h' : m_H} {n N : Nat} (E : h' = m_nw h n (0, N)) (j : Nat) : h' n j = 0 := by rw [m_nw_at E]; rfl
theorem nwJ {h h' : m_H} {n N : Nat} (E : h' = m_nw h n (1, N)) (j : Nat) : h' n j = 0 := by rw [m_nw_at E]; rfl
theorem nwZ {h h' : m_H} {n N : Nat} (E : h' = m_nw h n (2, N)) (j : Nat) : h' n j = 0 := by rw [m_nw_at E]; rfl
theorem bn_ok {h h' : m_H} {n : Nat} (E : h' = m_nw h n (2 + 5, 3)) (o : isB n) : gC n (h' n) := by
  refine gC_of (bB_all n o) (fun j hj => ?_)
  have q : j = 0 ∨ j = 1 ∨ j = 2 := by omega
  rcases q with rfl | rfl | rfl
  · exact trivial
  · exact trivial
  · show 0 ≤ h' n 2 ∧ h' n 2 ≤ 1
    rw [m_nw_at E]; decide
theorem rfp_o {C : String} : ∀ q : Nat, narrow (.object C) (.ref q) = .ref q ∧ fits (.object C) (.ref q) = true := fun _ => ⟨rfl, rfl⟩
theorem rfp_a {t : FieldType} : ∀ q : Nat, narrow (.array t) (.ref q) = .ref q ∧ fits (.array t) (.ref q) = true := fun _ => ⟨rfl, rfl⟩
theorem t_X11_init {n0 n1 f l : Nat} : m_mI (mkM RX11 yX11_init cX11_init 2 f l n0 n1 none) 0 := ⟨⟨(m_inG 120 (by decide +kernel) rfl : Cond.instanceMethod yX11_init ∈ m_G), rfl, rfl⟩, ⟨(m_inG 95 (by decide +kernel) rfl : Cond.initialized RX11 ∈ m_G), (m_inG 121 (by decide +kernel) rfl : Cond.code yX11_init cX11_init 2 none ∈ m_G)⟩, ⟨(by decide +kernel : RX11 ≠ "java/lang/invoke/MethodHandle"), (by decide +kernel : RX11 ≠ "java/lang/invoke/VarHandle"), (by decide +kernel : (parseMethodDescriptor yX11_init.desc).map (fun d => d.parameters.length) = some 0)⟩⟩
theorem ol_X11 : Cond.methodLink RX11 3 Lib.objectInit ∈ m_G := m_inG 122 (by decide +kernel) rfl
theorem n_X11_9 : m_nf RX11 9 4 10 := ⟨_, _, cf4, ⟨m_inG 125 (by decide +kernel) rfl, m_inG 126 (by decide +kernel) rfl, m_inG 96 (by decide +kernel) rfl⟩, by decide +kernel⟩
theorem t_X4_init {n0 n1 f l : Nat} : m_mI (mkM RX4 yX4_init cX4_init 1 f l n0 n1 none) 0 := ⟨⟨(m_inG 128 (by decide +kernel) rfl : Cond.instanceMethod yX4_init ∈ m_G), rfl, rfl⟩, ⟨(m_inG 96 (by decide +kernel) rfl : Cond.initialized RX4 ∈ m_G), (m_inG 129 (by decide +kernel) rfl : Cond.code yX4_init cX4_init 1 none ∈ m_G)⟩, ⟨(by decide +kernel : RX4 ≠ "java/lang/invoke/MethodHandle"), (by decide +kernel : RX4 ≠ "java/lang/invoke/VarHandle"), (by decide +kernel : (parseMethodDescriptor yX4_init.desc).map (fun d => d.parameters.length) = some 0)⟩⟩
theorem ol_X4 : Cond.methodLink RX4 3 Lib.objectInit ∈ m_G := m_inG 130 (by decide +kernel) rfl
theorem bt_2 : g_bt[2]? = some (32, g_p2) := rfl
theorem ff_X4_9 : m_ff RX4 9 4 10 0 := ⟨_, _, cf4, by decide, m_inG 134 (by decide +kernel) rfl, rfl, rfl⟩
theorem bt_3 : g_bt[3]? = some (6, g_p3) := rfl
theorem ff_X4_15 : m_ff RX4 15 4 10 1 := ⟨_, _, cf4, by decide, m_inG 138 (by decide +kernel) rfl, rfl, rfl⟩
theorem bt_4 : g_bt[4]? = some (24, g_p4) := rfl
theorem ff_X4_18 : m_ff RX4 18 4 10 2 := ⟨_, _, cf4, by decide, m_inG 143 (by decide +kernel) rfl, rfl, rfl⟩
theorem bt_5 : g_bt[5]? = some (24, g_p5) := rfl
theorem ff_X4_21 : m_ff RX4 21 4 10 3 := ⟨_, _, cf4, by decide, m_inG 145 (by decide +kernel) rfl, rfl, rfl⟩
theorem bt_6 : g_bt[6]? = some (24, g_p6) := rfl
theorem ff_X4_24 : m_ff RX4 24 4 10 4 := ⟨_, _, cf4, by decide, m_inG 148 (by decide +kernel) rfl, rfl, rfl⟩
theorem bt_7 : g_bt[7]? = some (24, g_p7) := rfl
theorem ff_X4_27 : m_ff RX4 27 4 10 5 := ⟨_, _, cf4, by decide, m_inG 150 (by decide +kernel) rfl, rfl, rfl⟩
theorem ff_X4_30 : m_ff RX4 30 4 10 6 := ⟨_, _, cf4, by decide, m_inG 153 (by decide +kernel) rfl, rfl, rfl⟩
theorem bt_8 : g_bt[8]? = some (16, g_p8) := rfl
theorem bt_1 : g_bt[1]? = some (10, g_p1) := rfl
theorem il_X11_11 : Cond.methodLink RX11 11 yX4_init ∈ m_G := m_inG 127 (by decide +kernel) rfl
theorem ff_X11_12 : m_ff RX11 12 11 17 0 := ⟨_, _, cf11, by decide, m_inG 403 (by decide +kernel) rfl, rfl, rfl⟩
theorem bt_10 : g_bt[10]? = some (32, g_p10) := rfl
theorem bt_11 : g_bt[11]? = some (6, g_p11) := rfl
theorem bt_12 : g_bt[12]? = some (24, g_p12) := rfl
theorem bt_13 : g_bt[13]? = some (24, g_p13) := rfl
theorem bt_14 : g_bt[14]? = some (24, g_p14) := rfl
theorem bt_15 : g_bt[15]? = some (24, g_p15) := rfl
theorem bt_16 : g_bt[16]? = some (16, g_p16) := rfl
theorem bt_9 : g_bt[9]? = some (10, g_p9) := rfl
theorem ff_X11_16 : m_ff RX11 16 11 17 1 := ⟨_, _, cf11, by decide, m_inG 404 (by decide +kernel) rfl, rfl, rfl⟩
theorem cl_X11_9 : Cond.classLink RX11 9 "WeekFoot$Ledger" ∈ m_G := m_inG 125 (by decide +kernel) rfl
theorem ff_X11_19 : m_ff RX11 19 11 17 2 := ⟨_, _, cf11, by decide, m_inG 405 (by decide +kernel) rfl, rfl, rfl⟩
theorem bt_19 : g_bt[19]? = some (32, g_p19) := rfl
theorem bt_20 : g_bt[20]? = some (6, g_p20) := rfl
theorem bt_21 : g_bt[21]? = some (24, g_p21) := rfl
theorem bt_22 : g_bt[22]? = some (24, g_p22) := rfl
theorem bt_23 : g_bt[23]? = some (24, g_p23) := rfl
theorem bt_24 : g_bt[24]? = some (24, g_p24) := rfl
theorem bt_25 : g_bt[25]? = some (16, g_p25) := rfl
theorem bt_18 : g_bt[18]? = some (10, g_p18) := rfl
theorem cl_4 : vwCl[4]? = some (RX4, TX4, 10) := rfl
theorem bt_27 : g_bt[27]? = some (32, g_p27) := rfl
theorem bt_28 : g_bt[28]? = some (6, g_p28) := rfl
theorem bt_29 : g_bt[29]? = some (24, g_p29) := rfl
theorem bt_30 : g_bt[30]? = some (24, g_p30) := rfl
theorem bt_31 : g_bt[31]? = some (24, g_p31) := rfl
theorem bt_32 : g_bt[32]? = some (24, g_p32) := rfl
theorem bt_33 : g_bt[33]? = some (16, g_p33) := rfl
theorem bt_26 : g_bt[26]? = some (10, g_p26) := rfl
theorem bt_17 : g_bt[17]? = some (2, g_p17) := rfl
theorem bt_34 : g_bt[34]? = some (2, g_p34) := rfl
theorem ff_X11_23 : m_ff RX11 23 11 17 3 := ⟨_, _, cf11, by decide, m_inG 406 (by decide +kernel) rfl, rfl, rfl⟩
theorem n_X11_27 : m_nf RX11 27 8 2 := ⟨_, _, cf8, ⟨m_inG 190 (by decide +kernel) rfl, m_inG 191 (by decide +kernel) rfl, m_inG 98 (by decide +kernel) rfl⟩, by decide +kernel⟩
theorem t_X8_init {n0 n1 f l : Nat} : m_mI (mkM RX8 yX8_init cX8_init 1 f l n0 n1 none) 0 := ⟨⟨(m_inG 193 (by decide +kernel) rfl : Cond.instanceMethod yX8_init ∈ m_G), rfl, rfl⟩, ⟨(m_inG 98 (by decide +kernel) rfl : Cond.initialized RX8 ∈ m_G), (m_inG 194 (by decide +kernel) rfl : Cond.code yX8_init cX8_init 1 none ∈ m_G)⟩, ⟨(by decide +kernel : RX8 ≠ "java/lang/invoke/MethodHandle"), (by decide +kernel : RX8 ≠ "java/lang/invoke/VarHandle"), (by decide +kernel : (parseMethodDescriptor yX8_init.desc).map (fun d => d.parameters.length) = some 0)⟩⟩
theorem ol_X8 : Cond.methodLink RX8 3 Lib.objectInit ∈ m_G := m_inG 195 (by decide +kernel) rfl
theorem bt_36 : g_bt[36]? = some (400, g_p36) := rfl
theorem ff_X8_9 : m_ff RX8 9 8 2 0 := ⟨_, _, cf8, by decide, m_inG 196 (by decide +kernel) rfl, rfl, rfl⟩
theorem bt_35 : g_bt[35]? = some (2, g_p35) := rfl
theorem il_X11_29 : Cond.methodLinkNest RX11 29 yX8_init "WeekFoot" ∈ m_N := m_inN 192 (by decide +kernel) rfl
theorem ff_X11_30 : m_ff RX11 30 11 17 4 := ⟨_, _, cf11, by decide, m_inG 407 (by decide +kernel) rfl, rfl, rfl⟩
theorem n_X11_34 : m_nf RX11 34 1 4 := ⟨_, _, cf1, ⟨m_inG 208 (by decide +kernel) rfl, m_inG 209 (by decide +kernel) rfl, m_inG 99 (by decide +kernel) rfl⟩, by decide +kernel⟩
theorem t_X1_init {n0 n1 f l : Nat} : m_mI (mkM RX1 yX1_init cX1_init 2 f l n0 n1 none) 1 := ⟨⟨(m_inG 211 (by decide +kernel) rfl : Cond.instanceMethod yX1_init ∈ m_G), rfl, rfl⟩, ⟨(m_inG 99 (by decide +kernel) rfl : Cond.initialized RX1 ∈ m_G), (m_inG 212 (by decide +kernel) rfl : Cond.code yX1_init cX1_init 2 none ∈ m_G)⟩, ⟨(by decide +kernel : RX1 ≠ "java/lang/invoke/MethodHandle"), (by decide +kernel : RX1 ≠ "java/lang/invoke/VarHandle"), (by decide +kernel : (parseMethodDescriptor yX1_init.desc).map (fun d => d.parameters.length) = some 1)⟩⟩
theorem ol_X1 : Cond.methodLink RX1 3 Lib.objectInit ∈ m_G := m_inG 213 (by decide +kernel) rfl
theorem ff_X1_9 : m_ff RX1 9 1 4 0 := ⟨_, _, cf1, by decide, m_inG 214 (by decide +kernel) rfl, rfl, rfl⟩
theorem bt_37 : g_bt[37]? = some (4, g_p37) := rfl
theorem il_X11_36 : Cond.methodLink RX11 36 yX1_init ∈ m_G := m_inG 210 (by decide +kernel) rfl
theorem ff_X11_39 : m_ff RX11 39 11 17 5 := ⟨_, _, cf11, by decide, m_inG 408 (by decide +kernel) rfl, rfl, rfl⟩
theorem n_X11_43 : m_nf RX11 43 9 6 := ⟨_, _, cf9, ⟨m_inG 228 (by decide +kernel) rfl, m_inG 229 (by decide +kernel) rfl, m_inG 100 (by decide +kernel) rfl⟩, by decide +kernel⟩
theorem t_X9_init {n0 n1 f l : Nat} : m_mI (mkM RX9 yX9_init cX9_init 1 f l n0 n1 none) 0 := ⟨⟨(m_inG 231 (by decide +kernel) rfl : Cond.instanceMethod yX9_init ∈ m_G), rfl, rfl⟩, ⟨(m_inG 100 (by decide +kernel) rfl : Cond.initialized RX9 ∈ m_G), (m_inG 232 (by decide +kernel) rfl : Cond.code yX9_init cX9_init 1 none ∈ m_G)⟩, ⟨(by decide +kernel : RX9 ≠ "java/lang/invoke/MethodHandle"), (by decide +kernel : RX9 ≠ "java/lang/invoke/VarHandle"), (by decide +kernel : (parseMethodDescriptor yX9_init.desc).map (fun d => d.parameters.length) = some 0)⟩⟩
theorem ol_X9 : Cond.methodLink RX9 3 Lib.objectInit ∈ m_G := m_inG 233 (by decide +kernel) rfl
theorem bt_39 : g_bt[39]? = some (48, g_p39) := rfl
theorem ff_X9_9 : m_ff RX9 9 9 6 0 := ⟨_, _, cf9, by decide, m_inG 266 (by decide +kernel) rfl, rfl, rfl⟩
theorem bt_40 : g_bt[40]? = some (48, g_p40) := rfl
theorem ff_X9_15 : m_ff RX9 15 9 6 1 := ⟨_, _, cf9, by decide, m_inG 267 (by decide +kernel) rfl, rfl, rfl⟩
theorem bt_41 : g_bt[41]? = some (48, g_p41) := rfl
theorem ff_X9_19 : m_ff RX9 19 9 6 2 := ⟨_, _, cf9, by decide, m_inG 268 (by decide +kernel) rfl, rfl, rfl⟩
theorem t_X11_newBounds {n0 n1 f l : Nat} : m_mS (mkM RX11 yX11_newBounds cX11_newBounds 3 f l n0 n1 (some (.array (.object "WeekFoot$Bound")))) 1 := ⟨(m_inG 235 (by decide +kernel) rfl : Cond.static yX11_newBounds ∈ m_G), ⟨(m_inG 95 (by decide +kernel) rfl : Cond.initialized RX11 ∈ m_G), (m_inG 236 (by decide +kernel) rfl : Cond.code yX11_newBounds cX11_newBounds 3 (some (.array (.object "WeekFoot$Bound"))) ∈ m_G)⟩, ⟨(by decide +kernel : RX11 ≠ "java/lang/invoke/MethodHandle"), (by decide +kernel : RX11 ≠ "java/lang/invoke/VarHandle"), (by decide +kernel : (parseMethodDescriptor yX11_newBounds.desc).map (fun d => d.parameters.length) = some 1)⟩⟩
theorem cl_X11_232 : Cond.classLink RX11 232 "WeekFoot$Bound" ∈ m_G := m_inG 240 (by decide +kernel) rfl
theorem n_X11_232 : m_nf RX11 232 2 3 := ⟨_, _, cf2, ⟨m_inG 240 (by decide +kernel) rfl, m_inG 242 (by decide +kernel) rfl, m_inG 102 (by decide +kernel) rfl⟩, by decide +kernel⟩
theorem t_X2_init {n0 n1 f l : Nat} : m_mI (mkM RX2 yX2_init cX2_init 1 f l n0 n1 none) 0 := ⟨⟨(m_inG 244 (by decide +kernel) rfl : Cond.instanceMethod yX2_init ∈ m_G), rfl, rfl⟩, ⟨(m_inG 102 (by decide +kernel) rfl : Cond.initialized RX2 ∈ m_G), (m_inG 245 (by decide +kernel) rfl : Cond.code yX2_init cX2_init 1 none ∈ m_G)⟩, ⟨(by decide +kernel : RX2 ≠ "java/lang/invoke/MethodHandle"), (by decide +kernel : RX2 ≠ "java/lang/invoke/VarHandle"), (by decide +kernel : (parseMethodDescriptor yX2_init.desc).map (fun d => d.parameters.length) = some 0)⟩⟩
theorem ol_X2 : Cond.methodLink RX2 1 Lib.objectInit ∈ m_G := m_inG 246 (by decide +kernel) rfl
theorem il_X11_450 : Cond.methodLinkNest RX11 450 yX2_init "WeekFoot" ∈ m_N := m_inN 243 (by decide +kernel) rfl
theorem cl_2 : vwCl[2]? = some (RX2, TX2, 3) := rfl
theorem bt_42 : g_bt[42]? = some (16, g_p42) := rfl
theorem il_X9_22 : Cond.methodLinkNest RX9 22 yX11_newBounds "WeekFoot" ∈ m_N := m_inN 234 (by decide +kernel) rfl
theorem ff_X9_26 : m_ff RX9 26 9 6 3 := ⟨_, _, cf9, by decide, m_inG 269 (by decide +kernel) rfl, rfl, rfl⟩
theorem bt_59 : g_bt[59]? = some (16, g_p59) := rfl
theorem ff_X9_30 : m_ff RX9 30 9 6 4 := ⟨_, _, cf9, by decide, m_inG 270 (by decide +kernel) rfl, rfl, rfl⟩
theorem bt_76 : g_bt[76]? = some (16, g_p76) := rfl
theorem ff_X9_33 : m_ff RX9 33 9 6 5 := ⟨_, _, cf9, by decide, m_inG 271 (by decide +kernel) rfl, rfl, rfl⟩
theorem bt_38 : g_bt[38]? = some (6, g_p38) := rfl
theorem il_X11_45 : Cond.methodLinkNest RX11 45 yX9_init "WeekFoot" ∈ m_N := m_inN 230 (by decide +kernel) rfl
theorem ff_X11_46 : m_ff RX11 46 11 17 6 := ⟨_, _, cf11, by decide, m_inG 409 (by decide +kernel) rfl, rfl, rfl⟩
theorem n_X11_50 : m_nf RX11 50 7 2 := ⟨_, _, cf7, ⟨m_inG 285 (by decide +kernel) rfl, m_inG 286 (by decide +kernel) rfl, m_inG 103 (by decide +kernel) rfl⟩, by decide +kernel⟩
theorem t_X7_init {n0 n1 f l : Nat} : m_mI (mkM RX7 yX7_init cX7_init 1 f l n0 n1 none) 0 := ⟨⟨(m_inG 288 (by decide +kernel) rfl : Cond.instanceMethod yX7_init ∈ m_G), rfl, rfl⟩, ⟨(m_inG 103 (by decide +kernel) rfl : Cond.initialized RX7 ∈ m_G), (m_inG 289 (by decide +kernel) rfl : Cond.code yX7_init cX7_init 1 none ∈ m_G)⟩, ⟨(by decide +kernel : RX7 ≠ "java/lang/invoke/MethodHandle"), (by decide +kernel : RX7 ≠ "java/lang/invoke/VarHandle"), (by decide +kernel : (parseMethodDescriptor yX7_init.desc).map (fun d => d.parameters.length) = some 0)⟩⟩
theorem ol_X7 : Cond.methodLink RX7 3 Lib.objectInit ∈ m_G := m_inG 290 (by decide +kernel) rfl
theorem n_X7_9 : m_nf RX7 9 2 3 := ⟨_, _, cf2, ⟨m_inG 291 (by decide +kernel) rfl, m_inG 242 (by decide +kernel) rfl, m_inG 102 (by decide +kernel) rfl⟩, by decide +kernel⟩
theorem il_X7_11 : Cond.methodLinkNest RX7 11 yX2_init "WeekFoot" ∈ m_N := m_inN 292 (by decide +kernel) rfl
theorem ff_X7_12 : m_ff RX7 12 7 2 0 := ⟨_, _, cf7, by decide, m_inG 293 (by decide +kernel) rfl, rfl, rfl⟩
theorem ff_X7_18 : m_ff RX7 18 7 2 1 := ⟨_, _, cf7, by decide, m_inG 295 (by decide +kernel) rfl, rfl, rfl⟩
theorem bt_93 : g_bt[93]? = some (2, g_p93) := rfl
theorem il_X11_52 : Cond.methodLinkNest RX11 52 yX7_init "WeekFoot" ∈ m_N := m_inN 287 (by decide +kernel) rfl
theorem ff_X11_53 : m_ff RX11 53 11 17 7 := ⟨_, _, cf11, by decide, m_inG 410 (by decide +kernel) rfl, rfl, rfl⟩
theorem n_X11_57 : m_nf RX11 57 10 5 := ⟨_, _, cf10, ⟨m_inG 302 (by decide +kernel) rfl, m_inG 303 (by decide +kernel) rfl, m_inG 104 (by decide +kernel) rfl⟩, by decide +kernel⟩
theorem t_X10_init {n0 n1 f l : Nat} : m_mI (mkM RX10 yX10_init cX10_init 1 f l n0 n1 none) 0 := ⟨⟨(m_inG 305 (by decide +kernel) rfl : Cond.instanceMethod yX10_init ∈ m_G), rfl, rfl⟩, ⟨(m_inG 104 (by decide +kernel) rfl : Cond.initialized RX10 ∈ m_G), (m_inG 306 (by decide +kernel) rfl : Cond.code yX10_init cX10_init 1 none ∈ m_G)⟩, ⟨(by decide +kernel : RX10 ≠ "java/lang/invoke/MethodHandle"), (by decide +kernel : RX10 ≠ "java/lang/invoke/VarHandle"), (by decide +kernel : (parseMethodDescriptor yX10_init.desc).map (fun d => d.parameters.length) = some 0)⟩⟩
theorem ol_X10 : Cond.methodLink RX10 3 Lib.objectInit ∈ m_G := m_inG 307 (by decide +kernel) rfl
theorem bt_97 : g_bt[97]? = some (3, g_p97) := rfl
theorem ff_X10_9 : m_ff RX10 9 10 5 0 := ⟨_, _, cf10, by decide, m_inG 308 (by decide +kernel) rfl, rfl, rfl⟩
theorem bt_98 : g_bt[98]? = some (3, g_p98) := rfl
theorem ff_X10_15 : m_ff RX10 15 10 5 1 := ⟨_, _, cf10, by decide, m_inG 309 (by decide +kernel) rfl, rfl, rfl⟩
theorem bt_96 : g_bt[96]? = some (5, g_p96) := rfl
theorem il_X11_59 : Cond.methodLinkNest RX11 59 yX10_init "WeekFoot" ∈ m_N := m_inN 304 (by decide +kernel) rfl
theorem ff_X11_60 : m_ff RX11 60 11 17 8 := ⟨_, _, cf11, by decide, m_inG 411 (by decide +kernel) rfl, rfl, rfl⟩
theorem n_X11_64 : m_nf RX11 64 0 1 := ⟨_, _, cf0, ⟨m_inG 325 (by decide +kernel) rfl, m_inG 326 (by decide +kernel) rfl, m_inG 105 (by decide +kernel) rfl⟩, by decide +kernel⟩
theorem t_X0_init {n0 n1 f l : Nat} : m_mI (mkM RX0 yX0_init cX0_init 1 f l n0 n1 none) 0 := ⟨⟨(m_inG 328 (by decide +kernel) rfl : Cond.instanceMethod yX0_init ∈ m_G), rfl, rfl⟩, ⟨(m_inG 105 (by decide +kernel) rfl : Cond.initialized RX0 ∈ m_G), (m_inG 329 (by decide +kernel) rfl : Cond.code yX0_init cX0_init 1 none ∈ m_G)⟩, ⟨(by decide +kernel : RX0 ≠ "java/lang/invoke/MethodHandle"), (by decide +kernel : RX0 ≠ "java/lang/invoke/VarHandle"), (by decide +kernel : (parseMethodDescriptor yX0_init.desc).map (fun d => d.parameters.length) = some 0)⟩⟩
theorem ol_X0 : Cond.methodLink RX0 3 Lib.objectInit ∈ m_G := m_inG 330 (by decide +kernel) rfl
theorem bt_100 : g_bt[100]? = some (16, g_p100) := rfl
theorem ff_X0_9 : m_ff RX0 9 0 1 0 := ⟨_, _, cf0, by decide, m_inG 331 (by decide +kernel) rfl, rfl, rfl⟩
theorem bt_99 : g_bt[99]? = some (1, g_p99) := rfl
theorem il_X11_66 : Cond.methodLinkNest RX11 66 yX0_init "WeekFoot" ∈ m_N := m_inN 327 (by decide +kernel) rfl
theorem ff_X11_67 : m_ff RX11 67 11 17 9 := ⟨_, _, cf11, by decide, m_inG 412 (by decide +kernel) rfl, rfl, rfl⟩
theorem n_X11_71 : m_nf RX11 71 3 4 := ⟨_, _, cf3, ⟨m_inG 335 (by decide +kernel) rfl, m_inG 336 (by decide +kernel) rfl, m_inG 106 (by decide +kernel) rfl⟩, by decide +kernel⟩
theorem t_X3_init {n0 n1 f l : Nat} : m_mI (mkM RX3 yX3_init cX3_init 2 f l n0 n1 none) 1 := ⟨⟨(m_inG 338 (by decide +kernel) rfl : Cond.instanceMethod yX3_init ∈ m_G), rfl, rfl⟩, ⟨(m_inG 106 (by decide +kernel) rfl : Cond.initialized RX3 ∈ m_G), (m_inG 339 (by decide +kernel) rfl : Cond.code yX3_init cX3_init 2 none ∈ m_G)⟩, ⟨(by decide +kernel : RX3 ≠ "java/lang/invoke/MethodHandle"), (by decide +kernel : RX3 ≠ "java/lang/invoke/VarHandle"), (by decide +kernel : (parseMethodDescriptor yX3_init.desc).map (fun d => d.parameters.length) = some 1)⟩⟩
theorem ol_X3 : Cond.methodLink RX3 3 Lib.objectInit ∈ m_G := m_inG 340 (by decide +kernel) rfl
theorem ff_X3_9 : m_ff RX3 9 3 4 0 := ⟨_, _, cf3, by decide, m_inG 341 (by decide +kernel) rfl, rfl, rfl⟩
theorem bt_101 : g_bt[101]? = some (4, g_p101) := rfl
theorem il_X11_73 : Cond.methodLink RX11 73 yX3_init ∈ m_G := m_inG 337 (by decide +kernel) rfl
theorem ff_X11_76 : m_ff RX11 76 11 17 10 := ⟨_, _, cf11, by decide, m_inG 413 (by decide +kernel) rfl, rfl, rfl⟩
theorem n_X11_80 : m_nf RX11 80 6 5 := ⟨_, _, cf6, ⟨m_inG 357 (by decide +kernel) rfl, m_inG 358 (by decide +kernel) rfl, m_inG 107 (by decide +kernel) rfl⟩, by decide +kernel⟩
theorem t_X6_init {n0 n1 f l : Nat} : m_mI (mkM RX6 yX6_init cX6_init 2 f l n0 n1 none) 1 := ⟨⟨(m_inG 360 (by decide +kernel) rfl : Cond.instanceMethod yX6_init ∈ m_G), rfl, rfl⟩, ⟨(m_inG 107 (by decide +kernel) rfl : Cond.initialized RX6 ∈ m_G), (m_inG 361 (by decide +kernel) rfl : Cond.code yX6_init cX6_init 2 none ∈ m_G)⟩, ⟨(by decide +kernel : RX6 ≠ "java/lang/invoke/MethodHandle"), (by decide +kernel : RX6 ≠ "java/lang/invoke/VarHandle"), (by decide +kernel : (parseMethodDescriptor yX6_init.desc).map (fun d => d.parameters.length) = some 1)⟩⟩
theorem ol_X6 : Cond.methodLink RX6 3 Lib.objectInit ∈ m_G := m_inG 362 (by decide +kernel) rfl
theorem bt_103 : g_bt[103]? = some (3, g_p103) := rfl
theorem ff_X6_9 : m_ff RX6 9 6 5 1 := ⟨_, _, cf6, by decide, m_inG 364 (by decide +kernel) rfl, rfl, rfl⟩
theorem bt_104 : g_bt[104]? = some (12, g_p104) := rfl
theorem ff_X6_15 : m_ff RX6 15 6 5 2 := ⟨_, _, cf6, by decide, m_inG 365 (by decide +kernel) rfl, rfl, rfl⟩
theorem ff_X6_18 : m_ff RX6 18 6 5 0 := ⟨_, _, cf6, by decide, m_inG 363 (by decide +kernel) rfl, rfl, rfl⟩
theorem bt_102 : g_bt[102]? = some (5, g_p102) := rfl
theorem il_X11_82 : Cond.methodLink RX11 82 yX6_init ∈ m_G := m_inG 359 (by decide +kernel) rfl
theorem ff_X11_83 : m_ff RX11 83 11 17 11 := ⟨_, _, cf11, by decide, m_inG 414 (by decide +kernel) rfl, rfl, rfl⟩
theorem n_X11_87 : m_nf RX11 87 5 4 := ⟨_, _, cf5, ⟨m_inG 380 (by decide +kernel) rfl, m_inG 381 (by decide +kernel) rfl, m_inG 108 (by decide +kernel) rfl⟩, by decide +kernel⟩
theorem t_X5_init {n0 n1 f l : Nat} : m_mI (mkM RX5 yX5_init cX5_init 1 f l n0 n1 none) 0 := ⟨⟨(m_inG 383 (by decide +kernel) rfl : Cond.instanceMethod yX5_init ∈ m_G), rfl, rfl⟩, ⟨(m_inG 108 (by decide +kernel) rfl : Cond.initialized RX5 ∈ m_G), (m_inG 384 (by decide +kernel) rfl : Cond.code yX5_init cX5_init 1 none ∈ m_G)⟩, ⟨(by decide +kernel : RX5 ≠ "java/lang/invoke/MethodHandle"), (by decide +kernel : RX5 ≠ "java/lang/invoke/VarHandle"), (by decide +kernel : (parseMethodDescriptor yX5_init.desc).map (fun d => d.parameters.length) = some 0)⟩⟩
theorem ol_X5 : Cond.methodLink RX5 3 Lib.objectInit ∈ m_G := m_inG 385 (by decide +kernel) rfl
theorem bt_106 : g_bt[106]? = some (32, g_p106) := rfl
theorem ff_X5_9 : m_ff RX5 9 5 4 0 := ⟨_, _, cf5, by decide, m_inG 386 (by decide +kernel) rfl, rfl, rfl⟩
theorem bt_105 : g_bt[105]? = some (4, g_p105) := rfl
theorem il_X11_89 : Cond.methodLinkNest RX11 89 yX5_init "WeekFoot" ∈ m_N := m_inN 382 (by decide +kernel) rfl
theorem ff_X11_90 : m_ff RX11 90 11 17 12 := ⟨_, _, cf11, by decide, m_inG 415 (by decide +kernel) rfl, rfl, rfl⟩
theorem bt_107 : g_bt[107]? = some (5, g_p107) := rfl
theorem ff_X11_94 : m_ff RX11 94 11 17 13 := ⟨_, _, cf11, by decide, m_inG 416 (by decide +kernel) rfl, rfl, rfl⟩
theorem bt_0 : g_bt[0]? = some (17, g_p0) := rfl
