abbrev cL_law : ByteArray := code
def yL_law : MethodName := ⟨RL, "law", "([I)Z"⟩
def zw_L_law_34 : List Nat := [182, 0, 179, 87, 167, 0, 3, 132, 3, 6, 167, 250, 63, 4, 172]
def zt_L_law_34 : List Nat := zw_L_law_34 ++ []
def zw_L_law_33 : List Nat := [29, 4, 96, 46, 182, 0, 171, 87, 167, 0, 39, 43, 42, 29, 4, 96, 46, 182, 0, 172, 87, 44, 42, 29, 4, 96, 46, 182, 0, 175, 87, 167, 0, 16, 43, 182, 0, 176, 87, 44]
def zt_L_law_33 : List Nat := zw_L_law_33 ++ zt_L_law_34
def zw_L_law_32 : List Nat := [159, 0, 87, 3, 172, 43, 42, 29, 4, 96, 46, 182, 0, 164, 87, 44, 42, 29, 4, 96, 46, 182, 0, 167, 87, 167, 0, 62, 43, 42, 29, 4, 96, 46, 182, 0, 168, 87, 44, 42]
def zt_L_law_32 : List Nat := zw_L_law_32 ++ zt_L_law_33
def zw_L_law_31 : List Nat := [4, 96, 46, 182, 0, 156, 87, 44, 42, 29, 4, 96, 46, 182, 0, 159, 87, 167, 0, 108, 43, 42, 29, 4, 96, 46, 182, 0, 160, 44, 42, 29, 4, 96, 46, 182, 0, 163]
def zt_L_law_31 : List Nat := zw_L_law_31 ++ zt_L_law_32
def zw_L_law_30 : List Nat := [42, 29, 5, 96, 46, 42, 29, 6, 96, 46, 182, 0, 152, 87, 44, 42, 29, 4, 96, 46, 42, 29, 5, 96, 46, 42, 29, 6, 96, 46, 182, 0, 155, 87, 167, 0, 131, 43, 42, 29]
def zt_L_law_30 : List Nat := zw_L_law_30 ++ zt_L_law_31
def zw_L_law_29 : List Nat := [29, 6, 96, 46, 182, 0, 147, 87, 167, 0, 197, 43, 42, 29, 4, 96, 46, 182, 0, 148, 87, 44, 42, 29, 4, 96, 46, 182, 0, 151, 87, 167, 0, 174, 43, 42, 29, 4, 96, 46]
def zt_L_law_29 : List Nat := zw_L_law_29 ++ zt_L_law_30
def zw_L_law_28 : List Nat := [46, 182, 0, 143, 87, 167, 0, 240, 43, 42, 29, 4, 96, 46, 42, 29, 5, 96, 46, 42, 29, 6, 96, 46, 182, 0, 144, 87, 44, 42, 29, 4, 96, 46, 42, 29, 5, 96, 46, 42]
def zt_L_law_28 : List Nat := zw_L_law_28 ++ zt_L_law_29
def zw_L_law_27 : List Nat := [4, 96, 46, 42, 29, 5, 96, 46, 182, 0, 139, 87, 167, 1, 17, 43, 42, 29, 4, 96, 46, 42, 29, 5, 96, 46, 182, 0, 140, 87, 44, 42, 29, 4, 96, 46, 42, 29, 5, 96]
def zt_L_law_27 : List Nat := zw_L_law_27 ++ zt_L_law_28
def zw_L_law_26 : List Nat := [182, 0, 132, 87, 44, 42, 29, 4, 96, 46, 42, 29, 5, 96, 46, 182, 0, 135, 87, 167, 1, 50, 43, 42, 29, 4, 96, 46, 42, 29, 5, 96, 46, 182, 0, 136, 87, 44, 42, 29]
def zt_L_law_26 : List Nat := zw_L_law_26 ++ zt_L_law_27
def zw_L_law_25 : List Nat := [87, 167, 1, 106, 43, 42, 29, 4, 96, 46, 182, 0, 128, 87, 44, 42, 29, 4, 96, 46, 182, 0, 131, 87, 167, 1, 83, 43, 42, 29, 4, 96, 46, 42, 29, 5, 96, 46]
def zt_L_law_25 : List Nat := zw_L_law_25 ++ zt_L_law_26
def zw_L_law_24 : List Nat := [46, 182, 0, 119, 87, 167, 1, 142, 43, 182, 0, 120, 87, 44, 182, 0, 123, 87, 167, 1, 129, 43, 42, 29, 4, 96, 46, 182, 0, 124, 87, 44, 42, 29, 4, 96, 46, 182, 0, 127]
def zt_L_law_24 : List Nat := zw_L_law_24 ++ zt_L_law_25
def zw_L_law_23 : List Nat := [5, 96, 46, 182, 0, 112, 87, 44, 42, 29, 4, 96, 46, 42, 29, 5, 96, 46, 182, 0, 115, 87, 167, 1, 165, 43, 42, 29, 4, 96, 46, 182, 0, 116, 87, 44, 42, 29, 4, 96]
def zt_L_law_23 : List Nat := zw_L_law_23 ++ zt_L_law_24
def zw_L_law_22 : List Nat := [182, 0, 108, 87, 44, 42, 29, 4, 96, 46, 42, 29, 5, 96, 46, 42, 29, 6, 96, 46, 42, 29, 7, 96, 46, 182, 0, 111, 87, 167, 1, 198, 43, 42, 29, 4, 96, 46, 42, 29]
def zt_L_law_22 : List Nat := zw_L_law_22 ++ zt_L_law_23
def zw_L_law_21 : List Nat := [96, 46, 182, 0, 104, 87, 44, 42, 29, 4, 96, 46, 182, 0, 107, 87, 167, 1, 251, 43, 42, 29, 4, 96, 46, 42, 29, 5, 96, 46, 42, 29, 6, 96, 46, 42, 29, 7, 96, 46]
def zt_L_law_21 : List Nat := zw_L_law_21 ++ zt_L_law_22
def zw_L_law_20 : List Nat := [29, 7, 96, 46, 182, 0, 100, 87, 44, 42, 29, 4, 96, 46, 42, 29, 5, 96, 46, 42, 29, 6, 96, 46, 42, 29, 7, 96, 46, 182, 0, 103, 87, 167, 2, 18, 43, 42, 29, 4]
def zt_L_law_20 : List Nat := zw_L_law_20 ++ zt_L_law_21
def zw_L_law_19 : List Nat := [46, 42, 29, 5, 96, 46, 42, 29, 6, 96, 46, 42, 29, 7, 96, 46, 182, 0, 99, 87, 167, 2, 71, 43, 42, 29, 4, 96, 46, 42, 29, 5, 96, 46, 42, 29, 6, 96, 46, 42]
def zt_L_law_19 : List Nat := zw_L_law_19 ++ zt_L_law_20
def zw_L_law_18 : List Nat := [7, 96, 46, 182, 0, 95, 87, 167, 2, 124, 43, 42, 29, 4, 96, 46, 42, 29, 5, 96, 46, 42, 29, 6, 96, 46, 42, 29, 7, 96, 46, 182, 0, 96, 87, 44, 42, 29, 4, 96]
def zt_L_law_18 : List Nat := zw_L_law_18 ++ zt_L_law_19
def zw_L_law_17 : List Nat := [4, 96, 46, 42, 29, 5, 96, 46, 42, 29, 6, 96, 46, 42, 29, 7, 96, 46, 182, 0, 92, 87, 44, 42, 29, 4, 96, 46, 42, 29, 5, 96, 46, 42, 29, 6, 96, 46, 42, 29]
def zt_L_law_17 : List Nat := zw_L_law_17 ++ zt_L_law_18
def zw_L_law_16 : List Nat := [182, 0, 88, 87, 44, 42, 29, 4, 96, 46, 42, 29, 5, 96, 46, 42, 29, 6, 96, 46, 42, 29, 7, 96, 46, 42, 29, 8, 96, 46, 182, 0, 91, 87, 167, 2, 177, 43, 42, 29]
def zt_L_law_16 : List Nat := zw_L_law_16 ++ zt_L_law_17
def zw_L_law_15 : List Nat := [96, 46, 42, 29, 6, 96, 46, 182, 0, 87, 88, 167, 2, 240, 43, 42, 29, 4, 96, 46, 42, 29, 5, 96, 46, 42, 29, 6, 96, 46, 42, 29, 7, 96, 46, 42, 29, 8, 96, 46]
def zt_L_law_15 : List Nat := zw_L_law_15 ++ zt_L_law_16
def zw_L_law_14 : List Nat := [29, 6, 96, 46, 182, 0, 82, 87, 167, 3, 27, 43, 42, 29, 4, 96, 46, 42, 29, 5, 96, 46, 42, 29, 6, 96, 46, 182, 0, 83, 88, 44, 42, 29, 4, 96, 46, 42, 29, 5]
def zt_L_law_14 : List Nat := zw_L_law_14 ++ zt_L_law_15
def zw_L_law_13 : List Nat := [46, 182, 0, 78, 87, 167, 3, 70, 43, 42, 29, 4, 96, 46, 42, 29, 5, 96, 46, 42, 29, 6, 96, 46, 182, 0, 79, 87, 44, 42, 29, 4, 96, 46, 42, 29, 5, 96, 46, 42]
def zt_L_law_13 : List Nat := zw_L_law_13 ++ zt_L_law_14
def zw_L_law_12 : List Nat := [5, 96, 46, 42, 29, 6, 96, 46, 182, 0, 74, 87, 167, 3, 103, 43, 42, 29, 4, 96, 46, 42, 29, 5, 96, 46, 182, 0, 75, 87, 44, 42, 29, 4, 96, 46, 42, 29, 5, 96]
def zt_L_law_12 : List Nat := zw_L_law_12 ++ zt_L_law_13
def zw_L_law_11 : List Nat := [182, 0, 66, 87, 44, 182, 0, 69, 87, 167, 3, 146, 43, 42, 29, 4, 96, 46, 42, 29, 5, 96, 46, 42, 29, 6, 96, 46, 182, 0, 70, 87, 44, 42, 29, 4, 96, 46, 42, 29]
def zt_L_law_11 : List Nat := zw_L_law_11 ++ zt_L_law_12
def zw_L_law_10 : List Nat := [182, 0, 54, 87, 44, 182, 0, 57, 87, 167, 3, 185, 43, 182, 0, 58, 87, 44, 182, 0, 61, 87, 167, 3, 172, 43, 182, 0, 62, 87, 44, 182, 0, 65, 87, 167, 3, 159, 43]
def zt_L_law_10 : List Nat := zw_L_law_10 ++ zt_L_law_11
def zw_L_law_9 : List Nat := [167, 3, 234, 43, 42, 29, 4, 96, 46, 182, 0, 44, 87, 44, 42, 29, 4, 96, 46, 182, 0, 48, 87, 167, 3, 211, 43, 182, 0, 49, 87, 44, 182, 0, 53, 87, 167, 3, 198, 43]
def zt_L_law_9 : List Nat := zw_L_law_9 ++ zt_L_law_10
def zw_L_law_8 : List Nat := [29, 8, 96, 46, 182, 0, 39, 87, 44, 42, 29, 4, 96, 46, 42, 29, 5, 96, 46, 42, 29, 6, 96, 46, 42, 29, 7, 96, 46, 42, 29, 8, 96, 46, 182, 0, 43, 87]
def zt_L_law_8 : List Nat := zw_L_law_8 ++ zt_L_law_9
def zw_L_law_7 : List Nat := [44, 42, 29, 4, 96, 46, 42, 29, 5, 96, 46, 182, 0, 38, 87, 167, 4, 41, 43, 42, 29, 4, 96, 46, 42, 29, 5, 96, 46, 42, 29, 6, 96, 46, 42, 29, 7, 96, 46, 42]
def zt_L_law_7 : List Nat := zw_L_law_7 ++ zt_L_law_8
def zw_L_law_6 : List Nat := [5, 96, 46, 182, 0, 31, 87, 44, 42, 29, 4, 96, 46, 42, 29, 5, 96, 46, 182, 0, 34, 87, 167, 4, 74, 43, 42, 29, 4, 96, 46, 42, 29, 5, 96, 46, 182, 0, 35, 87]
def zt_L_law_6 : List Nat := zw_L_law_6 ++ zt_L_law_7
def zw_L_law_5 : List Nat := [182, 0, 26, 87, 44, 42, 29, 4, 96, 46, 42, 29, 5, 96, 46, 42, 29, 6, 96, 46, 42, 29, 7, 96, 46, 182, 0, 30, 87, 167, 4, 107, 43, 42, 29, 4, 96, 46, 42, 29]
def zt_L_law_5 : List Nat := zw_L_law_5 ++ zt_L_law_6
def zw_L_law_4 : List Nat := [87, 44, 42, 29, 4, 96, 46, 42, 29, 5, 96, 46, 182, 0, 25, 87, 167, 4, 160, 43, 42, 29, 4, 96, 46, 42, 29, 5, 96, 46, 42, 29, 6, 96, 46, 42, 29, 7, 96, 46]
def zt_L_law_4 : List Nat := zw_L_law_4 ++ zt_L_law_5
def zw_L_law_3 : List Nat := [29, 5, 96, 46, 182, 0, 18, 87, 44, 42, 29, 4, 96, 46, 42, 29, 5, 96, 46, 182, 0, 21, 87, 167, 4, 193, 43, 42, 29, 4, 96, 46, 42, 29, 5, 96, 46, 182, 0, 22]
def zt_L_law_3 : List Nat := zw_L_law_3 ++ zt_L_law_4
def zw_L_law_2 : List Nat := [43, 42, 29, 4, 96, 46, 42, 29, 5, 96, 46, 182, 0, 13, 87, 44, 42, 29, 4, 96, 46, 42, 29, 5, 96, 46, 182, 0, 17, 87, 167, 4, 226, 43, 42, 29, 4, 96, 46, 42]
def zt_L_law_2 : List Nat := zw_L_law_2 ++ zt_L_law_3
def zw_L_law_1 : List Nat := [170, 0, 0, 0, 0, 5, 175, 0, 0, 0, 0, 0, 0, 0, 39, 0, 0, 0, 175, 0, 0, 0, 208, 0, 0, 0, 241, 0, 0, 1, 18, 0, 0, 1, 71, 0, 0, 1, 104, 0, 0, 1, 137, 0, 0, 1, 200, 0, 0, 1, 223, 0, 0, 1, 236, 0, 0, 1, 249, 0, 0, 2, 6, 0, 0, 2, 19, 0, 0, 2, 32, 0, 0, 2, 75, 0, 0, 2, 108, 0, 0, 2, 151, 0, 0, 2, 194, 0, 0, 3, 1, 0, 0, 3, 54, 0, 0, 3, 107, 0, 0, 3, 160, 0, 0, 3, 183, 0, 0, 3, 236, 0, 0, 4, 13, 0, 0, 4, 36, 0, 0, 4, 49, 0, 0, 4, 72, 0, 0, 4, 95, 0, 0, 4, 128, 0, 0, 4, 161, 0, 0, 4, 194, 0, 0, 4, 237, 0, 0, 5, 4, 0, 0, 5, 47, 0, 0, 5, 70, 0, 0, 5, 93, 0, 0, 5, 116, 0, 0, 5, 139, 0, 0, 5, 162]
def zt_L_law_1 : List Nat := zw_L_law_1 ++ zt_L_law_2
def zw_L_law_0 : List Nat := [187, 0, 7, 89, 183, 0, 9, 76, 187, 0, 10, 89, 183, 0, 12, 77, 3, 62, 29, 42, 190, 16, 6, 100, 163, 5, 190, 42, 29, 46, 16, 63, 126]
def zt_L_law_0 : List Nat := zw_L_law_0 ++ zt_L_law_1
theorem ze_L_law_0 : (dcn cL_law).drop 0 = zt_L_law_0 := by decide +kernel
theorem ze_L_law_1 : (dcn cL_law).drop 33 = zt_L_law_1 := dw_n (wl := zw_L_law_0) ze_L_law_0 rfl
theorem zb_L_law_0 (j : Nat) {n : Nat} (e : zw_L_law_0[j]? = some n) : dby cL_law (0 + j) n := dw_b (t := zt_L_law_1) ze_L_law_0 j e
theorem dL_law_0 : decode cL_law 0 = .ok (.new 7, 3) := dop_187 (zb_L_law_0 0 rfl) (zb_L_law_0 1 rfl) (zb_L_law_0 2 rfl) rfl
theorem dL_law_3 : decode cL_law 3 = .ok (.dup, 1) := dop_89 (zb_L_law_0 3 rfl)
theorem dL_law_4 : decode cL_law 4 = .ok (.invokespecial 9, 3) := dop_183 (zb_L_law_0 4 rfl) (zb_L_law_0 5 rfl) (zb_L_law_0 6 rfl) rfl
theorem dL_law_7 : decode cL_law 7 = .ok (.astore_n 1, 1) := dop_76 (zb_L_law_0 7 rfl)
theorem dL_law_8 : decode cL_law 8 = .ok (.new 10, 3) := dop_187 (zb_L_law_0 8 rfl) (zb_L_law_0 9 rfl) (zb_L_law_0 10 rfl) rfl
theorem dL_law_11 : decode cL_law 11 = .ok (.dup, 1) := dop_89 (zb_L_law_0 11 rfl)
theorem dL_law_12 : decode cL_law 12 = .ok (.invokespecial 12, 3) := dop_183 (zb_L_law_0 12 rfl) (zb_L_law_0 13 rfl) (zb_L_law_0 14 rfl) rfl
theorem dL_law_15 : decode cL_law 15 = .ok (.astore_n 2, 1) := dop_77 (zb_L_law_0 15 rfl)
theorem dL_law_16 : decode cL_law 16 = .ok (.iconst 0, 1) := dop_3 (zb_L_law_0 16 rfl)
theorem dL_law_17 : decode cL_law 17 = .ok (.istore_n 3, 1) := dop_62 (zb_L_law_0 17 rfl)
theorem dL_law_18 : decode cL_law 18 = .ok (.iload_n 3, 1) := dop_29 (zb_L_law_0 18 rfl)
theorem dL_law_19 : decode cL_law 19 = .ok (.aload_n 0, 1) := dop_42 (zb_L_law_0 19 rfl)
theorem dL_law_20 : decode cL_law 20 = .ok (.arraylength, 1) := dop_190 (zb_L_law_0 20 rfl)
theorem dL_law_21 : decode cL_law 21 = .ok (.bipush 6, 2) := dop_16 (zb_L_law_0 21 rfl) (zb_L_law_0 22 rfl) rfl
theorem dL_law_23 : decode cL_law 23 = .ok (.isub, 1) := dop_100 (zb_L_law_0 23 rfl)
theorem dL_law_24 : decode cL_law 24 = .ok (.if_icmp .gt 1470, 3) := dop_163 (zb_L_law_0 24 rfl) (zb_L_law_0 25 rfl) (zb_L_law_0 26 rfl) rfl
theorem dL_law_27 : decode cL_law 27 = .ok (.aload_n 0, 1) := dop_42 (zb_L_law_0 27 rfl)
theorem dL_law_28 : decode cL_law 28 = .ok (.iload_n 3, 1) := dop_29 (zb_L_law_0 28 rfl)
theorem dL_law_29 : decode cL_law 29 = .ok (.iaload, 1) := dop_46 (zb_L_law_0 29 rfl)
theorem dL_law_30 : decode cL_law 30 = .ok (.bipush 63, 2) := dop_16 (zb_L_law_0 30 rfl) (zb_L_law_0 31 rfl) rfl
theorem dL_law_32 : decode cL_law 32 = .ok (.iand, 1) := dop_126 (zb_L_law_0 32 rfl)
theorem ze_L_law_2 : (dcn cL_law).drop 208 = zt_L_law_2 := dw_n (wl := zw_L_law_1) ze_L_law_1 (by decide +kernel)
theorem zb_L_law_1 (j : Nat) {n : Nat} (e : zw_L_law_1[j]? = some n) : dby cL_law (33 + j) n := dw_b (t := zt_L_law_2) ze_L_law_1 j e
theorem dL_law_33 : decode cL_law 33 = .ok (.tableswitch 1455 0 39 #[175, 208, 241, 274, 327, 360, 393, 456, 479, 492, 505, 518, 531, 544, 587, 620, 663, 706, 769, 822, 875, 928, 951, 1004, 1037, 1060, 1073, 1096, 1119, 1152, 1185, 1218, 1261, 1284, 1327, 1350, 1373, 1396, 1419, 1442], 175) := by decide +kernel
theorem ze_L_law_3 : (dcn cL_law).drop 248 = zt_L_law_3 := dw_n (wl := zw_L_law_2) ze_L_law_2 rfl
theorem zb_L_law_2 (j : Nat) {n : Nat} (e : zw_L_law_2[j]? = some n) : dby cL_law (208 + j) n := dw_b (t := zt_L_law_3) ze_L_law_2 j e
theorem dL_law_208 : decode cL_law 208 = .ok (.aload_n 1, 1) := dop_43 (zb_L_law_2 0 rfl)
theorem dL_law_209 : decode cL_law 209 = .ok (.aload_n 0, 1) := dop_42 (zb_L_law_2 1 rfl)
theorem dL_law_210 : decode cL_law 210 = .ok (.iload_n 3, 1) := dop_29 (zb_L_law_2 2 rfl)
theorem dL_law_211 : decode cL_law 211 = .ok (.iconst 1, 1) := dop_4 (zb_L_law_2 3 rfl)
theorem dL_law_212 : decode cL_law 212 = .ok (.iadd, 1) := dop_96 (zb_L_law_2 4 rfl)
theorem dL_law_213 : decode cL_law 213 = .ok (.iaload, 1) := dop_46 (zb_L_law_2 5 rfl)
theorem dL_law_214 : decode cL_law 214 = .ok (.aload_n 0, 1) := dop_42 (zb_L_law_2 6 rfl)
theorem dL_law_215 : decode cL_law 215 = .ok (.iload_n 3, 1) := dop_29 (zb_L_law_2 7 rfl)
theorem dL_law_216 : decode cL_law 216 = .ok (.iconst 2, 1) := dop_5 (zb_L_law_2 8 rfl)
theorem dL_law_217 : decode cL_law 217 = .ok (.iadd, 1) := dop_96 (zb_L_law_2 9 rfl)
theorem dL_law_218 : decode cL_law 218 = .ok (.iaload, 1) := dop_46 (zb_L_law_2 10 rfl)
theorem dL_law_219 : decode cL_law 219 = .ok (.invokevirtual 13, 3) := dop_182 (zb_L_law_2 11 rfl) (zb_L_law_2 12 rfl) (zb_L_law_2 13 rfl) rfl
theorem dL_law_222 : decode cL_law 222 = .ok (.pop, 1) := dop_87 (zb_L_law_2 14 rfl)
theorem dL_law_223 : decode cL_law 223 = .ok (.aload_n 2, 1) := dop_44 (zb_L_law_2 15 rfl)
theorem dL_law_224 : decode cL_law 224 = .ok (.aload_n 0, 1) := dop_42 (zb_L_law_2 16 rfl)
theorem dL_law_225 : decode cL_law 225 = .ok (.iload_n 3, 1) := dop_29 (zb_L_law_2 17 rfl)
theorem dL_law_226 : decode cL_law 226 = .ok (.iconst 1, 1) := dop_4 (zb_L_law_2 18 rfl)
theorem dL_law_227 : decode cL_law 227 = .ok (.iadd, 1) := dop_96 (zb_L_law_2 19 rfl)
theorem dL_law_228 : decode cL_law 228 = .ok (.iaload, 1) := dop_46 (zb_L_law_2 20 rfl)
theorem dL_law_229 : decode cL_law 229 = .ok (.aload_n 0, 1) := dop_42 (zb_L_law_2 21 rfl)
theorem dL_law_230 : decode cL_law 230 = .ok (.iload_n 3, 1) := dop_29 (zb_L_law_2 22 rfl)
theorem dL_law_231 : decode cL_law 231 = .ok (.iconst 2, 1) := dop_5 (zb_L_law_2 23 rfl)
theorem dL_law_232 : decode cL_law 232 = .ok (.iadd, 1) := dop_96 (zb_L_law_2 24 rfl)
theorem dL_law_233 : decode cL_law 233 = .ok (.iaload, 1) := dop_46 (zb_L_law_2 25 rfl)
theorem dL_law_234 : decode cL_law 234 = .ok (.invokevirtual 17, 3) := dop_182 (zb_L_law_2 26 rfl) (zb_L_law_2 27 rfl) (zb_L_law_2 28 rfl) rfl
theorem dL_law_237 : decode cL_law 237 = .ok (.pop, 1) := dop_87 (zb_L_law_2 29 rfl)
theorem dL_law_238 : decode cL_law 238 = .ok (.goto 1250, 3) := dop_167 (zb_L_law_2 30 rfl) (zb_L_law_2 31 rfl) (zb_L_law_2 32 rfl) rfl
theorem dL_law_241 : decode cL_law 241 = .ok (.aload_n 1, 1) := dop_43 (zb_L_law_2 33 rfl)
theorem dL_law_242 : decode cL_law 242 = .ok (.aload_n 0, 1) := dop_42 (zb_L_law_2 34 rfl)
theorem dL_law_243 : decode cL_law 243 = .ok (.iload_n 3, 1) := dop_29 (zb_L_law_2 35 rfl)
theorem dL_law_244 : decode cL_law 244 = .ok (.iconst 1, 1) := dop_4 (zb_L_law_2 36 rfl)
theorem dL_law_245 : decode cL_law 245 = .ok (.iadd, 1) := dop_96 (zb_L_law_2 37 rfl)
theorem dL_law_246 : decode cL_law 246 = .ok (.iaload, 1) := dop_46 (zb_L_law_2 38 rfl)
theorem dL_law_247 : decode cL_law 247 = .ok (.aload_n 0, 1) := dop_42 (zb_L_law_2 39 rfl)
theorem ze_L_law_4 : (dcn cL_law).drop 288 = zt_L_law_4 := dw_n (wl := zw_L_law_3) ze_L_law_3 rfl
theorem zb_L_law_3 (j : Nat) {n : Nat} (e : zw_L_law_3[j]? = some n) : dby cL_law (248 + j) n := dw_b (t := zt_L_law_4) ze_L_law_3 j e
theorem dL_law_248 : decode cL_law 248 = .ok (.iload_n 3, 1) := dop_29 (zb_L_law_3 0 rfl)
theorem dL_law_249 : decode cL_law 249 = .ok (.iconst 2, 1) := dop_5 (zb_L_law_3 1 rfl)
theorem dL_law_250 : decode cL_law 250 = .ok (.iadd, 1) := dop_96 (zb_L_law_3 2 rfl)
theorem dL_law_251 : decode cL_law 251 = .ok (.iaload, 1) := dop_46 (zb_L_law_3 3 rfl)
theorem dL_law_252 : decode cL_law 252 = .ok (.invokevirtual 18, 3) := dop_182 (zb_L_law_3 4 rfl) (zb_L_law_3 5 rfl) (zb_L_law_3 6 rfl) rfl
theorem dL_law_255 : decode cL_law 255 = .ok (.pop, 1) := dop_87 (zb_L_law_3 7 rfl)
theorem dL_law_256 : decode cL_law 256 = .ok (.aload_n 2, 1) := dop_44 (zb_L_law_3 8 rfl)
theorem dL_law_257 : decode cL_law 257 = .ok (.aload_n 0, 1) := dop_42 (zb_L_law_3 9 rfl)
theorem dL_law_258 : decode cL_law 258 = .ok (.iload_n 3, 1) := dop_29 (zb_L_law_3 10 rfl)
theorem dL_law_259 : decode cL_law 259 = .ok (.iconst 1, 1) := dop_4 (zb_L_law_3 11 rfl)
theorem dL_law_260 : decode cL_law 260 = .ok (.iadd, 1) := dop_96 (zb_L_law_3 12 rfl)
theorem dL_law_261 : decode cL_law 261 = .ok (.iaload, 1) := dop_46 (zb_L_law_3 13 rfl)
theorem dL_law_262 : decode cL_law 262 = .ok (.aload_n 0, 1) := dop_42 (zb_L_law_3 14 rfl)
theorem dL_law_263 : decode cL_law 263 = .ok (.iload_n 3, 1) := dop_29 (zb_L_law_3 15 rfl)
theorem dL_law_264 : decode cL_law 264 = .ok (.iconst 2, 1) := dop_5 (zb_L_law_3 16 rfl)
theorem dL_law_265 : decode cL_law 265 = .ok (.iadd, 1) := dop_96 (zb_L_law_3 17 rfl)
theorem dL_law_266 : decode cL_law 266 = .ok (.iaload, 1) := dop_46 (zb_L_law_3 18 rfl)
theorem dL_law_267 : decode cL_law 267 = .ok (.invokevirtual 21, 3) := dop_182 (zb_L_law_3 19 rfl) (zb_L_law_3 20 rfl) (zb_L_law_3 21 rfl) rfl
theorem dL_law_270 : decode cL_law 270 = .ok (.pop, 1) := dop_87 (zb_L_law_3 22 rfl)
theorem dL_law_271 : decode cL_law 271 = .ok (.goto 1217, 3) := dop_167 (zb_L_law_3 23 rfl) (zb_L_law_3 24 rfl) (zb_L_law_3 25 rfl) rfl
theorem dL_law_274 : decode cL_law 274 = .ok (.aload_n 1, 1) := dop_43 (zb_L_law_3 26 rfl)
theorem dL_law_275 : decode cL_law 275 = .ok (.aload_n 0, 1) := dop_42 (zb_L_law_3 27 rfl)
theorem dL_law_276 : decode cL_law 276 = .ok (.iload_n 3, 1) := dop_29 (zb_L_law_3 28 rfl)
theorem dL_law_277 : decode cL_law 277 = .ok (.iconst 1, 1) := dop_4 (zb_L_law_3 29 rfl)
theorem dL_law_278 : decode cL_law 278 = .ok (.iadd, 1) := dop_96 (zb_L_law_3 30 rfl)
theorem dL_law_279 : decode cL_law 279 = .ok (.iaload, 1) := dop_46 (zb_L_law_3 31 rfl)
theorem dL_law_280 : decode cL_law 280 = .ok (.aload_n 0, 1) := dop_42 (zb_L_law_3 32 rfl)
theorem dL_law_281 : decode cL_law 281 = .ok (.iload_n 3, 1) := dop_29 (zb_L_law_3 33 rfl)
theorem dL_law_282 : decode cL_law 282 = .ok (.iconst 2, 1) := dop_5 (zb_L_law_3 34 rfl)
theorem dL_law_283 : decode cL_law 283 = .ok (.iadd, 1) := dop_96 (zb_L_law_3 35 rfl)
theorem dL_law_284 : decode cL_law 284 = .ok (.iaload, 1) := dop_46 (zb_L_law_3 36 rfl)
theorem dL_law_285 : decode cL_law 285 = .ok (.invokevirtual 22, 3) := dop_182 (zb_L_law_3 37 rfl) (zb_L_law_3 38 rfl) (zb_L_law_3 39 rfl) rfl
theorem ze_L_law_5 : (dcn cL_law).drop 328 = zt_L_law_5 := dw_n (wl := zw_L_law_4) ze_L_law_4 rfl
theorem zb_L_law_4 (j : Nat) {n : Nat} (e : zw_L_law_4[j]? = some n) : dby cL_law (288 + j) n := dw_b (t := zt_L_law_5) ze_L_law_4 j e
theorem dL_law_288 : decode cL_law 288 = .ok (.pop, 1) := dop_87 (zb_L_law_4 0 rfl)
theorem dL_law_289 : decode cL_law 289 = .ok (.aload_n 2, 1) := dop_44 (zb_L_law_4 1 rfl)
theorem dL_law_290 : decode cL_law 290 = .ok (.aload_n 0, 1) := dop_42 (zb_L_law_4 2 rfl)
theorem dL_law_291 : decode cL_law 291 = .ok (.iload_n 3, 1) := dop_29 (zb_L_law_4 3 rfl)
theorem dL_law_292 : decode cL_law 292 = .ok (.iconst 1, 1) := dop_4 (zb_L_law_4 4 rfl)
theorem dL_law_293 : decode cL_law 293 = .ok (.iadd, 1) := dop_96 (zb_L_law_4 5 rfl)
theorem dL_law_294 : decode cL_law 294 = .ok (.iaload, 1) := dop_46 (zb_L_law_4 6 rfl)
theorem dL_law_295 : decode cL_law 295 = .ok (.aload_n 0, 1) := dop_42 (zb_L_law_4 7 rfl)
theorem dL_law_296 : decode cL_law 296 = .ok (.iload_n 3, 1) := dop_29 (zb_L_law_4 8 rfl)
theorem dL_law_297 : decode cL_law 297 = .ok (.iconst 2, 1) := dop_5 (zb_L_law_4 9 rfl)
theorem dL_law_298 : decode cL_law 298 = .ok (.iadd, 1) := dop_96 (zb_L_law_4 10 rfl)
theorem dL_law_299 : decode cL_law 299 = .ok (.iaload, 1) := dop_46 (zb_L_law_4 11 rfl)
theorem dL_law_300 : decode cL_law 300 = .ok (.invokevirtual 25, 3) := dop_182 (zb_L_law_4 12 rfl) (zb_L_law_4 13 rfl) (zb_L_law_4 14 rfl) rfl
theorem dL_law_303 : decode cL_law 303 = .ok (.pop, 1) := dop_87 (zb_L_law_4 15 rfl)
theorem dL_law_304 : decode cL_law 304 = .ok (.goto 1184, 3) := dop_167 (zb_L_law_4 16 rfl) (zb_L_law_4 17 rfl) (zb_L_law_4 18 rfl) rfl
theorem dL_law_307 : decode cL_law 307 = .ok (.aload_n 1, 1) := dop_43 (zb_L_law_4 19 rfl)
theorem dL_law_308 : decode cL_law 308 = .ok (.aload_n 0, 1) := dop_42 (zb_L_law_4 20 rfl)
theorem dL_law_309 : decode cL_law 309 = .ok (.iload_n 3, 1) := dop_29 (zb_L_law_4 21 rfl)
theorem dL_law_310 : decode cL_law 310 = .ok (.iconst 1, 1) := dop_4 (zb_L_law_4 22 rfl)
theorem dL_law_311 : decode cL_law 311 = .ok (.iadd, 1) := dop_96 (zb_L_law_4 23 rfl)
theorem dL_law_312 : decode cL_law 312 = .ok (.iaload, 1) := dop_46 (zb_L_law_4 24 rfl)
theorem dL_law_313 : decode cL_law 313 = .ok (.aload_n 0, 1) := dop_42 (zb_L_law_4 25 rfl)
theorem dL_law_314 : decode cL_law 314 = .ok (.iload_n 3, 1) := dop_29 (zb_L_law_4 26 rfl)
theorem dL_law_315 : decode cL_law 315 = .ok (.iconst 2, 1) := dop_5 (zb_L_law_4 27 rfl)
theorem dL_law_316 : decode cL_law 316 = .ok (.iadd, 1) := dop_96 (zb_L_law_4 28 rfl)
theorem dL_law_317 : decode cL_law 317 = .ok (.iaload, 1) := dop_46 (zb_L_law_4 29 rfl)
theorem dL_law_318 : decode cL_law 318 = .ok (.aload_n 0, 1) := dop_42 (zb_L_law_4 30 rfl)
theorem dL_law_319 : decode cL_law 319 = .ok (.iload_n 3, 1) := dop_29 (zb_L_law_4 31 rfl)
theorem dL_law_320 : decode cL_law 320 = .ok (.iconst 3, 1) := dop_6 (zb_L_law_4 32 rfl)
theorem dL_law_321 : decode cL_law 321 = .ok (.iadd, 1) := dop_96 (zb_L_law_4 33 rfl)
theorem dL_law_322 : decode cL_law 322 = .ok (.iaload, 1) := dop_46 (zb_L_law_4 34 rfl)
theorem dL_law_323 : decode cL_law 323 = .ok (.aload_n 0, 1) := dop_42 (zb_L_law_4 35 rfl)
theorem dL_law_324 : decode cL_law 324 = .ok (.iload_n 3, 1) := dop_29 (zb_L_law_4 36 rfl)
theorem dL_law_325 : decode cL_law 325 = .ok (.iconst 4, 1) := dop_7 (zb_L_law_4 37 rfl)
theorem dL_law_326 : decode cL_law 326 = .ok (.iadd, 1) := dop_96 (zb_L_law_4 38 rfl)
theorem dL_law_327 : decode cL_law 327 = .ok (.iaload, 1) := dop_46 (zb_L_law_4 39 rfl)
theorem ze_L_law_6 : (dcn cL_law).drop 368 = zt_L_law_6 := dw_n (wl := zw_L_law_5) ze_L_law_5 rfl
theorem zb_L_law_5 (j : Nat) {n : Nat} (e : zw_L_law_5[j]? = some n) : dby cL_law (328 + j) n := dw_b (t := zt_L_law_6) ze_L_law_5 j e
theorem dL_law_328 : decode cL_law 328 = .ok (.invokevirtual 26, 3) := dop_182 (zb_L_law_5 0 rfl) (zb_L_law_5 1 rfl) (zb_L_law_5 2 rfl) rfl
theorem dL_law_331 : decode cL_law 331 = .ok (.pop, 1) := dop_87 (zb_L_law_5 3 rfl)
theorem dL_law_332 : decode cL_law 332 = .ok (.aload_n 2, 1) := dop_44 (zb_L_law_5 4 rfl)
theorem dL_law_333 : decode cL_law 333 = .ok (.aload_n 0, 1) := dop_42 (zb_L_law_5 5 rfl)
theorem dL_law_334 : decode cL_law 334 = .ok (.iload_n 3, 1) := dop_29 (zb_L_law_5 6 rfl)
theorem dL_law_335 : decode cL_law 335 = .ok (.iconst 1, 1) := dop_4 (zb_L_law_5 7 rfl)
theorem dL_law_336 : decode cL_law 336 = .ok (.iadd, 1) := dop_96 (zb_L_law_5 8 rfl)
theorem dL_law_337 : decode cL_law 337 = .ok (.iaload, 1) := dop_46 (zb_L_law_5 9 rfl)
theorem dL_law_338 : decode cL_law 338 = .ok (.aload_n 0, 1) := dop_42 (zb_L_law_5 10 rfl)
theorem dL_law_339 : decode cL_law 339 = .ok (.iload_n 3, 1) := dop_29 (zb_L_law_5 11 rfl)
theorem dL_law_340 : decode cL_law 340 = .ok (.iconst 2, 1) := dop_5 (zb_L_law_5 12 rfl)
theorem dL_law_341 : decode cL_law 341 = .ok (.iadd, 1) := dop_96 (zb_L_law_5 13 rfl)
theorem dL_law_342 : decode cL_law 342 = .ok (.iaload, 1) := dop_46 (zb_L_law_5 14 rfl)
theorem dL_law_343 : decode cL_law 343 = .ok (.aload_n 0, 1) := dop_42 (zb_L_law_5 15 rfl)
theorem dL_law_344 : decode cL_law 344 = .ok (.iload_n 3, 1) := dop_29 (zb_L_law_5 16 rfl)
theorem dL_law_345 : decode cL_law 345 = .ok (.iconst 3, 1) := dop_6 (zb_L_law_5 17 rfl)
theorem dL_law_346 : decode cL_law 346 = .ok (.iadd, 1) := dop_96 (zb_L_law_5 18 rfl)
theorem dL_law_347 : decode cL_law 347 = .ok (.iaload, 1) := dop_46 (zb_L_law_5 19 rfl)
theorem dL_law_348 : decode cL_law 348 = .ok (.aload_n 0, 1) := dop_42 (zb_L_law_5 20 rfl)
theorem dL_law_349 : decode cL_law 349 = .ok (.iload_n 3, 1) := dop_29 (zb_L_law_5 21 rfl)
theorem dL_law_350 : decode cL_law 350 = .ok (.iconst 4, 1) := dop_7 (zb_L_law_5 22 rfl)
theorem dL_law_351 : decode cL_law 351 = .ok (.iadd, 1) := dop_96 (zb_L_law_5 23 rfl)
theorem dL_law_352 : decode cL_law 352 = .ok (.iaload, 1) := dop_46 (zb_L_law_5 24 rfl)
theorem dL_law_353 : decode cL_law 353 = .ok (.invokevirtual 30, 3) := dop_182 (zb_L_law_5 25 rfl) (zb_L_law_5 26 rfl) (zb_L_law_5 27 rfl) rfl
theorem dL_law_356 : decode cL_law 356 = .ok (.pop, 1) := dop_87 (zb_L_law_5 28 rfl)
theorem dL_law_357 : decode cL_law 357 = .ok (.goto 1131, 3) := dop_167 (zb_L_law_5 29 rfl) (zb_L_law_5 30 rfl) (zb_L_law_5 31 rfl) rfl
theorem dL_law_360 : decode cL_law 360 = .ok (.aload_n 1, 1) := dop_43 (zb_L_law_5 32 rfl)
theorem dL_law_361 : decode cL_law 361 = .ok (.aload_n 0, 1) := dop_42 (zb_L_law_5 33 rfl)
theorem dL_law_362 : decode cL_law 362 = .ok (.iload_n 3, 1) := dop_29 (zb_L_law_5 34 rfl)
theorem dL_law_363 : decode cL_law 363 = .ok (.iconst 1, 1) := dop_4 (zb_L_law_5 35 rfl)
theorem dL_law_364 : decode cL_law 364 = .ok (.iadd, 1) := dop_96 (zb_L_law_5 36 rfl)
theorem dL_law_365 : decode cL_law 365 = .ok (.iaload, 1) := dop_46 (zb_L_law_5 37 rfl)
theorem dL_law_366 : decode cL_law 366 = .ok (.aload_n 0, 1) := dop_42 (zb_L_law_5 38 rfl)
theorem dL_law_367 : decode cL_law 367 = .ok (.iload_n 3, 1) := dop_29 (zb_L_law_5 39 rfl)
theorem ze_L_law_7 : (dcn cL_law).drop 408 = zt_L_law_7 := dw_n (wl := zw_L_law_6) ze_L_law_6 rfl
theorem zb_L_law_6 (j : Nat) {n : Nat} (e : zw_L_law_6[j]? = some n) : dby cL_law (368 + j) n := dw_b (t := zt_L_law_7) ze_L_law_6 j e
theorem dL_law_368 : decode cL_law 368 = .ok (.iconst 2, 1) := dop_5 (zb_L_law_6 0 rfl)
theorem dL_law_369 : decode cL_law 369 = .ok (.iadd, 1) := dop_96 (zb_L_law_6 1 rfl)
theorem dL_law_370 : decode cL_law 370 = .ok (.iaload, 1) := dop_46 (zb_L_law_6 2 rfl)
theorem dL_law_371 : decode cL_law 371 = .ok (.invokevirtual 31, 3) := dop_182 (zb_L_law_6 3 rfl) (zb_L_law_6 4 rfl) (zb_L_law_6 5 rfl) rfl
theorem dL_law_374 : decode cL_law 374 = .ok (.pop, 1) := dop_87 (zb_L_law_6 6 rfl)
theorem dL_law_375 : decode cL_law 375 = .ok (.aload_n 2, 1) := dop_44 (zb_L_law_6 7 rfl)
theorem dL_law_376 : decode cL_law 376 = .ok (.aload_n 0, 1) := dop_42 (zb_L_law_6 8 rfl)
theorem dL_law_377 : decode cL_law 377 = .ok (.iload_n 3, 1) := dop_29 (zb_L_law_6 9 rfl)
theorem dL_law_378 : decode cL_law 378 = .ok (.iconst 1, 1) := dop_4 (zb_L_law_6 10 rfl)
theorem dL_law_379 : decode cL_law 379 = .ok (.iadd, 1) := dop_96 (zb_L_law_6 11 rfl)
theorem dL_law_380 : decode cL_law 380 = .ok (.iaload, 1) := dop_46 (zb_L_law_6 12 rfl)
theorem dL_law_381 : decode cL_law 381 = .ok (.aload_n 0, 1) := dop_42 (zb_L_law_6 13 rfl)
theorem dL_law_382 : decode cL_law 382 = .ok (.iload_n 3, 1) := dop_29 (zb_L_law_6 14 rfl)
theorem dL_law_383 : decode cL_law 383 = .ok (.iconst 2, 1) := dop_5 (zb_L_law_6 15 rfl)
theorem dL_law_384 : decode cL_law 384 = .ok (.iadd, 1) := dop_96 (zb_L_law_6 16 rfl)
theorem dL_law_385 : decode cL_law 385 = .ok (.iaload, 1) := dop_46 (zb_L_law_6 17 rfl)
theorem dL_law_386 : decode cL_law 386 = .ok (.invokevirtual 34, 3) := dop_182 (zb_L_law_6 18 rfl) (zb_L_law_6 19 rfl) (zb_L_law_6 20 rfl) rfl
theorem dL_law_389 : decode cL_law 389 = .ok (.pop, 1) := dop_87 (zb_L_law_6 21 rfl)
theorem dL_law_390 : decode cL_law 390 = .ok (.goto 1098, 3) := dop_167 (zb_L_law_6 22 rfl) (zb_L_law_6 23 rfl) (zb_L_law_6 24 rfl) rfl
theorem dL_law_393 : decode cL_law 393 = .ok (.aload_n 1, 1) := dop_43 (zb_L_law_6 25 rfl)
theorem dL_law_394 : decode cL_law 394 = .ok (.aload_n 0, 1) := dop_42 (zb_L_law_6 26 rfl)
theorem dL_law_395 : decode cL_law 395 = .ok (.iload_n 3, 1) := dop_29 (zb_L_law_6 27 rfl)
theorem dL_law_396 : decode cL_law 396 = .ok (.iconst 1, 1) := dop_4 (zb_L_law_6 28 rfl)
theorem dL_law_397 : decode cL_law 397 = .ok (.iadd, 1) := dop_96 (zb_L_law_6 29 rfl)
theorem dL_law_398 : decode cL_law 398 = .ok (.iaload, 1) := dop_46 (zb_L_law_6 30 rfl)
theorem dL_law_399 : decode cL_law 399 = .ok (.aload_n 0, 1) := dop_42 (zb_L_law_6 31 rfl)
theorem dL_law_400 : decode cL_law 400 = .ok (.iload_n 3, 1) := dop_29 (zb_L_law_6 32 rfl)
theorem dL_law_401 : decode cL_law 401 = .ok (.iconst 2, 1) := dop_5 (zb_L_law_6 33 rfl)
theorem dL_law_402 : decode cL_law 402 = .ok (.iadd, 1) := dop_96 (zb_L_law_6 34 rfl)
theorem dL_law_403 : decode cL_law 403 = .ok (.iaload, 1) := dop_46 (zb_L_law_6 35 rfl)
theorem dL_law_404 : decode cL_law 404 = .ok (.invokevirtual 35, 3) := dop_182 (zb_L_law_6 36 rfl) (zb_L_law_6 37 rfl) (zb_L_law_6 38 rfl) rfl
theorem dL_law_407 : decode cL_law 407 = .ok (.pop, 1) := dop_87 (zb_L_law_6 39 rfl)
theorem ze_L_law_8 : (dcn cL_law).drop 448 = zt_L_law_8 := dw_n (wl := zw_L_law_7) ze_L_law_7 rfl
theorem zb_L_law_7 (j : Nat) {n : Nat} (e : zw_L_law_7[j]? = some n) : dby cL_law (408 + j) n := dw_b (t := zt_L_law_8) ze_L_law_7 j e
theorem dL_law_408 : decode cL_law 408 = .ok (.aload_n 2, 1) := dop_44 (zb_L_law_7 0 rfl)
theorem dL_law_409 : decode cL_law 409 = .ok (.aload_n 0, 1) := dop_42 (zb_L_law_7 1 rfl)
theorem dL_law_410 : decode cL_law 410 = .ok (.iload_n 3, 1) := dop_29 (zb_L_law_7 2 rfl)
theorem dL_law_411 : decode cL_law 411 = .ok (.iconst 1, 1) := dop_4 (zb_L_law_7 3 rfl)
theorem dL_law_412 : decode cL_law 412 = .ok (.iadd, 1) := dop_96 (zb_L_law_7 4 rfl)
theorem dL_law_413 : decode cL_law 413 = .ok (.iaload, 1) := dop_46 (zb_L_law_7 5 rfl)
theorem dL_law_414 : decode cL_law 414 = .ok (.aload_n 0, 1) := dop_42 (zb_L_law_7 6 rfl)
theorem dL_law_415 : decode cL_law 415 = .ok (.iload_n 3, 1) := dop_29 (zb_L_law_7 7 rfl)
theorem dL_law_416 : decode cL_law 416 = .ok (.iconst 2, 1) := dop_5 (zb_L_law_7 8 rfl)
theorem dL_law_417 : decode cL_law 417 = .ok (.iadd, 1) := dop_96 (zb_L_law_7 9 rfl)
theorem dL_law_418 : decode cL_law 418 = .ok (.iaload, 1) := dop_46 (zb_L_law_7 10 rfl)
theorem dL_law_419 : decode cL_law 419 = .ok (.invokevirtual 38, 3) := dop_182 (zb_L_law_7 11 rfl) (zb_L_law_7 12 rfl) (zb_L_law_7 13 rfl) rfl
theorem dL_law_422 : decode cL_law 422 = .ok (.pop, 1) := dop_87 (zb_L_law_7 14 rfl)
theorem dL_law_423 : decode cL_law 423 = .ok (.goto 1065, 3) := dop_167 (zb_L_law_7 15 rfl) (zb_L_law_7 16 rfl) (zb_L_law_7 17 rfl) rfl
theorem dL_law_426 : decode cL_law 426 = .ok (.aload_n 1, 1) := dop_43 (zb_L_law_7 18 rfl)
theorem dL_law_427 : decode cL_law 427 = .ok (.aload_n 0, 1) := dop_42 (zb_L_law_7 19 rfl)
theorem dL_law_428 : decode cL_law 428 = .ok (.iload_n 3, 1) := dop_29 (zb_L_law_7 20 rfl)
theorem dL_law_429 : decode cL_law 429 = .ok (.iconst 1, 1) := dop_4 (zb_L_law_7 21 rfl)
theorem dL_law_430 : decode cL_law 430 = .ok (.iadd, 1) := dop_96 (zb_L_law_7 22 rfl)
theorem dL_law_431 : decode cL_law 431 = .ok (.iaload, 1) := dop_46 (zb_L_law_7 23 rfl)
theorem dL_law_432 : decode cL_law 432 = .ok (.aload_n 0, 1) := dop_42 (zb_L_law_7 24 rfl)
theorem dL_law_433 : decode cL_law 433 = .ok (.iload_n 3, 1) := dop_29 (zb_L_law_7 25 rfl)
theorem dL_law_434 : decode cL_law 434 = .ok (.iconst 2, 1) := dop_5 (zb_L_law_7 26 rfl)
theorem dL_law_435 : decode cL_law 435 = .ok (.iadd, 1) := dop_96 (zb_L_law_7 27 rfl)
theorem dL_law_436 : decode cL_law 436 = .ok (.iaload, 1) := dop_46 (zb_L_law_7 28 rfl)
theorem dL_law_437 : decode cL_law 437 = .ok (.aload_n 0, 1) := dop_42 (zb_L_law_7 29 rfl)
theorem dL_law_438 : decode cL_law 438 = .ok (.iload_n 3, 1) := dop_29 (zb_L_law_7 30 rfl)
theorem dL_law_439 : decode cL_law 439 = .ok (.iconst 3, 1) := dop_6 (zb_L_law_7 31 rfl)
theorem dL_law_440 : decode cL_law 440 = .ok (.iadd, 1) := dop_96 (zb_L_law_7 32 rfl)
theorem dL_law_441 : decode cL_law 441 = .ok (.iaload, 1) := dop_46 (zb_L_law_7 33 rfl)
theorem dL_law_442 : decode cL_law 442 = .ok (.aload_n 0, 1) := dop_42 (zb_L_law_7 34 rfl)
theorem dL_law_443 : decode cL_law 443 = .ok (.iload_n 3, 1) := dop_29 (zb_L_law_7 35 rfl)
theorem dL_law_444 : decode cL_law 444 = .ok (.iconst 4, 1) := dop_7 (zb_L_law_7 36 rfl)
theorem dL_law_445 : decode cL_law 445 = .ok (.iadd, 1) := dop_96 (zb_L_law_7 37 rfl)
theorem dL_law_446 : decode cL_law 446 = .ok (.iaload, 1) := dop_46 (zb_L_law_7 38 rfl)
theorem dL_law_447 : decode cL_law 447 = .ok (.aload_n 0, 1) := dop_42 (zb_L_law_7 39 rfl)
theorem ze_L_law_9 : (dcn cL_law).drop 486 = zt_L_law_9 := dw_n (wl := zw_L_law_8) ze_L_law_8 rfl
theorem zb_L_law_8 (j : Nat) {n : Nat} (e : zw_L_law_8[j]? = some n) : dby cL_law (448 + j) n := dw_b (t := zt_L_law_9) ze_L_law_8 j e
theorem dL_law_448 : decode cL_law 448 = .ok (.iload_n 3, 1) := dop_29 (zb_L_law_8 0 rfl)
theorem dL_law_449 : decode cL_law 449 = .ok (.iconst 5, 1) := dop_8 (zb_L_law_8 1 rfl)
theorem dL_law_450 : decode cL_law 450 = .ok (.iadd, 1) := dop_96 (zb_L_law_8 2 rfl)
theorem dL_law_451 : decode cL_law 451 = .ok (.iaload, 1) := dop_46 (zb_L_law_8 3 rfl)
theorem dL_law_452 : decode cL_law 452 = .ok (.invokevirtual 39, 3) := dop_182 (zb_L_law_8 4 rfl) (zb_L_law_8 5 rfl) (zb_L_law_8 6 rfl) rfl
theorem dL_law_455 : decode cL_law 455 = .ok (.pop, 1) := dop_87 (zb_L_law_8 7 rfl)
theorem dL_law_456 : decode cL_law 456 = .ok (.aload_n 2, 1) := dop_44 (zb_L_law_8 8 rfl)
theorem dL_law_457 : decode cL_law 457 = .ok (.aload_n 0, 1) := dop_42 (zb_L_law_8 9 rfl)
theorem dL_law_458 : decode cL_law 458 = .ok (.iload_n 3, 1) := dop_29 (zb_L_law_8 10 rfl)
theorem dL_law_459 : decode cL_law 459 = .ok (.iconst 1, 1) := dop_4 (zb_L_law_8 11 rfl)
theorem dL_law_460 : decode cL_law 460 = .ok (.iadd, 1) := dop_96 (zb_L_law_8 12 rfl)
theorem dL_law_461 : decode cL_law 461 = .ok (.iaload, 1) := dop_46 (zb_L_law_8 13 rfl)
theorem dL_law_462 : decode cL_law 462 = .ok (.aload_n 0, 1) := dop_42 (zb_L_law_8 14 rfl)
theorem dL_law_463 : decode cL_law 463 = .ok (.iload_n 3, 1) := dop_29 (zb_L_law_8 15 rfl)
theorem dL_law_464 : decode cL_law 464 = .ok (.iconst 2, 1) := dop_5 (zb_L_law_8 16 rfl)
theorem dL_law_465 : decode cL_law 465 = .ok (.iadd, 1) := dop_96 (zb_L_law_8 17 rfl)
theorem dL_law_466 : decode cL_law 466 = .ok (.iaload, 1) := dop_46 (zb_L_law_8 18 rfl)
theorem dL_law_467 : decode cL_law 467 = .ok (.aload_n 0, 1) := dop_42 (zb_L_law_8 19 rfl)
theorem dL_law_468 : decode cL_law 468 = .ok (.iload_n 3, 1) := dop_29 (zb_L_law_8 20 rfl)
theorem dL_law_469 : decode cL_law 469 = .ok (.iconst 3, 1) := dop_6 (zb_L_law_8 21 rfl)
theorem dL_law_470 : decode cL_law 470 = .ok (.iadd, 1) := dop_96 (zb_L_law_8 22 rfl)
theorem dL_law_471 : decode cL_law 471 = .ok (.iaload, 1) := dop_46 (zb_L_law_8 23 rfl)
theorem dL_law_472 : decode cL_law 472 = .ok (.aload_n 0, 1) := dop_42 (zb_L_law_8 24 rfl)
theorem dL_law_473 : decode cL_law 473 = .ok (.iload_n 3, 1) := dop_29 (zb_L_law_8 25 rfl)
theorem dL_law_474 : decode cL_law 474 = .ok (.iconst 4, 1) := dop_7 (zb_L_law_8 26 rfl)
theorem dL_law_475 : decode cL_law 475 = .ok (.iadd, 1) := dop_96 (zb_L_law_8 27 rfl)
theorem dL_law_476 : decode cL_law 476 = .ok (.iaload, 1) := dop_46 (zb_L_law_8 28 rfl)
theorem dL_law_477 : decode cL_law 477 = .ok (.aload_n 0, 1) := dop_42 (zb_L_law_8 29 rfl)
theorem dL_law_478 : decode cL_law 478 = .ok (.iload_n 3, 1) := dop_29 (zb_L_law_8 30 rfl)
theorem dL_law_479 : decode cL_law 479 = .ok (.iconst 5, 1) := dop_8 (zb_L_law_8 31 rfl)
theorem dL_law_480 : decode cL_law 480 = .ok (.iadd, 1) := dop_96 (zb_L_law_8 32 rfl)
theorem dL_law_481 : decode cL_law 481 = .ok (.iaload, 1) := dop_46 (zb_L_law_8 33 rfl)
theorem dL_law_482 : decode cL_law 482 = .ok (.invokevirtual 43, 3) := dop_182 (zb_L_law_8 34 rfl) (zb_L_law_8 35 rfl) (zb_L_law_8 36 rfl) rfl
theorem dL_law_485 : decode cL_law 485 = .ok (.pop, 1) := dop_87 (zb_L_law_8 37 rfl)
theorem ze_L_law_10 : (dcn cL_law).drop 526 = zt_L_law_10 := dw_n (wl := zw_L_law_9) ze_L_law_9 rfl
theorem zb_L_law_9 (j : Nat) {n : Nat} (e : zw_L_law_9[j]? = some n) : dby cL_law (486 + j) n := dw_b (t := zt_L_law_10) ze_L_law_9 j e
theorem dL_law_486 : decode cL_law 486 = .ok (.goto 1002, 3) := dop_167 (zb_L_law_9 0 rfl) (zb_L_law_9 1 rfl) (zb_L_law_9 2 rfl) rfl
theorem dL_law_489 : decode cL_law 489 = .ok (.aload_n 1, 1) := dop_43 (zb_L_law_9 3 rfl)
theorem dL_law_490 : decode cL_law 490 = .ok (.aload_n 0, 1) := dop_42 (zb_L_law_9 4 rfl)
theorem dL_law_491 : decode cL_law 491 = .ok (.iload_n 3, 1) := dop_29 (zb_L_law_9 5 rfl)
theorem dL_law_492 : decode cL_law 492 = .ok (.iconst 1, 1) := dop_4 (zb_L_law_9 6 rfl)
theorem dL_law_493 : decode cL_law 493 = .ok (.iadd, 1) := dop_96 (zb_L_law_9 7 rfl)
theorem dL_law_494 : decode cL_law 494 = .ok (.iaload, 1) := dop_46 (zb_L_law_9 8 rfl)
theorem dL_law_495 : decode cL_law 495 = .ok (.invokevirtual 44, 3) := dop_182 (zb_L_law_9 9 rfl) (zb_L_law_9 10 rfl) (zb_L_law_9 11 rfl) rfl
theorem dL_law_498 : decode cL_law 498 = .ok (.pop, 1) := dop_87 (zb_L_law_9 12 rfl)
theorem dL_law_499 : decode cL_law 499 = .ok (.aload_n 2, 1) := dop_44 (zb_L_law_9 13 rfl)
theorem dL_law_500 : decode cL_law 500 = .ok (.aload_n 0, 1) := dop_42 (zb_L_law_9 14 rfl)
theorem dL_law_501 : decode cL_law 501 = .ok (.iload_n 3, 1) := dop_29 (zb_L_law_9 15 rfl)
theorem dL_law_502 : decode cL_law 502 = .ok (.iconst 1, 1) := dop_4 (zb_L_law_9 16 rfl)
theorem dL_law_503 : decode cL_law 503 = .ok (.iadd, 1) := dop_96 (zb_L_law_9 17 rfl)
theorem dL_law_504 : decode cL_law 504 = .ok (.iaload, 1) := dop_46 (zb_L_law_9 18 rfl)
theorem dL_law_505 : decode cL_law 505 = .ok (.invokevirtual 48, 3) := dop_182 (zb_L_law_9 19 rfl) (zb_L_law_9 20 rfl) (zb_L_law_9 21 rfl) rfl
theorem dL_law_508 : decode cL_law 508 = .ok (.pop, 1) := dop_87 (zb_L_law_9 22 rfl)
theorem dL_law_509 : decode cL_law 509 = .ok (.goto 979, 3) := dop_167 (zb_L_law_9 23 rfl) (zb_L_law_9 24 rfl) (zb_L_law_9 25 rfl) rfl
theorem dL_law_512 : decode cL_law 512 = .ok (.aload_n 1, 1) := dop_43 (zb_L_law_9 26 rfl)
theorem dL_law_513 : decode cL_law 513 = .ok (.invokevirtual 49, 3) := dop_182 (zb_L_law_9 27 rfl) (zb_L_law_9 28 rfl) (zb_L_law_9 29 rfl) rfl
theorem dL_law_516 : decode cL_law 516 = .ok (.pop, 1) := dop_87 (zb_L_law_9 30 rfl)
theorem dL_law_517 : decode cL_law 517 = .ok (.aload_n 2, 1) := dop_44 (zb_L_law_9 31 rfl)
theorem dL_law_518 : decode cL_law 518 = .ok (.invokevirtual 53, 3) := dop_182 (zb_L_law_9 32 rfl) (zb_L_law_9 33 rfl) (zb_L_law_9 34 rfl) rfl
theorem dL_law_521 : decode cL_law 521 = .ok (.pop, 1) := dop_87 (zb_L_law_9 35 rfl)
theorem dL_law_522 : decode cL_law 522 = .ok (.goto 966, 3) := dop_167 (zb_L_law_9 36 rfl) (zb_L_law_9 37 rfl) (zb_L_law_9 38 rfl) rfl
theorem dL_law_525 : decode cL_law 525 = .ok (.aload_n 1, 1) := dop_43 (zb_L_law_9 39 rfl)
theorem ze_L_law_11 : (dcn cL_law).drop 565 = zt_L_law_11 := dw_n (wl := zw_L_law_10) ze_L_law_10 rfl
theorem zb_L_law_10 (j : Nat) {n : Nat} (e : zw_L_law_10[j]? = some n) : dby cL_law (526 + j) n := dw_b (t := zt_L_law_11) ze_L_law_10 j e
theorem dL_law_526 : decode cL_law 526 = .ok (.invokevirtual 54, 3) := dop_182 (zb_L_law_10 0 rfl) (zb_L_law_10 1 rfl) (zb_L_law_10 2 rfl) rfl
theorem dL_law_529 : decode cL_law 529 = .ok (.pop, 1) := dop_87 (zb_L_law_10 3 rfl)
theorem dL_law_530 : decode cL_law 530 = .ok (.aload_n 2, 1) := dop_44 (zb_L_law_10 4 rfl)
theorem dL_law_531 : decode cL_law 531 = .ok (.invokevirtual 57, 3) := dop_182 (zb_L_law_10 5 rfl) (zb_L_law_10 6 rfl) (zb_L_law_10 7 rfl) rfl
theorem dL_law_534 : decode cL_law 534 = .ok (.pop, 1) := dop_87 (zb_L_law_10 8 rfl)
theorem dL_law_535 : decode cL_law 535 = .ok (.goto 953, 3) := dop_167 (zb_L_law_10 9 rfl) (zb_L_law_10 10 rfl) (zb_L_law_10 11 rfl) rfl
theorem dL_law_538 : decode cL_law 538 = .ok (.aload_n 1, 1) := dop_43 (zb_L_law_10 12 rfl)
theorem dL_law_539 : decode cL_law 539 = .ok (.invokevirtual 58, 3) := dop_182 (zb_L_law_10 13 rfl) (zb_L_law_10 14 rfl) (zb_L_law_10 15 rfl) rfl
theorem dL_law_542 : decode cL_law 542 = .ok (.pop, 1) := dop_87 (zb_L_law_10 16 rfl)
theorem dL_law_543 : decode cL_law 543 = .ok (.aload_n 2, 1) := dop_44 (zb_L_law_10 17 rfl)
theorem dL_law_544 : decode cL_law 544 = .ok (.invokevirtual 61, 3) := dop_182 (zb_L_law_10 18 rfl) (zb_L_law_10 19 rfl) (zb_L_law_10 20 rfl) rfl
theorem dL_law_547 : decode cL_law 547 = .ok (.pop, 1) := dop_87 (zb_L_law_10 21 rfl)
theorem dL_law_548 : decode cL_law 548 = .ok (.goto 940, 3) := dop_167 (zb_L_law_10 22 rfl) (zb_L_law_10 23 rfl) (zb_L_law_10 24 rfl) rfl
theorem dL_law_551 : decode cL_law 551 = .ok (.aload_n 1, 1) := dop_43 (zb_L_law_10 25 rfl)
theorem dL_law_552 : decode cL_law 552 = .ok (.invokevirtual 62, 3) := dop_182 (zb_L_law_10 26 rfl) (zb_L_law_10 27 rfl) (zb_L_law_10 28 rfl) rfl
theorem dL_law_555 : decode cL_law 555 = .ok (.pop, 1) := dop_87 (zb_L_law_10 29 rfl)
theorem dL_law_556 : decode cL_law 556 = .ok (.aload_n 2, 1) := dop_44 (zb_L_law_10 30 rfl)
theorem dL_law_557 : decode cL_law 557 = .ok (.invokevirtual 65, 3) := dop_182 (zb_L_law_10 31 rfl) (zb_L_law_10 32 rfl) (zb_L_law_10 33 rfl) rfl
theorem dL_law_560 : decode cL_law 560 = .ok (.pop, 1) := dop_87 (zb_L_law_10 34 rfl)
theorem dL_law_561 : decode cL_law 561 = .ok (.goto 927, 3) := dop_167 (zb_L_law_10 35 rfl) (zb_L_law_10 36 rfl) (zb_L_law_10 37 rfl) rfl
theorem dL_law_564 : decode cL_law 564 = .ok (.aload_n 1, 1) := dop_43 (zb_L_law_10 38 rfl)
theorem ze_L_law_12 : (dcn cL_law).drop 605 = zt_L_law_12 := dw_n (wl := zw_L_law_11) ze_L_law_11 rfl
theorem zb_L_law_11 (j : Nat) {n : Nat} (e : zw_L_law_11[j]? = some n) : dby cL_law (565 + j) n := dw_b (t := zt_L_law_12) ze_L_law_11 j e
theorem dL_law_565 : decode cL_law 565 = .ok (.invokevirtual 66, 3) := dop_182 (zb_L_law_11 0 rfl) (zb_L_law_11 1 rfl) (zb_L_law_11 2 rfl) rfl
theorem dL_law_568 : decode cL_law 568 = .ok (.pop, 1) := dop_87 (zb_L_law_11 3 rfl)
theorem dL_law_569 : decode cL_law 569 = .ok (.aload_n 2, 1) := dop_44 (zb_L_law_11 4 rfl)
theorem dL_law_570 : decode cL_law 570 = .ok (.invokevirtual 69, 3) := dop_182 (zb_L_law_11 5 rfl) (zb_L_law_11 6 rfl) (zb_L_law_11 7 rfl) rfl
theorem dL_law_573 : decode cL_law 573 = .ok (.pop, 1) := dop_87 (zb_L_law_11 8 rfl)
theorem dL_law_574 : decode cL_law 574 = .ok (.goto 914, 3) := dop_167 (zb_L_law_11 9 rfl) (zb_L_law_11 10 rfl) (zb_L_law_11 11 rfl) rfl
theorem dL_law_577 : decode cL_law 577 = .ok (.aload_n 1, 1) := dop_43 (zb_L_law_11 12 rfl)
theorem dL_law_578 : decode cL_law 578 = .ok (.aload_n 0, 1) := dop_42 (zb_L_law_11 13 rfl)
theorem dL_law_579 : decode cL_law 579 = .ok (.iload_n 3, 1) := dop_29 (zb_L_law_11 14 rfl)
theorem dL_law_580 : decode cL_law 580 = .ok (.iconst 1, 1) := dop_4 (zb_L_law_11 15 rfl)
theorem dL_law_581 : decode cL_law 581 = .ok (.iadd, 1) := dop_96 (zb_L_law_11 16 rfl)
theorem dL_law_582 : decode cL_law 582 = .ok (.iaload, 1) := dop_46 (zb_L_law_11 17 rfl)
theorem dL_law_583 : decode cL_law 583 = .ok (.aload_n 0, 1) := dop_42 (zb_L_law_11 18 rfl)
theorem dL_law_584 : decode cL_law 584 = .ok (.iload_n 3, 1) := dop_29 (zb_L_law_11 19 rfl)
theorem dL_law_585 : decode cL_law 585 = .ok (.iconst 2, 1) := dop_5 (zb_L_law_11 20 rfl)
theorem dL_law_586 : decode cL_law 586 = .ok (.iadd, 1) := dop_96 (zb_L_law_11 21 rfl)
theorem dL_law_587 : decode cL_law 587 = .ok (.iaload, 1) := dop_46 (zb_L_law_11 22 rfl)
theorem dL_law_588 : decode cL_law 588 = .ok (.aload_n 0, 1) := dop_42 (zb_L_law_11 23 rfl)
theorem dL_law_589 : decode cL_law 589 = .ok (.iload_n 3, 1) := dop_29 (zb_L_law_11 24 rfl)
theorem dL_law_590 : decode cL_law 590 = .ok (.iconst 3, 1) := dop_6 (zb_L_law_11 25 rfl)
theorem dL_law_591 : decode cL_law 591 = .ok (.iadd, 1) := dop_96 (zb_L_law_11 26 rfl)
theorem dL_law_592 : decode cL_law 592 = .ok (.iaload, 1) := dop_46 (zb_L_law_11 27 rfl)
theorem dL_law_593 : decode cL_law 593 = .ok (.invokevirtual 70, 3) := dop_182 (zb_L_law_11 28 rfl) (zb_L_law_11 29 rfl) (zb_L_law_11 30 rfl) rfl
theorem dL_law_596 : decode cL_law 596 = .ok (.pop, 1) := dop_87 (zb_L_law_11 31 rfl)
theorem dL_law_597 : decode cL_law 597 = .ok (.aload_n 2, 1) := dop_44 (zb_L_law_11 32 rfl)
theorem dL_law_598 : decode cL_law 598 = .ok (.aload_n 0, 1) := dop_42 (zb_L_law_11 33 rfl)
theorem dL_law_599 : decode cL_law 599 = .ok (.iload_n 3, 1) := dop_29 (zb_L_law_11 34 rfl)
theorem dL_law_600 : decode cL_law 600 = .ok (.iconst 1, 1) := dop_4 (zb_L_law_11 35 rfl)
theorem dL_law_601 : decode cL_law 601 = .ok (.iadd, 1) := dop_96 (zb_L_law_11 36 rfl)
theorem dL_law_602 : decode cL_law 602 = .ok (.iaload, 1) := dop_46 (zb_L_law_11 37 rfl)
theorem dL_law_603 : decode cL_law 603 = .ok (.aload_n 0, 1) := dop_42 (zb_L_law_11 38 rfl)
theorem dL_law_604 : decode cL_law 604 = .ok (.iload_n 3, 1) := dop_29 (zb_L_law_11 39 rfl)
theorem ze_L_law_13 : (dcn cL_law).drop 645 = zt_L_law_13 := dw_n (wl := zw_L_law_12) ze_L_law_12 rfl
theorem zb_L_law_12 (j : Nat) {n : Nat} (e : zw_L_law_12[j]? = some n) : dby cL_law (605 + j) n := dw_b (t := zt_L_law_13) ze_L_law_12 j e
theorem dL_law_605 : decode cL_law 605 = .ok (.iconst 2, 1) := dop_5 (zb_L_law_12 0 rfl)
theorem dL_law_606 : decode cL_law 606 = .ok (.iadd, 1) := dop_96 (zb_L_law_12 1 rfl)
theorem dL_law_607 : decode cL_law 607 = .ok (.iaload, 1) := dop_46 (zb_L_law_12 2 rfl)
theorem dL_law_608 : decode cL_law 608 = .ok (.aload_n 0, 1) := dop_42 (zb_L_law_12 3 rfl)
theorem dL_law_609 : decode cL_law 609 = .ok (.iload_n 3, 1) := dop_29 (zb_L_law_12 4 rfl)
theorem dL_law_610 : decode cL_law 610 = .ok (.iconst 3, 1) := dop_6 (zb_L_law_12 5 rfl)
theorem dL_law_611 : decode cL_law 611 = .ok (.iadd, 1) := dop_96 (zb_L_law_12 6 rfl)
theorem dL_law_612 : decode cL_law 612 = .ok (.iaload, 1) := dop_46 (zb_L_law_12 7 rfl)
theorem dL_law_613 : decode cL_law 613 = .ok (.invokevirtual 74, 3) := dop_182 (zb_L_law_12 8 rfl) (zb_L_law_12 9 rfl) (zb_L_law_12 10 rfl) rfl
theorem dL_law_616 : decode cL_law 616 = .ok (.pop, 1) := dop_87 (zb_L_law_12 11 rfl)
theorem dL_law_617 : decode cL_law 617 = .ok (.goto 871, 3) := dop_167 (zb_L_law_12 12 rfl) (zb_L_law_12 13 rfl) (zb_L_law_12 14 rfl) rfl
theorem dL_law_620 : decode cL_law 620 = .ok (.aload_n 1, 1) := dop_43 (zb_L_law_12 15 rfl)
theorem dL_law_621 : decode cL_law 621 = .ok (.aload_n 0, 1) := dop_42 (zb_L_law_12 16 rfl)
theorem dL_law_622 : decode cL_law 622 = .ok (.iload_n 3, 1) := dop_29 (zb_L_law_12 17 rfl)
theorem dL_law_623 : decode cL_law 623 = .ok (.iconst 1, 1) := dop_4 (zb_L_law_12 18 rfl)
theorem dL_law_624 : decode cL_law 624 = .ok (.iadd, 1) := dop_96 (zb_L_law_12 19 rfl)
theorem dL_law_625 : decode cL_law 625 = .ok (.iaload, 1) := dop_46 (zb_L_law_12 20 rfl)
theorem dL_law_626 : decode cL_law 626 = .ok (.aload_n 0, 1) := dop_42 (zb_L_law_12 21 rfl)
theorem dL_law_627 : decode cL_law 627 = .ok (.iload_n 3, 1) := dop_29 (zb_L_law_12 22 rfl)
theorem dL_law_628 : decode cL_law 628 = .ok (.iconst 2, 1) := dop_5 (zb_L_law_12 23 rfl)
theorem dL_law_629 : decode cL_law 629 = .ok (.iadd, 1) := dop_96 (zb_L_law_12 24 rfl)
theorem dL_law_630 : decode cL_law 630 = .ok (.iaload, 1) := dop_46 (zb_L_law_12 25 rfl)
theorem dL_law_631 : decode cL_law 631 = .ok (.invokevirtual 75, 3) := dop_182 (zb_L_law_12 26 rfl) (zb_L_law_12 27 rfl) (zb_L_law_12 28 rfl) rfl
theorem dL_law_634 : decode cL_law 634 = .ok (.pop, 1) := dop_87 (zb_L_law_12 29 rfl)
theorem dL_law_635 : decode cL_law 635 = .ok (.aload_n 2, 1) := dop_44 (zb_L_law_12 30 rfl)
theorem dL_law_636 : decode cL_law 636 = .ok (.aload_n 0, 1) := dop_42 (zb_L_law_12 31 rfl)
theorem dL_law_637 : decode cL_law 637 = .ok (.iload_n 3, 1) := dop_29 (zb_L_law_12 32 rfl)
theorem dL_law_638 : decode cL_law 638 = .ok (.iconst 1, 1) := dop_4 (zb_L_law_12 33 rfl)
theorem dL_law_639 : decode cL_law 639 = .ok (.iadd, 1) := dop_96 (zb_L_law_12 34 rfl)
theorem dL_law_640 : decode cL_law 640 = .ok (.iaload, 1) := dop_46 (zb_L_law_12 35 rfl)
theorem dL_law_641 : decode cL_law 641 = .ok (.aload_n 0, 1) := dop_42 (zb_L_law_12 36 rfl)
theorem dL_law_642 : decode cL_law 642 = .ok (.iload_n 3, 1) := dop_29 (zb_L_law_12 37 rfl)
theorem dL_law_643 : decode cL_law 643 = .ok (.iconst 2, 1) := dop_5 (zb_L_law_12 38 rfl)
theorem dL_law_644 : decode cL_law 644 = .ok (.iadd, 1) := dop_96 (zb_L_law_12 39 rfl)
theorem ze_L_law_14 : (dcn cL_law).drop 685 = zt_L_law_14 := dw_n (wl := zw_L_law_13) ze_L_law_13 rfl
theorem zb_L_law_13 (j : Nat) {n : Nat} (e : zw_L_law_13[j]? = some n) : dby cL_law (645 + j) n := dw_b (t := zt_L_law_14) ze_L_law_13 j e
theorem dL_law_645 : decode cL_law 645 = .ok (.iaload, 1) := dop_46 (zb_L_law_13 0 rfl)
theorem dL_law_646 : decode cL_law 646 = .ok (.invokevirtual 78, 3) := dop_182 (zb_L_law_13 1 rfl) (zb_L_law_13 2 rfl) (zb_L_law_13 3 rfl) rfl
theorem dL_law_649 : decode cL_law 649 = .ok (.pop, 1) := dop_87 (zb_L_law_13 4 rfl)
theorem dL_law_650 : decode cL_law 650 = .ok (.goto 838, 3) := dop_167 (zb_L_law_13 5 rfl) (zb_L_law_13 6 rfl) (zb_L_law_13 7 rfl) rfl
theorem dL_law_653 : decode cL_law 653 = .ok (.aload_n 1, 1) := dop_43 (zb_L_law_13 8 rfl)
theorem dL_law_654 : decode cL_law 654 = .ok (.aload_n 0, 1) := dop_42 (zb_L_law_13 9 rfl)
theorem dL_law_655 : decode cL_law 655 = .ok (.iload_n 3, 1) := dop_29 (zb_L_law_13 10 rfl)
theorem dL_law_656 : decode cL_law 656 = .ok (.iconst 1, 1) := dop_4 (zb_L_law_13 11 rfl)
theorem dL_law_657 : decode cL_law 657 = .ok (.iadd, 1) := dop_96 (zb_L_law_13 12 rfl)
theorem dL_law_658 : decode cL_law 658 = .ok (.iaload, 1) := dop_46 (zb_L_law_13 13 rfl)
theorem dL_law_659 : decode cL_law 659 = .ok (.aload_n 0, 1) := dop_42 (zb_L_law_13 14 rfl)
theorem dL_law_660 : decode cL_law 660 = .ok (.iload_n 3, 1) := dop_29 (zb_L_law_13 15 rfl)
theorem dL_law_661 : decode cL_law 661 = .ok (.iconst 2, 1) := dop_5 (zb_L_law_13 16 rfl)
theorem dL_law_662 : decode cL_law 662 = .ok (.iadd, 1) := dop_96 (zb_L_law_13 17 rfl)
theorem dL_law_663 : decode cL_law 663 = .ok (.iaload, 1) := dop_46 (zb_L_law_13 18 rfl)
theorem dL_law_664 : decode cL_law 664 = .ok (.aload_n 0, 1) := dop_42 (zb_L_law_13 19 rfl)
theorem dL_law_665 : decode cL_law 665 = .ok (.iload_n 3, 1) := dop_29 (zb_L_law_13 20 rfl)
theorem dL_law_666 : decode cL_law 666 = .ok (.iconst 3, 1) := dop_6 (zb_L_law_13 21 rfl)
theorem dL_law_667 : decode cL_law 667 = .ok (.iadd, 1) := dop_96 (zb_L_law_13 22 rfl)
theorem dL_law_668 : decode cL_law 668 = .ok (.iaload, 1) := dop_46 (zb_L_law_13 23 rfl)
theorem dL_law_669 : decode cL_law 669 = .ok (.invokevirtual 79, 3) := dop_182 (zb_L_law_13 24 rfl) (zb_L_law_13 25 rfl) (zb_L_law_13 26 rfl) rfl
theorem dL_law_672 : decode cL_law 672 = .ok (.pop, 1) := dop_87 (zb_L_law_13 27 rfl)
theorem dL_law_673 : decode cL_law 673 = .ok (.aload_n 2, 1) := dop_44 (zb_L_law_13 28 rfl)
theorem dL_law_674 : decode cL_law 674 = .ok (.aload_n 0, 1) := dop_42 (zb_L_law_13 29 rfl)
theorem dL_law_675 : decode cL_law 675 = .ok (.iload_n 3, 1) := dop_29 (zb_L_law_13 30 rfl)
theorem dL_law_676 : decode cL_law 676 = .ok (.iconst 1, 1) := dop_4 (zb_L_law_13 31 rfl)
theorem dL_law_677 : decode cL_law 677 = .ok (.iadd, 1) := dop_96 (zb_L_law_13 32 rfl)
theorem dL_law_678 : decode cL_law 678 = .ok (.iaload, 1) := dop_46 (zb_L_law_13 33 rfl)
theorem dL_law_679 : decode cL_law 679 = .ok (.aload_n 0, 1) := dop_42 (zb_L_law_13 34 rfl)
theorem dL_law_680 : decode cL_law 680 = .ok (.iload_n 3, 1) := dop_29 (zb_L_law_13 35 rfl)
theorem dL_law_681 : decode cL_law 681 = .ok (.iconst 2, 1) := dop_5 (zb_L_law_13 36 rfl)
theorem dL_law_682 : decode cL_law 682 = .ok (.iadd, 1) := dop_96 (zb_L_law_13 37 rfl)
theorem dL_law_683 : decode cL_law 683 = .ok (.iaload, 1) := dop_46 (zb_L_law_13 38 rfl)
theorem dL_law_684 : decode cL_law 684 = .ok (.aload_n 0, 1) := dop_42 (zb_L_law_13 39 rfl)
theorem ze_L_law_15 : (dcn cL_law).drop 725 = zt_L_law_15 := dw_n (wl := zw_L_law_14) ze_L_law_14 rfl
theorem zb_L_law_14 (j : Nat) {n : Nat} (e : zw_L_law_14[j]? = some n) : dby cL_law (685 + j) n := dw_b (t := zt_L_law_15) ze_L_law_14 j e
theorem dL_law_685 : decode cL_law 685 = .ok (.iload_n 3, 1) := dop_29 (zb_L_law_14 0 rfl)
theorem dL_law_686 : decode cL_law 686 = .ok (.iconst 3, 1) := dop_6 (zb_L_law_14 1 rfl)
theorem dL_law_687 : decode cL_law 687 = .ok (.iadd, 1) := dop_96 (zb_L_law_14 2 rfl)
theorem dL_law_688 : decode cL_law 688 = .ok (.iaload, 1) := dop_46 (zb_L_law_14 3 rfl)
theorem dL_law_689 : decode cL_law 689 = .ok (.invokevirtual 82, 3) := dop_182 (zb_L_law_14 4 rfl) (zb_L_law_14 5 rfl) (zb_L_law_14 6 rfl) rfl
theorem dL_law_692 : decode cL_law 692 = .ok (.pop, 1) := dop_87 (zb_L_law_14 7 rfl)
theorem dL_law_693 : decode cL_law 693 = .ok (.goto 795, 3) := dop_167 (zb_L_law_14 8 rfl) (zb_L_law_14 9 rfl) (zb_L_law_14 10 rfl) rfl
theorem dL_law_696 : decode cL_law 696 = .ok (.aload_n 1, 1) := dop_43 (zb_L_law_14 11 rfl)
theorem dL_law_697 : decode cL_law 697 = .ok (.aload_n 0, 1) := dop_42 (zb_L_law_14 12 rfl)
theorem dL_law_698 : decode cL_law 698 = .ok (.iload_n 3, 1) := dop_29 (zb_L_law_14 13 rfl)
theorem dL_law_699 : decode cL_law 699 = .ok (.iconst 1, 1) := dop_4 (zb_L_law_14 14 rfl)
theorem dL_law_700 : decode cL_law 700 = .ok (.iadd, 1) := dop_96 (zb_L_law_14 15 rfl)
theorem dL_law_701 : decode cL_law 701 = .ok (.iaload, 1) := dop_46 (zb_L_law_14 16 rfl)
theorem dL_law_702 : decode cL_law 702 = .ok (.aload_n 0, 1) := dop_42 (zb_L_law_14 17 rfl)
theorem dL_law_703 : decode cL_law 703 = .ok (.iload_n 3, 1) := dop_29 (zb_L_law_14 18 rfl)
theorem dL_law_704 : decode cL_law 704 = .ok (.iconst 2, 1) := dop_5 (zb_L_law_14 19 rfl)
theorem dL_law_705 : decode cL_law 705 = .ok (.iadd, 1) := dop_96 (zb_L_law_14 20 rfl)
theorem dL_law_706 : decode cL_law 706 = .ok (.iaload, 1) := dop_46 (zb_L_law_14 21 rfl)
theorem dL_law_707 : decode cL_law 707 = .ok (.aload_n 0, 1) := dop_42 (zb_L_law_14 22 rfl)
theorem dL_law_708 : decode cL_law 708 = .ok (.iload_n 3, 1) := dop_29 (zb_L_law_14 23 rfl)
theorem dL_law_709 : decode cL_law 709 = .ok (.iconst 3, 1) := dop_6 (zb_L_law_14 24 rfl)
theorem dL_law_710 : decode cL_law 710 = .ok (.iadd, 1) := dop_96 (zb_L_law_14 25 rfl)
theorem dL_law_711 : decode cL_law 711 = .ok (.iaload, 1) := dop_46 (zb_L_law_14 26 rfl)
theorem dL_law_712 : decode cL_law 712 = .ok (.invokevirtual 83, 3) := dop_182 (zb_L_law_14 27 rfl) (zb_L_law_14 28 rfl) (zb_L_law_14 29 rfl) rfl
theorem dL_law_715 : decode cL_law 715 = .ok (.pop2, 1) := dop_88 (zb_L_law_14 30 rfl)
theorem dL_law_716 : decode cL_law 716 = .ok (.aload_n 2, 1) := dop_44 (zb_L_law_14 31 rfl)
theorem dL_law_717 : decode cL_law 717 = .ok (.aload_n 0, 1) := dop_42 (zb_L_law_14 32 rfl)
theorem dL_law_718 : decode cL_law 718 = .ok (.iload_n 3, 1) := dop_29 (zb_L_law_14 33 rfl)
theorem dL_law_719 : decode cL_law 719 = .ok (.iconst 1, 1) := dop_4 (zb_L_law_14 34 rfl)
theorem dL_law_720 : decode cL_law 720 = .ok (.iadd, 1) := dop_96 (zb_L_law_14 35 rfl)
theorem dL_law_721 : decode cL_law 721 = .ok (.iaload, 1) := dop_46 (zb_L_law_14 36 rfl)
theorem dL_law_722 : decode cL_law 722 = .ok (.aload_n 0, 1) := dop_42 (zb_L_law_14 37 rfl)
theorem dL_law_723 : decode cL_law 723 = .ok (.iload_n 3, 1) := dop_29 (zb_L_law_14 38 rfl)
theorem dL_law_724 : decode cL_law 724 = .ok (.iconst 2, 1) := dop_5 (zb_L_law_14 39 rfl)
theorem ze_L_law_16 : (dcn cL_law).drop 765 = zt_L_law_16 := dw_n (wl := zw_L_law_15) ze_L_law_15 rfl
theorem zb_L_law_15 (j : Nat) {n : Nat} (e : zw_L_law_15[j]? = some n) : dby cL_law (725 + j) n := dw_b (t := zt_L_law_16) ze_L_law_15 j e
theorem dL_law_725 : decode cL_law 725 = .ok (.iadd, 1) := dop_96 (zb_L_law_15 0 rfl)
theorem dL_law_726 : decode cL_law 726 = .ok (.iaload, 1) := dop_46 (zb_L_law_15 1 rfl)
theorem dL_law_727 : decode cL_law 727 = .ok (.aload_n 0, 1) := dop_42 (zb_L_law_15 2 rfl)
theorem dL_law_728 : decode cL_law 728 = .ok (.iload_n 3, 1) := dop_29 (zb_L_law_15 3 rfl)
theorem dL_law_729 : decode cL_law 729 = .ok (.iconst 3, 1) := dop_6 (zb_L_law_15 4 rfl)
theorem dL_law_730 : decode cL_law 730 = .ok (.iadd, 1) := dop_96 (zb_L_law_15 5 rfl)
theorem dL_law_731 : decode cL_law 731 = .ok (.iaload, 1) := dop_46 (zb_L_law_15 6 rfl)
theorem dL_law_732 : decode cL_law 732 = .ok (.invokevirtual 87, 3) := dop_182 (zb_L_law_15 7 rfl) (zb_L_law_15 8 rfl) (zb_L_law_15 9 rfl) rfl
theorem dL_law_735 : decode cL_law 735 = .ok (.pop2, 1) := dop_88 (zb_L_law_15 10 rfl)
theorem dL_law_736 : decode cL_law 736 = .ok (.goto 752, 3) := dop_167 (zb_L_law_15 11 rfl) (zb_L_law_15 12 rfl) (zb_L_law_15 13 rfl) rfl
theorem dL_law_739 : decode cL_law 739 = .ok (.aload_n 1, 1) := dop_43 (zb_L_law_15 14 rfl)
theorem dL_law_740 : decode cL_law 740 = .ok (.aload_n 0, 1) := dop_42 (zb_L_law_15 15 rfl)
theorem dL_law_741 : decode cL_law 741 = .ok (.iload_n 3, 1) := dop_29 (zb_L_law_15 16 rfl)
theorem dL_law_742 : decode cL_law 742 = .ok (.iconst 1, 1) := dop_4 (zb_L_law_15 17 rfl)
theorem dL_law_743 : decode cL_law 743 = .ok (.iadd, 1) := dop_96 (zb_L_law_15 18 rfl)
theorem dL_law_744 : decode cL_law 744 = .ok (.iaload, 1) := dop_46 (zb_L_law_15 19 rfl)
theorem dL_law_745 : decode cL_law 745 = .ok (.aload_n 0, 1) := dop_42 (zb_L_law_15 20 rfl)
theorem dL_law_746 : decode cL_law 746 = .ok (.iload_n 3, 1) := dop_29 (zb_L_law_15 21 rfl)
theorem dL_law_747 : decode cL_law 747 = .ok (.iconst 2, 1) := dop_5 (zb_L_law_15 22 rfl)
theorem dL_law_748 : decode cL_law 748 = .ok (.iadd, 1) := dop_96 (zb_L_law_15 23 rfl)
theorem dL_law_749 : decode cL_law 749 = .ok (.iaload, 1) := dop_46 (zb_L_law_15 24 rfl)
theorem dL_law_750 : decode cL_law 750 = .ok (.aload_n 0, 1) := dop_42 (zb_L_law_15 25 rfl)
theorem dL_law_751 : decode cL_law 751 = .ok (.iload_n 3, 1) := dop_29 (zb_L_law_15 26 rfl)
theorem dL_law_752 : decode cL_law 752 = .ok (.iconst 3, 1) := dop_6 (zb_L_law_15 27 rfl)
theorem dL_law_753 : decode cL_law 753 = .ok (.iadd, 1) := dop_96 (zb_L_law_15 28 rfl)
theorem dL_law_754 : decode cL_law 754 = .ok (.iaload, 1) := dop_46 (zb_L_law_15 29 rfl)
theorem dL_law_755 : decode cL_law 755 = .ok (.aload_n 0, 1) := dop_42 (zb_L_law_15 30 rfl)
theorem dL_law_756 : decode cL_law 756 = .ok (.iload_n 3, 1) := dop_29 (zb_L_law_15 31 rfl)
theorem dL_law_757 : decode cL_law 757 = .ok (.iconst 4, 1) := dop_7 (zb_L_law_15 32 rfl)
theorem dL_law_758 : decode cL_law 758 = .ok (.iadd, 1) := dop_96 (zb_L_law_15 33 rfl)
theorem dL_law_759 : decode cL_law 759 = .ok (.iaload, 1) := dop_46 (zb_L_law_15 34 rfl)
theorem dL_law_760 : decode cL_law 760 = .ok (.aload_n 0, 1) := dop_42 (zb_L_law_15 35 rfl)
theorem dL_law_761 : decode cL_law 761 = .ok (.iload_n 3, 1) := dop_29 (zb_L_law_15 36 rfl)
theorem dL_law_762 : decode cL_law 762 = .ok (.iconst 5, 1) := dop_8 (zb_L_law_15 37 rfl)
theorem dL_law_763 : decode cL_law 763 = .ok (.iadd, 1) := dop_96 (zb_L_law_15 38 rfl)
theorem dL_law_764 : decode cL_law 764 = .ok (.iaload, 1) := dop_46 (zb_L_law_15 39 rfl)
theorem ze_L_law_17 : (dcn cL_law).drop 805 = zt_L_law_17 := dw_n (wl := zw_L_law_16) ze_L_law_16 rfl
theorem zb_L_law_16 (j : Nat) {n : Nat} (e : zw_L_law_16[j]? = some n) : dby cL_law (765 + j) n := dw_b (t := zt_L_law_17) ze_L_law_16 j e
theorem dL_law_765 : decode cL_law 765 = .ok (.invokevirtual 88, 3) := dop_182 (zb_L_law_16 0 rfl) (zb_L_law_16 1 rfl) (zb_L_law_16 2 rfl) rfl
theorem dL_law_768 : decode cL_law 768 = .ok (.pop, 1) := dop_87 (zb_L_law_16 3 rfl)
theorem dL_law_769 : decode cL_law 769 = .ok (.aload_n 2, 1) := dop_44 (zb_L_law_16 4 rfl)
theorem dL_law_770 : decode cL_law 770 = .ok (.aload_n 0, 1) := dop_42 (zb_L_law_16 5 rfl)
theorem dL_law_771 : decode cL_law 771 = .ok (.iload_n 3, 1) := dop_29 (zb_L_law_16 6 rfl)
theorem dL_law_772 : decode cL_law 772 = .ok (.iconst 1, 1) := dop_4 (zb_L_law_16 7 rfl)
theorem dL_law_773 : decode cL_law 773 = .ok (.iadd, 1) := dop_96 (zb_L_law_16 8 rfl)
theorem dL_law_774 : decode cL_law 774 = .ok (.iaload, 1) := dop_46 (zb_L_law_16 9 rfl)
theorem dL_law_775 : decode cL_law 775 = .ok (.aload_n 0, 1) := dop_42 (zb_L_law_16 10 rfl)
theorem dL_law_776 : decode cL_law 776 = .ok (.iload_n 3, 1) := dop_29 (zb_L_law_16 11 rfl)
theorem dL_law_777 : decode cL_law 777 = .ok (.iconst 2, 1) := dop_5 (zb_L_law_16 12 rfl)
theorem dL_law_778 : decode cL_law 778 = .ok (.iadd, 1) := dop_96 (zb_L_law_16 13 rfl)
theorem dL_law_779 : decode cL_law 779 = .ok (.iaload, 1) := dop_46 (zb_L_law_16 14 rfl)
theorem dL_law_780 : decode cL_law 780 = .ok (.aload_n 0, 1) := dop_42 (zb_L_law_16 15 rfl)
theorem dL_law_781 : decode cL_law 781 = .ok (.iload_n 3, 1) := dop_29 (zb_L_law_16 16 rfl)
theorem dL_law_782 : decode cL_law 782 = .ok (.iconst 3, 1) := dop_6 (zb_L_law_16 17 rfl)
theorem dL_law_783 : decode cL_law 783 = .ok (.iadd, 1) := dop_96 (zb_L_law_16 18 rfl)
theorem dL_law_784 : decode cL_law 784 = .ok (.iaload, 1) := dop_46 (zb_L_law_16 19 rfl)
theorem dL_law_785 : decode cL_law 785 = .ok (.aload_n 0, 1) := dop_42 (zb_L_law_16 20 rfl)
theorem dL_law_786 : decode cL_law 786 = .ok (.iload_n 3, 1) := dop_29 (zb_L_law_16 21 rfl)
theorem dL_law_787 : decode cL_law 787 = .ok (.iconst 4, 1) := dop_7 (zb_L_law_16 22 rfl)
theorem dL_law_788 : decode cL_law 788 = .ok (.iadd, 1) := dop_96 (zb_L_law_16 23 rfl)
theorem dL_law_789 : decode cL_law 789 = .ok (.iaload, 1) := dop_46 (zb_L_law_16 24 rfl)
theorem dL_law_790 : decode cL_law 790 = .ok (.aload_n 0, 1) := dop_42 (zb_L_law_16 25 rfl)
theorem dL_law_791 : decode cL_law 791 = .ok (.iload_n 3, 1) := dop_29 (zb_L_law_16 26 rfl)
theorem dL_law_792 : decode cL_law 792 = .ok (.iconst 5, 1) := dop_8 (zb_L_law_16 27 rfl)
theorem dL_law_793 : decode cL_law 793 = .ok (.iadd, 1) := dop_96 (zb_L_law_16 28 rfl)
theorem dL_law_794 : decode cL_law 794 = .ok (.iaload, 1) := dop_46 (zb_L_law_16 29 rfl)
theorem dL_law_795 : decode cL_law 795 = .ok (.invokevirtual 91, 3) := dop_182 (zb_L_law_16 30 rfl) (zb_L_law_16 31 rfl) (zb_L_law_16 32 rfl) rfl
theorem dL_law_798 : decode cL_law 798 = .ok (.pop, 1) := dop_87 (zb_L_law_16 33 rfl)
theorem dL_law_799 : decode cL_law 799 = .ok (.goto 689, 3) := dop_167 (zb_L_law_16 34 rfl) (zb_L_law_16 35 rfl) (zb_L_law_16 36 rfl) rfl
theorem dL_law_802 : decode cL_law 802 = .ok (.aload_n 1, 1) := dop_43 (zb_L_law_16 37 rfl)
theorem dL_law_803 : decode cL_law 803 = .ok (.aload_n 0, 1) := dop_42 (zb_L_law_16 38 rfl)
theorem dL_law_804 : decode cL_law 804 = .ok (.iload_n 3, 1) := dop_29 (zb_L_law_16 39 rfl)
theorem ze_L_law_18 : (dcn cL_law).drop 845 = zt_L_law_18 := dw_n (wl := zw_L_law_17) ze_L_law_17 rfl
theorem zb_L_law_17 (j : Nat) {n : Nat} (e : zw_L_law_17[j]? = some n) : dby cL_law (805 + j) n := dw_b (t := zt_L_law_18) ze_L_law_17 j e
theorem dL_law_805 : decode cL_law 805 = .ok (.iconst 1, 1) := dop_4 (zb_L_law_17 0 rfl)
theorem dL_law_806 : decode cL_law 806 = .ok (.iadd, 1) := dop_96 (zb_L_law_17 1 rfl)
theorem dL_law_807 : decode cL_law 807 = .ok (.iaload, 1) := dop_46 (zb_L_law_17 2 rfl)
theorem dL_law_808 : decode cL_law 808 = .ok (.aload_n 0, 1) := dop_42 (zb_L_law_17 3 rfl)
theorem dL_law_809 : decode cL_law 809 = .ok (.iload_n 3, 1) := dop_29 (zb_L_law_17 4 rfl)
theorem dL_law_810 : decode cL_law 810 = .ok (.iconst 2, 1) := dop_5 (zb_L_law_17 5 rfl)
theorem dL_law_811 : decode cL_law 811 = .ok (.iadd, 1) := dop_96 (zb_L_law_17 6 rfl)
theorem dL_law_812 : decode cL_law 812 = .ok (.iaload, 1) := dop_46 (zb_L_law_17 7 rfl)
theorem dL_law_813 : decode cL_law 813 = .ok (.aload_n 0, 1) := dop_42 (zb_L_law_17 8 rfl)
theorem dL_law_814 : decode cL_law 814 = .ok (.iload_n 3, 1) := dop_29 (zb_L_law_17 9 rfl)
theorem dL_law_815 : decode cL_law 815 = .ok (.iconst 3, 1) := dop_6 (zb_L_law_17 10 rfl)
theorem dL_law_816 : decode cL_law 816 = .ok (.iadd, 1) := dop_96 (zb_L_law_17 11 rfl)
theorem dL_law_817 : decode cL_law 817 = .ok (.iaload, 1) := dop_46 (zb_L_law_17 12 rfl)
theorem dL_law_818 : decode cL_law 818 = .ok (.aload_n 0, 1) := dop_42 (zb_L_law_17 13 rfl)
theorem dL_law_819 : decode cL_law 819 = .ok (.iload_n 3, 1) := dop_29 (zb_L_law_17 14 rfl)
theorem dL_law_820 : decode cL_law 820 = .ok (.iconst 4, 1) := dop_7 (zb_L_law_17 15 rfl)
theorem dL_law_821 : decode cL_law 821 = .ok (.iadd, 1) := dop_96 (zb_L_law_17 16 rfl)
theorem dL_law_822 : decode cL_law 822 = .ok (.iaload, 1) := dop_46 (zb_L_law_17 17 rfl)
theorem dL_law_823 : decode cL_law 823 = .ok (.invokevirtual 92, 3) := dop_182 (zb_L_law_17 18 rfl) (zb_L_law_17 19 rfl) (zb_L_law_17 20 rfl) rfl
theorem dL_law_826 : decode cL_law 826 = .ok (.pop, 1) := dop_87 (zb_L_law_17 21 rfl)
theorem dL_law_827 : decode cL_law 827 = .ok (.aload_n 2, 1) := dop_44 (zb_L_law_17 22 rfl)
theorem dL_law_828 : decode cL_law 828 = .ok (.aload_n 0, 1) := dop_42 (zb_L_law_17 23 rfl)
theorem dL_law_829 : decode cL_law 829 = .ok (.iload_n 3, 1) := dop_29 (zb_L_law_17 24 rfl)
theorem dL_law_830 : decode cL_law 830 = .ok (.iconst 1, 1) := dop_4 (zb_L_law_17 25 rfl)
theorem dL_law_831 : decode cL_law 831 = .ok (.iadd, 1) := dop_96 (zb_L_law_17 26 rfl)
theorem dL_law_832 : decode cL_law 832 = .ok (.iaload, 1) := dop_46 (zb_L_law_17 27 rfl)
theorem dL_law_833 : decode cL_law 833 = .ok (.aload_n 0, 1) := dop_42 (zb_L_law_17 28 rfl)
theorem dL_law_834 : decode cL_law 834 = .ok (.iload_n 3, 1) := dop_29 (zb_L_law_17 29 rfl)
theorem dL_law_835 : decode cL_law 835 = .ok (.iconst 2, 1) := dop_5 (zb_L_law_17 30 rfl)
theorem dL_law_836 : decode cL_law 836 = .ok (.iadd, 1) := dop_96 (zb_L_law_17 31 rfl)
theorem dL_law_837 : decode cL_law 837 = .ok (.iaload, 1) := dop_46 (zb_L_law_17 32 rfl)
theorem dL_law_838 : decode cL_law 838 = .ok (.aload_n 0, 1) := dop_42 (zb_L_law_17 33 rfl)
theorem dL_law_839 : decode cL_law 839 = .ok (.iload_n 3, 1) := dop_29 (zb_L_law_17 34 rfl)
theorem dL_law_840 : decode cL_law 840 = .ok (.iconst 3, 1) := dop_6 (zb_L_law_17 35 rfl)
theorem dL_law_841 : decode cL_law 841 = .ok (.iadd, 1) := dop_96 (zb_L_law_17 36 rfl)
theorem dL_law_842 : decode cL_law 842 = .ok (.iaload, 1) := dop_46 (zb_L_law_17 37 rfl)
theorem dL_law_843 : decode cL_law 843 = .ok (.aload_n 0, 1) := dop_42 (zb_L_law_17 38 rfl)
theorem dL_law_844 : decode cL_law 844 = .ok (.iload_n 3, 1) := dop_29 (zb_L_law_17 39 rfl)
theorem ze_L_law_19 : (dcn cL_law).drop 885 = zt_L_law_19 := dw_n (wl := zw_L_law_18) ze_L_law_18 rfl
theorem zb_L_law_18 (j : Nat) {n : Nat} (e : zw_L_law_18[j]? = some n) : dby cL_law (845 + j) n := dw_b (t := zt_L_law_19) ze_L_law_18 j e
theorem dL_law_845 : decode cL_law 845 = .ok (.iconst 4, 1) := dop_7 (zb_L_law_18 0 rfl)
theorem dL_law_846 : decode cL_law 846 = .ok (.iadd, 1) := dop_96 (zb_L_law_18 1 rfl)
theorem dL_law_847 : decode cL_law 847 = .ok (.iaload, 1) := dop_46 (zb_L_law_18 2 rfl)
theorem dL_law_848 : decode cL_law 848 = .ok (.invokevirtual 95, 3) := dop_182 (zb_L_law_18 3 rfl) (zb_L_law_18 4 rfl) (zb_L_law_18 5 rfl) rfl
theorem dL_law_851 : decode cL_law 851 = .ok (.pop, 1) := dop_87 (zb_L_law_18 6 rfl)
theorem dL_law_852 : decode cL_law 852 = .ok (.goto 636, 3) := dop_167 (zb_L_law_18 7 rfl) (zb_L_law_18 8 rfl) (zb_L_law_18 9 rfl) rfl
theorem dL_law_855 : decode cL_law 855 = .ok (.aload_n 1, 1) := dop_43 (zb_L_law_18 10 rfl)
theorem dL_law_856 : decode cL_law 856 = .ok (.aload_n 0, 1) := dop_42 (zb_L_law_18 11 rfl)
theorem dL_law_857 : decode cL_law 857 = .ok (.iload_n 3, 1) := dop_29 (zb_L_law_18 12 rfl)
theorem dL_law_858 : decode cL_law 858 = .ok (.iconst 1, 1) := dop_4 (zb_L_law_18 13 rfl)
theorem dL_law_859 : decode cL_law 859 = .ok (.iadd, 1) := dop_96 (zb_L_law_18 14 rfl)
theorem dL_law_860 : decode cL_law 860 = .ok (.iaload, 1) := dop_46 (zb_L_law_18 15 rfl)
theorem dL_law_861 : decode cL_law 861 = .ok (.aload_n 0, 1) := dop_42 (zb_L_law_18 16 rfl)
theorem dL_law_862 : decode cL_law 862 = .ok (.iload_n 3, 1) := dop_29 (zb_L_law_18 17 rfl)
theorem dL_law_863 : decode cL_law 863 = .ok (.iconst 2, 1) := dop_5 (zb_L_law_18 18 rfl)
theorem dL_law_864 : decode cL_law 864 = .ok (.iadd, 1) := dop_96 (zb_L_law_18 19 rfl)
theorem dL_law_865 : decode cL_law 865 = .ok (.iaload, 1) := dop_46 (zb_L_law_18 20 rfl)
theorem dL_law_866 : decode cL_law 866 = .ok (.aload_n 0, 1) := dop_42 (zb_L_law_18 21 rfl)
theorem dL_law_867 : decode cL_law 867 = .ok (.iload_n 3, 1) := dop_29 (zb_L_law_18 22 rfl)
theorem dL_law_868 : decode cL_law 868 = .ok (.iconst 3, 1) := dop_6 (zb_L_law_18 23 rfl)
theorem dL_law_869 : decode cL_law 869 = .ok (.iadd, 1) := dop_96 (zb_L_law_18 24 rfl)
theorem dL_law_870 : decode cL_law 870 = .ok (.iaload, 1) := dop_46 (zb_L_law_18 25 rfl)
theorem dL_law_871 : decode cL_law 871 = .ok (.aload_n 0, 1) := dop_42 (zb_L_law_18 26 rfl)
theorem dL_law_872 : decode cL_law 872 = .ok (.iload_n 3, 1) := dop_29 (zb_L_law_18 27 rfl)
theorem dL_law_873 : decode cL_law 873 = .ok (.iconst 4, 1) := dop_7 (zb_L_law_18 28 rfl)
theorem dL_law_874 : decode cL_law 874 = .ok (.iadd, 1) := dop_96 (zb_L_law_18 29 rfl)
theorem dL_law_875 : decode cL_law 875 = .ok (.iaload, 1) := dop_46 (zb_L_law_18 30 rfl)
theorem dL_law_876 : decode cL_law 876 = .ok (.invokevirtual 96, 3) := dop_182 (zb_L_law_18 31 rfl) (zb_L_law_18 32 rfl) (zb_L_law_18 33 rfl) rfl
theorem dL_law_879 : decode cL_law 879 = .ok (.pop, 1) := dop_87 (zb_L_law_18 34 rfl)
theorem dL_law_880 : decode cL_law 880 = .ok (.aload_n 2, 1) := dop_44 (zb_L_law_18 35 rfl)
theorem dL_law_881 : decode cL_law 881 = .ok (.aload_n 0, 1) := dop_42 (zb_L_law_18 36 rfl)
theorem dL_law_882 : decode cL_law 882 = .ok (.iload_n 3, 1) := dop_29 (zb_L_law_18 37 rfl)
theorem dL_law_883 : decode cL_law 883 = .ok (.iconst 1, 1) := dop_4 (zb_L_law_18 38 rfl)
theorem dL_law_884 : decode cL_law 884 = .ok (.iadd, 1) := dop_96 (zb_L_law_18 39 rfl)
theorem ze_L_law_20 : (dcn cL_law).drop 925 = zt_L_law_20 := dw_n (wl := zw_L_law_19) ze_L_law_19 rfl
theorem zb_L_law_19 (j : Nat) {n : Nat} (e : zw_L_law_19[j]? = some n) : dby cL_law (885 + j) n := dw_b (t := zt_L_law_20) ze_L_law_19 j e
theorem dL_law_885 : decode cL_law 885 = .ok (.iaload, 1) := dop_46 (zb_L_law_19 0 rfl)
theorem dL_law_886 : decode cL_law 886 = .ok (.aload_n 0, 1) := dop_42 (zb_L_law_19 1 rfl)
theorem dL_law_887 : decode cL_law 887 = .ok (.iload_n 3, 1) := dop_29 (zb_L_law_19 2 rfl)
theorem dL_law_888 : decode cL_law 888 = .ok (.iconst 2, 1) := dop_5 (zb_L_law_19 3 rfl)
theorem dL_law_889 : decode cL_law 889 = .ok (.iadd, 1) := dop_96 (zb_L_law_19 4 rfl)
theorem dL_law_890 : decode cL_law 890 = .ok (.iaload, 1) := dop_46 (zb_L_law_19 5 rfl)
theorem dL_law_891 : decode cL_law 891 = .ok (.aload_n 0, 1) := dop_42 (zb_L_law_19 6 rfl)
theorem dL_law_892 : decode cL_law 892 = .ok (.iload_n 3, 1) := dop_29 (zb_L_law_19 7 rfl)
theorem dL_law_893 : decode cL_law 893 = .ok (.iconst 3, 1) := dop_6 (zb_L_law_19 8 rfl)
theorem dL_law_894 : decode cL_law 894 = .ok (.iadd, 1) := dop_96 (zb_L_law_19 9 rfl)
theorem dL_law_895 : decode cL_law 895 = .ok (.iaload, 1) := dop_46 (zb_L_law_19 10 rfl)
theorem dL_law_896 : decode cL_law 896 = .ok (.aload_n 0, 1) := dop_42 (zb_L_law_19 11 rfl)
theorem dL_law_897 : decode cL_law 897 = .ok (.iload_n 3, 1) := dop_29 (zb_L_law_19 12 rfl)
theorem dL_law_898 : decode cL_law 898 = .ok (.iconst 4, 1) := dop_7 (zb_L_law_19 13 rfl)
theorem dL_law_899 : decode cL_law 899 = .ok (.iadd, 1) := dop_96 (zb_L_law_19 14 rfl)
theorem dL_law_900 : decode cL_law 900 = .ok (.iaload, 1) := dop_46 (zb_L_law_19 15 rfl)
theorem dL_law_901 : decode cL_law 901 = .ok (.invokevirtual 99, 3) := dop_182 (zb_L_law_19 16 rfl) (zb_L_law_19 17 rfl) (zb_L_law_19 18 rfl) rfl
theorem dL_law_904 : decode cL_law 904 = .ok (.pop, 1) := dop_87 (zb_L_law_19 19 rfl)
theorem dL_law_905 : decode cL_law 905 = .ok (.goto 583, 3) := dop_167 (zb_L_law_19 20 rfl) (zb_L_law_19 21 rfl) (zb_L_law_19 22 rfl) rfl
theorem dL_law_908 : decode cL_law 908 = .ok (.aload_n 1, 1) := dop_43 (zb_L_law_19 23 rfl)
theorem dL_law_909 : decode cL_law 909 = .ok (.aload_n 0, 1) := dop_42 (zb_L_law_19 24 rfl)
theorem dL_law_910 : decode cL_law 910 = .ok (.iload_n 3, 1) := dop_29 (zb_L_law_19 25 rfl)
theorem dL_law_911 : decode cL_law 911 = .ok (.iconst 1, 1) := dop_4 (zb_L_law_19 26 rfl)
theorem dL_law_912 : decode cL_law 912 = .ok (.iadd, 1) := dop_96 (zb_L_law_19 27 rfl)
theorem dL_law_913 : decode cL_law 913 = .ok (.iaload, 1) := dop_46 (zb_L_law_19 28 rfl)
theorem dL_law_914 : decode cL_law 914 = .ok (.aload_n 0, 1) := dop_42 (zb_L_law_19 29 rfl)
theorem dL_law_915 : decode cL_law 915 = .ok (.iload_n 3, 1) := dop_29 (zb_L_law_19 30 rfl)
theorem dL_law_916 : decode cL_law 916 = .ok (.iconst 2, 1) := dop_5 (zb_L_law_19 31 rfl)
theorem dL_law_917 : decode cL_law 917 = .ok (.iadd, 1) := dop_96 (zb_L_law_19 32 rfl)
theorem dL_law_918 : decode cL_law 918 = .ok (.iaload, 1) := dop_46 (zb_L_law_19 33 rfl)
theorem dL_law_919 : decode cL_law 919 = .ok (.aload_n 0, 1) := dop_42 (zb_L_law_19 34 rfl)
theorem dL_law_920 : decode cL_law 920 = .ok (.iload_n 3, 1) := dop_29 (zb_L_law_19 35 rfl)
theorem dL_law_921 : decode cL_law 921 = .ok (.iconst 3, 1) := dop_6 (zb_L_law_19 36 rfl)
theorem dL_law_922 : decode cL_law 922 = .ok (.iadd, 1) := dop_96 (zb_L_law_19 37 rfl)
theorem dL_law_923 : decode cL_law 923 = .ok (.iaload, 1) := dop_46 (zb_L_law_19 38 rfl)
theorem dL_law_924 : decode cL_law 924 = .ok (.aload_n 0, 1) := dop_42 (zb_L_law_19 39 rfl)
theorem ze_L_law_21 : (dcn cL_law).drop 965 = zt_L_law_21 := dw_n (wl := zw_L_law_20) ze_L_law_20 rfl
theorem zb_L_law_20 (j : Nat) {n : Nat} (e : zw_L_law_20[j]? = some n) : dby cL_law (925 + j) n := dw_b (t := zt_L_law_21) ze_L_law_20 j e
theorem dL_law_925 : decode cL_law 925 = .ok (.iload_n 3, 1) := dop_29 (zb_L_law_20 0 rfl)
theorem dL_law_926 : decode cL_law 926 = .ok (.iconst 4, 1) := dop_7 (zb_L_law_20 1 rfl)
theorem dL_law_927 : decode cL_law 927 = .ok (.iadd, 1) := dop_96 (zb_L_law_20 2 rfl)
theorem dL_law_928 : decode cL_law 928 = .ok (.iaload, 1) := dop_46 (zb_L_law_20 3 rfl)
theorem dL_law_929 : decode cL_law 929 = .ok (.invokevirtual 100, 3) := dop_182 (zb_L_law_20 4 rfl) (zb_L_law_20 5 rfl) (zb_L_law_20 6 rfl) rfl
theorem dL_law_932 : decode cL_law 932 = .ok (.pop, 1) := dop_87 (zb_L_law_20 7 rfl)
theorem dL_law_933 : decode cL_law 933 = .ok (.aload_n 2, 1) := dop_44 (zb_L_law_20 8 rfl)
theorem dL_law_934 : decode cL_law 934 = .ok (.aload_n 0, 1) := dop_42 (zb_L_law_20 9 rfl)
theorem dL_law_935 : decode cL_law 935 = .ok (.iload_n 3, 1) := dop_29 (zb_L_law_20 10 rfl)
theorem dL_law_936 : decode cL_law 936 = .ok (.iconst 1, 1) := dop_4 (zb_L_law_20 11 rfl)
theorem dL_law_937 : decode cL_law 937 = .ok (.iadd, 1) := dop_96 (zb_L_law_20 12 rfl)
theorem dL_law_938 : decode cL_law 938 = .ok (.iaload, 1) := dop_46 (zb_L_law_20 13 rfl)
theorem dL_law_939 : decode cL_law 939 = .ok (.aload_n 0, 1) := dop_42 (zb_L_law_20 14 rfl)
theorem dL_law_940 : decode cL_law 940 = .ok (.iload_n 3, 1) := dop_29 (zb_L_law_20 15 rfl)
theorem dL_law_941 : decode cL_law 941 = .ok (.iconst 2, 1) := dop_5 (zb_L_law_20 16 rfl)
theorem dL_law_942 : decode cL_law 942 = .ok (.iadd, 1) := dop_96 (zb_L_law_20 17 rfl)
theorem dL_law_943 : decode cL_law 943 = .ok (.iaload, 1) := dop_46 (zb_L_law_20 18 rfl)
theorem dL_law_944 : decode cL_law 944 = .ok (.aload_n 0, 1) := dop_42 (zb_L_law_20 19 rfl)
theorem dL_law_945 : decode cL_law 945 = .ok (.iload_n 3, 1) := dop_29 (zb_L_law_20 20 rfl)
theorem dL_law_946 : decode cL_law 946 = .ok (.iconst 3, 1) := dop_6 (zb_L_law_20 21 rfl)
theorem dL_law_947 : decode cL_law 947 = .ok (.iadd, 1) := dop_96 (zb_L_law_20 22 rfl)
theorem dL_law_948 : decode cL_law 948 = .ok (.iaload, 1) := dop_46 (zb_L_law_20 23 rfl)
theorem dL_law_949 : decode cL_law 949 = .ok (.aload_n 0, 1) := dop_42 (zb_L_law_20 24 rfl)
theorem dL_law_950 : decode cL_law 950 = .ok (.iload_n 3, 1) := dop_29 (zb_L_law_20 25 rfl)
theorem dL_law_951 : decode cL_law 951 = .ok (.iconst 4, 1) := dop_7 (zb_L_law_20 26 rfl)
theorem dL_law_952 : decode cL_law 952 = .ok (.iadd, 1) := dop_96 (zb_L_law_20 27 rfl)
theorem dL_law_953 : decode cL_law 953 = .ok (.iaload, 1) := dop_46 (zb_L_law_20 28 rfl)
theorem dL_law_954 : decode cL_law 954 = .ok (.invokevirtual 103, 3) := dop_182 (zb_L_law_20 29 rfl) (zb_L_law_20 30 rfl) (zb_L_law_20 31 rfl) rfl
theorem dL_law_957 : decode cL_law 957 = .ok (.pop, 1) := dop_87 (zb_L_law_20 32 rfl)
theorem dL_law_958 : decode cL_law 958 = .ok (.goto 530, 3) := dop_167 (zb_L_law_20 33 rfl) (zb_L_law_20 34 rfl) (zb_L_law_20 35 rfl) rfl
theorem dL_law_961 : decode cL_law 961 = .ok (.aload_n 1, 1) := dop_43 (zb_L_law_20 36 rfl)
theorem dL_law_962 : decode cL_law 962 = .ok (.aload_n 0, 1) := dop_42 (zb_L_law_20 37 rfl)
theorem dL_law_963 : decode cL_law 963 = .ok (.iload_n 3, 1) := dop_29 (zb_L_law_20 38 rfl)
theorem dL_law_964 : decode cL_law 964 = .ok (.iconst 1, 1) := dop_4 (zb_L_law_20 39 rfl)
theorem ze_L_law_22 : (dcn cL_law).drop 1005 = zt_L_law_22 := dw_n (wl := zw_L_law_21) ze_L_law_21 rfl
theorem zb_L_law_21 (j : Nat) {n : Nat} (e : zw_L_law_21[j]? = some n) : dby cL_law (965 + j) n := dw_b (t := zt_L_law_22) ze_L_law_21 j e
theorem dL_law_965 : decode cL_law 965 = .ok (.iadd, 1) := dop_96 (zb_L_law_21 0 rfl)
theorem dL_law_966 : decode cL_law 966 = .ok (.iaload, 1) := dop_46 (zb_L_law_21 1 rfl)
theorem dL_law_967 : decode cL_law 967 = .ok (.invokevirtual 104, 3) := dop_182 (zb_L_law_21 2 rfl) (zb_L_law_21 3 rfl) (zb_L_law_21 4 rfl) rfl
theorem dL_law_970 : decode cL_law 970 = .ok (.pop, 1) := dop_87 (zb_L_law_21 5 rfl)
theorem dL_law_971 : decode cL_law 971 = .ok (.aload_n 2, 1) := dop_44 (zb_L_law_21 6 rfl)
theorem dL_law_972 : decode cL_law 972 = .ok (.aload_n 0, 1) := dop_42 (zb_L_law_21 7 rfl)
theorem dL_law_973 : decode cL_law 973 = .ok (.iload_n 3, 1) := dop_29 (zb_L_law_21 8 rfl)
theorem dL_law_974 : decode cL_law 974 = .ok (.iconst 1, 1) := dop_4 (zb_L_law_21 9 rfl)
theorem dL_law_975 : decode cL_law 975 = .ok (.iadd, 1) := dop_96 (zb_L_law_21 10 rfl)
theorem dL_law_976 : decode cL_law 976 = .ok (.iaload, 1) := dop_46 (zb_L_law_21 11 rfl)
theorem dL_law_977 : decode cL_law 977 = .ok (.invokevirtual 107, 3) := dop_182 (zb_L_law_21 12 rfl) (zb_L_law_21 13 rfl) (zb_L_law_21 14 rfl) rfl
theorem dL_law_980 : decode cL_law 980 = .ok (.pop, 1) := dop_87 (zb_L_law_21 15 rfl)
theorem dL_law_981 : decode cL_law 981 = .ok (.goto 507, 3) := dop_167 (zb_L_law_21 16 rfl) (zb_L_law_21 17 rfl) (zb_L_law_21 18 rfl) rfl
theorem dL_law_984 : decode cL_law 984 = .ok (.aload_n 1, 1) := dop_43 (zb_L_law_21 19 rfl)
theorem dL_law_985 : decode cL_law 985 = .ok (.aload_n 0, 1) := dop_42 (zb_L_law_21 20 rfl)
theorem dL_law_986 : decode cL_law 986 = .ok (.iload_n 3, 1) := dop_29 (zb_L_law_21 21 rfl)
theorem dL_law_987 : decode cL_law 987 = .ok (.iconst 1, 1) := dop_4 (zb_L_law_21 22 rfl)
theorem dL_law_988 : decode cL_law 988 = .ok (.iadd, 1) := dop_96 (zb_L_law_21 23 rfl)
theorem dL_law_989 : decode cL_law 989 = .ok (.iaload, 1) := dop_46 (zb_L_law_21 24 rfl)
theorem dL_law_990 : decode cL_law 990 = .ok (.aload_n 0, 1) := dop_42 (zb_L_law_21 25 rfl)
theorem dL_law_991 : decode cL_law 991 = .ok (.iload_n 3, 1) := dop_29 (zb_L_law_21 26 rfl)
theorem dL_law_992 : decode cL_law 992 = .ok (.iconst 2, 1) := dop_5 (zb_L_law_21 27 rfl)
theorem dL_law_993 : decode cL_law 993 = .ok (.iadd, 1) := dop_96 (zb_L_law_21 28 rfl)
theorem dL_law_994 : decode cL_law 994 = .ok (.iaload, 1) := dop_46 (zb_L_law_21 29 rfl)
theorem dL_law_995 : decode cL_law 995 = .ok (.aload_n 0, 1) := dop_42 (zb_L_law_21 30 rfl)
theorem dL_law_996 : decode cL_law 996 = .ok (.iload_n 3, 1) := dop_29 (zb_L_law_21 31 rfl)
theorem dL_law_997 : decode cL_law 997 = .ok (.iconst 3, 1) := dop_6 (zb_L_law_21 32 rfl)
theorem dL_law_998 : decode cL_law 998 = .ok (.iadd, 1) := dop_96 (zb_L_law_21 33 rfl)
theorem dL_law_999 : decode cL_law 999 = .ok (.iaload, 1) := dop_46 (zb_L_law_21 34 rfl)
theorem dL_law_1000 : decode cL_law 1000 = .ok (.aload_n 0, 1) := dop_42 (zb_L_law_21 35 rfl)
theorem dL_law_1001 : decode cL_law 1001 = .ok (.iload_n 3, 1) := dop_29 (zb_L_law_21 36 rfl)
theorem dL_law_1002 : decode cL_law 1002 = .ok (.iconst 4, 1) := dop_7 (zb_L_law_21 37 rfl)
theorem dL_law_1003 : decode cL_law 1003 = .ok (.iadd, 1) := dop_96 (zb_L_law_21 38 rfl)
theorem dL_law_1004 : decode cL_law 1004 = .ok (.iaload, 1) := dop_46 (zb_L_law_21 39 rfl)
theorem ze_L_law_23 : (dcn cL_law).drop 1045 = zt_L_law_23 := dw_n (wl := zw_L_law_22) ze_L_law_22 rfl
theorem zb_L_law_22 (j : Nat) {n : Nat} (e : zw_L_law_22[j]? = some n) : dby cL_law (1005 + j) n := dw_b (t := zt_L_law_23) ze_L_law_22 j e
theorem dL_law_1005 : decode cL_law 1005 = .ok (.invokevirtual 108, 3) := dop_182 (zb_L_law_22 0 rfl) (zb_L_law_22 1 rfl) (zb_L_law_22 2 rfl) rfl
theorem dL_law_1008 : decode cL_law 1008 = .ok (.pop, 1) := dop_87 (zb_L_law_22 3 rfl)
theorem dL_law_1009 : decode cL_law 1009 = .ok (.aload_n 2, 1) := dop_44 (zb_L_law_22 4 rfl)
theorem dL_law_1010 : decode cL_law 1010 = .ok (.aload_n 0, 1) := dop_42 (zb_L_law_22 5 rfl)
theorem dL_law_1011 : decode cL_law 1011 = .ok (.iload_n 3, 1) := dop_29 (zb_L_law_22 6 rfl)
theorem dL_law_1012 : decode cL_law 1012 = .ok (.iconst 1, 1) := dop_4 (zb_L_law_22 7 rfl)
theorem dL_law_1013 : decode cL_law 1013 = .ok (.iadd, 1) := dop_96 (zb_L_law_22 8 rfl)
theorem dL_law_1014 : decode cL_law 1014 = .ok (.iaload, 1) := dop_46 (zb_L_law_22 9 rfl)
theorem dL_law_1015 : decode cL_law 1015 = .ok (.aload_n 0, 1) := dop_42 (zb_L_law_22 10 rfl)
theorem dL_law_1016 : decode cL_law 1016 = .ok (.iload_n 3, 1) := dop_29 (zb_L_law_22 11 rfl)
theorem dL_law_1017 : decode cL_law 1017 = .ok (.iconst 2, 1) := dop_5 (zb_L_law_22 12 rfl)
theorem dL_law_1018 : decode cL_law 1018 = .ok (.iadd, 1) := dop_96 (zb_L_law_22 13 rfl)
theorem dL_law_1019 : decode cL_law 1019 = .ok (.iaload, 1) := dop_46 (zb_L_law_22 14 rfl)
theorem dL_law_1020 : decode cL_law 1020 = .ok (.aload_n 0, 1) := dop_42 (zb_L_law_22 15 rfl)
theorem dL_law_1021 : decode cL_law 1021 = .ok (.iload_n 3, 1) := dop_29 (zb_L_law_22 16 rfl)
theorem dL_law_1022 : decode cL_law 1022 = .ok (.iconst 3, 1) := dop_6 (zb_L_law_22 17 rfl)
theorem dL_law_1023 : decode cL_law 1023 = .ok (.iadd, 1) := dop_96 (zb_L_law_22 18 rfl)
theorem dL_law_1024 : decode cL_law 1024 = .ok (.iaload, 1) := dop_46 (zb_L_law_22 19 rfl)
theorem dL_law_1025 : decode cL_law 1025 = .ok (.aload_n 0, 1) := dop_42 (zb_L_law_22 20 rfl)
theorem dL_law_1026 : decode cL_law 1026 = .ok (.iload_n 3, 1) := dop_29 (zb_L_law_22 21 rfl)
theorem dL_law_1027 : decode cL_law 1027 = .ok (.iconst 4, 1) := dop_7 (zb_L_law_22 22 rfl)
theorem dL_law_1028 : decode cL_law 1028 = .ok (.iadd, 1) := dop_96 (zb_L_law_22 23 rfl)
theorem dL_law_1029 : decode cL_law 1029 = .ok (.iaload, 1) := dop_46 (zb_L_law_22 24 rfl)
theorem dL_law_1030 : decode cL_law 1030 = .ok (.invokevirtual 111, 3) := dop_182 (zb_L_law_22 25 rfl) (zb_L_law_22 26 rfl) (zb_L_law_22 27 rfl) rfl
theorem dL_law_1033 : decode cL_law 1033 = .ok (.pop, 1) := dop_87 (zb_L_law_22 28 rfl)
theorem dL_law_1034 : decode cL_law 1034 = .ok (.goto 454, 3) := dop_167 (zb_L_law_22 29 rfl) (zb_L_law_22 30 rfl) (zb_L_law_22 31 rfl) rfl
theorem dL_law_1037 : decode cL_law 1037 = .ok (.aload_n 1, 1) := dop_43 (zb_L_law_22 32 rfl)
theorem dL_law_1038 : decode cL_law 1038 = .ok (.aload_n 0, 1) := dop_42 (zb_L_law_22 33 rfl)
theorem dL_law_1039 : decode cL_law 1039 = .ok (.iload_n 3, 1) := dop_29 (zb_L_law_22 34 rfl)
theorem dL_law_1040 : decode cL_law 1040 = .ok (.iconst 1, 1) := dop_4 (zb_L_law_22 35 rfl)
theorem dL_law_1041 : decode cL_law 1041 = .ok (.iadd, 1) := dop_96 (zb_L_law_22 36 rfl)
theorem dL_law_1042 : decode cL_law 1042 = .ok (.iaload, 1) := dop_46 (zb_L_law_22 37 rfl)
theorem dL_law_1043 : decode cL_law 1043 = .ok (.aload_n 0, 1) := dop_42 (zb_L_law_22 38 rfl)
theorem dL_law_1044 : decode cL_law 1044 = .ok (.iload_n 3, 1) := dop_29 (zb_L_law_22 39 rfl)
theorem ze_L_law_24 : (dcn cL_law).drop 1085 = zt_L_law_24 := dw_n (wl := zw_L_law_23) ze_L_law_23 rfl
theorem zb_L_law_23 (j : Nat) {n : Nat} (e : zw_L_law_23[j]? = some n) : dby cL_law (1045 + j) n := dw_b (t := zt_L_law_24) ze_L_law_23 j e
theorem dL_law_1045 : decode cL_law 1045 = .ok (.iconst 2, 1) := dop_5 (zb_L_law_23 0 rfl)
theorem dL_law_1046 : decode cL_law 1046 = .ok (.iadd, 1) := dop_96 (zb_L_law_23 1 rfl)
theorem dL_law_1047 : decode cL_law 1047 = .ok (.iaload, 1) := dop_46 (zb_L_law_23 2 rfl)
theorem dL_law_1048 : decode cL_law 1048 = .ok (.invokevirtual 112, 3) := dop_182 (zb_L_law_23 3 rfl) (zb_L_law_23 4 rfl) (zb_L_law_23 5 rfl) rfl
theorem dL_law_1051 : decode cL_law 1051 = .ok (.pop, 1) := dop_87 (zb_L_law_23 6 rfl)
theorem dL_law_1052 : decode cL_law 1052 = .ok (.aload_n 2, 1) := dop_44 (zb_L_law_23 7 rfl)
theorem dL_law_1053 : decode cL_law 1053 = .ok (.aload_n 0, 1) := dop_42 (zb_L_law_23 8 rfl)
theorem dL_law_1054 : decode cL_law 1054 = .ok (.iload_n 3, 1) := dop_29 (zb_L_law_23 9 rfl)
theorem dL_law_1055 : decode cL_law 1055 = .ok (.iconst 1, 1) := dop_4 (zb_L_law_23 10 rfl)
theorem dL_law_1056 : decode cL_law 1056 = .ok (.iadd, 1) := dop_96 (zb_L_law_23 11 rfl)
theorem dL_law_1057 : decode cL_law 1057 = .ok (.iaload, 1) := dop_46 (zb_L_law_23 12 rfl)
theorem dL_law_1058 : decode cL_law 1058 = .ok (.aload_n 0, 1) := dop_42 (zb_L_law_23 13 rfl)
theorem dL_law_1059 : decode cL_law 1059 = .ok (.iload_n 3, 1) := dop_29 (zb_L_law_23 14 rfl)
theorem dL_law_1060 : decode cL_law 1060 = .ok (.iconst 2, 1) := dop_5 (zb_L_law_23 15 rfl)
theorem dL_law_1061 : decode cL_law 1061 = .ok (.iadd, 1) := dop_96 (zb_L_law_23 16 rfl)
theorem dL_law_1062 : decode cL_law 1062 = .ok (.iaload, 1) := dop_46 (zb_L_law_23 17 rfl)
theorem dL_law_1063 : decode cL_law 1063 = .ok (.invokevirtual 115, 3) := dop_182 (zb_L_law_23 18 rfl) (zb_L_law_23 19 rfl) (zb_L_law_23 20 rfl) rfl
theorem dL_law_1066 : decode cL_law 1066 = .ok (.pop, 1) := dop_87 (zb_L_law_23 21 rfl)
theorem dL_law_1067 : decode cL_law 1067 = .ok (.goto 421, 3) := dop_167 (zb_L_law_23 22 rfl) (zb_L_law_23 23 rfl) (zb_L_law_23 24 rfl) rfl
theorem dL_law_1070 : decode cL_law 1070 = .ok (.aload_n 1, 1) := dop_43 (zb_L_law_23 25 rfl)
theorem dL_law_1071 : decode cL_law 1071 = .ok (.aload_n 0, 1) := dop_42 (zb_L_law_23 26 rfl)
theorem dL_law_1072 : decode cL_law 1072 = .ok (.iload_n 3, 1) := dop_29 (zb_L_law_23 27 rfl)
theorem dL_law_1073 : decode cL_law 1073 = .ok (.iconst 1, 1) := dop_4 (zb_L_law_23 28 rfl)
theorem dL_law_1074 : decode cL_law 1074 = .ok (.iadd, 1) := dop_96 (zb_L_law_23 29 rfl)
theorem dL_law_1075 : decode cL_law 1075 = .ok (.iaload, 1) := dop_46 (zb_L_law_23 30 rfl)
theorem dL_law_1076 : decode cL_law 1076 = .ok (.invokevirtual 116, 3) := dop_182 (zb_L_law_23 31 rfl) (zb_L_law_23 32 rfl) (zb_L_law_23 33 rfl) rfl
theorem dL_law_1079 : decode cL_law 1079 = .ok (.pop, 1) := dop_87 (zb_L_law_23 34 rfl)
theorem dL_law_1080 : decode cL_law 1080 = .ok (.aload_n 2, 1) := dop_44 (zb_L_law_23 35 rfl)
theorem dL_law_1081 : decode cL_law 1081 = .ok (.aload_n 0, 1) := dop_42 (zb_L_law_23 36 rfl)
theorem dL_law_1082 : decode cL_law 1082 = .ok (.iload_n 3, 1) := dop_29 (zb_L_law_23 37 rfl)
theorem dL_law_1083 : decode cL_law 1083 = .ok (.iconst 1, 1) := dop_4 (zb_L_law_23 38 rfl)
theorem dL_law_1084 : decode cL_law 1084 = .ok (.iadd, 1) := dop_96 (zb_L_law_23 39 rfl)
theorem ze_L_law_25 : (dcn cL_law).drop 1125 = zt_L_law_25 := dw_n (wl := zw_L_law_24) ze_L_law_24 rfl
theorem zb_L_law_24 (j : Nat) {n : Nat} (e : zw_L_law_24[j]? = some n) : dby cL_law (1085 + j) n := dw_b (t := zt_L_law_25) ze_L_law_24 j e
theorem dL_law_1085 : decode cL_law 1085 = .ok (.iaload, 1) := dop_46 (zb_L_law_24 0 rfl)
theorem dL_law_1086 : decode cL_law 1086 = .ok (.invokevirtual 119, 3) := dop_182 (zb_L_law_24 1 rfl) (zb_L_law_24 2 rfl) (zb_L_law_24 3 rfl) rfl
theorem dL_law_1089 : decode cL_law 1089 = .ok (.pop, 1) := dop_87 (zb_L_law_24 4 rfl)
theorem dL_law_1090 : decode cL_law 1090 = .ok (.goto 398, 3) := dop_167 (zb_L_law_24 5 rfl) (zb_L_law_24 6 rfl) (zb_L_law_24 7 rfl) rfl
theorem dL_law_1093 : decode cL_law 1093 = .ok (.aload_n 1, 1) := dop_43 (zb_L_law_24 8 rfl)
theorem dL_law_1094 : decode cL_law 1094 = .ok (.invokevirtual 120, 3) := dop_182 (zb_L_law_24 9 rfl) (zb_L_law_24 10 rfl) (zb_L_law_24 11 rfl) rfl
theorem dL_law_1097 : decode cL_law 1097 = .ok (.pop, 1) := dop_87 (zb_L_law_24 12 rfl)
theorem dL_law_1098 : decode cL_law 1098 = .ok (.aload_n 2, 1) := dop_44 (zb_L_law_24 13 rfl)
theorem dL_law_1099 : decode cL_law 1099 = .ok (.invokevirtual 123, 3) := dop_182 (zb_L_law_24 14 rfl) (zb_L_law_24 15 rfl) (zb_L_law_24 16 rfl) rfl
theorem dL_law_1102 : decode cL_law 1102 = .ok (.pop, 1) := dop_87 (zb_L_law_24 17 rfl)
theorem dL_law_1103 : decode cL_law 1103 = .ok (.goto 385, 3) := dop_167 (zb_L_law_24 18 rfl) (zb_L_law_24 19 rfl) (zb_L_law_24 20 rfl) rfl
theorem dL_law_1106 : decode cL_law 1106 = .ok (.aload_n 1, 1) := dop_43 (zb_L_law_24 21 rfl)
theorem dL_law_1107 : decode cL_law 1107 = .ok (.aload_n 0, 1) := dop_42 (zb_L_law_24 22 rfl)
theorem dL_law_1108 : decode cL_law 1108 = .ok (.iload_n 3, 1) := dop_29 (zb_L_law_24 23 rfl)
theorem dL_law_1109 : decode cL_law 1109 = .ok (.iconst 1, 1) := dop_4 (zb_L_law_24 24 rfl)
theorem dL_law_1110 : decode cL_law 1110 = .ok (.iadd, 1) := dop_96 (zb_L_law_24 25 rfl)
theorem dL_law_1111 : decode cL_law 1111 = .ok (.iaload, 1) := dop_46 (zb_L_law_24 26 rfl)
theorem dL_law_1112 : decode cL_law 1112 = .ok (.invokevirtual 124, 3) := dop_182 (zb_L_law_24 27 rfl) (zb_L_law_24 28 rfl) (zb_L_law_24 29 rfl) rfl
theorem dL_law_1115 : decode cL_law 1115 = .ok (.pop, 1) := dop_87 (zb_L_law_24 30 rfl)
theorem dL_law_1116 : decode cL_law 1116 = .ok (.aload_n 2, 1) := dop_44 (zb_L_law_24 31 rfl)
theorem dL_law_1117 : decode cL_law 1117 = .ok (.aload_n 0, 1) := dop_42 (zb_L_law_24 32 rfl)
theorem dL_law_1118 : decode cL_law 1118 = .ok (.iload_n 3, 1) := dop_29 (zb_L_law_24 33 rfl)
theorem dL_law_1119 : decode cL_law 1119 = .ok (.iconst 1, 1) := dop_4 (zb_L_law_24 34 rfl)
theorem dL_law_1120 : decode cL_law 1120 = .ok (.iadd, 1) := dop_96 (zb_L_law_24 35 rfl)
theorem dL_law_1121 : decode cL_law 1121 = .ok (.iaload, 1) := dop_46 (zb_L_law_24 36 rfl)
theorem dL_law_1122 : decode cL_law 1122 = .ok (.invokevirtual 127, 3) := dop_182 (zb_L_law_24 37 rfl) (zb_L_law_24 38 rfl) (zb_L_law_24 39 rfl) rfl
theorem ze_L_law_26 : (dcn cL_law).drop 1163 = zt_L_law_26 := dw_n (wl := zw_L_law_25) ze_L_law_25 rfl
theorem zb_L_law_25 (j : Nat) {n : Nat} (e : zw_L_law_25[j]? = some n) : dby cL_law (1125 + j) n := dw_b (t := zt_L_law_26) ze_L_law_25 j e
theorem dL_law_1125 : decode cL_law 1125 = .ok (.pop, 1) := dop_87 (zb_L_law_25 0 rfl)
theorem dL_law_1126 : decode cL_law 1126 = .ok (.goto 362, 3) := dop_167 (zb_L_law_25 1 rfl) (zb_L_law_25 2 rfl) (zb_L_law_25 3 rfl) rfl
theorem dL_law_1129 : decode cL_law 1129 = .ok (.aload_n 1, 1) := dop_43 (zb_L_law_25 4 rfl)
theorem dL_law_1130 : decode cL_law 1130 = .ok (.aload_n 0, 1) := dop_42 (zb_L_law_25 5 rfl)
theorem dL_law_1131 : decode cL_law 1131 = .ok (.iload_n 3, 1) := dop_29 (zb_L_law_25 6 rfl)
theorem dL_law_1132 : decode cL_law 1132 = .ok (.iconst 1, 1) := dop_4 (zb_L_law_25 7 rfl)
theorem dL_law_1133 : decode cL_law 1133 = .ok (.iadd, 1) := dop_96 (zb_L_law_25 8 rfl)
theorem dL_law_1134 : decode cL_law 1134 = .ok (.iaload, 1) := dop_46 (zb_L_law_25 9 rfl)
theorem dL_law_1135 : decode cL_law 1135 = .ok (.invokevirtual 128, 3) := dop_182 (zb_L_law_25 10 rfl) (zb_L_law_25 11 rfl) (zb_L_law_25 12 rfl) rfl
theorem dL_law_1138 : decode cL_law 1138 = .ok (.pop, 1) := dop_87 (zb_L_law_25 13 rfl)
theorem dL_law_1139 : decode cL_law 1139 = .ok (.aload_n 2, 1) := dop_44 (zb_L_law_25 14 rfl)
theorem dL_law_1140 : decode cL_law 1140 = .ok (.aload_n 0, 1) := dop_42 (zb_L_law_25 15 rfl)
theorem dL_law_1141 : decode cL_law 1141 = .ok (.iload_n 3, 1) := dop_29 (zb_L_law_25 16 rfl)
theorem dL_law_1142 : decode cL_law 1142 = .ok (.iconst 1, 1) := dop_4 (zb_L_law_25 17 rfl)
theorem dL_law_1143 : decode cL_law 1143 = .ok (.iadd, 1) := dop_96 (zb_L_law_25 18 rfl)
theorem dL_law_1144 : decode cL_law 1144 = .ok (.iaload, 1) := dop_46 (zb_L_law_25 19 rfl)
theorem dL_law_1145 : decode cL_law 1145 = .ok (.invokevirtual 131, 3) := dop_182 (zb_L_law_25 20 rfl) (zb_L_law_25 21 rfl) (zb_L_law_25 22 rfl) rfl
theorem dL_law_1148 : decode cL_law 1148 = .ok (.pop, 1) := dop_87 (zb_L_law_25 23 rfl)
theorem dL_law_1149 : decode cL_law 1149 = .ok (.goto 339, 3) := dop_167 (zb_L_law_25 24 rfl) (zb_L_law_25 25 rfl) (zb_L_law_25 26 rfl) rfl
theorem dL_law_1152 : decode cL_law 1152 = .ok (.aload_n 1, 1) := dop_43 (zb_L_law_25 27 rfl)
theorem dL_law_1153 : decode cL_law 1153 = .ok (.aload_n 0, 1) := dop_42 (zb_L_law_25 28 rfl)
theorem dL_law_1154 : decode cL_law 1154 = .ok (.iload_n 3, 1) := dop_29 (zb_L_law_25 29 rfl)
theorem dL_law_1155 : decode cL_law 1155 = .ok (.iconst 1, 1) := dop_4 (zb_L_law_25 30 rfl)
theorem dL_law_1156 : decode cL_law 1156 = .ok (.iadd, 1) := dop_96 (zb_L_law_25 31 rfl)
theorem dL_law_1157 : decode cL_law 1157 = .ok (.iaload, 1) := dop_46 (zb_L_law_25 32 rfl)
theorem dL_law_1158 : decode cL_law 1158 = .ok (.aload_n 0, 1) := dop_42 (zb_L_law_25 33 rfl)
theorem dL_law_1159 : decode cL_law 1159 = .ok (.iload_n 3, 1) := dop_29 (zb_L_law_25 34 rfl)
theorem dL_law_1160 : decode cL_law 1160 = .ok (.iconst 2, 1) := dop_5 (zb_L_law_25 35 rfl)
theorem dL_law_1161 : decode cL_law 1161 = .ok (.iadd, 1) := dop_96 (zb_L_law_25 36 rfl)
theorem dL_law_1162 : decode cL_law 1162 = .ok (.iaload, 1) := dop_46 (zb_L_law_25 37 rfl)
theorem ze_L_law_27 : (dcn cL_law).drop 1203 = zt_L_law_27 := dw_n (wl := zw_L_law_26) ze_L_law_26 rfl
theorem zb_L_law_26 (j : Nat) {n : Nat} (e : zw_L_law_26[j]? = some n) : dby cL_law (1163 + j) n := dw_b (t := zt_L_law_27) ze_L_law_26 j e
theorem dL_law_1163 : decode cL_law 1163 = .ok (.invokevirtual 132, 3) := dop_182 (zb_L_law_26 0 rfl) (zb_L_law_26 1 rfl) (zb_L_law_26 2 rfl) rfl
theorem dL_law_1166 : decode cL_law 1166 = .ok (.pop, 1) := dop_87 (zb_L_law_26 3 rfl)
theorem dL_law_1167 : decode cL_law 1167 = .ok (.aload_n 2, 1) := dop_44 (zb_L_law_26 4 rfl)
theorem dL_law_1168 : decode cL_law 1168 = .ok (.aload_n 0, 1) := dop_42 (zb_L_law_26 5 rfl)
theorem dL_law_1169 : decode cL_law 1169 = .ok (.iload_n 3, 1) := dop_29 (zb_L_law_26 6 rfl)
theorem dL_law_1170 : decode cL_law 1170 = .ok (.iconst 1, 1) := dop_4 (zb_L_law_26 7 rfl)
theorem dL_law_1171 : decode cL_law 1171 = .ok (.iadd, 1) := dop_96 (zb_L_law_26 8 rfl)
theorem dL_law_1172 : decode cL_law 1172 = .ok (.iaload, 1) := dop_46 (zb_L_law_26 9 rfl)
theorem dL_law_1173 : decode cL_law 1173 = .ok (.aload_n 0, 1) := dop_42 (zb_L_law_26 10 rfl)
theorem dL_law_1174 : decode cL_law 1174 = .ok (.iload_n 3, 1) := dop_29 (zb_L_law_26 11 rfl)
theorem dL_law_1175 : decode cL_law 1175 = .ok (.iconst 2, 1) := dop_5 (zb_L_law_26 12 rfl)
theorem dL_law_1176 : decode cL_law 1176 = .ok (.iadd, 1) := dop_96 (zb_L_law_26 13 rfl)
theorem dL_law_1177 : decode cL_law 1177 = .ok (.iaload, 1) := dop_46 (zb_L_law_26 14 rfl)
theorem dL_law_1178 : decode cL_law 1178 = .ok (.invokevirtual 135, 3) := dop_182 (zb_L_law_26 15 rfl) (zb_L_law_26 16 rfl) (zb_L_law_26 17 rfl) rfl
theorem dL_law_1181 : decode cL_law 1181 = .ok (.pop, 1) := dop_87 (zb_L_law_26 18 rfl)
theorem dL_law_1182 : decode cL_law 1182 = .ok (.goto 306, 3) := dop_167 (zb_L_law_26 19 rfl) (zb_L_law_26 20 rfl) (zb_L_law_26 21 rfl) rfl
theorem dL_law_1185 : decode cL_law 1185 = .ok (.aload_n 1, 1) := dop_43 (zb_L_law_26 22 rfl)
theorem dL_law_1186 : decode cL_law 1186 = .ok (.aload_n 0, 1) := dop_42 (zb_L_law_26 23 rfl)
theorem dL_law_1187 : decode cL_law 1187 = .ok (.iload_n 3, 1) := dop_29 (zb_L_law_26 24 rfl)
theorem dL_law_1188 : decode cL_law 1188 = .ok (.iconst 1, 1) := dop_4 (zb_L_law_26 25 rfl)
theorem dL_law_1189 : decode cL_law 1189 = .ok (.iadd, 1) := dop_96 (zb_L_law_26 26 rfl)
theorem dL_law_1190 : decode cL_law 1190 = .ok (.iaload, 1) := dop_46 (zb_L_law_26 27 rfl)
theorem dL_law_1191 : decode cL_law 1191 = .ok (.aload_n 0, 1) := dop_42 (zb_L_law_26 28 rfl)
theorem dL_law_1192 : decode cL_law 1192 = .ok (.iload_n 3, 1) := dop_29 (zb_L_law_26 29 rfl)
theorem dL_law_1193 : decode cL_law 1193 = .ok (.iconst 2, 1) := dop_5 (zb_L_law_26 30 rfl)
theorem dL_law_1194 : decode cL_law 1194 = .ok (.iadd, 1) := dop_96 (zb_L_law_26 31 rfl)
theorem dL_law_1195 : decode cL_law 1195 = .ok (.iaload, 1) := dop_46 (zb_L_law_26 32 rfl)
theorem dL_law_1196 : decode cL_law 1196 = .ok (.invokevirtual 136, 3) := dop_182 (zb_L_law_26 33 rfl) (zb_L_law_26 34 rfl) (zb_L_law_26 35 rfl) rfl
theorem dL_law_1199 : decode cL_law 1199 = .ok (.pop, 1) := dop_87 (zb_L_law_26 36 rfl)
theorem dL_law_1200 : decode cL_law 1200 = .ok (.aload_n 2, 1) := dop_44 (zb_L_law_26 37 rfl)
theorem dL_law_1201 : decode cL_law 1201 = .ok (.aload_n 0, 1) := dop_42 (zb_L_law_26 38 rfl)
theorem dL_law_1202 : decode cL_law 1202 = .ok (.iload_n 3, 1) := dop_29 (zb_L_law_26 39 rfl)
theorem ze_L_law_28 : (dcn cL_law).drop 1243 = zt_L_law_28 := dw_n (wl := zw_L_law_27) ze_L_law_27 rfl
theorem zb_L_law_27 (j : Nat) {n : Nat} (e : zw_L_law_27[j]? = some n) : dby cL_law (1203 + j) n := dw_b (t := zt_L_law_28) ze_L_law_27 j e
theorem dL_law_1203 : decode cL_law 1203 = .ok (.iconst 1, 1) := dop_4 (zb_L_law_27 0 rfl)
theorem dL_law_1204 : decode cL_law 1204 = .ok (.iadd, 1) := dop_96 (zb_L_law_27 1 rfl)
theorem dL_law_1205 : decode cL_law 1205 = .ok (.iaload, 1) := dop_46 (zb_L_law_27 2 rfl)
theorem dL_law_1206 : decode cL_law 1206 = .ok (.aload_n 0, 1) := dop_42 (zb_L_law_27 3 rfl)
theorem dL_law_1207 : decode cL_law 1207 = .ok (.iload_n 3, 1) := dop_29 (zb_L_law_27 4 rfl)
theorem dL_law_1208 : decode cL_law 1208 = .ok (.iconst 2, 1) := dop_5 (zb_L_law_27 5 rfl)
theorem dL_law_1209 : decode cL_law 1209 = .ok (.iadd, 1) := dop_96 (zb_L_law_27 6 rfl)
theorem dL_law_1210 : decode cL_law 1210 = .ok (.iaload, 1) := dop_46 (zb_L_law_27 7 rfl)
theorem dL_law_1211 : decode cL_law 1211 = .ok (.invokevirtual 139, 3) := dop_182 (zb_L_law_27 8 rfl) (zb_L_law_27 9 rfl) (zb_L_law_27 10 rfl) rfl
theorem dL_law_1214 : decode cL_law 1214 = .ok (.pop, 1) := dop_87 (zb_L_law_27 11 rfl)
theorem dL_law_1215 : decode cL_law 1215 = .ok (.goto 273, 3) := dop_167 (zb_L_law_27 12 rfl) (zb_L_law_27 13 rfl) (zb_L_law_27 14 rfl) rfl
theorem dL_law_1218 : decode cL_law 1218 = .ok (.aload_n 1, 1) := dop_43 (zb_L_law_27 15 rfl)
theorem dL_law_1219 : decode cL_law 1219 = .ok (.aload_n 0, 1) := dop_42 (zb_L_law_27 16 rfl)
theorem dL_law_1220 : decode cL_law 1220 = .ok (.iload_n 3, 1) := dop_29 (zb_L_law_27 17 rfl)
theorem dL_law_1221 : decode cL_law 1221 = .ok (.iconst 1, 1) := dop_4 (zb_L_law_27 18 rfl)
theorem dL_law_1222 : decode cL_law 1222 = .ok (.iadd, 1) := dop_96 (zb_L_law_27 19 rfl)
theorem dL_law_1223 : decode cL_law 1223 = .ok (.iaload, 1) := dop_46 (zb_L_law_27 20 rfl)
theorem dL_law_1224 : decode cL_law 1224 = .ok (.aload_n 0, 1) := dop_42 (zb_L_law_27 21 rfl)
theorem dL_law_1225 : decode cL_law 1225 = .ok (.iload_n 3, 1) := dop_29 (zb_L_law_27 22 rfl)
theorem dL_law_1226 : decode cL_law 1226 = .ok (.iconst 2, 1) := dop_5 (zb_L_law_27 23 rfl)
theorem dL_law_1227 : decode cL_law 1227 = .ok (.iadd, 1) := dop_96 (zb_L_law_27 24 rfl)
theorem dL_law_1228 : decode cL_law 1228 = .ok (.iaload, 1) := dop_46 (zb_L_law_27 25 rfl)
theorem dL_law_1229 : decode cL_law 1229 = .ok (.invokevirtual 140, 3) := dop_182 (zb_L_law_27 26 rfl) (zb_L_law_27 27 rfl) (zb_L_law_27 28 rfl) rfl
theorem dL_law_1232 : decode cL_law 1232 = .ok (.pop, 1) := dop_87 (zb_L_law_27 29 rfl)
theorem dL_law_1233 : decode cL_law 1233 = .ok (.aload_n 2, 1) := dop_44 (zb_L_law_27 30 rfl)
theorem dL_law_1234 : decode cL_law 1234 = .ok (.aload_n 0, 1) := dop_42 (zb_L_law_27 31 rfl)
theorem dL_law_1235 : decode cL_law 1235 = .ok (.iload_n 3, 1) := dop_29 (zb_L_law_27 32 rfl)
theorem dL_law_1236 : decode cL_law 1236 = .ok (.iconst 1, 1) := dop_4 (zb_L_law_27 33 rfl)
theorem dL_law_1237 : decode cL_law 1237 = .ok (.iadd, 1) := dop_96 (zb_L_law_27 34 rfl)
theorem dL_law_1238 : decode cL_law 1238 = .ok (.iaload, 1) := dop_46 (zb_L_law_27 35 rfl)
theorem dL_law_1239 : decode cL_law 1239 = .ok (.aload_n 0, 1) := dop_42 (zb_L_law_27 36 rfl)
theorem dL_law_1240 : decode cL_law 1240 = .ok (.iload_n 3, 1) := dop_29 (zb_L_law_27 37 rfl)
theorem dL_law_1241 : decode cL_law 1241 = .ok (.iconst 2, 1) := dop_5 (zb_L_law_27 38 rfl)
theorem dL_law_1242 : decode cL_law 1242 = .ok (.iadd, 1) := dop_96 (zb_L_law_27 39 rfl)
theorem ze_L_law_29 : (dcn cL_law).drop 1283 = zt_L_law_29 := dw_n (wl := zw_L_law_28) ze_L_law_28 rfl
theorem zb_L_law_28 (j : Nat) {n : Nat} (e : zw_L_law_28[j]? = some n) : dby cL_law (1243 + j) n := dw_b (t := zt_L_law_29) ze_L_law_28 j e
theorem dL_law_1243 : decode cL_law 1243 = .ok (.iaload, 1) := dop_46 (zb_L_law_28 0 rfl)
theorem dL_law_1244 : decode cL_law 1244 = .ok (.invokevirtual 143, 3) := dop_182 (zb_L_law_28 1 rfl) (zb_L_law_28 2 rfl) (zb_L_law_28 3 rfl) rfl
theorem dL_law_1247 : decode cL_law 1247 = .ok (.pop, 1) := dop_87 (zb_L_law_28 4 rfl)
theorem dL_law_1248 : decode cL_law 1248 = .ok (.goto 240, 3) := dop_167 (zb_L_law_28 5 rfl) (zb_L_law_28 6 rfl) (zb_L_law_28 7 rfl) rfl
theorem dL_law_1251 : decode cL_law 1251 = .ok (.aload_n 1, 1) := dop_43 (zb_L_law_28 8 rfl)
theorem dL_law_1252 : decode cL_law 1252 = .ok (.aload_n 0, 1) := dop_42 (zb_L_law_28 9 rfl)
theorem dL_law_1253 : decode cL_law 1253 = .ok (.iload_n 3, 1) := dop_29 (zb_L_law_28 10 rfl)
theorem dL_law_1254 : decode cL_law 1254 = .ok (.iconst 1, 1) := dop_4 (zb_L_law_28 11 rfl)
theorem dL_law_1255 : decode cL_law 1255 = .ok (.iadd, 1) := dop_96 (zb_L_law_28 12 rfl)
theorem dL_law_1256 : decode cL_law 1256 = .ok (.iaload, 1) := dop_46 (zb_L_law_28 13 rfl)
theorem dL_law_1257 : decode cL_law 1257 = .ok (.aload_n 0, 1) := dop_42 (zb_L_law_28 14 rfl)
theorem dL_law_1258 : decode cL_law 1258 = .ok (.iload_n 3, 1) := dop_29 (zb_L_law_28 15 rfl)
theorem dL_law_1259 : decode cL_law 1259 = .ok (.iconst 2, 1) := dop_5 (zb_L_law_28 16 rfl)
theorem dL_law_1260 : decode cL_law 1260 = .ok (.iadd, 1) := dop_96 (zb_L_law_28 17 rfl)
theorem dL_law_1261 : decode cL_law 1261 = .ok (.iaload, 1) := dop_46 (zb_L_law_28 18 rfl)
theorem dL_law_1262 : decode cL_law 1262 = .ok (.aload_n 0, 1) := dop_42 (zb_L_law_28 19 rfl)
theorem dL_law_1263 : decode cL_law 1263 = .ok (.iload_n 3, 1) := dop_29 (zb_L_law_28 20 rfl)
theorem dL_law_1264 : decode cL_law 1264 = .ok (.iconst 3, 1) := dop_6 (zb_L_law_28 21 rfl)
theorem dL_law_1265 : decode cL_law 1265 = .ok (.iadd, 1) := dop_96 (zb_L_law_28 22 rfl)
theorem dL_law_1266 : decode cL_law 1266 = .ok (.iaload, 1) := dop_46 (zb_L_law_28 23 rfl)
theorem dL_law_1267 : decode cL_law 1267 = .ok (.invokevirtual 144, 3) := dop_182 (zb_L_law_28 24 rfl) (zb_L_law_28 25 rfl) (zb_L_law_28 26 rfl) rfl
theorem dL_law_1270 : decode cL_law 1270 = .ok (.pop, 1) := dop_87 (zb_L_law_28 27 rfl)
theorem dL_law_1271 : decode cL_law 1271 = .ok (.aload_n 2, 1) := dop_44 (zb_L_law_28 28 rfl)
theorem dL_law_1272 : decode cL_law 1272 = .ok (.aload_n 0, 1) := dop_42 (zb_L_law_28 29 rfl)
theorem dL_law_1273 : decode cL_law 1273 = .ok (.iload_n 3, 1) := dop_29 (zb_L_law_28 30 rfl)
theorem dL_law_1274 : decode cL_law 1274 = .ok (.iconst 1, 1) := dop_4 (zb_L_law_28 31 rfl)
theorem dL_law_1275 : decode cL_law 1275 = .ok (.iadd, 1) := dop_96 (zb_L_law_28 32 rfl)
theorem dL_law_1276 : decode cL_law 1276 = .ok (.iaload, 1) := dop_46 (zb_L_law_28 33 rfl)
theorem dL_law_1277 : decode cL_law 1277 = .ok (.aload_n 0, 1) := dop_42 (zb_L_law_28 34 rfl)
theorem dL_law_1278 : decode cL_law 1278 = .ok (.iload_n 3, 1) := dop_29 (zb_L_law_28 35 rfl)
theorem dL_law_1279 : decode cL_law 1279 = .ok (.iconst 2, 1) := dop_5 (zb_L_law_28 36 rfl)
theorem dL_law_1280 : decode cL_law 1280 = .ok (.iadd, 1) := dop_96 (zb_L_law_28 37 rfl)
theorem dL_law_1281 : decode cL_law 1281 = .ok (.iaload, 1) := dop_46 (zb_L_law_28 38 rfl)
theorem dL_law_1282 : decode cL_law 1282 = .ok (.aload_n 0, 1) := dop_42 (zb_L_law_28 39 rfl)
theorem ze_L_law_30 : (dcn cL_law).drop 1323 = zt_L_law_30 := dw_n (wl := zw_L_law_29) ze_L_law_29 rfl
theorem zb_L_law_29 (j : Nat) {n : Nat} (e : zw_L_law_29[j]? = some n) : dby cL_law (1283 + j) n := dw_b (t := zt_L_law_30) ze_L_law_29 j e
theorem dL_law_1283 : decode cL_law 1283 = .ok (.iload_n 3, 1) := dop_29 (zb_L_law_29 0 rfl)
theorem dL_law_1284 : decode cL_law 1284 = .ok (.iconst 3, 1) := dop_6 (zb_L_law_29 1 rfl)
theorem dL_law_1285 : decode cL_law 1285 = .ok (.iadd, 1) := dop_96 (zb_L_law_29 2 rfl)
theorem dL_law_1286 : decode cL_law 1286 = .ok (.iaload, 1) := dop_46 (zb_L_law_29 3 rfl)
theorem dL_law_1287 : decode cL_law 1287 = .ok (.invokevirtual 147, 3) := dop_182 (zb_L_law_29 4 rfl) (zb_L_law_29 5 rfl) (zb_L_law_29 6 rfl) rfl
theorem dL_law_1290 : decode cL_law 1290 = .ok (.pop, 1) := dop_87 (zb_L_law_29 7 rfl)
theorem dL_law_1291 : decode cL_law 1291 = .ok (.goto 197, 3) := dop_167 (zb_L_law_29 8 rfl) (zb_L_law_29 9 rfl) (zb_L_law_29 10 rfl) rfl
theorem dL_law_1294 : decode cL_law 1294 = .ok (.aload_n 1, 1) := dop_43 (zb_L_law_29 11 rfl)
theorem dL_law_1295 : decode cL_law 1295 = .ok (.aload_n 0, 1) := dop_42 (zb_L_law_29 12 rfl)
theorem dL_law_1296 : decode cL_law 1296 = .ok (.iload_n 3, 1) := dop_29 (zb_L_law_29 13 rfl)
theorem dL_law_1297 : decode cL_law 1297 = .ok (.iconst 1, 1) := dop_4 (zb_L_law_29 14 rfl)
theorem dL_law_1298 : decode cL_law 1298 = .ok (.iadd, 1) := dop_96 (zb_L_law_29 15 rfl)
theorem dL_law_1299 : decode cL_law 1299 = .ok (.iaload, 1) := dop_46 (zb_L_law_29 16 rfl)
theorem dL_law_1300 : decode cL_law 1300 = .ok (.invokevirtual 148, 3) := dop_182 (zb_L_law_29 17 rfl) (zb_L_law_29 18 rfl) (zb_L_law_29 19 rfl) rfl
theorem dL_law_1303 : decode cL_law 1303 = .ok (.pop, 1) := dop_87 (zb_L_law_29 20 rfl)
theorem dL_law_1304 : decode cL_law 1304 = .ok (.aload_n 2, 1) := dop_44 (zb_L_law_29 21 rfl)
theorem dL_law_1305 : decode cL_law 1305 = .ok (.aload_n 0, 1) := dop_42 (zb_L_law_29 22 rfl)
theorem dL_law_1306 : decode cL_law 1306 = .ok (.iload_n 3, 1) := dop_29 (zb_L_law_29 23 rfl)
theorem dL_law_1307 : decode cL_law 1307 = .ok (.iconst 1, 1) := dop_4 (zb_L_law_29 24 rfl)
theorem dL_law_1308 : decode cL_law 1308 = .ok (.iadd, 1) := dop_96 (zb_L_law_29 25 rfl)
theorem dL_law_1309 : decode cL_law 1309 = .ok (.iaload, 1) := dop_46 (zb_L_law_29 26 rfl)
theorem dL_law_1310 : decode cL_law 1310 = .ok (.invokevirtual 151, 3) := dop_182 (zb_L_law_29 27 rfl) (zb_L_law_29 28 rfl) (zb_L_law_29 29 rfl) rfl
theorem dL_law_1313 : decode cL_law 1313 = .ok (.pop, 1) := dop_87 (zb_L_law_29 30 rfl)
theorem dL_law_1314 : decode cL_law 1314 = .ok (.goto 174, 3) := dop_167 (zb_L_law_29 31 rfl) (zb_L_law_29 32 rfl) (zb_L_law_29 33 rfl) rfl
theorem dL_law_1317 : decode cL_law 1317 = .ok (.aload_n 1, 1) := dop_43 (zb_L_law_29 34 rfl)
theorem dL_law_1318 : decode cL_law 1318 = .ok (.aload_n 0, 1) := dop_42 (zb_L_law_29 35 rfl)
theorem dL_law_1319 : decode cL_law 1319 = .ok (.iload_n 3, 1) := dop_29 (zb_L_law_29 36 rfl)
theorem dL_law_1320 : decode cL_law 1320 = .ok (.iconst 1, 1) := dop_4 (zb_L_law_29 37 rfl)
theorem dL_law_1321 : decode cL_law 1321 = .ok (.iadd, 1) := dop_96 (zb_L_law_29 38 rfl)
theorem dL_law_1322 : decode cL_law 1322 = .ok (.iaload, 1) := dop_46 (zb_L_law_29 39 rfl)
theorem ze_L_law_31 : (dcn cL_law).drop 1363 = zt_L_law_31 := dw_n (wl := zw_L_law_30) ze_L_law_30 rfl
theorem zb_L_law_30 (j : Nat) {n : Nat} (e : zw_L_law_30[j]? = some n) : dby cL_law (1323 + j) n := dw_b (t := zt_L_law_31) ze_L_law_30 j e
theorem dL_law_1323 : decode cL_law 1323 = .ok (.aload_n 0, 1) := dop_42 (zb_L_law_30 0 rfl)
theorem dL_law_1324 : decode cL_law 1324 = .ok (.iload_n 3, 1) := dop_29 (zb_L_law_30 1 rfl)
theorem dL_law_1325 : decode cL_law 1325 = .ok (.iconst 2, 1) := dop_5 (zb_L_law_30 2 rfl)
theorem dL_law_1326 : decode cL_law 1326 = .ok (.iadd, 1) := dop_96 (zb_L_law_30 3 rfl)
theorem dL_law_1327 : decode cL_law 1327 = .ok (.iaload, 1) := dop_46 (zb_L_law_30 4 rfl)
theorem dL_law_1328 : decode cL_law 1328 = .ok (.aload_n 0, 1) := dop_42 (zb_L_law_30 5 rfl)
theorem dL_law_1329 : decode cL_law 1329 = .ok (.iload_n 3, 1) := dop_29 (zb_L_law_30 6 rfl)
theorem dL_law_1330 : decode cL_law 1330 = .ok (.iconst 3, 1) := dop_6 (zb_L_law_30 7 rfl)
theorem dL_law_1331 : decode cL_law 1331 = .ok (.iadd, 1) := dop_96 (zb_L_law_30 8 rfl)
theorem dL_law_1332 : decode cL_law 1332 = .ok (.iaload, 1) := dop_46 (zb_L_law_30 9 rfl)
theorem dL_law_1333 : decode cL_law 1333 = .ok (.invokevirtual 152, 3) := dop_182 (zb_L_law_30 10 rfl) (zb_L_law_30 11 rfl) (zb_L_law_30 12 rfl) rfl
theorem dL_law_1336 : decode cL_law 1336 = .ok (.pop, 1) := dop_87 (zb_L_law_30 13 rfl)
theorem dL_law_1337 : decode cL_law 1337 = .ok (.aload_n 2, 1) := dop_44 (zb_L_law_30 14 rfl)
theorem dL_law_1338 : decode cL_law 1338 = .ok (.aload_n 0, 1) := dop_42 (zb_L_law_30 15 rfl)
theorem dL_law_1339 : decode cL_law 1339 = .ok (.iload_n 3, 1) := dop_29 (zb_L_law_30 16 rfl)
theorem dL_law_1340 : decode cL_law 1340 = .ok (.iconst 1, 1) := dop_4 (zb_L_law_30 17 rfl)
theorem dL_law_1341 : decode cL_law 1341 = .ok (.iadd, 1) := dop_96 (zb_L_law_30 18 rfl)
theorem dL_law_1342 : decode cL_law 1342 = .ok (.iaload, 1) := dop_46 (zb_L_law_30 19 rfl)
theorem dL_law_1343 : decode cL_law 1343 = .ok (.aload_n 0, 1) := dop_42 (zb_L_law_30 20 rfl)
theorem dL_law_1344 : decode cL_law 1344 = .ok (.iload_n 3, 1) := dop_29 (zb_L_law_30 21 rfl)
theorem dL_law_1345 : decode cL_law 1345 = .ok (.iconst 2, 1) := dop_5 (zb_L_law_30 22 rfl)
theorem dL_law_1346 : decode cL_law 1346 = .ok (.iadd, 1) := dop_96 (zb_L_law_30 23 rfl)
theorem dL_law_1347 : decode cL_law 1347 = .ok (.iaload, 1) := dop_46 (zb_L_law_30 24 rfl)
theorem dL_law_1348 : decode cL_law 1348 = .ok (.aload_n 0, 1) := dop_42 (zb_L_law_30 25 rfl)
theorem dL_law_1349 : decode cL_law 1349 = .ok (.iload_n 3, 1) := dop_29 (zb_L_law_30 26 rfl)
theorem dL_law_1350 : decode cL_law 1350 = .ok (.iconst 3, 1) := dop_6 (zb_L_law_30 27 rfl)
theorem dL_law_1351 : decode cL_law 1351 = .ok (.iadd, 1) := dop_96 (zb_L_law_30 28 rfl)
theorem dL_law_1352 : decode cL_law 1352 = .ok (.iaload, 1) := dop_46 (zb_L_law_30 29 rfl)
theorem dL_law_1353 : decode cL_law 1353 = .ok (.invokevirtual 155, 3) := dop_182 (zb_L_law_30 30 rfl) (zb_L_law_30 31 rfl) (zb_L_law_30 32 rfl) rfl
theorem dL_law_1356 : decode cL_law 1356 = .ok (.pop, 1) := dop_87 (zb_L_law_30 33 rfl)
theorem dL_law_1357 : decode cL_law 1357 = .ok (.goto 131, 3) := dop_167 (zb_L_law_30 34 rfl) (zb_L_law_30 35 rfl) (zb_L_law_30 36 rfl) rfl
theorem dL_law_1360 : decode cL_law 1360 = .ok (.aload_n 1, 1) := dop_43 (zb_L_law_30 37 rfl)
theorem dL_law_1361 : decode cL_law 1361 = .ok (.aload_n 0, 1) := dop_42 (zb_L_law_30 38 rfl)
theorem dL_law_1362 : decode cL_law 1362 = .ok (.iload_n 3, 1) := dop_29 (zb_L_law_30 39 rfl)
theorem ze_L_law_32 : (dcn cL_law).drop 1401 = zt_L_law_32 := dw_n (wl := zw_L_law_31) ze_L_law_31 rfl
theorem zb_L_law_31 (j : Nat) {n : Nat} (e : zw_L_law_31[j]? = some n) : dby cL_law (1363 + j) n := dw_b (t := zt_L_law_32) ze_L_law_31 j e
theorem dL_law_1363 : decode cL_law 1363 = .ok (.iconst 1, 1) := dop_4 (zb_L_law_31 0 rfl)
theorem dL_law_1364 : decode cL_law 1364 = .ok (.iadd, 1) := dop_96 (zb_L_law_31 1 rfl)
theorem dL_law_1365 : decode cL_law 1365 = .ok (.iaload, 1) := dop_46 (zb_L_law_31 2 rfl)
theorem dL_law_1366 : decode cL_law 1366 = .ok (.invokevirtual 156, 3) := dop_182 (zb_L_law_31 3 rfl) (zb_L_law_31 4 rfl) (zb_L_law_31 5 rfl) rfl
theorem dL_law_1369 : decode cL_law 1369 = .ok (.pop, 1) := dop_87 (zb_L_law_31 6 rfl)
theorem dL_law_1370 : decode cL_law 1370 = .ok (.aload_n 2, 1) := dop_44 (zb_L_law_31 7 rfl)
theorem dL_law_1371 : decode cL_law 1371 = .ok (.aload_n 0, 1) := dop_42 (zb_L_law_31 8 rfl)
theorem dL_law_1372 : decode cL_law 1372 = .ok (.iload_n 3, 1) := dop_29 (zb_L_law_31 9 rfl)
theorem dL_law_1373 : decode cL_law 1373 = .ok (.iconst 1, 1) := dop_4 (zb_L_law_31 10 rfl)
theorem dL_law_1374 : decode cL_law 1374 = .ok (.iadd, 1) := dop_96 (zb_L_law_31 11 rfl)
theorem dL_law_1375 : decode cL_law 1375 = .ok (.iaload, 1) := dop_46 (zb_L_law_31 12 rfl)
theorem dL_law_1376 : decode cL_law 1376 = .ok (.invokevirtual 159, 3) := dop_182 (zb_L_law_31 13 rfl) (zb_L_law_31 14 rfl) (zb_L_law_31 15 rfl) rfl
theorem dL_law_1379 : decode cL_law 1379 = .ok (.pop, 1) := dop_87 (zb_L_law_31 16 rfl)
theorem dL_law_1380 : decode cL_law 1380 = .ok (.goto 108, 3) := dop_167 (zb_L_law_31 17 rfl) (zb_L_law_31 18 rfl) (zb_L_law_31 19 rfl) rfl
theorem dL_law_1383 : decode cL_law 1383 = .ok (.aload_n 1, 1) := dop_43 (zb_L_law_31 20 rfl)
theorem dL_law_1384 : decode cL_law 1384 = .ok (.aload_n 0, 1) := dop_42 (zb_L_law_31 21 rfl)
theorem dL_law_1385 : decode cL_law 1385 = .ok (.iload_n 3, 1) := dop_29 (zb_L_law_31 22 rfl)
theorem dL_law_1386 : decode cL_law 1386 = .ok (.iconst 1, 1) := dop_4 (zb_L_law_31 23 rfl)
theorem dL_law_1387 : decode cL_law 1387 = .ok (.iadd, 1) := dop_96 (zb_L_law_31 24 rfl)
theorem dL_law_1388 : decode cL_law 1388 = .ok (.iaload, 1) := dop_46 (zb_L_law_31 25 rfl)
theorem dL_law_1389 : decode cL_law 1389 = .ok (.invokevirtual 160, 3) := dop_182 (zb_L_law_31 26 rfl) (zb_L_law_31 27 rfl) (zb_L_law_31 28 rfl) rfl
theorem dL_law_1392 : decode cL_law 1392 = .ok (.aload_n 2, 1) := dop_44 (zb_L_law_31 29 rfl)
theorem dL_law_1393 : decode cL_law 1393 = .ok (.aload_n 0, 1) := dop_42 (zb_L_law_31 30 rfl)
theorem dL_law_1394 : decode cL_law 1394 = .ok (.iload_n 3, 1) := dop_29 (zb_L_law_31 31 rfl)
theorem dL_law_1395 : decode cL_law 1395 = .ok (.iconst 1, 1) := dop_4 (zb_L_law_31 32 rfl)
theorem dL_law_1396 : decode cL_law 1396 = .ok (.iadd, 1) := dop_96 (zb_L_law_31 33 rfl)
theorem dL_law_1397 : decode cL_law 1397 = .ok (.iaload, 1) := dop_46 (zb_L_law_31 34 rfl)
theorem dL_law_1398 : decode cL_law 1398 = .ok (.invokevirtual 163, 3) := dop_182 (zb_L_law_31 35 rfl) (zb_L_law_31 36 rfl) (zb_L_law_31 37 rfl) rfl
theorem ze_L_law_33 : (dcn cL_law).drop 1441 = zt_L_law_33 := dw_n (wl := zw_L_law_32) ze_L_law_32 rfl
theorem zb_L_law_32 (j : Nat) {n : Nat} (e : zw_L_law_32[j]? = some n) : dby cL_law (1401 + j) n := dw_b (t := zt_L_law_33) ze_L_law_32 j e
theorem dL_law_1401 : decode cL_law 1401 = .ok (.if_icmp .eq 87, 3) := dop_159 (zb_L_law_32 0 rfl) (zb_L_law_32 1 rfl) (zb_L_law_32 2 rfl) rfl
theorem dL_law_1404 : decode cL_law 1404 = .ok (.iconst 0, 1) := dop_3 (zb_L_law_32 3 rfl)
theorem dL_law_1405 : decode cL_law 1405 = .ok (.ireturn, 1) := dop_172 (zb_L_law_32 4 rfl)
theorem dL_law_1406 : decode cL_law 1406 = .ok (.aload_n 1, 1) := dop_43 (zb_L_law_32 5 rfl)
theorem dL_law_1407 : decode cL_law 1407 = .ok (.aload_n 0, 1) := dop_42 (zb_L_law_32 6 rfl)
theorem dL_law_1408 : decode cL_law 1408 = .ok (.iload_n 3, 1) := dop_29 (zb_L_law_32 7 rfl)
theorem dL_law_1409 : decode cL_law 1409 = .ok (.iconst 1, 1) := dop_4 (zb_L_law_32 8 rfl)
theorem dL_law_1410 : decode cL_law 1410 = .ok (.iadd, 1) := dop_96 (zb_L_law_32 9 rfl)
theorem dL_law_1411 : decode cL_law 1411 = .ok (.iaload, 1) := dop_46 (zb_L_law_32 10 rfl)
theorem dL_law_1412 : decode cL_law 1412 = .ok (.invokevirtual 164, 3) := dop_182 (zb_L_law_32 11 rfl) (zb_L_law_32 12 rfl) (zb_L_law_32 13 rfl) rfl
theorem dL_law_1415 : decode cL_law 1415 = .ok (.pop, 1) := dop_87 (zb_L_law_32 14 rfl)
theorem dL_law_1416 : decode cL_law 1416 = .ok (.aload_n 2, 1) := dop_44 (zb_L_law_32 15 rfl)
theorem dL_law_1417 : decode cL_law 1417 = .ok (.aload_n 0, 1) := dop_42 (zb_L_law_32 16 rfl)
theorem dL_law_1418 : decode cL_law 1418 = .ok (.iload_n 3, 1) := dop_29 (zb_L_law_32 17 rfl)
theorem dL_law_1419 : decode cL_law 1419 = .ok (.iconst 1, 1) := dop_4 (zb_L_law_32 18 rfl)
theorem dL_law_1420 : decode cL_law 1420 = .ok (.iadd, 1) := dop_96 (zb_L_law_32 19 rfl)
theorem dL_law_1421 : decode cL_law 1421 = .ok (.iaload, 1) := dop_46 (zb_L_law_32 20 rfl)
theorem dL_law_1422 : decode cL_law 1422 = .ok (.invokevirtual 167, 3) := dop_182 (zb_L_law_32 21 rfl) (zb_L_law_32 22 rfl) (zb_L_law_32 23 rfl) rfl
theorem dL_law_1425 : decode cL_law 1425 = .ok (.pop, 1) := dop_87 (zb_L_law_32 24 rfl)
theorem dL_law_1426 : decode cL_law 1426 = .ok (.goto 62, 3) := dop_167 (zb_L_law_32 25 rfl) (zb_L_law_32 26 rfl) (zb_L_law_32 27 rfl) rfl
theorem dL_law_1429 : decode cL_law 1429 = .ok (.aload_n 1, 1) := dop_43 (zb_L_law_32 28 rfl)
theorem dL_law_1430 : decode cL_law 1430 = .ok (.aload_n 0, 1) := dop_42 (zb_L_law_32 29 rfl)
theorem dL_law_1431 : decode cL_law 1431 = .ok (.iload_n 3, 1) := dop_29 (zb_L_law_32 30 rfl)
theorem dL_law_1432 : decode cL_law 1432 = .ok (.iconst 1, 1) := dop_4 (zb_L_law_32 31 rfl)
theorem dL_law_1433 : decode cL_law 1433 = .ok (.iadd, 1) := dop_96 (zb_L_law_32 32 rfl)
theorem dL_law_1434 : decode cL_law 1434 = .ok (.iaload, 1) := dop_46 (zb_L_law_32 33 rfl)
theorem dL_law_1435 : decode cL_law 1435 = .ok (.invokevirtual 168, 3) := dop_182 (zb_L_law_32 34 rfl) (zb_L_law_32 35 rfl) (zb_L_law_32 36 rfl) rfl
theorem dL_law_1438 : decode cL_law 1438 = .ok (.pop, 1) := dop_87 (zb_L_law_32 37 rfl)
theorem dL_law_1439 : decode cL_law 1439 = .ok (.aload_n 2, 1) := dop_44 (zb_L_law_32 38 rfl)
theorem dL_law_1440 : decode cL_law 1440 = .ok (.aload_n 0, 1) := dop_42 (zb_L_law_32 39 rfl)
theorem ze_L_law_34 : (dcn cL_law).drop 1481 = zt_L_law_34 := dw_n (wl := zw_L_law_33) ze_L_law_33 rfl
theorem zb_L_law_33 (j : Nat) {n : Nat} (e : zw_L_law_33[j]? = some n) : dby cL_law (1441 + j) n := dw_b (t := zt_L_law_34) ze_L_law_33 j e
theorem dL_law_1441 : decode cL_law 1441 = .ok (.iload_n 3, 1) := dop_29 (zb_L_law_33 0 rfl)
theorem dL_law_1442 : decode cL_law 1442 = .ok (.iconst 1, 1) := dop_4 (zb_L_law_33 1 rfl)
theorem dL_law_1443 : decode cL_law 1443 = .ok (.iadd, 1) := dop_96 (zb_L_law_33 2 rfl)
theorem dL_law_1444 : decode cL_law 1444 = .ok (.iaload, 1) := dop_46 (zb_L_law_33 3 rfl)
theorem dL_law_1445 : decode cL_law 1445 = .ok (.invokevirtual 171, 3) := dop_182 (zb_L_law_33 4 rfl) (zb_L_law_33 5 rfl) (zb_L_law_33 6 rfl) rfl
theorem dL_law_1448 : decode cL_law 1448 = .ok (.pop, 1) := dop_87 (zb_L_law_33 7 rfl)
theorem dL_law_1449 : decode cL_law 1449 = .ok (.goto 39, 3) := dop_167 (zb_L_law_33 8 rfl) (zb_L_law_33 9 rfl) (zb_L_law_33 10 rfl) rfl
theorem dL_law_1452 : decode cL_law 1452 = .ok (.aload_n 1, 1) := dop_43 (zb_L_law_33 11 rfl)
theorem dL_law_1453 : decode cL_law 1453 = .ok (.aload_n 0, 1) := dop_42 (zb_L_law_33 12 rfl)
theorem dL_law_1454 : decode cL_law 1454 = .ok (.iload_n 3, 1) := dop_29 (zb_L_law_33 13 rfl)
theorem dL_law_1455 : decode cL_law 1455 = .ok (.iconst 1, 1) := dop_4 (zb_L_law_33 14 rfl)
theorem dL_law_1456 : decode cL_law 1456 = .ok (.iadd, 1) := dop_96 (zb_L_law_33 15 rfl)
theorem dL_law_1457 : decode cL_law 1457 = .ok (.iaload, 1) := dop_46 (zb_L_law_33 16 rfl)
theorem dL_law_1458 : decode cL_law 1458 = .ok (.invokevirtual 172, 3) := dop_182 (zb_L_law_33 17 rfl) (zb_L_law_33 18 rfl) (zb_L_law_33 19 rfl) rfl
theorem dL_law_1461 : decode cL_law 1461 = .ok (.pop, 1) := dop_87 (zb_L_law_33 20 rfl)
theorem dL_law_1462 : decode cL_law 1462 = .ok (.aload_n 2, 1) := dop_44 (zb_L_law_33 21 rfl)
theorem dL_law_1463 : decode cL_law 1463 = .ok (.aload_n 0, 1) := dop_42 (zb_L_law_33 22 rfl)
theorem dL_law_1464 : decode cL_law 1464 = .ok (.iload_n 3, 1) := dop_29 (zb_L_law_33 23 rfl)
theorem dL_law_1465 : decode cL_law 1465 = .ok (.iconst 1, 1) := dop_4 (zb_L_law_33 24 rfl)
theorem dL_law_1466 : decode cL_law 1466 = .ok (.iadd, 1) := dop_96 (zb_L_law_33 25 rfl)
theorem dL_law_1467 : decode cL_law 1467 = .ok (.iaload, 1) := dop_46 (zb_L_law_33 26 rfl)
theorem dL_law_1468 : decode cL_law 1468 = .ok (.invokevirtual 175, 3) := dop_182 (zb_L_law_33 27 rfl) (zb_L_law_33 28 rfl) (zb_L_law_33 29 rfl) rfl
theorem dL_law_1471 : decode cL_law 1471 = .ok (.pop, 1) := dop_87 (zb_L_law_33 30 rfl)
theorem dL_law_1472 : decode cL_law 1472 = .ok (.goto 16, 3) := dop_167 (zb_L_law_33 31 rfl) (zb_L_law_33 32 rfl) (zb_L_law_33 33 rfl) rfl
theorem dL_law_1475 : decode cL_law 1475 = .ok (.aload_n 1, 1) := dop_43 (zb_L_law_33 34 rfl)
theorem dL_law_1476 : decode cL_law 1476 = .ok (.invokevirtual 176, 3) := dop_182 (zb_L_law_33 35 rfl) (zb_L_law_33 36 rfl) (zb_L_law_33 37 rfl) rfl
theorem dL_law_1479 : decode cL_law 1479 = .ok (.pop, 1) := dop_87 (zb_L_law_33 38 rfl)
theorem dL_law_1480 : decode cL_law 1480 = .ok (.aload_n 2, 1) := dop_44 (zb_L_law_33 39 rfl)
theorem zb_L_law_34 (j : Nat) {n : Nat} (e : zw_L_law_34[j]? = some n) : dby cL_law (1481 + j) n := dw_b (t := []) ze_L_law_34 j e
theorem dL_law_1481 : decode cL_law 1481 = .ok (.invokevirtual 179, 3) := dop_182 (zb_L_law_34 0 rfl) (zb_L_law_34 1 rfl) (zb_L_law_34 2 rfl) rfl
theorem dL_law_1484 : decode cL_law 1484 = .ok (.pop, 1) := dop_87 (zb_L_law_34 3 rfl)
theorem dL_law_1485 : decode cL_law 1485 = .ok (.goto 3, 3) := dop_167 (zb_L_law_34 4 rfl) (zb_L_law_34 5 rfl) (zb_L_law_34 6 rfl) rfl
theorem dL_law_1488 : decode cL_law 1488 = .ok (.iinc 3 6, 3) := dop_132 (zb_L_law_34 7 rfl) (zb_L_law_34 8 rfl) (zb_L_law_34 9 rfl) rfl
theorem dL_law_1491 : decode cL_law 1491 = .ok (.goto (-1473), 3) := dop_167 (zb_L_law_34 10 rfl) (zb_L_law_34 11 rfl) (zb_L_law_34 12 rfl) rfl
theorem dL_law_1494 : decode cL_law 1494 = .ok (.iconst 1, 1) := dop_4 (zb_L_law_34 13 rfl)
theorem dL_law_1495 : decode cL_law 1495 = .ok (.ireturn, 1) := dop_172 (zb_L_law_34 14 rfl)
