def zw_X12_wide_41_1 : List Nat := [20, 1, 71, 113, 80, 22, 8, 20, 1, 71, 109, 55, 5, 132, 7, 1, 167, 255, 205, 177]
def zt_X12_wide_41_1 : List Nat := zw_X12_wide_41_1 ++ []
def zw_X12_wide_41_0 : List Nat := [9, 55, 5, 3, 54, 7, 21, 7, 16, 10, 162, 0, 50, 21, 7, 8, 162, 0, 14, 43, 28, 21, 7, 96, 47, 33, 105, 167, 0, 4, 9, 22, 5, 97, 55, 8, 42, 21, 7, 22, 8]
def zt_X12_wide_41_0 : List Nat := zw_X12_wide_41_0 ++ zt_X12_wide_41_1
theorem ze_X12_wide_41_0 : (dcn cX12_wide).drop 0 = zt_X12_wide_41_0 := by decide +kernel
theorem ze_X12_wide_41_1 : (dcn cX12_wide).drop 41 = zt_X12_wide_41_1 := dw_n (wl := zw_X12_wide_41_0) ze_X12_wide_41_0 rfl
theorem zb_X12_wide_41_0 (j : Nat) {n : Nat} (e : zw_X12_wide_41_0[j]? = some n) : dby cX12_wide (0 + j) n := dw_b (t := zt_X12_wide_41_1) ze_X12_wide_41_0 j e
theorem zb_X12_wide_41_1 (j : Nat) {n : Nat} (e : zw_X12_wide_41_1[j]? = some n) : dby cX12_wide (41 + j) n := dw_b (t := []) ze_X12_wide_41_1 j e
theorem dX12_wide_41 : decode cX12_wide 41 = .ok (.ldc2_w 327, 3) := dop_20 (zb_X12_wide_41_1 0 rfl) (zb_X12_wide_41_1 1 rfl) (zb_X12_wide_41_1 2 rfl) rfl
theorem dX12_wide_44 : decode cX12_wide 44 = .ok (.lrem, 1) := dop_113 (zb_X12_wide_41_1 3 rfl)
theorem dX12_wide_45 : decode cX12_wide 45 = .ok (.lastore, 1) := dop_80 (zb_X12_wide_41_1 4 rfl)
theorem dX12_wide_46 : decode cX12_wide 46 = .ok (.lload 8, 2) := dop_22 (zb_X12_wide_41_1 5 rfl) (zb_X12_wide_41_1 6 rfl)
theorem dX12_wide_48 : decode cX12_wide 48 = .ok (.ldc2_w 327, 3) := dop_20 (zb_X12_wide_41_1 7 rfl) (zb_X12_wide_41_1 8 rfl) (zb_X12_wide_41_1 9 rfl) rfl
theorem dX12_wide_51 : decode cX12_wide 51 = .ok (.ldiv, 1) := dop_109 (zb_X12_wide_41_1 10 rfl)
theorem dX12_wide_52 : decode cX12_wide 52 = .ok (.lstore 5, 2) := dop_55 (zb_X12_wide_41_1 11 rfl) (zb_X12_wide_41_1 12 rfl)
theorem dX12_wide_54 : decode cX12_wide 54 = .ok (.iinc 7 1, 3) := dop_132 (zb_X12_wide_41_1 13 rfl) (zb_X12_wide_41_1 14 rfl) (zb_X12_wide_41_1 15 rfl) rfl
theorem dX12_wide_57 : decode cX12_wide 57 = .ok (.goto (-51), 3) := dop_167 (zb_X12_wide_41_1 16 rfl) (zb_X12_wide_41_1 17 rfl) (zb_X12_wide_41_1 18 rfl) rfl
theorem dX12_wide_60 : decode cX12_wide 60 = .ok (.return_, 1) := dop_177 (zb_X12_wide_41_1 19 rfl)
def zw_X12_isAnswered_0 : List Nat := [42, 27, 182, 1, 135, 153, 0, 22, 42, 28, 182, 1, 135, 153, 0, 14, 42, 182, 1, 121, 153, 0, 7, 4, 167, 0, 4, 3, 172]
def zt_X12_isAnswered_0 : List Nat := zw_X12_isAnswered_0 ++ []
theorem ze_X12_isAnswered_0 : (dcn cX12_isAnswered).drop 0 = zt_X12_isAnswered_0 := by decide +kernel
theorem zb_X12_isAnswered_0 (j : Nat) {n : Nat} (e : zw_X12_isAnswered_0[j]? = some n) : dby cX12_isAnswered (0 + j) n := dw_b (t := []) ze_X12_isAnswered_0 j e
theorem dX12_isAnswered_0 : decode cX12_isAnswered 0 = .ok (.aload_n 0, 1) := dop_42 (zb_X12_isAnswered_0 0 rfl)
theorem dX12_isAnswered_1 : decode cX12_isAnswered 1 = .ok (.iload_n 1, 1) := dop_27 (zb_X12_isAnswered_0 1 rfl)
theorem dX12_isAnswered_2 : decode cX12_isAnswered 2 = .ok (.invokevirtual 391, 3) := dop_182 (zb_X12_isAnswered_0 2 rfl) (zb_X12_isAnswered_0 3 rfl) (zb_X12_isAnswered_0 4 rfl) rfl
theorem dX12_isAnswered_5 : decode cX12_isAnswered 5 = .ok (.ifCond .eq 22, 3) := dop_153 (zb_X12_isAnswered_0 5 rfl) (zb_X12_isAnswered_0 6 rfl) (zb_X12_isAnswered_0 7 rfl) rfl
theorem dX12_isAnswered_8 : decode cX12_isAnswered 8 = .ok (.aload_n 0, 1) := dop_42 (zb_X12_isAnswered_0 8 rfl)
theorem dX12_isAnswered_9 : decode cX12_isAnswered 9 = .ok (.iload_n 2, 1) := dop_28 (zb_X12_isAnswered_0 9 rfl)
theorem dX12_isAnswered_10 : decode cX12_isAnswered 10 = .ok (.invokevirtual 391, 3) := dop_182 (zb_X12_isAnswered_0 10 rfl) (zb_X12_isAnswered_0 11 rfl) (zb_X12_isAnswered_0 12 rfl) rfl
theorem dX12_isAnswered_13 : decode cX12_isAnswered 13 = .ok (.ifCond .eq 14, 3) := dop_153 (zb_X12_isAnswered_0 13 rfl) (zb_X12_isAnswered_0 14 rfl) (zb_X12_isAnswered_0 15 rfl) rfl
theorem dX12_isAnswered_16 : decode cX12_isAnswered 16 = .ok (.aload_n 0, 1) := dop_42 (zb_X12_isAnswered_0 16 rfl)
theorem dX12_isAnswered_17 : decode cX12_isAnswered 17 = .ok (.invokevirtual 377, 3) := dop_182 (zb_X12_isAnswered_0 17 rfl) (zb_X12_isAnswered_0 18 rfl) (zb_X12_isAnswered_0 19 rfl) rfl
theorem dX12_isAnswered_20 : decode cX12_isAnswered 20 = .ok (.ifCond .eq 7, 3) := dop_153 (zb_X12_isAnswered_0 20 rfl) (zb_X12_isAnswered_0 21 rfl) (zb_X12_isAnswered_0 22 rfl) rfl
theorem dX12_isAnswered_23 : decode cX12_isAnswered 23 = .ok (.iconst 1, 1) := dop_4 (zb_X12_isAnswered_0 23 rfl)
theorem dX12_isAnswered_24 : decode cX12_isAnswered 24 = .ok (.goto 4, 3) := dop_167 (zb_X12_isAnswered_0 24 rfl) (zb_X12_isAnswered_0 25 rfl) (zb_X12_isAnswered_0 26 rfl) rfl
theorem dX12_isAnswered_27 : decode cX12_isAnswered 27 = .ok (.iconst 0, 1) := dop_3 (zb_X12_isAnswered_0 27 rfl)
theorem dX12_isAnswered_28 : decode cX12_isAnswered 28 = .ok (.ireturn, 1) := dop_172 (zb_X12_isAnswered_0 28 rfl)
def zw_X12_between_4 : List Nat := [21, 5, 104, 42, 180, 0, 61, 8, 21, 5, 104, 19, 1, 144, 19, 1, 145, 182, 1, 146, 172]
def zt_X12_between_4 : List Nat := zw_X12_between_4 ++ []
def zw_X12_between_3 : List Nat := [21, 4, 153, 0, 32, 42, 42, 180, 0, 61, 8, 21, 5, 104, 42, 180, 0, 64, 8, 21, 5, 104, 19, 1, 144, 19, 1, 145, 182, 1, 146, 167, 0, 29, 42, 42, 180, 0, 64, 8]
def zt_X12_between_3 : List Nat := zw_X12_between_3 ++ zt_X12_between_4
def zw_X12_between_2 : List Nat := [153, 0, 17, 42, 180, 0, 67, 21, 5, 51, 154, 0, 7, 4, 167, 0, 4, 3, 172, 42, 180, 0, 70, 21, 5, 51, 154, 0, 14, 21, 4, 153, 0, 7, 3, 167, 0, 4, 2, 172]
def zt_X12_between_2 : List Nat := zw_X12_between_2 ++ zt_X12_between_3
def zw_X12_between_1 : List Nat := [54, 4, 42, 21, 4, 153, 0, 7, 28, 167, 0, 4, 27, 182, 1, 141, 21, 4, 153, 0, 7, 27, 167, 0, 4, 28, 54, 5, 29, 4, 164, 0, 29, 42, 180, 0, 70, 21, 5, 51]
def zt_X12_between_1 : List Nat := zw_X12_between_1 ++ zt_X12_between_2
def zw_X12_between_0 : List Nat := [42, 3, 181, 0, 133, 29, 133, 9, 20, 0, 152, 184, 0, 143, 153, 0, 12, 42, 27, 28, 182, 1, 138, 154, 0, 6, 16, 254, 172, 29, 5, 112, 154, 0, 7, 4, 167, 0, 4, 3]
def zt_X12_between_0 : List Nat := zw_X12_between_0 ++ zt_X12_between_1
theorem ze_X12_between_0 : (dcn cX12_between).drop 0 = zt_X12_between_0 := by decide +kernel
theorem ze_X12_between_1 : (dcn cX12_between).drop 40 = zt_X12_between_1 := dw_n (wl := zw_X12_between_0) ze_X12_between_0 rfl
theorem zb_X12_between_0 (j : Nat) {n : Nat} (e : zw_X12_between_0[j]? = some n) : dby cX12_between (0 + j) n := dw_b (t := zt_X12_between_1) ze_X12_between_0 j e
theorem dX12_between_0 : decode cX12_between 0 = .ok (.aload_n 0, 1) := dop_42 (zb_X12_between_0 0 rfl)
theorem dX12_between_1 : decode cX12_between 1 = .ok (.iconst 0, 1) := dop_3 (zb_X12_between_0 1 rfl)
theorem dX12_between_2 : decode cX12_between 2 = .ok (.putfield 133, 3) := dop_181 (zb_X12_between_0 2 rfl) (zb_X12_between_0 3 rfl) (zb_X12_between_0 4 rfl) rfl
theorem dX12_between_5 : decode cX12_between 5 = .ok (.iload_n 3, 1) := dop_29 (zb_X12_between_0 5 rfl)
theorem dX12_between_6 : decode cX12_between 6 = .ok (.i2l, 1) := dop_133 (zb_X12_between_0 6 rfl)
theorem dX12_between_7 : decode cX12_between 7 = .ok (.lconst 0, 1) := dop_9 (zb_X12_between_0 7 rfl)
theorem dX12_between_8 : decode cX12_between 8 = .ok (.ldc2_w 152, 3) := dop_20 (zb_X12_between_0 8 rfl) (zb_X12_between_0 9 rfl) (zb_X12_between_0 10 rfl) rfl
theorem dX12_between_11 : decode cX12_between 11 = .ok (.invokestatic 143, 3) := dop_184 (zb_X12_between_0 11 rfl) (zb_X12_between_0 12 rfl) (zb_X12_between_0 13 rfl) rfl
theorem dX12_between_14 : decode cX12_between 14 = .ok (.ifCond .eq 12, 3) := dop_153 (zb_X12_between_0 14 rfl) (zb_X12_between_0 15 rfl) (zb_X12_between_0 16 rfl) rfl
theorem dX12_between_17 : decode cX12_between 17 = .ok (.aload_n 0, 1) := dop_42 (zb_X12_between_0 17 rfl)
theorem dX12_between_18 : decode cX12_between 18 = .ok (.iload_n 1, 1) := dop_27 (zb_X12_between_0 18 rfl)
theorem dX12_between_19 : decode cX12_between 19 = .ok (.iload_n 2, 1) := dop_28 (zb_X12_between_0 19 rfl)
theorem dX12_between_20 : decode cX12_between 20 = .ok (.invokevirtual 394, 3) := dop_182 (zb_X12_between_0 20 rfl) (zb_X12_between_0 21 rfl) (zb_X12_between_0 22 rfl) rfl
theorem dX12_between_23 : decode cX12_between 23 = .ok (.ifCond .ne 6, 3) := dop_154 (zb_X12_between_0 23 rfl) (zb_X12_between_0 24 rfl) (zb_X12_between_0 25 rfl) rfl
theorem dX12_between_26 : decode cX12_between 26 = .ok (.bipush (-2), 2) := dop_16 (zb_X12_between_0 26 rfl) (zb_X12_between_0 27 rfl) rfl
theorem dX12_between_28 : decode cX12_between 28 = .ok (.ireturn, 1) := dop_172 (zb_X12_between_0 28 rfl)
theorem dX12_between_29 : decode cX12_between 29 = .ok (.iload_n 3, 1) := dop_29 (zb_X12_between_0 29 rfl)
theorem dX12_between_30 : decode cX12_between 30 = .ok (.iconst 2, 1) := dop_5 (zb_X12_between_0 30 rfl)
theorem dX12_between_31 : decode cX12_between 31 = .ok (.irem, 1) := dop_112 (zb_X12_between_0 31 rfl)
theorem dX12_between_32 : decode cX12_between 32 = .ok (.ifCond .ne 7, 3) := dop_154 (zb_X12_between_0 32 rfl) (zb_X12_between_0 33 rfl) (zb_X12_between_0 34 rfl) rfl
theorem dX12_between_35 : decode cX12_between 35 = .ok (.iconst 1, 1) := dop_4 (zb_X12_between_0 35 rfl)
theorem dX12_between_36 : decode cX12_between 36 = .ok (.goto 4, 3) := dop_167 (zb_X12_between_0 36 rfl) (zb_X12_between_0 37 rfl) (zb_X12_between_0 38 rfl) rfl
theorem dX12_between_39 : decode cX12_between 39 = .ok (.iconst 0, 1) := dop_3 (zb_X12_between_0 39 rfl)
theorem ze_X12_between_2 : (dcn cX12_between).drop 80 = zt_X12_between_2 := dw_n (wl := zw_X12_between_1) ze_X12_between_1 rfl
theorem zb_X12_between_1 (j : Nat) {n : Nat} (e : zw_X12_between_1[j]? = some n) : dby cX12_between (40 + j) n := dw_b (t := zt_X12_between_2) ze_X12_between_1 j e
theorem dX12_between_40 : decode cX12_between 40 = .ok (.istore 4, 2) := dop_54 (zb_X12_between_1 0 rfl) (zb_X12_between_1 1 rfl)
theorem dX12_between_42 : decode cX12_between 42 = .ok (.aload_n 0, 1) := dop_42 (zb_X12_between_1 2 rfl)
theorem dX12_between_43 : decode cX12_between 43 = .ok (.iload 4, 2) := dop_21 (zb_X12_between_1 3 rfl) (zb_X12_between_1 4 rfl)
theorem dX12_between_45 : decode cX12_between 45 = .ok (.ifCond .eq 7, 3) := dop_153 (zb_X12_between_1 5 rfl) (zb_X12_between_1 6 rfl) (zb_X12_between_1 7 rfl) rfl
theorem dX12_between_48 : decode cX12_between 48 = .ok (.iload_n 2, 1) := dop_28 (zb_X12_between_1 8 rfl)
theorem dX12_between_49 : decode cX12_between 49 = .ok (.goto 4, 3) := dop_167 (zb_X12_between_1 9 rfl) (zb_X12_between_1 10 rfl) (zb_X12_between_1 11 rfl) rfl
theorem dX12_between_52 : decode cX12_between 52 = .ok (.iload_n 1, 1) := dop_27 (zb_X12_between_1 12 rfl)
theorem dX12_between_53 : decode cX12_between 53 = .ok (.invokevirtual 397, 3) := dop_182 (zb_X12_between_1 13 rfl) (zb_X12_between_1 14 rfl) (zb_X12_between_1 15 rfl) rfl
theorem dX12_between_56 : decode cX12_between 56 = .ok (.iload 4, 2) := dop_21 (zb_X12_between_1 16 rfl) (zb_X12_between_1 17 rfl)
theorem dX12_between_58 : decode cX12_between 58 = .ok (.ifCond .eq 7, 3) := dop_153 (zb_X12_between_1 18 rfl) (zb_X12_between_1 19 rfl) (zb_X12_between_1 20 rfl) rfl
theorem dX12_between_61 : decode cX12_between 61 = .ok (.iload_n 1, 1) := dop_27 (zb_X12_between_1 21 rfl)
theorem dX12_between_62 : decode cX12_between 62 = .ok (.goto 4, 3) := dop_167 (zb_X12_between_1 22 rfl) (zb_X12_between_1 23 rfl) (zb_X12_between_1 24 rfl) rfl
theorem dX12_between_65 : decode cX12_between 65 = .ok (.iload_n 2, 1) := dop_28 (zb_X12_between_1 25 rfl)
theorem dX12_between_66 : decode cX12_between 66 = .ok (.istore 5, 2) := dop_54 (zb_X12_between_1 26 rfl) (zb_X12_between_1 27 rfl)
theorem dX12_between_68 : decode cX12_between 68 = .ok (.iload_n 3, 1) := dop_29 (zb_X12_between_1 28 rfl)
theorem dX12_between_69 : decode cX12_between 69 = .ok (.iconst 1, 1) := dop_4 (zb_X12_between_1 29 rfl)
theorem dX12_between_70 : decode cX12_between 70 = .ok (.if_icmp .le 29, 3) := dop_164 (zb_X12_between_1 30 rfl) (zb_X12_between_1 31 rfl) (zb_X12_between_1 32 rfl) rfl
theorem dX12_between_73 : decode cX12_between 73 = .ok (.aload_n 0, 1) := dop_42 (zb_X12_between_1 33 rfl)
theorem dX12_between_74 : decode cX12_between 74 = .ok (.getfield 70, 3) := dop_180 (zb_X12_between_1 34 rfl) (zb_X12_between_1 35 rfl) (zb_X12_between_1 36 rfl) rfl
theorem dX12_between_77 : decode cX12_between 77 = .ok (.iload 5, 2) := dop_21 (zb_X12_between_1 37 rfl) (zb_X12_between_1 38 rfl)
theorem dX12_between_79 : decode cX12_between 79 = .ok (.baload, 1) := dop_51 (zb_X12_between_1 39 rfl)
theorem ze_X12_between_3 : (dcn cX12_between).drop 120 = zt_X12_between_3 := dw_n (wl := zw_X12_between_2) ze_X12_between_2 rfl
theorem zb_X12_between_2 (j : Nat) {n : Nat} (e : zw_X12_between_2[j]? = some n) : dby cX12_between (80 + j) n := dw_b (t := zt_X12_between_3) ze_X12_between_2 j e
theorem dX12_between_80 : decode cX12_between 80 = .ok (.ifCond .eq 17, 3) := dop_153 (zb_X12_between_2 0 rfl) (zb_X12_between_2 1 rfl) (zb_X12_between_2 2 rfl) rfl
theorem dX12_between_83 : decode cX12_between 83 = .ok (.aload_n 0, 1) := dop_42 (zb_X12_between_2 3 rfl)
theorem dX12_between_84 : decode cX12_between 84 = .ok (.getfield 67, 3) := dop_180 (zb_X12_between_2 4 rfl) (zb_X12_between_2 5 rfl) (zb_X12_between_2 6 rfl) rfl
theorem dX12_between_87 : decode cX12_between 87 = .ok (.iload 5, 2) := dop_21 (zb_X12_between_2 7 rfl) (zb_X12_between_2 8 rfl)
theorem dX12_between_89 : decode cX12_between 89 = .ok (.baload, 1) := dop_51 (zb_X12_between_2 9 rfl)
theorem dX12_between_90 : decode cX12_between 90 = .ok (.ifCond .ne 7, 3) := dop_154 (zb_X12_between_2 10 rfl) (zb_X12_between_2 11 rfl) (zb_X12_between_2 12 rfl) rfl
theorem dX12_between_93 : decode cX12_between 93 = .ok (.iconst 1, 1) := dop_4 (zb_X12_between_2 13 rfl)
theorem dX12_between_94 : decode cX12_between 94 = .ok (.goto 4, 3) := dop_167 (zb_X12_between_2 14 rfl) (zb_X12_between_2 15 rfl) (zb_X12_between_2 16 rfl) rfl
theorem dX12_between_97 : decode cX12_between 97 = .ok (.iconst 0, 1) := dop_3 (zb_X12_between_2 17 rfl)
theorem dX12_between_98 : decode cX12_between 98 = .ok (.ireturn, 1) := dop_172 (zb_X12_between_2 18 rfl)
theorem dX12_between_99 : decode cX12_between 99 = .ok (.aload_n 0, 1) := dop_42 (zb_X12_between_2 19 rfl)
theorem dX12_between_100 : decode cX12_between 100 = .ok (.getfield 70, 3) := dop_180 (zb_X12_between_2 20 rfl) (zb_X12_between_2 21 rfl) (zb_X12_between_2 22 rfl) rfl
theorem dX12_between_103 : decode cX12_between 103 = .ok (.iload 5, 2) := dop_21 (zb_X12_between_2 23 rfl) (zb_X12_between_2 24 rfl)
theorem dX12_between_105 : decode cX12_between 105 = .ok (.baload, 1) := dop_51 (zb_X12_between_2 25 rfl)
theorem dX12_between_106 : decode cX12_between 106 = .ok (.ifCond .ne 14, 3) := dop_154 (zb_X12_between_2 26 rfl) (zb_X12_between_2 27 rfl) (zb_X12_between_2 28 rfl) rfl
theorem dX12_between_109 : decode cX12_between 109 = .ok (.iload 4, 2) := dop_21 (zb_X12_between_2 29 rfl) (zb_X12_between_2 30 rfl)
theorem dX12_between_111 : decode cX12_between 111 = .ok (.ifCond .eq 7, 3) := dop_153 (zb_X12_between_2 31 rfl) (zb_X12_between_2 32 rfl) (zb_X12_between_2 33 rfl) rfl
theorem dX12_between_114 : decode cX12_between 114 = .ok (.iconst 0, 1) := dop_3 (zb_X12_between_2 34 rfl)
theorem dX12_between_115 : decode cX12_between 115 = .ok (.goto 4, 3) := dop_167 (zb_X12_between_2 35 rfl) (zb_X12_between_2 36 rfl) (zb_X12_between_2 37 rfl) rfl
theorem dX12_between_118 : decode cX12_between 118 = .ok (.iconst (-1), 1) := dop_2 (zb_X12_between_2 38 rfl)
theorem dX12_between_119 : decode cX12_between 119 = .ok (.ireturn, 1) := dop_172 (zb_X12_between_2 39 rfl)
theorem ze_X12_between_4 : (dcn cX12_between).drop 160 = zt_X12_between_4 := dw_n (wl := zw_X12_between_3) ze_X12_between_3 rfl
theorem zb_X12_between_3 (j : Nat) {n : Nat} (e : zw_X12_between_3[j]? = some n) : dby cX12_between (120 + j) n := dw_b (t := zt_X12_between_4) ze_X12_between_3 j e
theorem dX12_between_120 : decode cX12_between 120 = .ok (.iload 4, 2) := dop_21 (zb_X12_between_3 0 rfl) (zb_X12_between_3 1 rfl)
theorem dX12_between_122 : decode cX12_between 122 = .ok (.ifCond .eq 32, 3) := dop_153 (zb_X12_between_3 2 rfl) (zb_X12_between_3 3 rfl) (zb_X12_between_3 4 rfl) rfl
theorem dX12_between_125 : decode cX12_between 125 = .ok (.aload_n 0, 1) := dop_42 (zb_X12_between_3 5 rfl)
theorem dX12_between_126 : decode cX12_between 126 = .ok (.aload_n 0, 1) := dop_42 (zb_X12_between_3 6 rfl)
theorem dX12_between_127 : decode cX12_between 127 = .ok (.getfield 61, 3) := dop_180 (zb_X12_between_3 7 rfl) (zb_X12_between_3 8 rfl) (zb_X12_between_3 9 rfl) rfl
theorem dX12_between_130 : decode cX12_between 130 = .ok (.iconst 5, 1) := dop_8 (zb_X12_between_3 10 rfl)
theorem dX12_between_131 : decode cX12_between 131 = .ok (.iload 5, 2) := dop_21 (zb_X12_between_3 11 rfl) (zb_X12_between_3 12 rfl)
theorem dX12_between_133 : decode cX12_between 133 = .ok (.imul, 1) := dop_104 (zb_X12_between_3 13 rfl)
theorem dX12_between_134 : decode cX12_between 134 = .ok (.aload_n 0, 1) := dop_42 (zb_X12_between_3 14 rfl)
theorem dX12_between_135 : decode cX12_between 135 = .ok (.getfield 64, 3) := dop_180 (zb_X12_between_3 15 rfl) (zb_X12_between_3 16 rfl) (zb_X12_between_3 17 rfl) rfl
theorem dX12_between_138 : decode cX12_between 138 = .ok (.iconst 5, 1) := dop_8 (zb_X12_between_3 18 rfl)
theorem dX12_between_139 : decode cX12_between 139 = .ok (.iload 5, 2) := dop_21 (zb_X12_between_3 19 rfl) (zb_X12_between_3 20 rfl)
theorem dX12_between_141 : decode cX12_between 141 = .ok (.imul, 1) := dop_104 (zb_X12_between_3 21 rfl)
theorem dX12_between_142 : decode cX12_between 142 = .ok (.ldc_w 400, 3) := dop_19 (zb_X12_between_3 22 rfl) (zb_X12_between_3 23 rfl) (zb_X12_between_3 24 rfl) rfl
theorem dX12_between_145 : decode cX12_between 145 = .ok (.ldc_w 401, 3) := dop_19 (zb_X12_between_3 25 rfl) (zb_X12_between_3 26 rfl) (zb_X12_between_3 27 rfl) rfl
theorem dX12_between_148 : decode cX12_between 148 = .ok (.invokevirtual 402, 3) := dop_182 (zb_X12_between_3 28 rfl) (zb_X12_between_3 29 rfl) (zb_X12_between_3 30 rfl) rfl
theorem dX12_between_151 : decode cX12_between 151 = .ok (.goto 29, 3) := dop_167 (zb_X12_between_3 31 rfl) (zb_X12_between_3 32 rfl) (zb_X12_between_3 33 rfl) rfl
theorem dX12_between_154 : decode cX12_between 154 = .ok (.aload_n 0, 1) := dop_42 (zb_X12_between_3 34 rfl)
theorem dX12_between_155 : decode cX12_between 155 = .ok (.aload_n 0, 1) := dop_42 (zb_X12_between_3 35 rfl)
theorem dX12_between_156 : decode cX12_between 156 = .ok (.getfield 64, 3) := dop_180 (zb_X12_between_3 36 rfl) (zb_X12_between_3 37 rfl) (zb_X12_between_3 38 rfl) rfl
theorem dX12_between_159 : decode cX12_between 159 = .ok (.iconst 5, 1) := dop_8 (zb_X12_between_3 39 rfl)
theorem zb_X12_between_4 (j : Nat) {n : Nat} (e : zw_X12_between_4[j]? = some n) : dby cX12_between (160 + j) n := dw_b (t := []) ze_X12_between_4 j e
theorem dX12_between_160 : decode cX12_between 160 = .ok (.iload 5, 2) := dop_21 (zb_X12_between_4 0 rfl) (zb_X12_between_4 1 rfl)
theorem dX12_between_162 : decode cX12_between 162 = .ok (.imul, 1) := dop_104 (zb_X12_between_4 2 rfl)
theorem dX12_between_163 : decode cX12_between 163 = .ok (.aload_n 0, 1) := dop_42 (zb_X12_between_4 3 rfl)
theorem dX12_between_164 : decode cX12_between 164 = .ok (.getfield 61, 3) := dop_180 (zb_X12_between_4 4 rfl) (zb_X12_between_4 5 rfl) (zb_X12_between_4 6 rfl) rfl
theorem dX12_between_167 : decode cX12_between 167 = .ok (.iconst 5, 1) := dop_8 (zb_X12_between_4 7 rfl)
theorem dX12_between_168 : decode cX12_between 168 = .ok (.iload 5, 2) := dop_21 (zb_X12_between_4 8 rfl) (zb_X12_between_4 9 rfl)
theorem dX12_between_170 : decode cX12_between 170 = .ok (.imul, 1) := dop_104 (zb_X12_between_4 10 rfl)
theorem dX12_between_171 : decode cX12_between 171 = .ok (.ldc_w 400, 3) := dop_19 (zb_X12_between_4 11 rfl) (zb_X12_between_4 12 rfl) (zb_X12_between_4 13 rfl) rfl
theorem dX12_between_174 : decode cX12_between 174 = .ok (.ldc_w 401, 3) := dop_19 (zb_X12_between_4 14 rfl) (zb_X12_between_4 15 rfl) (zb_X12_between_4 16 rfl) rfl
theorem dX12_between_177 : decode cX12_between 177 = .ok (.invokevirtual 402, 3) := dop_182 (zb_X12_between_4 17 rfl) (zb_X12_between_4 18 rfl) (zb_X12_between_4 19 rfl) rfl
theorem dX12_between_180 : decode cX12_between 180 = .ok (.ireturn, 1) := dop_172 (zb_X12_between_4 20 rfl)
def zw_X12_besideOne_1 : List Nat := [62, 29, 154, 0, 16, 42, 180, 0, 67, 27, 51, 153, 0, 7, 5, 167, 0, 4, 29, 172]
def zt_X12_besideOne_1 : List Nat := zw_X12_besideOne_1 ++ []
def zw_X12_besideOne_0 : List Nat := [42, 28, 182, 1, 141, 42, 180, 0, 70, 27, 51, 154, 0, 5, 2, 172, 42, 42, 180, 0, 61, 42, 180, 0, 64, 8, 27, 104, 42, 180, 0, 100, 42, 180, 0, 100, 3, 182, 1, 94]
def zt_X12_besideOne_0 : List Nat := zw_X12_besideOne_0 ++ zt_X12_besideOne_1
theorem ze_X12_besideOne_0 : (dcn cX12_besideOne).drop 0 = zt_X12_besideOne_0 := by decide +kernel
theorem ze_X12_besideOne_1 : (dcn cX12_besideOne).drop 40 = zt_X12_besideOne_1 := dw_n (wl := zw_X12_besideOne_0) ze_X12_besideOne_0 rfl
theorem zb_X12_besideOne_0 (j : Nat) {n : Nat} (e : zw_X12_besideOne_0[j]? = some n) : dby cX12_besideOne (0 + j) n := dw_b (t := zt_X12_besideOne_1) ze_X12_besideOne_0 j e
theorem dX12_besideOne_0 : decode cX12_besideOne 0 = .ok (.aload_n 0, 1) := dop_42 (zb_X12_besideOne_0 0 rfl)
theorem dX12_besideOne_1 : decode cX12_besideOne 1 = .ok (.iload_n 2, 1) := dop_28 (zb_X12_besideOne_0 1 rfl)
theorem dX12_besideOne_2 : decode cX12_besideOne 2 = .ok (.invokevirtual 397, 3) := dop_182 (zb_X12_besideOne_0 2 rfl) (zb_X12_besideOne_0 3 rfl) (zb_X12_besideOne_0 4 rfl) rfl
theorem dX12_besideOne_5 : decode cX12_besideOne 5 = .ok (.aload_n 0, 1) := dop_42 (zb_X12_besideOne_0 5 rfl)
theorem dX12_besideOne_6 : decode cX12_besideOne 6 = .ok (.getfield 70, 3) := dop_180 (zb_X12_besideOne_0 6 rfl) (zb_X12_besideOne_0 7 rfl) (zb_X12_besideOne_0 8 rfl) rfl
theorem dX12_besideOne_9 : decode cX12_besideOne 9 = .ok (.iload_n 1, 1) := dop_27 (zb_X12_besideOne_0 9 rfl)
theorem dX12_besideOne_10 : decode cX12_besideOne 10 = .ok (.baload, 1) := dop_51 (zb_X12_besideOne_0 10 rfl)
theorem dX12_besideOne_11 : decode cX12_besideOne 11 = .ok (.ifCond .ne 5, 3) := dop_154 (zb_X12_besideOne_0 11 rfl) (zb_X12_besideOne_0 12 rfl) (zb_X12_besideOne_0 13 rfl) rfl
theorem dX12_besideOne_14 : decode cX12_besideOne 14 = .ok (.iconst (-1), 1) := dop_2 (zb_X12_besideOne_0 14 rfl)
theorem dX12_besideOne_15 : decode cX12_besideOne 15 = .ok (.ireturn, 1) := dop_172 (zb_X12_besideOne_0 15 rfl)
theorem dX12_besideOne_16 : decode cX12_besideOne 16 = .ok (.aload_n 0, 1) := dop_42 (zb_X12_besideOne_0 16 rfl)
theorem dX12_besideOne_17 : decode cX12_besideOne 17 = .ok (.aload_n 0, 1) := dop_42 (zb_X12_besideOne_0 17 rfl)
theorem dX12_besideOne_18 : decode cX12_besideOne 18 = .ok (.getfield 61, 3) := dop_180 (zb_X12_besideOne_0 18 rfl) (zb_X12_besideOne_0 19 rfl) (zb_X12_besideOne_0 20 rfl) rfl
theorem dX12_besideOne_21 : decode cX12_besideOne 21 = .ok (.aload_n 0, 1) := dop_42 (zb_X12_besideOne_0 21 rfl)
theorem dX12_besideOne_22 : decode cX12_besideOne 22 = .ok (.getfield 64, 3) := dop_180 (zb_X12_besideOne_0 22 rfl) (zb_X12_besideOne_0 23 rfl) (zb_X12_besideOne_0 24 rfl) rfl
theorem dX12_besideOne_25 : decode cX12_besideOne 25 = .ok (.iconst 5, 1) := dop_8 (zb_X12_besideOne_0 25 rfl)
theorem dX12_besideOne_26 : decode cX12_besideOne 26 = .ok (.iload_n 1, 1) := dop_27 (zb_X12_besideOne_0 26 rfl)
theorem dX12_besideOne_27 : decode cX12_besideOne 27 = .ok (.imul, 1) := dop_104 (zb_X12_besideOne_0 27 rfl)
theorem dX12_besideOne_28 : decode cX12_besideOne 28 = .ok (.aload_n 0, 1) := dop_42 (zb_X12_besideOne_0 28 rfl)
theorem dX12_besideOne_29 : decode cX12_besideOne 29 = .ok (.getfield 100, 3) := dop_180 (zb_X12_besideOne_0 29 rfl) (zb_X12_besideOne_0 30 rfl) (zb_X12_besideOne_0 31 rfl) rfl
theorem dX12_besideOne_32 : decode cX12_besideOne 32 = .ok (.aload_n 0, 1) := dop_42 (zb_X12_besideOne_0 32 rfl)
theorem dX12_besideOne_33 : decode cX12_besideOne 33 = .ok (.getfield 100, 3) := dop_180 (zb_X12_besideOne_0 33 rfl) (zb_X12_besideOne_0 34 rfl) (zb_X12_besideOne_0 35 rfl) rfl
theorem dX12_besideOne_36 : decode cX12_besideOne 36 = .ok (.iconst 0, 1) := dop_3 (zb_X12_besideOne_0 36 rfl)
theorem dX12_besideOne_37 : decode cX12_besideOne 37 = .ok (.invokevirtual 350, 3) := dop_182 (zb_X12_besideOne_0 37 rfl) (zb_X12_besideOne_0 38 rfl) (zb_X12_besideOne_0 39 rfl) rfl
theorem zb_X12_besideOne_1 (j : Nat) {n : Nat} (e : zw_X12_besideOne_1[j]? = some n) : dby cX12_besideOne (40 + j) n := dw_b (t := []) ze_X12_besideOne_1 j e
theorem dX12_besideOne_40 : decode cX12_besideOne 40 = .ok (.istore_n 3, 1) := dop_62 (zb_X12_besideOne_1 0 rfl)
theorem dX12_besideOne_41 : decode cX12_besideOne 41 = .ok (.iload_n 3, 1) := dop_29 (zb_X12_besideOne_1 1 rfl)
theorem dX12_besideOne_42 : decode cX12_besideOne 42 = .ok (.ifCond .ne 16, 3) := dop_154 (zb_X12_besideOne_1 2 rfl) (zb_X12_besideOne_1 3 rfl) (zb_X12_besideOne_1 4 rfl) rfl
theorem dX12_besideOne_45 : decode cX12_besideOne 45 = .ok (.aload_n 0, 1) := dop_42 (zb_X12_besideOne_1 5 rfl)
theorem dX12_besideOne_46 : decode cX12_besideOne 46 = .ok (.getfield 67, 3) := dop_180 (zb_X12_besideOne_1 6 rfl) (zb_X12_besideOne_1 7 rfl) (zb_X12_besideOne_1 8 rfl) rfl
theorem dX12_besideOne_49 : decode cX12_besideOne 49 = .ok (.iload_n 1, 1) := dop_27 (zb_X12_besideOne_1 9 rfl)
theorem dX12_besideOne_50 : decode cX12_besideOne 50 = .ok (.baload, 1) := dop_51 (zb_X12_besideOne_1 10 rfl)
theorem dX12_besideOne_51 : decode cX12_besideOne 51 = .ok (.ifCond .eq 7, 3) := dop_153 (zb_X12_besideOne_1 11 rfl) (zb_X12_besideOne_1 12 rfl) (zb_X12_besideOne_1 13 rfl) rfl
theorem dX12_besideOne_54 : decode cX12_besideOne 54 = .ok (.iconst 2, 1) := dop_5 (zb_X12_besideOne_1 14 rfl)
theorem dX12_besideOne_55 : decode cX12_besideOne 55 = .ok (.goto 4, 3) := dop_167 (zb_X12_besideOne_1 15 rfl) (zb_X12_besideOne_1 16 rfl) (zb_X12_besideOne_1 17 rfl) rfl
theorem dX12_besideOne_58 : decode cX12_besideOne 58 = .ok (.iload_n 3, 1) := dop_29 (zb_X12_besideOne_1 18 rfl)
theorem dX12_besideOne_59 : decode cX12_besideOne 59 = .ok (.ireturn, 1) := dop_172 (zb_X12_besideOne_1 19 rfl)
def zw_X12_sure_1 : List Nat := [21, 4, 158, 0, 7, 5, 167, 0, 17, 29, 154, 0, 12, 21, 4, 154, 0, 7, 6, 167, 0, 4, 3, 172]
def zt_X12_sure_1 : List Nat := zw_X12_sure_1 ++ []
def zw_X12_sure_0 : List Nat := [42, 3, 181, 0, 133, 42, 27, 28, 182, 1, 138, 154, 0, 6, 16, 254, 172, 42, 27, 28, 182, 1, 150, 62, 42, 28, 27, 182, 1, 150, 54, 4, 29, 158, 0, 7, 4, 167, 0, 26]
def zt_X12_sure_0 : List Nat := zw_X12_sure_0 ++ zt_X12_sure_1
theorem ze_X12_sure_0 : (dcn cX12_sure).drop 0 = zt_X12_sure_0 := by decide +kernel
theorem ze_X12_sure_1 : (dcn cX12_sure).drop 40 = zt_X12_sure_1 := dw_n (wl := zw_X12_sure_0) ze_X12_sure_0 rfl
theorem zb_X12_sure_0 (j : Nat) {n : Nat} (e : zw_X12_sure_0[j]? = some n) : dby cX12_sure (0 + j) n := dw_b (t := zt_X12_sure_1) ze_X12_sure_0 j e
theorem dX12_sure_0 : decode cX12_sure 0 = .ok (.aload_n 0, 1) := dop_42 (zb_X12_sure_0 0 rfl)
theorem dX12_sure_1 : decode cX12_sure 1 = .ok (.iconst 0, 1) := dop_3 (zb_X12_sure_0 1 rfl)
theorem dX12_sure_2 : decode cX12_sure 2 = .ok (.putfield 133, 3) := dop_181 (zb_X12_sure_0 2 rfl) (zb_X12_sure_0 3 rfl) (zb_X12_sure_0 4 rfl) rfl
theorem dX12_sure_5 : decode cX12_sure 5 = .ok (.aload_n 0, 1) := dop_42 (zb_X12_sure_0 5 rfl)
theorem dX12_sure_6 : decode cX12_sure 6 = .ok (.iload_n 1, 1) := dop_27 (zb_X12_sure_0 6 rfl)
theorem dX12_sure_7 : decode cX12_sure 7 = .ok (.iload_n 2, 1) := dop_28 (zb_X12_sure_0 7 rfl)
theorem dX12_sure_8 : decode cX12_sure 8 = .ok (.invokevirtual 394, 3) := dop_182 (zb_X12_sure_0 8 rfl) (zb_X12_sure_0 9 rfl) (zb_X12_sure_0 10 rfl) rfl
theorem dX12_sure_11 : decode cX12_sure 11 = .ok (.ifCond .ne 6, 3) := dop_154 (zb_X12_sure_0 11 rfl) (zb_X12_sure_0 12 rfl) (zb_X12_sure_0 13 rfl) rfl
theorem dX12_sure_14 : decode cX12_sure 14 = .ok (.bipush (-2), 2) := dop_16 (zb_X12_sure_0 14 rfl) (zb_X12_sure_0 15 rfl) rfl
theorem dX12_sure_16 : decode cX12_sure 16 = .ok (.ireturn, 1) := dop_172 (zb_X12_sure_0 16 rfl)
theorem dX12_sure_17 : decode cX12_sure 17 = .ok (.aload_n 0, 1) := dop_42 (zb_X12_sure_0 17 rfl)
theorem dX12_sure_18 : decode cX12_sure 18 = .ok (.iload_n 1, 1) := dop_27 (zb_X12_sure_0 18 rfl)
theorem dX12_sure_19 : decode cX12_sure 19 = .ok (.iload_n 2, 1) := dop_28 (zb_X12_sure_0 19 rfl)
theorem dX12_sure_20 : decode cX12_sure 20 = .ok (.invokevirtual 406, 3) := dop_182 (zb_X12_sure_0 20 rfl) (zb_X12_sure_0 21 rfl) (zb_X12_sure_0 22 rfl) rfl
theorem dX12_sure_23 : decode cX12_sure 23 = .ok (.istore_n 3, 1) := dop_62 (zb_X12_sure_0 23 rfl)
theorem dX12_sure_24 : decode cX12_sure 24 = .ok (.aload_n 0, 1) := dop_42 (zb_X12_sure_0 24 rfl)
theorem dX12_sure_25 : decode cX12_sure 25 = .ok (.iload_n 2, 1) := dop_28 (zb_X12_sure_0 25 rfl)
theorem dX12_sure_26 : decode cX12_sure 26 = .ok (.iload_n 1, 1) := dop_27 (zb_X12_sure_0 26 rfl)
theorem dX12_sure_27 : decode cX12_sure 27 = .ok (.invokevirtual 406, 3) := dop_182 (zb_X12_sure_0 27 rfl) (zb_X12_sure_0 28 rfl) (zb_X12_sure_0 29 rfl) rfl
theorem dX12_sure_30 : decode cX12_sure 30 = .ok (.istore 4, 2) := dop_54 (zb_X12_sure_0 30 rfl) (zb_X12_sure_0 31 rfl)
theorem dX12_sure_32 : decode cX12_sure 32 = .ok (.iload_n 3, 1) := dop_29 (zb_X12_sure_0 32 rfl)
theorem dX12_sure_33 : decode cX12_sure 33 = .ok (.ifCond .le 7, 3) := dop_158 (zb_X12_sure_0 33 rfl) (zb_X12_sure_0 34 rfl) (zb_X12_sure_0 35 rfl) rfl
theorem dX12_sure_36 : decode cX12_sure 36 = .ok (.iconst 1, 1) := dop_4 (zb_X12_sure_0 36 rfl)
theorem dX12_sure_37 : decode cX12_sure 37 = .ok (.goto 26, 3) := dop_167 (zb_X12_sure_0 37 rfl) (zb_X12_sure_0 38 rfl) (zb_X12_sure_0 39 rfl) rfl
theorem zb_X12_sure_1 (j : Nat) {n : Nat} (e : zw_X12_sure_1[j]? = some n) : dby cX12_sure (40 + j) n := dw_b (t := []) ze_X12_sure_1 j e
theorem dX12_sure_40 : decode cX12_sure 40 = .ok (.iload 4, 2) := dop_21 (zb_X12_sure_1 0 rfl) (zb_X12_sure_1 1 rfl)
theorem dX12_sure_42 : decode cX12_sure 42 = .ok (.ifCond .le 7, 3) := dop_158 (zb_X12_sure_1 2 rfl) (zb_X12_sure_1 3 rfl) (zb_X12_sure_1 4 rfl) rfl
theorem dX12_sure_45 : decode cX12_sure 45 = .ok (.iconst 2, 1) := dop_5 (zb_X12_sure_1 5 rfl)
theorem dX12_sure_46 : decode cX12_sure 46 = .ok (.goto 17, 3) := dop_167 (zb_X12_sure_1 6 rfl) (zb_X12_sure_1 7 rfl) (zb_X12_sure_1 8 rfl) rfl
theorem dX12_sure_49 : decode cX12_sure 49 = .ok (.iload_n 3, 1) := dop_29 (zb_X12_sure_1 9 rfl)
theorem dX12_sure_50 : decode cX12_sure 50 = .ok (.ifCond .ne 12, 3) := dop_154 (zb_X12_sure_1 10 rfl) (zb_X12_sure_1 11 rfl) (zb_X12_sure_1 12 rfl) rfl
theorem dX12_sure_53 : decode cX12_sure 53 = .ok (.iload 4, 2) := dop_21 (zb_X12_sure_1 13 rfl) (zb_X12_sure_1 14 rfl)
theorem dX12_sure_55 : decode cX12_sure 55 = .ok (.ifCond .ne 7, 3) := dop_154 (zb_X12_sure_1 15 rfl) (zb_X12_sure_1 16 rfl) (zb_X12_sure_1 17 rfl) rfl
theorem dX12_sure_58 : decode cX12_sure 58 = .ok (.iconst 3, 1) := dop_6 (zb_X12_sure_1 18 rfl)
theorem dX12_sure_59 : decode cX12_sure 59 = .ok (.goto 4, 3) := dop_167 (zb_X12_sure_1 19 rfl) (zb_X12_sure_1 20 rfl) (zb_X12_sure_1 21 rfl) rfl
theorem dX12_sure_62 : decode cX12_sure 62 = .ok (.iconst 0, 1) := dop_3 (zb_X12_sure_1 22 rfl)
theorem dX12_sure_63 : decode cX12_sure 63 = .ok (.ireturn, 1) := dop_172 (zb_X12_sure_1 23 rfl)
def zw_X12_feet_7 : List Nat := [21, 5, 172]
def zt_X12_feet_7 : List Nat := zw_X12_feet_7 ++ []
def zw_X12_feet_6 : List Nat := [21, 5, 21, 6, 153, 0, 17, 42, 180, 0, 67, 21, 4, 51, 153, 0, 7, 4, 167, 0, 4, 3, 100, 54, 5, 21, 5, 17, 7, 208, 164, 0, 9, 17, 7, 208, 167, 0, 5]
def zt_X12_feet_6 : List Nat := zw_X12_feet_6 ++ zt_X12_feet_7
def zw_X12_feet_5 : List Nat := [162, 0, 39, 21, 6, 153, 0, 25, 42, 180, 0, 94, 21, 7, 47, 42, 180, 0, 97, 21, 7, 47, 148, 154, 0, 7, 4, 167, 0, 4, 3, 54, 6, 132, 7, 1, 167, 255, 216]
def zt_X12_feet_5 : List Nat := zw_X12_feet_5 ++ zt_X12_feet_6
def zw_X12_feet_4 : List Nat := [180, 0, 64, 8, 21, 4, 104, 10, 184, 1, 131, 42, 180, 0, 97, 42, 180, 0, 61, 8, 21, 4, 104, 21, 5, 133, 184, 1, 131, 4, 54, 6, 3, 54, 7, 21, 7, 16, 10]
def zt_X12_feet_4 : List Nat := zw_X12_feet_4 ++ zt_X12_feet_5
def zw_X12_feet_3 : List Nat := [4, 17, 7, 208, 182, 1, 146, 172, 42, 42, 180, 0, 64, 8, 21, 4, 104, 42, 180, 0, 61, 8, 21, 4, 104, 4, 17, 7, 209, 182, 1, 146, 54, 5, 42, 180, 0, 94, 42]
def zt_X12_feet_3 : List Nat := zw_X12_feet_3 ++ zt_X12_feet_4
def zw_X12_feet_2 : List Nat := [180, 0, 70, 21, 4, 51, 154, 0, 13, 29, 154, 0, 7, 3, 167, 0, 4, 2, 172, 29, 154, 0, 28, 42, 42, 180, 0, 61, 8, 21, 4, 104, 42, 180, 0, 64, 8, 21, 4, 104]
def zt_X12_feet_2 : List Nat := zw_X12_feet_2 ++ zt_X12_feet_3
def zw_X12_feet_1 : List Nat := [182, 1, 138, 154, 0, 6, 16, 254, 172, 42, 29, 154, 0, 10, 16, 12, 28, 96, 167, 0, 4, 27, 182, 1, 141, 29, 154, 0, 7, 27, 167, 0, 7, 16, 12, 28, 96, 54, 4, 42]
def zt_X12_feet_1 : List Nat := zw_X12_feet_1 ++ zt_X12_feet_2
def zw_X12_feet_0 : List Nat := [42, 3, 181, 0, 133, 27, 133, 9, 20, 1, 129, 184, 0, 143, 153, 0, 32, 28, 184, 0, 169, 153, 0, 25, 29, 133, 9, 10, 184, 0, 143, 153, 0, 15, 42, 27, 16, 12, 28, 96]
def zt_X12_feet_0 : List Nat := zw_X12_feet_0 ++ zt_X12_feet_1
theorem ze_X12_feet_0 : (dcn cX12_feet).drop 0 = zt_X12_feet_0 := by decide +kernel
theorem ze_X12_feet_1 : (dcn cX12_feet).drop 40 = zt_X12_feet_1 := dw_n (wl := zw_X12_feet_0) ze_X12_feet_0 rfl
theorem zb_X12_feet_0 (j : Nat) {n : Nat} (e : zw_X12_feet_0[j]? = some n) : dby cX12_feet (0 + j) n := dw_b (t := zt_X12_feet_1) ze_X12_feet_0 j e
theorem dX12_feet_0 : decode cX12_feet 0 = .ok (.aload_n 0, 1) := dop_42 (zb_X12_feet_0 0 rfl)
theorem dX12_feet_1 : decode cX12_feet 1 = .ok (.iconst 0, 1) := dop_3 (zb_X12_feet_0 1 rfl)
theorem dX12_feet_2 : decode cX12_feet 2 = .ok (.putfield 133, 3) := dop_181 (zb_X12_feet_0 2 rfl) (zb_X12_feet_0 3 rfl) (zb_X12_feet_0 4 rfl) rfl
theorem dX12_feet_5 : decode cX12_feet 5 = .ok (.iload_n 1, 1) := dop_27 (zb_X12_feet_0 5 rfl)
theorem dX12_feet_6 : decode cX12_feet 6 = .ok (.i2l, 1) := dop_133 (zb_X12_feet_0 6 rfl)
theorem dX12_feet_7 : decode cX12_feet 7 = .ok (.lconst 0, 1) := dop_9 (zb_X12_feet_0 7 rfl)
theorem dX12_feet_8 : decode cX12_feet 8 = .ok (.ldc2_w 385, 3) := dop_20 (zb_X12_feet_0 8 rfl) (zb_X12_feet_0 9 rfl) (zb_X12_feet_0 10 rfl) rfl
theorem dX12_feet_11 : decode cX12_feet 11 = .ok (.invokestatic 143, 3) := dop_184 (zb_X12_feet_0 11 rfl) (zb_X12_feet_0 12 rfl) (zb_X12_feet_0 13 rfl) rfl
theorem dX12_feet_14 : decode cX12_feet 14 = .ok (.ifCond .eq 32, 3) := dop_153 (zb_X12_feet_0 14 rfl) (zb_X12_feet_0 15 rfl) (zb_X12_feet_0 16 rfl) rfl
theorem dX12_feet_17 : decode cX12_feet 17 = .ok (.iload_n 2, 1) := dop_28 (zb_X12_feet_0 17 rfl)
theorem dX12_feet_18 : decode cX12_feet 18 = .ok (.invokestatic 169, 3) := dop_184 (zb_X12_feet_0 18 rfl) (zb_X12_feet_0 19 rfl) (zb_X12_feet_0 20 rfl) rfl
theorem dX12_feet_21 : decode cX12_feet 21 = .ok (.ifCond .eq 25, 3) := dop_153 (zb_X12_feet_0 21 rfl) (zb_X12_feet_0 22 rfl) (zb_X12_feet_0 23 rfl) rfl
theorem dX12_feet_24 : decode cX12_feet 24 = .ok (.iload_n 3, 1) := dop_29 (zb_X12_feet_0 24 rfl)
theorem dX12_feet_25 : decode cX12_feet 25 = .ok (.i2l, 1) := dop_133 (zb_X12_feet_0 25 rfl)
theorem dX12_feet_26 : decode cX12_feet 26 = .ok (.lconst 0, 1) := dop_9 (zb_X12_feet_0 26 rfl)
theorem dX12_feet_27 : decode cX12_feet 27 = .ok (.lconst 1, 1) := dop_10 (zb_X12_feet_0 27 rfl)
theorem dX12_feet_28 : decode cX12_feet 28 = .ok (.invokestatic 143, 3) := dop_184 (zb_X12_feet_0 28 rfl) (zb_X12_feet_0 29 rfl) (zb_X12_feet_0 30 rfl) rfl
theorem dX12_feet_31 : decode cX12_feet 31 = .ok (.ifCond .eq 15, 3) := dop_153 (zb_X12_feet_0 31 rfl) (zb_X12_feet_0 32 rfl) (zb_X12_feet_0 33 rfl) rfl
theorem dX12_feet_34 : decode cX12_feet 34 = .ok (.aload_n 0, 1) := dop_42 (zb_X12_feet_0 34 rfl)
theorem dX12_feet_35 : decode cX12_feet 35 = .ok (.iload_n 1, 1) := dop_27 (zb_X12_feet_0 35 rfl)
theorem dX12_feet_36 : decode cX12_feet 36 = .ok (.bipush 12, 2) := dop_16 (zb_X12_feet_0 36 rfl) (zb_X12_feet_0 37 rfl) rfl
theorem dX12_feet_38 : decode cX12_feet 38 = .ok (.iload_n 2, 1) := dop_28 (zb_X12_feet_0 38 rfl)
theorem dX12_feet_39 : decode cX12_feet 39 = .ok (.iadd, 1) := dop_96 (zb_X12_feet_0 39 rfl)
theorem ze_X12_feet_2 : (dcn cX12_feet).drop 80 = zt_X12_feet_2 := dw_n (wl := zw_X12_feet_1) ze_X12_feet_1 rfl
theorem zb_X12_feet_1 (j : Nat) {n : Nat} (e : zw_X12_feet_1[j]? = some n) : dby cX12_feet (40 + j) n := dw_b (t := zt_X12_feet_2) ze_X12_feet_1 j e
theorem dX12_feet_40 : decode cX12_feet 40 = .ok (.invokevirtual 394, 3) := dop_182 (zb_X12_feet_1 0 rfl) (zb_X12_feet_1 1 rfl) (zb_X12_feet_1 2 rfl) rfl
theorem dX12_feet_43 : decode cX12_feet 43 = .ok (.ifCond .ne 6, 3) := dop_154 (zb_X12_feet_1 3 rfl) (zb_X12_feet_1 4 rfl) (zb_X12_feet_1 5 rfl) rfl
theorem dX12_feet_46 : decode cX12_feet 46 = .ok (.bipush (-2), 2) := dop_16 (zb_X12_feet_1 6 rfl) (zb_X12_feet_1 7 rfl) rfl
theorem dX12_feet_48 : decode cX12_feet 48 = .ok (.ireturn, 1) := dop_172 (zb_X12_feet_1 8 rfl)
theorem dX12_feet_49 : decode cX12_feet 49 = .ok (.aload_n 0, 1) := dop_42 (zb_X12_feet_1 9 rfl)
theorem dX12_feet_50 : decode cX12_feet 50 = .ok (.iload_n 3, 1) := dop_29 (zb_X12_feet_1 10 rfl)
theorem dX12_feet_51 : decode cX12_feet 51 = .ok (.ifCond .ne 10, 3) := dop_154 (zb_X12_feet_1 11 rfl) (zb_X12_feet_1 12 rfl) (zb_X12_feet_1 13 rfl) rfl
theorem dX12_feet_54 : decode cX12_feet 54 = .ok (.bipush 12, 2) := dop_16 (zb_X12_feet_1 14 rfl) (zb_X12_feet_1 15 rfl) rfl
theorem dX12_feet_56 : decode cX12_feet 56 = .ok (.iload_n 2, 1) := dop_28 (zb_X12_feet_1 16 rfl)
theorem dX12_feet_57 : decode cX12_feet 57 = .ok (.iadd, 1) := dop_96 (zb_X12_feet_1 17 rfl)
theorem dX12_feet_58 : decode cX12_feet 58 = .ok (.goto 4, 3) := dop_167 (zb_X12_feet_1 18 rfl) (zb_X12_feet_1 19 rfl) (zb_X12_feet_1 20 rfl) rfl
theorem dX12_feet_61 : decode cX12_feet 61 = .ok (.iload_n 1, 1) := dop_27 (zb_X12_feet_1 21 rfl)
theorem dX12_feet_62 : decode cX12_feet 62 = .ok (.invokevirtual 397, 3) := dop_182 (zb_X12_feet_1 22 rfl) (zb_X12_feet_1 23 rfl) (zb_X12_feet_1 24 rfl) rfl
theorem dX12_feet_65 : decode cX12_feet 65 = .ok (.iload_n 3, 1) := dop_29 (zb_X12_feet_1 25 rfl)
theorem dX12_feet_66 : decode cX12_feet 66 = .ok (.ifCond .ne 7, 3) := dop_154 (zb_X12_feet_1 26 rfl) (zb_X12_feet_1 27 rfl) (zb_X12_feet_1 28 rfl) rfl
theorem dX12_feet_69 : decode cX12_feet 69 = .ok (.iload_n 1, 1) := dop_27 (zb_X12_feet_1 29 rfl)
theorem dX12_feet_70 : decode cX12_feet 70 = .ok (.goto 7, 3) := dop_167 (zb_X12_feet_1 30 rfl) (zb_X12_feet_1 31 rfl) (zb_X12_feet_1 32 rfl) rfl
theorem dX12_feet_73 : decode cX12_feet 73 = .ok (.bipush 12, 2) := dop_16 (zb_X12_feet_1 33 rfl) (zb_X12_feet_1 34 rfl) rfl
theorem dX12_feet_75 : decode cX12_feet 75 = .ok (.iload_n 2, 1) := dop_28 (zb_X12_feet_1 35 rfl)
theorem dX12_feet_76 : decode cX12_feet 76 = .ok (.iadd, 1) := dop_96 (zb_X12_feet_1 36 rfl)
theorem dX12_feet_77 : decode cX12_feet 77 = .ok (.istore 4, 2) := dop_54 (zb_X12_feet_1 37 rfl) (zb_X12_feet_1 38 rfl)
theorem dX12_feet_79 : decode cX12_feet 79 = .ok (.aload_n 0, 1) := dop_42 (zb_X12_feet_1 39 rfl)
theorem ze_X12_feet_3 : (dcn cX12_feet).drop 120 = zt_X12_feet_3 := dw_n (wl := zw_X12_feet_2) ze_X12_feet_2 rfl
theorem zb_X12_feet_2 (j : Nat) {n : Nat} (e : zw_X12_feet_2[j]? = some n) : dby cX12_feet (80 + j) n := dw_b (t := zt_X12_feet_3) ze_X12_feet_2 j e
theorem dX12_feet_80 : decode cX12_feet 80 = .ok (.getfield 70, 3) := dop_180 (zb_X12_feet_2 0 rfl) (zb_X12_feet_2 1 rfl) (zb_X12_feet_2 2 rfl) rfl
theorem dX12_feet_83 : decode cX12_feet 83 = .ok (.iload 4, 2) := dop_21 (zb_X12_feet_2 3 rfl) (zb_X12_feet_2 4 rfl)
theorem dX12_feet_85 : decode cX12_feet 85 = .ok (.baload, 1) := dop_51 (zb_X12_feet_2 5 rfl)
theorem dX12_feet_86 : decode cX12_feet 86 = .ok (.ifCond .ne 13, 3) := dop_154 (zb_X12_feet_2 6 rfl) (zb_X12_feet_2 7 rfl) (zb_X12_feet_2 8 rfl) rfl
theorem dX12_feet_89 : decode cX12_feet 89 = .ok (.iload_n 3, 1) := dop_29 (zb_X12_feet_2 9 rfl)
theorem dX12_feet_90 : decode cX12_feet 90 = .ok (.ifCond .ne 7, 3) := dop_154 (zb_X12_feet_2 10 rfl) (zb_X12_feet_2 11 rfl) (zb_X12_feet_2 12 rfl) rfl
theorem dX12_feet_93 : decode cX12_feet 93 = .ok (.iconst 0, 1) := dop_3 (zb_X12_feet_2 13 rfl)
theorem dX12_feet_94 : decode cX12_feet 94 = .ok (.goto 4, 3) := dop_167 (zb_X12_feet_2 14 rfl) (zb_X12_feet_2 15 rfl) (zb_X12_feet_2 16 rfl) rfl
theorem dX12_feet_97 : decode cX12_feet 97 = .ok (.iconst (-1), 1) := dop_2 (zb_X12_feet_2 17 rfl)
theorem dX12_feet_98 : decode cX12_feet 98 = .ok (.ireturn, 1) := dop_172 (zb_X12_feet_2 18 rfl)
theorem dX12_feet_99 : decode cX12_feet 99 = .ok (.iload_n 3, 1) := dop_29 (zb_X12_feet_2 19 rfl)
theorem dX12_feet_100 : decode cX12_feet 100 = .ok (.ifCond .ne 28, 3) := dop_154 (zb_X12_feet_2 20 rfl) (zb_X12_feet_2 21 rfl) (zb_X12_feet_2 22 rfl) rfl
theorem dX12_feet_103 : decode cX12_feet 103 = .ok (.aload_n 0, 1) := dop_42 (zb_X12_feet_2 23 rfl)
theorem dX12_feet_104 : decode cX12_feet 104 = .ok (.aload_n 0, 1) := dop_42 (zb_X12_feet_2 24 rfl)
theorem dX12_feet_105 : decode cX12_feet 105 = .ok (.getfield 61, 3) := dop_180 (zb_X12_feet_2 25 rfl) (zb_X12_feet_2 26 rfl) (zb_X12_feet_2 27 rfl) rfl
theorem dX12_feet_108 : decode cX12_feet 108 = .ok (.iconst 5, 1) := dop_8 (zb_X12_feet_2 28 rfl)
theorem dX12_feet_109 : decode cX12_feet 109 = .ok (.iload 4, 2) := dop_21 (zb_X12_feet_2 29 rfl) (zb_X12_feet_2 30 rfl)
theorem dX12_feet_111 : decode cX12_feet 111 = .ok (.imul, 1) := dop_104 (zb_X12_feet_2 31 rfl)
theorem dX12_feet_112 : decode cX12_feet 112 = .ok (.aload_n 0, 1) := dop_42 (zb_X12_feet_2 32 rfl)
theorem dX12_feet_113 : decode cX12_feet 113 = .ok (.getfield 64, 3) := dop_180 (zb_X12_feet_2 33 rfl) (zb_X12_feet_2 34 rfl) (zb_X12_feet_2 35 rfl) rfl
theorem dX12_feet_116 : decode cX12_feet 116 = .ok (.iconst 5, 1) := dop_8 (zb_X12_feet_2 36 rfl)
theorem dX12_feet_117 : decode cX12_feet 117 = .ok (.iload 4, 2) := dop_21 (zb_X12_feet_2 37 rfl) (zb_X12_feet_2 38 rfl)
theorem dX12_feet_119 : decode cX12_feet 119 = .ok (.imul, 1) := dop_104 (zb_X12_feet_2 39 rfl)
theorem ze_X12_feet_4 : (dcn cX12_feet).drop 159 = zt_X12_feet_4 := dw_n (wl := zw_X12_feet_3) ze_X12_feet_3 rfl
theorem zb_X12_feet_3 (j : Nat) {n : Nat} (e : zw_X12_feet_3[j]? = some n) : dby cX12_feet (120 + j) n := dw_b (t := zt_X12_feet_4) ze_X12_feet_3 j e
theorem dX12_feet_120 : decode cX12_feet 120 = .ok (.iconst 1, 1) := dop_4 (zb_X12_feet_3 0 rfl)
theorem dX12_feet_121 : decode cX12_feet 121 = .ok (.sipush 2000, 3) := dop_17 (zb_X12_feet_3 1 rfl) (zb_X12_feet_3 2 rfl) (zb_X12_feet_3 3 rfl) rfl
theorem dX12_feet_124 : decode cX12_feet 124 = .ok (.invokevirtual 402, 3) := dop_182 (zb_X12_feet_3 4 rfl) (zb_X12_feet_3 5 rfl) (zb_X12_feet_3 6 rfl) rfl
theorem dX12_feet_127 : decode cX12_feet 127 = .ok (.ireturn, 1) := dop_172 (zb_X12_feet_3 7 rfl)
theorem dX12_feet_128 : decode cX12_feet 128 = .ok (.aload_n 0, 1) := dop_42 (zb_X12_feet_3 8 rfl)
theorem dX12_feet_129 : decode cX12_feet 129 = .ok (.aload_n 0, 1) := dop_42 (zb_X12_feet_3 9 rfl)
theorem dX12_feet_130 : decode cX12_feet 130 = .ok (.getfield 64, 3) := dop_180 (zb_X12_feet_3 10 rfl) (zb_X12_feet_3 11 rfl) (zb_X12_feet_3 12 rfl) rfl
theorem dX12_feet_133 : decode cX12_feet 133 = .ok (.iconst 5, 1) := dop_8 (zb_X12_feet_3 13 rfl)
theorem dX12_feet_134 : decode cX12_feet 134 = .ok (.iload 4, 2) := dop_21 (zb_X12_feet_3 14 rfl) (zb_X12_feet_3 15 rfl)
theorem dX12_feet_136 : decode cX12_feet 136 = .ok (.imul, 1) := dop_104 (zb_X12_feet_3 16 rfl)
theorem dX12_feet_137 : decode cX12_feet 137 = .ok (.aload_n 0, 1) := dop_42 (zb_X12_feet_3 17 rfl)
theorem dX12_feet_138 : decode cX12_feet 138 = .ok (.getfield 61, 3) := dop_180 (zb_X12_feet_3 18 rfl) (zb_X12_feet_3 19 rfl) (zb_X12_feet_3 20 rfl) rfl
theorem dX12_feet_141 : decode cX12_feet 141 = .ok (.iconst 5, 1) := dop_8 (zb_X12_feet_3 21 rfl)
theorem dX12_feet_142 : decode cX12_feet 142 = .ok (.iload 4, 2) := dop_21 (zb_X12_feet_3 22 rfl) (zb_X12_feet_3 23 rfl)
theorem dX12_feet_144 : decode cX12_feet 144 = .ok (.imul, 1) := dop_104 (zb_X12_feet_3 24 rfl)
theorem dX12_feet_145 : decode cX12_feet 145 = .ok (.iconst 1, 1) := dop_4 (zb_X12_feet_3 25 rfl)
theorem dX12_feet_146 : decode cX12_feet 146 = .ok (.sipush 2001, 3) := dop_17 (zb_X12_feet_3 26 rfl) (zb_X12_feet_3 27 rfl) (zb_X12_feet_3 28 rfl) rfl
theorem dX12_feet_149 : decode cX12_feet 149 = .ok (.invokevirtual 402, 3) := dop_182 (zb_X12_feet_3 29 rfl) (zb_X12_feet_3 30 rfl) (zb_X12_feet_3 31 rfl) rfl
theorem dX12_feet_152 : decode cX12_feet 152 = .ok (.istore 5, 2) := dop_54 (zb_X12_feet_3 32 rfl) (zb_X12_feet_3 33 rfl)
theorem dX12_feet_154 : decode cX12_feet 154 = .ok (.aload_n 0, 1) := dop_42 (zb_X12_feet_3 34 rfl)
theorem dX12_feet_155 : decode cX12_feet 155 = .ok (.getfield 94, 3) := dop_180 (zb_X12_feet_3 35 rfl) (zb_X12_feet_3 36 rfl) (zb_X12_feet_3 37 rfl) rfl
theorem dX12_feet_158 : decode cX12_feet 158 = .ok (.aload_n 0, 1) := dop_42 (zb_X12_feet_3 38 rfl)
theorem ze_X12_feet_5 : (dcn cX12_feet).drop 198 = zt_X12_feet_5 := dw_n (wl := zw_X12_feet_4) ze_X12_feet_4 rfl
theorem zb_X12_feet_4 (j : Nat) {n : Nat} (e : zw_X12_feet_4[j]? = some n) : dby cX12_feet (159 + j) n := dw_b (t := zt_X12_feet_5) ze_X12_feet_4 j e
theorem dX12_feet_159 : decode cX12_feet 159 = .ok (.getfield 64, 3) := dop_180 (zb_X12_feet_4 0 rfl) (zb_X12_feet_4 1 rfl) (zb_X12_feet_4 2 rfl) rfl
theorem dX12_feet_162 : decode cX12_feet 162 = .ok (.iconst 5, 1) := dop_8 (zb_X12_feet_4 3 rfl)
theorem dX12_feet_163 : decode cX12_feet 163 = .ok (.iload 4, 2) := dop_21 (zb_X12_feet_4 4 rfl) (zb_X12_feet_4 5 rfl)
theorem dX12_feet_165 : decode cX12_feet 165 = .ok (.imul, 1) := dop_104 (zb_X12_feet_4 6 rfl)
theorem dX12_feet_166 : decode cX12_feet 166 = .ok (.lconst 1, 1) := dop_10 (zb_X12_feet_4 7 rfl)
theorem dX12_feet_167 : decode cX12_feet 167 = .ok (.invokestatic 387, 3) := dop_184 (zb_X12_feet_4 8 rfl) (zb_X12_feet_4 9 rfl) (zb_X12_feet_4 10 rfl) rfl
theorem dX12_feet_170 : decode cX12_feet 170 = .ok (.aload_n 0, 1) := dop_42 (zb_X12_feet_4 11 rfl)
theorem dX12_feet_171 : decode cX12_feet 171 = .ok (.getfield 97, 3) := dop_180 (zb_X12_feet_4 12 rfl) (zb_X12_feet_4 13 rfl) (zb_X12_feet_4 14 rfl) rfl
theorem dX12_feet_174 : decode cX12_feet 174 = .ok (.aload_n 0, 1) := dop_42 (zb_X12_feet_4 15 rfl)
theorem dX12_feet_175 : decode cX12_feet 175 = .ok (.getfield 61, 3) := dop_180 (zb_X12_feet_4 16 rfl) (zb_X12_feet_4 17 rfl) (zb_X12_feet_4 18 rfl) rfl
theorem dX12_feet_178 : decode cX12_feet 178 = .ok (.iconst 5, 1) := dop_8 (zb_X12_feet_4 19 rfl)
theorem dX12_feet_179 : decode cX12_feet 179 = .ok (.iload 4, 2) := dop_21 (zb_X12_feet_4 20 rfl) (zb_X12_feet_4 21 rfl)
theorem dX12_feet_181 : decode cX12_feet 181 = .ok (.imul, 1) := dop_104 (zb_X12_feet_4 22 rfl)
theorem dX12_feet_182 : decode cX12_feet 182 = .ok (.iload 5, 2) := dop_21 (zb_X12_feet_4 23 rfl) (zb_X12_feet_4 24 rfl)
theorem dX12_feet_184 : decode cX12_feet 184 = .ok (.i2l, 1) := dop_133 (zb_X12_feet_4 25 rfl)
theorem dX12_feet_185 : decode cX12_feet 185 = .ok (.invokestatic 387, 3) := dop_184 (zb_X12_feet_4 26 rfl) (zb_X12_feet_4 27 rfl) (zb_X12_feet_4 28 rfl) rfl
theorem dX12_feet_188 : decode cX12_feet 188 = .ok (.iconst 1, 1) := dop_4 (zb_X12_feet_4 29 rfl)
theorem dX12_feet_189 : decode cX12_feet 189 = .ok (.istore 6, 2) := dop_54 (zb_X12_feet_4 30 rfl) (zb_X12_feet_4 31 rfl)
theorem dX12_feet_191 : decode cX12_feet 191 = .ok (.iconst 0, 1) := dop_3 (zb_X12_feet_4 32 rfl)
theorem dX12_feet_192 : decode cX12_feet 192 = .ok (.istore 7, 2) := dop_54 (zb_X12_feet_4 33 rfl) (zb_X12_feet_4 34 rfl)
theorem dX12_feet_194 : decode cX12_feet 194 = .ok (.iload 7, 2) := dop_21 (zb_X12_feet_4 35 rfl) (zb_X12_feet_4 36 rfl)
theorem dX12_feet_196 : decode cX12_feet 196 = .ok (.bipush 10, 2) := dop_16 (zb_X12_feet_4 37 rfl) (zb_X12_feet_4 38 rfl) rfl
theorem ze_X12_feet_6 : (dcn cX12_feet).drop 237 = zt_X12_feet_6 := dw_n (wl := zw_X12_feet_5) ze_X12_feet_5 rfl
theorem zb_X12_feet_5 (j : Nat) {n : Nat} (e : zw_X12_feet_5[j]? = some n) : dby cX12_feet (198 + j) n := dw_b (t := zt_X12_feet_6) ze_X12_feet_5 j e
theorem dX12_feet_198 : decode cX12_feet 198 = .ok (.if_icmp .ge 39, 3) := dop_162 (zb_X12_feet_5 0 rfl) (zb_X12_feet_5 1 rfl) (zb_X12_feet_5 2 rfl) rfl
theorem dX12_feet_201 : decode cX12_feet 201 = .ok (.iload 6, 2) := dop_21 (zb_X12_feet_5 3 rfl) (zb_X12_feet_5 4 rfl)
theorem dX12_feet_203 : decode cX12_feet 203 = .ok (.ifCond .eq 25, 3) := dop_153 (zb_X12_feet_5 5 rfl) (zb_X12_feet_5 6 rfl) (zb_X12_feet_5 7 rfl) rfl
theorem dX12_feet_206 : decode cX12_feet 206 = .ok (.aload_n 0, 1) := dop_42 (zb_X12_feet_5 8 rfl)
theorem dX12_feet_207 : decode cX12_feet 207 = .ok (.getfield 94, 3) := dop_180 (zb_X12_feet_5 9 rfl) (zb_X12_feet_5 10 rfl) (zb_X12_feet_5 11 rfl) rfl
theorem dX12_feet_210 : decode cX12_feet 210 = .ok (.iload 7, 2) := dop_21 (zb_X12_feet_5 12 rfl) (zb_X12_feet_5 13 rfl)
theorem dX12_feet_212 : decode cX12_feet 212 = .ok (.laload, 1) := dop_47 (zb_X12_feet_5 14 rfl)
theorem dX12_feet_213 : decode cX12_feet 213 = .ok (.aload_n 0, 1) := dop_42 (zb_X12_feet_5 15 rfl)
theorem dX12_feet_214 : decode cX12_feet 214 = .ok (.getfield 97, 3) := dop_180 (zb_X12_feet_5 16 rfl) (zb_X12_feet_5 17 rfl) (zb_X12_feet_5 18 rfl) rfl
theorem dX12_feet_217 : decode cX12_feet 217 = .ok (.iload 7, 2) := dop_21 (zb_X12_feet_5 19 rfl) (zb_X12_feet_5 20 rfl)
theorem dX12_feet_219 : decode cX12_feet 219 = .ok (.laload, 1) := dop_47 (zb_X12_feet_5 21 rfl)
theorem dX12_feet_220 : decode cX12_feet 220 = .ok (.lcmp, 1) := dop_148 (zb_X12_feet_5 22 rfl)
theorem dX12_feet_221 : decode cX12_feet 221 = .ok (.ifCond .ne 7, 3) := dop_154 (zb_X12_feet_5 23 rfl) (zb_X12_feet_5 24 rfl) (zb_X12_feet_5 25 rfl) rfl
theorem dX12_feet_224 : decode cX12_feet 224 = .ok (.iconst 1, 1) := dop_4 (zb_X12_feet_5 26 rfl)
theorem dX12_feet_225 : decode cX12_feet 225 = .ok (.goto 4, 3) := dop_167 (zb_X12_feet_5 27 rfl) (zb_X12_feet_5 28 rfl) (zb_X12_feet_5 29 rfl) rfl
theorem dX12_feet_228 : decode cX12_feet 228 = .ok (.iconst 0, 1) := dop_3 (zb_X12_feet_5 30 rfl)
theorem dX12_feet_229 : decode cX12_feet 229 = .ok (.istore 6, 2) := dop_54 (zb_X12_feet_5 31 rfl) (zb_X12_feet_5 32 rfl)
theorem dX12_feet_231 : decode cX12_feet 231 = .ok (.iinc 7 1, 3) := dop_132 (zb_X12_feet_5 33 rfl) (zb_X12_feet_5 34 rfl) (zb_X12_feet_5 35 rfl) rfl
theorem dX12_feet_234 : decode cX12_feet 234 = .ok (.goto (-40), 3) := dop_167 (zb_X12_feet_5 36 rfl) (zb_X12_feet_5 37 rfl) (zb_X12_feet_5 38 rfl) rfl
theorem ze_X12_feet_7 : (dcn cX12_feet).drop 276 = zt_X12_feet_7 := dw_n (wl := zw_X12_feet_6) ze_X12_feet_6 rfl
theorem zb_X12_feet_6 (j : Nat) {n : Nat} (e : zw_X12_feet_6[j]? = some n) : dby cX12_feet (237 + j) n := dw_b (t := zt_X12_feet_7) ze_X12_feet_6 j e
theorem dX12_feet_237 : decode cX12_feet 237 = .ok (.iload 5, 2) := dop_21 (zb_X12_feet_6 0 rfl) (zb_X12_feet_6 1 rfl)
theorem dX12_feet_239 : decode cX12_feet 239 = .ok (.iload 6, 2) := dop_21 (zb_X12_feet_6 2 rfl) (zb_X12_feet_6 3 rfl)
theorem dX12_feet_241 : decode cX12_feet 241 = .ok (.ifCond .eq 17, 3) := dop_153 (zb_X12_feet_6 4 rfl) (zb_X12_feet_6 5 rfl) (zb_X12_feet_6 6 rfl) rfl
theorem dX12_feet_244 : decode cX12_feet 244 = .ok (.aload_n 0, 1) := dop_42 (zb_X12_feet_6 7 rfl)
theorem dX12_feet_245 : decode cX12_feet 245 = .ok (.getfield 67, 3) := dop_180 (zb_X12_feet_6 8 rfl) (zb_X12_feet_6 9 rfl) (zb_X12_feet_6 10 rfl) rfl
theorem dX12_feet_248 : decode cX12_feet 248 = .ok (.iload 4, 2) := dop_21 (zb_X12_feet_6 11 rfl) (zb_X12_feet_6 12 rfl)
theorem dX12_feet_250 : decode cX12_feet 250 = .ok (.baload, 1) := dop_51 (zb_X12_feet_6 13 rfl)
theorem dX12_feet_251 : decode cX12_feet 251 = .ok (.ifCond .eq 7, 3) := dop_153 (zb_X12_feet_6 14 rfl) (zb_X12_feet_6 15 rfl) (zb_X12_feet_6 16 rfl) rfl
theorem dX12_feet_254 : decode cX12_feet 254 = .ok (.iconst 1, 1) := dop_4 (zb_X12_feet_6 17 rfl)
theorem dX12_feet_255 : decode cX12_feet 255 = .ok (.goto 4, 3) := dop_167 (zb_X12_feet_6 18 rfl) (zb_X12_feet_6 19 rfl) (zb_X12_feet_6 20 rfl) rfl
theorem dX12_feet_258 : decode cX12_feet 258 = .ok (.iconst 0, 1) := dop_3 (zb_X12_feet_6 21 rfl)
theorem dX12_feet_259 : decode cX12_feet 259 = .ok (.isub, 1) := dop_100 (zb_X12_feet_6 22 rfl)
theorem dX12_feet_260 : decode cX12_feet 260 = .ok (.istore 5, 2) := dop_54 (zb_X12_feet_6 23 rfl) (zb_X12_feet_6 24 rfl)
theorem dX12_feet_262 : decode cX12_feet 262 = .ok (.iload 5, 2) := dop_21 (zb_X12_feet_6 25 rfl) (zb_X12_feet_6 26 rfl)
theorem dX12_feet_264 : decode cX12_feet 264 = .ok (.sipush 2000, 3) := dop_17 (zb_X12_feet_6 27 rfl) (zb_X12_feet_6 28 rfl) (zb_X12_feet_6 29 rfl) rfl
theorem dX12_feet_267 : decode cX12_feet 267 = .ok (.if_icmp .le 9, 3) := dop_164 (zb_X12_feet_6 30 rfl) (zb_X12_feet_6 31 rfl) (zb_X12_feet_6 32 rfl) rfl
theorem dX12_feet_270 : decode cX12_feet 270 = .ok (.sipush 2000, 3) := dop_17 (zb_X12_feet_6 33 rfl) (zb_X12_feet_6 34 rfl) (zb_X12_feet_6 35 rfl) rfl
theorem dX12_feet_273 : decode cX12_feet 273 = .ok (.goto 5, 3) := dop_167 (zb_X12_feet_6 36 rfl) (zb_X12_feet_6 37 rfl) (zb_X12_feet_6 38 rfl) rfl
theorem zb_X12_feet_7 (j : Nat) {n : Nat} (e : zw_X12_feet_7[j]? = some n) : dby cX12_feet (276 + j) n := dw_b (t := []) ze_X12_feet_7 j e
theorem dX12_feet_276 : decode cX12_feet 276 = .ok (.iload 5, 2) := dop_21 (zb_X12_feet_7 0 rfl) (zb_X12_feet_7 1 rfl)
theorem dX12_feet_278 : decode cX12_feet 278 = .ok (.ireturn, 1) := dop_172 (zb_X12_feet_7 2 rfl)
def zw_X12_findEnds_4 : List Nat := [104, 21, 4, 96, 47, 80, 42, 180, 0, 103, 16, 15, 21, 4, 96, 42, 180, 0, 61, 8, 29, 104, 21, 4, 96, 47, 80, 132, 4, 1, 167, 255, 205, 177]
def zt_X12_findEnds_4 : List Nat := zw_X12_findEnds_4 ++ []
def zw_X12_findEnds_3 : List Nat := [180, 0, 67, 29, 51, 154, 0, 7, 4, 167, 0, 4, 3, 181, 1, 162, 3, 54, 4, 21, 4, 8, 162, 0, 51, 42, 180, 0, 103, 16, 10, 21, 4, 96, 42, 180, 0, 64, 8, 29]
def zt_X12_findEnds_3 : List Nat := zw_X12_findEnds_3 ++ zt_X12_findEnds_4
def zw_X12_findEnds_2 : List Nat := [29, 96, 47, 80, 132, 3, 1, 167, 255, 214, 16, 12, 28, 96, 62, 42, 27, 182, 1, 141, 42, 42, 180, 0, 70, 29, 51, 181, 1, 159, 42, 42, 180, 1, 159, 153, 0, 16, 42]
def zt_X12_findEnds_2 : List Nat := zw_X12_findEnds_2 ++ zt_X12_findEnds_3
def zw_X12_findEnds_1 : List Nat := [181, 1, 156, 3, 62, 29, 8, 162, 0, 43, 42, 180, 0, 103, 29, 42, 180, 0, 61, 8, 27, 104, 29, 96, 47, 80, 42, 180, 0, 103, 8, 29, 96, 42, 180, 0, 64, 8, 27, 104]
def zt_X12_findEnds_1 : List Nat := zw_X12_findEnds_1 ++ zt_X12_findEnds_2
def zw_X12_findEnds_0 : List Nat := [42, 16, 12, 28, 96, 182, 1, 141, 42, 42, 180, 0, 70, 27, 51, 181, 1, 153, 42, 42, 180, 1, 153, 153, 0, 16, 42, 180, 0, 67, 27, 51, 154, 0, 7, 4, 167, 0, 4, 3]
def zt_X12_findEnds_0 : List Nat := zw_X12_findEnds_0 ++ zt_X12_findEnds_1
theorem ze_X12_findEnds_0 : (dcn cX12_findEnds).drop 0 = zt_X12_findEnds_0 := by decide +kernel
theorem ze_X12_findEnds_1 : (dcn cX12_findEnds).drop 40 = zt_X12_findEnds_1 := dw_n (wl := zw_X12_findEnds_0) ze_X12_findEnds_0 rfl
theorem zb_X12_findEnds_0 (j : Nat) {n : Nat} (e : zw_X12_findEnds_0[j]? = some n) : dby cX12_findEnds (0 + j) n := dw_b (t := zt_X12_findEnds_1) ze_X12_findEnds_0 j e
theorem dX12_findEnds_0 : decode cX12_findEnds 0 = .ok (.aload_n 0, 1) := dop_42 (zb_X12_findEnds_0 0 rfl)
theorem dX12_findEnds_1 : decode cX12_findEnds 1 = .ok (.bipush 12, 2) := dop_16 (zb_X12_findEnds_0 1 rfl) (zb_X12_findEnds_0 2 rfl) rfl
theorem dX12_findEnds_3 : decode cX12_findEnds 3 = .ok (.iload_n 2, 1) := dop_28 (zb_X12_findEnds_0 3 rfl)
theorem dX12_findEnds_4 : decode cX12_findEnds 4 = .ok (.iadd, 1) := dop_96 (zb_X12_findEnds_0 4 rfl)
theorem dX12_findEnds_5 : decode cX12_findEnds 5 = .ok (.invokevirtual 397, 3) := dop_182 (zb_X12_findEnds_0 5 rfl) (zb_X12_findEnds_0 6 rfl) (zb_X12_findEnds_0 7 rfl) rfl
theorem dX12_findEnds_8 : decode cX12_findEnds 8 = .ok (.aload_n 0, 1) := dop_42 (zb_X12_findEnds_0 8 rfl)
theorem dX12_findEnds_9 : decode cX12_findEnds 9 = .ok (.aload_n 0, 1) := dop_42 (zb_X12_findEnds_0 9 rfl)
theorem dX12_findEnds_10 : decode cX12_findEnds 10 = .ok (.getfield 70, 3) := dop_180 (zb_X12_findEnds_0 10 rfl) (zb_X12_findEnds_0 11 rfl) (zb_X12_findEnds_0 12 rfl) rfl
theorem dX12_findEnds_13 : decode cX12_findEnds 13 = .ok (.iload_n 1, 1) := dop_27 (zb_X12_findEnds_0 13 rfl)
theorem dX12_findEnds_14 : decode cX12_findEnds 14 = .ok (.baload, 1) := dop_51 (zb_X12_findEnds_0 14 rfl)
theorem dX12_findEnds_15 : decode cX12_findEnds 15 = .ok (.putfield 409, 3) := dop_181 (zb_X12_findEnds_0 15 rfl) (zb_X12_findEnds_0 16 rfl) (zb_X12_findEnds_0 17 rfl) rfl
theorem dX12_findEnds_18 : decode cX12_findEnds 18 = .ok (.aload_n 0, 1) := dop_42 (zb_X12_findEnds_0 18 rfl)
theorem dX12_findEnds_19 : decode cX12_findEnds 19 = .ok (.aload_n 0, 1) := dop_42 (zb_X12_findEnds_0 19 rfl)
theorem dX12_findEnds_20 : decode cX12_findEnds 20 = .ok (.getfield 409, 3) := dop_180 (zb_X12_findEnds_0 20 rfl) (zb_X12_findEnds_0 21 rfl) (zb_X12_findEnds_0 22 rfl) rfl
theorem dX12_findEnds_23 : decode cX12_findEnds 23 = .ok (.ifCond .eq 16, 3) := dop_153 (zb_X12_findEnds_0 23 rfl) (zb_X12_findEnds_0 24 rfl) (zb_X12_findEnds_0 25 rfl) rfl
theorem dX12_findEnds_26 : decode cX12_findEnds 26 = .ok (.aload_n 0, 1) := dop_42 (zb_X12_findEnds_0 26 rfl)
theorem dX12_findEnds_27 : decode cX12_findEnds 27 = .ok (.getfield 67, 3) := dop_180 (zb_X12_findEnds_0 27 rfl) (zb_X12_findEnds_0 28 rfl) (zb_X12_findEnds_0 29 rfl) rfl
theorem dX12_findEnds_30 : decode cX12_findEnds 30 = .ok (.iload_n 1, 1) := dop_27 (zb_X12_findEnds_0 30 rfl)
theorem dX12_findEnds_31 : decode cX12_findEnds 31 = .ok (.baload, 1) := dop_51 (zb_X12_findEnds_0 31 rfl)
theorem dX12_findEnds_32 : decode cX12_findEnds 32 = .ok (.ifCond .ne 7, 3) := dop_154 (zb_X12_findEnds_0 32 rfl) (zb_X12_findEnds_0 33 rfl) (zb_X12_findEnds_0 34 rfl) rfl
theorem dX12_findEnds_35 : decode cX12_findEnds 35 = .ok (.iconst 1, 1) := dop_4 (zb_X12_findEnds_0 35 rfl)
theorem dX12_findEnds_36 : decode cX12_findEnds 36 = .ok (.goto 4, 3) := dop_167 (zb_X12_findEnds_0 36 rfl) (zb_X12_findEnds_0 37 rfl) (zb_X12_findEnds_0 38 rfl) rfl
theorem dX12_findEnds_39 : decode cX12_findEnds 39 = .ok (.iconst 0, 1) := dop_3 (zb_X12_findEnds_0 39 rfl)
theorem ze_X12_findEnds_2 : (dcn cX12_findEnds).drop 80 = zt_X12_findEnds_2 := dw_n (wl := zw_X12_findEnds_1) ze_X12_findEnds_1 rfl
theorem zb_X12_findEnds_1 (j : Nat) {n : Nat} (e : zw_X12_findEnds_1[j]? = some n) : dby cX12_findEnds (40 + j) n := dw_b (t := zt_X12_findEnds_2) ze_X12_findEnds_1 j e
theorem dX12_findEnds_40 : decode cX12_findEnds 40 = .ok (.putfield 412, 3) := dop_181 (zb_X12_findEnds_1 0 rfl) (zb_X12_findEnds_1 1 rfl) (zb_X12_findEnds_1 2 rfl) rfl
theorem dX12_findEnds_43 : decode cX12_findEnds 43 = .ok (.iconst 0, 1) := dop_3 (zb_X12_findEnds_1 3 rfl)
theorem dX12_findEnds_44 : decode cX12_findEnds 44 = .ok (.istore_n 3, 1) := dop_62 (zb_X12_findEnds_1 4 rfl)
theorem dX12_findEnds_45 : decode cX12_findEnds 45 = .ok (.iload_n 3, 1) := dop_29 (zb_X12_findEnds_1 5 rfl)
theorem dX12_findEnds_46 : decode cX12_findEnds 46 = .ok (.iconst 5, 1) := dop_8 (zb_X12_findEnds_1 6 rfl)
theorem dX12_findEnds_47 : decode cX12_findEnds 47 = .ok (.if_icmp .ge 43, 3) := dop_162 (zb_X12_findEnds_1 7 rfl) (zb_X12_findEnds_1 8 rfl) (zb_X12_findEnds_1 9 rfl) rfl
theorem dX12_findEnds_50 : decode cX12_findEnds 50 = .ok (.aload_n 0, 1) := dop_42 (zb_X12_findEnds_1 10 rfl)
theorem dX12_findEnds_51 : decode cX12_findEnds 51 = .ok (.getfield 103, 3) := dop_180 (zb_X12_findEnds_1 11 rfl) (zb_X12_findEnds_1 12 rfl) (zb_X12_findEnds_1 13 rfl) rfl
theorem dX12_findEnds_54 : decode cX12_findEnds 54 = .ok (.iload_n 3, 1) := dop_29 (zb_X12_findEnds_1 14 rfl)
theorem dX12_findEnds_55 : decode cX12_findEnds 55 = .ok (.aload_n 0, 1) := dop_42 (zb_X12_findEnds_1 15 rfl)
theorem dX12_findEnds_56 : decode cX12_findEnds 56 = .ok (.getfield 61, 3) := dop_180 (zb_X12_findEnds_1 16 rfl) (zb_X12_findEnds_1 17 rfl) (zb_X12_findEnds_1 18 rfl) rfl
theorem dX12_findEnds_59 : decode cX12_findEnds 59 = .ok (.iconst 5, 1) := dop_8 (zb_X12_findEnds_1 19 rfl)
theorem dX12_findEnds_60 : decode cX12_findEnds 60 = .ok (.iload_n 1, 1) := dop_27 (zb_X12_findEnds_1 20 rfl)
theorem dX12_findEnds_61 : decode cX12_findEnds 61 = .ok (.imul, 1) := dop_104 (zb_X12_findEnds_1 21 rfl)
theorem dX12_findEnds_62 : decode cX12_findEnds 62 = .ok (.iload_n 3, 1) := dop_29 (zb_X12_findEnds_1 22 rfl)
theorem dX12_findEnds_63 : decode cX12_findEnds 63 = .ok (.iadd, 1) := dop_96 (zb_X12_findEnds_1 23 rfl)
theorem dX12_findEnds_64 : decode cX12_findEnds 64 = .ok (.laload, 1) := dop_47 (zb_X12_findEnds_1 24 rfl)
theorem dX12_findEnds_65 : decode cX12_findEnds 65 = .ok (.lastore, 1) := dop_80 (zb_X12_findEnds_1 25 rfl)
theorem dX12_findEnds_66 : decode cX12_findEnds 66 = .ok (.aload_n 0, 1) := dop_42 (zb_X12_findEnds_1 26 rfl)
theorem dX12_findEnds_67 : decode cX12_findEnds 67 = .ok (.getfield 103, 3) := dop_180 (zb_X12_findEnds_1 27 rfl) (zb_X12_findEnds_1 28 rfl) (zb_X12_findEnds_1 29 rfl) rfl
theorem dX12_findEnds_70 : decode cX12_findEnds 70 = .ok (.iconst 5, 1) := dop_8 (zb_X12_findEnds_1 30 rfl)
theorem dX12_findEnds_71 : decode cX12_findEnds 71 = .ok (.iload_n 3, 1) := dop_29 (zb_X12_findEnds_1 31 rfl)
theorem dX12_findEnds_72 : decode cX12_findEnds 72 = .ok (.iadd, 1) := dop_96 (zb_X12_findEnds_1 32 rfl)
theorem dX12_findEnds_73 : decode cX12_findEnds 73 = .ok (.aload_n 0, 1) := dop_42 (zb_X12_findEnds_1 33 rfl)
theorem dX12_findEnds_74 : decode cX12_findEnds 74 = .ok (.getfield 64, 3) := dop_180 (zb_X12_findEnds_1 34 rfl) (zb_X12_findEnds_1 35 rfl) (zb_X12_findEnds_1 36 rfl) rfl
theorem dX12_findEnds_77 : decode cX12_findEnds 77 = .ok (.iconst 5, 1) := dop_8 (zb_X12_findEnds_1 37 rfl)
theorem dX12_findEnds_78 : decode cX12_findEnds 78 = .ok (.iload_n 1, 1) := dop_27 (zb_X12_findEnds_1 38 rfl)
theorem dX12_findEnds_79 : decode cX12_findEnds 79 = .ok (.imul, 1) := dop_104 (zb_X12_findEnds_1 39 rfl)
theorem ze_X12_findEnds_3 : (dcn cX12_findEnds).drop 119 = zt_X12_findEnds_3 := dw_n (wl := zw_X12_findEnds_2) ze_X12_findEnds_2 rfl
theorem zb_X12_findEnds_2 (j : Nat) {n : Nat} (e : zw_X12_findEnds_2[j]? = some n) : dby cX12_findEnds (80 + j) n := dw_b (t := zt_X12_findEnds_3) ze_X12_findEnds_2 j e
theorem dX12_findEnds_80 : decode cX12_findEnds 80 = .ok (.iload_n 3, 1) := dop_29 (zb_X12_findEnds_2 0 rfl)
theorem dX12_findEnds_81 : decode cX12_findEnds 81 = .ok (.iadd, 1) := dop_96 (zb_X12_findEnds_2 1 rfl)
theorem dX12_findEnds_82 : decode cX12_findEnds 82 = .ok (.laload, 1) := dop_47 (zb_X12_findEnds_2 2 rfl)
theorem dX12_findEnds_83 : decode cX12_findEnds 83 = .ok (.lastore, 1) := dop_80 (zb_X12_findEnds_2 3 rfl)
theorem dX12_findEnds_84 : decode cX12_findEnds 84 = .ok (.iinc 3 1, 3) := dop_132 (zb_X12_findEnds_2 4 rfl) (zb_X12_findEnds_2 5 rfl) (zb_X12_findEnds_2 6 rfl) rfl
theorem dX12_findEnds_87 : decode cX12_findEnds 87 = .ok (.goto (-42), 3) := dop_167 (zb_X12_findEnds_2 7 rfl) (zb_X12_findEnds_2 8 rfl) (zb_X12_findEnds_2 9 rfl) rfl
theorem dX12_findEnds_90 : decode cX12_findEnds 90 = .ok (.bipush 12, 2) := dop_16 (zb_X12_findEnds_2 10 rfl) (zb_X12_findEnds_2 11 rfl) rfl
theorem dX12_findEnds_92 : decode cX12_findEnds 92 = .ok (.iload_n 2, 1) := dop_28 (zb_X12_findEnds_2 12 rfl)
theorem dX12_findEnds_93 : decode cX12_findEnds 93 = .ok (.iadd, 1) := dop_96 (zb_X12_findEnds_2 13 rfl)
theorem dX12_findEnds_94 : decode cX12_findEnds 94 = .ok (.istore_n 3, 1) := dop_62 (zb_X12_findEnds_2 14 rfl)
theorem dX12_findEnds_95 : decode cX12_findEnds 95 = .ok (.aload_n 0, 1) := dop_42 (zb_X12_findEnds_2 15 rfl)
theorem dX12_findEnds_96 : decode cX12_findEnds 96 = .ok (.iload_n 1, 1) := dop_27 (zb_X12_findEnds_2 16 rfl)
theorem dX12_findEnds_97 : decode cX12_findEnds 97 = .ok (.invokevirtual 397, 3) := dop_182 (zb_X12_findEnds_2 17 rfl) (zb_X12_findEnds_2 18 rfl) (zb_X12_findEnds_2 19 rfl) rfl
theorem dX12_findEnds_100 : decode cX12_findEnds 100 = .ok (.aload_n 0, 1) := dop_42 (zb_X12_findEnds_2 20 rfl)
theorem dX12_findEnds_101 : decode cX12_findEnds 101 = .ok (.aload_n 0, 1) := dop_42 (zb_X12_findEnds_2 21 rfl)
theorem dX12_findEnds_102 : decode cX12_findEnds 102 = .ok (.getfield 70, 3) := dop_180 (zb_X12_findEnds_2 22 rfl) (zb_X12_findEnds_2 23 rfl) (zb_X12_findEnds_2 24 rfl) rfl
theorem dX12_findEnds_105 : decode cX12_findEnds 105 = .ok (.iload_n 3, 1) := dop_29 (zb_X12_findEnds_2 25 rfl)
theorem dX12_findEnds_106 : decode cX12_findEnds 106 = .ok (.baload, 1) := dop_51 (zb_X12_findEnds_2 26 rfl)
theorem dX12_findEnds_107 : decode cX12_findEnds 107 = .ok (.putfield 415, 3) := dop_181 (zb_X12_findEnds_2 27 rfl) (zb_X12_findEnds_2 28 rfl) (zb_X12_findEnds_2 29 rfl) rfl
theorem dX12_findEnds_110 : decode cX12_findEnds 110 = .ok (.aload_n 0, 1) := dop_42 (zb_X12_findEnds_2 30 rfl)
theorem dX12_findEnds_111 : decode cX12_findEnds 111 = .ok (.aload_n 0, 1) := dop_42 (zb_X12_findEnds_2 31 rfl)
theorem dX12_findEnds_112 : decode cX12_findEnds 112 = .ok (.getfield 415, 3) := dop_180 (zb_X12_findEnds_2 32 rfl) (zb_X12_findEnds_2 33 rfl) (zb_X12_findEnds_2 34 rfl) rfl
theorem dX12_findEnds_115 : decode cX12_findEnds 115 = .ok (.ifCond .eq 16, 3) := dop_153 (zb_X12_findEnds_2 35 rfl) (zb_X12_findEnds_2 36 rfl) (zb_X12_findEnds_2 37 rfl) rfl
theorem dX12_findEnds_118 : decode cX12_findEnds 118 = .ok (.aload_n 0, 1) := dop_42 (zb_X12_findEnds_2 38 rfl)
theorem ze_X12_findEnds_4 : (dcn cX12_findEnds).drop 159 = zt_X12_findEnds_4 := dw_n (wl := zw_X12_findEnds_3) ze_X12_findEnds_3 rfl
theorem zb_X12_findEnds_3 (j : Nat) {n : Nat} (e : zw_X12_findEnds_3[j]? = some n) : dby cX12_findEnds (119 + j) n := dw_b (t := zt_X12_findEnds_4) ze_X12_findEnds_3 j e
theorem dX12_findEnds_119 : decode cX12_findEnds 119 = .ok (.getfield 67, 3) := dop_180 (zb_X12_findEnds_3 0 rfl) (zb_X12_findEnds_3 1 rfl) (zb_X12_findEnds_3 2 rfl) rfl
theorem dX12_findEnds_122 : decode cX12_findEnds 122 = .ok (.iload_n 3, 1) := dop_29 (zb_X12_findEnds_3 3 rfl)
theorem dX12_findEnds_123 : decode cX12_findEnds 123 = .ok (.baload, 1) := dop_51 (zb_X12_findEnds_3 4 rfl)
theorem dX12_findEnds_124 : decode cX12_findEnds 124 = .ok (.ifCond .ne 7, 3) := dop_154 (zb_X12_findEnds_3 5 rfl) (zb_X12_findEnds_3 6 rfl) (zb_X12_findEnds_3 7 rfl) rfl
theorem dX12_findEnds_127 : decode cX12_findEnds 127 = .ok (.iconst 1, 1) := dop_4 (zb_X12_findEnds_3 8 rfl)
theorem dX12_findEnds_128 : decode cX12_findEnds 128 = .ok (.goto 4, 3) := dop_167 (zb_X12_findEnds_3 9 rfl) (zb_X12_findEnds_3 10 rfl) (zb_X12_findEnds_3 11 rfl) rfl
theorem dX12_findEnds_131 : decode cX12_findEnds 131 = .ok (.iconst 0, 1) := dop_3 (zb_X12_findEnds_3 12 rfl)
theorem dX12_findEnds_132 : decode cX12_findEnds 132 = .ok (.putfield 418, 3) := dop_181 (zb_X12_findEnds_3 13 rfl) (zb_X12_findEnds_3 14 rfl) (zb_X12_findEnds_3 15 rfl) rfl
theorem dX12_findEnds_135 : decode cX12_findEnds 135 = .ok (.iconst 0, 1) := dop_3 (zb_X12_findEnds_3 16 rfl)
theorem dX12_findEnds_136 : decode cX12_findEnds 136 = .ok (.istore 4, 2) := dop_54 (zb_X12_findEnds_3 17 rfl) (zb_X12_findEnds_3 18 rfl)
theorem dX12_findEnds_138 : decode cX12_findEnds 138 = .ok (.iload 4, 2) := dop_21 (zb_X12_findEnds_3 19 rfl) (zb_X12_findEnds_3 20 rfl)
theorem dX12_findEnds_140 : decode cX12_findEnds 140 = .ok (.iconst 5, 1) := dop_8 (zb_X12_findEnds_3 21 rfl)
theorem dX12_findEnds_141 : decode cX12_findEnds 141 = .ok (.if_icmp .ge 51, 3) := dop_162 (zb_X12_findEnds_3 22 rfl) (zb_X12_findEnds_3 23 rfl) (zb_X12_findEnds_3 24 rfl) rfl
theorem dX12_findEnds_144 : decode cX12_findEnds 144 = .ok (.aload_n 0, 1) := dop_42 (zb_X12_findEnds_3 25 rfl)
theorem dX12_findEnds_145 : decode cX12_findEnds 145 = .ok (.getfield 103, 3) := dop_180 (zb_X12_findEnds_3 26 rfl) (zb_X12_findEnds_3 27 rfl) (zb_X12_findEnds_3 28 rfl) rfl
theorem dX12_findEnds_148 : decode cX12_findEnds 148 = .ok (.bipush 10, 2) := dop_16 (zb_X12_findEnds_3 29 rfl) (zb_X12_findEnds_3 30 rfl) rfl
theorem dX12_findEnds_150 : decode cX12_findEnds 150 = .ok (.iload 4, 2) := dop_21 (zb_X12_findEnds_3 31 rfl) (zb_X12_findEnds_3 32 rfl)
theorem dX12_findEnds_152 : decode cX12_findEnds 152 = .ok (.iadd, 1) := dop_96 (zb_X12_findEnds_3 33 rfl)
theorem dX12_findEnds_153 : decode cX12_findEnds 153 = .ok (.aload_n 0, 1) := dop_42 (zb_X12_findEnds_3 34 rfl)
theorem dX12_findEnds_154 : decode cX12_findEnds 154 = .ok (.getfield 64, 3) := dop_180 (zb_X12_findEnds_3 35 rfl) (zb_X12_findEnds_3 36 rfl) (zb_X12_findEnds_3 37 rfl) rfl
theorem dX12_findEnds_157 : decode cX12_findEnds 157 = .ok (.iconst 5, 1) := dop_8 (zb_X12_findEnds_3 38 rfl)
theorem dX12_findEnds_158 : decode cX12_findEnds 158 = .ok (.iload_n 3, 1) := dop_29 (zb_X12_findEnds_3 39 rfl)
theorem zb_X12_findEnds_4 (j : Nat) {n : Nat} (e : zw_X12_findEnds_4[j]? = some n) : dby cX12_findEnds (159 + j) n := dw_b (t := []) ze_X12_findEnds_4 j e
theorem dX12_findEnds_159 : decode cX12_findEnds 159 = .ok (.imul, 1) := dop_104 (zb_X12_findEnds_4 0 rfl)
theorem dX12_findEnds_160 : decode cX12_findEnds 160 = .ok (.iload 4, 2) := dop_21 (zb_X12_findEnds_4 1 rfl) (zb_X12_findEnds_4 2 rfl)
theorem dX12_findEnds_162 : decode cX12_findEnds 162 = .ok (.iadd, 1) := dop_96 (zb_X12_findEnds_4 3 rfl)
theorem dX12_findEnds_163 : decode cX12_findEnds 163 = .ok (.laload, 1) := dop_47 (zb_X12_findEnds_4 4 rfl)
theorem dX12_findEnds_164 : decode cX12_findEnds 164 = .ok (.lastore, 1) := dop_80 (zb_X12_findEnds_4 5 rfl)
theorem dX12_findEnds_165 : decode cX12_findEnds 165 = .ok (.aload_n 0, 1) := dop_42 (zb_X12_findEnds_4 6 rfl)
theorem dX12_findEnds_166 : decode cX12_findEnds 166 = .ok (.getfield 103, 3) := dop_180 (zb_X12_findEnds_4 7 rfl) (zb_X12_findEnds_4 8 rfl) (zb_X12_findEnds_4 9 rfl) rfl
theorem dX12_findEnds_169 : decode cX12_findEnds 169 = .ok (.bipush 15, 2) := dop_16 (zb_X12_findEnds_4 10 rfl) (zb_X12_findEnds_4 11 rfl) rfl
theorem dX12_findEnds_171 : decode cX12_findEnds 171 = .ok (.iload 4, 2) := dop_21 (zb_X12_findEnds_4 12 rfl) (zb_X12_findEnds_4 13 rfl)
theorem dX12_findEnds_173 : decode cX12_findEnds 173 = .ok (.iadd, 1) := dop_96 (zb_X12_findEnds_4 14 rfl)
theorem dX12_findEnds_174 : decode cX12_findEnds 174 = .ok (.aload_n 0, 1) := dop_42 (zb_X12_findEnds_4 15 rfl)
theorem dX12_findEnds_175 : decode cX12_findEnds 175 = .ok (.getfield 61, 3) := dop_180 (zb_X12_findEnds_4 16 rfl) (zb_X12_findEnds_4 17 rfl) (zb_X12_findEnds_4 18 rfl) rfl
theorem dX12_findEnds_178 : decode cX12_findEnds 178 = .ok (.iconst 5, 1) := dop_8 (zb_X12_findEnds_4 19 rfl)
theorem dX12_findEnds_179 : decode cX12_findEnds 179 = .ok (.iload_n 3, 1) := dop_29 (zb_X12_findEnds_4 20 rfl)
theorem dX12_findEnds_180 : decode cX12_findEnds 180 = .ok (.imul, 1) := dop_104 (zb_X12_findEnds_4 21 rfl)
theorem dX12_findEnds_181 : decode cX12_findEnds 181 = .ok (.iload 4, 2) := dop_21 (zb_X12_findEnds_4 22 rfl) (zb_X12_findEnds_4 23 rfl)
theorem dX12_findEnds_183 : decode cX12_findEnds 183 = .ok (.iadd, 1) := dop_96 (zb_X12_findEnds_4 24 rfl)
theorem dX12_findEnds_184 : decode cX12_findEnds 184 = .ok (.laload, 1) := dop_47 (zb_X12_findEnds_4 25 rfl)
theorem dX12_findEnds_185 : decode cX12_findEnds 185 = .ok (.lastore, 1) := dop_80 (zb_X12_findEnds_4 26 rfl)
theorem dX12_findEnds_186 : decode cX12_findEnds 186 = .ok (.iinc 4 1, 3) := dop_132 (zb_X12_findEnds_4 27 rfl) (zb_X12_findEnds_4 28 rfl) (zb_X12_findEnds_4 29 rfl) rfl
theorem dX12_findEnds_189 : decode cX12_findEnds 189 = .ok (.goto (-51), 3) := dop_167 (zb_X12_findEnds_4 30 rfl) (zb_X12_findEnds_4 31 rfl) (zb_X12_findEnds_4 32 rfl) rfl
theorem dX12_findEnds_192 : decode cX12_findEnds 192 = .ok (.return_, 1) := dop_177 (zb_X12_findEnds_4 33 rfl)
def zw_X12_beside_2 : List Nat := [172, 132, 4, 255, 167, 255, 206, 3, 172]
def zt_X12_beside_2 : List Nat := zw_X12_beside_2 ++ []
def zw_X12_beside_1 : List Nat := [180, 0, 94, 21, 4, 47, 42, 180, 0, 97, 21, 4, 47, 148, 153, 0, 27, 42, 180, 0, 94, 21, 4, 47, 42, 180, 0, 97, 21, 4, 47, 148, 156, 0, 7, 2, 167, 0, 4, 4]
def zt_X12_beside_1 : List Nat := zw_X12_beside_1 ++ zt_X12_beside_2
def zw_X12_beside_0 : List Nat := [42, 180, 0, 94, 42, 180, 0, 103, 27, 29, 133, 184, 1, 131, 42, 180, 0, 97, 42, 180, 0, 103, 27, 8, 96, 28, 133, 184, 1, 131, 16, 9, 54, 4, 21, 4, 155, 0, 51, 42]
def zt_X12_beside_0 : List Nat := zw_X12_beside_0 ++ zt_X12_beside_1
theorem ze_X12_beside_0 : (dcn cX12_beside).drop 0 = zt_X12_beside_0 := by decide +kernel
theorem ze_X12_beside_1 : (dcn cX12_beside).drop 40 = zt_X12_beside_1 := dw_n (wl := zw_X12_beside_0) ze_X12_beside_0 rfl
theorem zb_X12_beside_0 (j : Nat) {n : Nat} (e : zw_X12_beside_0[j]? = some n) : dby cX12_beside (0 + j) n := dw_b (t := zt_X12_beside_1) ze_X12_beside_0 j e
theorem dX12_beside_0 : decode cX12_beside 0 = .ok (.aload_n 0, 1) := dop_42 (zb_X12_beside_0 0 rfl)
theorem dX12_beside_1 : decode cX12_beside 1 = .ok (.getfield 94, 3) := dop_180 (zb_X12_beside_0 1 rfl) (zb_X12_beside_0 2 rfl) (zb_X12_beside_0 3 rfl) rfl
theorem dX12_beside_4 : decode cX12_beside 4 = .ok (.aload_n 0, 1) := dop_42 (zb_X12_beside_0 4 rfl)
theorem dX12_beside_5 : decode cX12_beside 5 = .ok (.getfield 103, 3) := dop_180 (zb_X12_beside_0 5 rfl) (zb_X12_beside_0 6 rfl) (zb_X12_beside_0 7 rfl) rfl
theorem dX12_beside_8 : decode cX12_beside 8 = .ok (.iload_n 1, 1) := dop_27 (zb_X12_beside_0 8 rfl)
theorem dX12_beside_9 : decode cX12_beside 9 = .ok (.iload_n 3, 1) := dop_29 (zb_X12_beside_0 9 rfl)
theorem dX12_beside_10 : decode cX12_beside 10 = .ok (.i2l, 1) := dop_133 (zb_X12_beside_0 10 rfl)
theorem dX12_beside_11 : decode cX12_beside 11 = .ok (.invokestatic 387, 3) := dop_184 (zb_X12_beside_0 11 rfl) (zb_X12_beside_0 12 rfl) (zb_X12_beside_0 13 rfl) rfl
theorem dX12_beside_14 : decode cX12_beside 14 = .ok (.aload_n 0, 1) := dop_42 (zb_X12_beside_0 14 rfl)
theorem dX12_beside_15 : decode cX12_beside 15 = .ok (.getfield 97, 3) := dop_180 (zb_X12_beside_0 15 rfl) (zb_X12_beside_0 16 rfl) (zb_X12_beside_0 17 rfl) rfl
theorem dX12_beside_18 : decode cX12_beside 18 = .ok (.aload_n 0, 1) := dop_42 (zb_X12_beside_0 18 rfl)
theorem dX12_beside_19 : decode cX12_beside 19 = .ok (.getfield 103, 3) := dop_180 (zb_X12_beside_0 19 rfl) (zb_X12_beside_0 20 rfl) (zb_X12_beside_0 21 rfl) rfl
theorem dX12_beside_22 : decode cX12_beside 22 = .ok (.iload_n 1, 1) := dop_27 (zb_X12_beside_0 22 rfl)
theorem dX12_beside_23 : decode cX12_beside 23 = .ok (.iconst 5, 1) := dop_8 (zb_X12_beside_0 23 rfl)
theorem dX12_beside_24 : decode cX12_beside 24 = .ok (.iadd, 1) := dop_96 (zb_X12_beside_0 24 rfl)
theorem dX12_beside_25 : decode cX12_beside 25 = .ok (.iload_n 2, 1) := dop_28 (zb_X12_beside_0 25 rfl)
theorem dX12_beside_26 : decode cX12_beside 26 = .ok (.i2l, 1) := dop_133 (zb_X12_beside_0 26 rfl)
theorem dX12_beside_27 : decode cX12_beside 27 = .ok (.invokestatic 387, 3) := dop_184 (zb_X12_beside_0 27 rfl) (zb_X12_beside_0 28 rfl) (zb_X12_beside_0 29 rfl) rfl
theorem dX12_beside_30 : decode cX12_beside 30 = .ok (.bipush 9, 2) := dop_16 (zb_X12_beside_0 30 rfl) (zb_X12_beside_0 31 rfl) rfl
theorem dX12_beside_32 : decode cX12_beside 32 = .ok (.istore 4, 2) := dop_54 (zb_X12_beside_0 32 rfl) (zb_X12_beside_0 33 rfl)
theorem dX12_beside_34 : decode cX12_beside 34 = .ok (.iload 4, 2) := dop_21 (zb_X12_beside_0 34 rfl) (zb_X12_beside_0 35 rfl)
theorem dX12_beside_36 : decode cX12_beside 36 = .ok (.ifCond .lt 51, 3) := dop_155 (zb_X12_beside_0 36 rfl) (zb_X12_beside_0 37 rfl) (zb_X12_beside_0 38 rfl) rfl
theorem dX12_beside_39 : decode cX12_beside 39 = .ok (.aload_n 0, 1) := dop_42 (zb_X12_beside_0 39 rfl)
theorem ze_X12_beside_2 : (dcn cX12_beside).drop 80 = zt_X12_beside_2 := dw_n (wl := zw_X12_beside_1) ze_X12_beside_1 rfl
theorem zb_X12_beside_1 (j : Nat) {n : Nat} (e : zw_X12_beside_1[j]? = some n) : dby cX12_beside (40 + j) n := dw_b (t := zt_X12_beside_2) ze_X12_beside_1 j e
theorem dX12_beside_40 : decode cX12_beside 40 = .ok (.getfield 94, 3) := dop_180 (zb_X12_beside_1 0 rfl) (zb_X12_beside_1 1 rfl) (zb_X12_beside_1 2 rfl) rfl
theorem dX12_beside_43 : decode cX12_beside 43 = .ok (.iload 4, 2) := dop_21 (zb_X12_beside_1 3 rfl) (zb_X12_beside_1 4 rfl)
theorem dX12_beside_45 : decode cX12_beside 45 = .ok (.laload, 1) := dop_47 (zb_X12_beside_1 5 rfl)
theorem dX12_beside_46 : decode cX12_beside 46 = .ok (.aload_n 0, 1) := dop_42 (zb_X12_beside_1 6 rfl)
theorem dX12_beside_47 : decode cX12_beside 47 = .ok (.getfield 97, 3) := dop_180 (zb_X12_beside_1 7 rfl) (zb_X12_beside_1 8 rfl) (zb_X12_beside_1 9 rfl) rfl
theorem dX12_beside_50 : decode cX12_beside 50 = .ok (.iload 4, 2) := dop_21 (zb_X12_beside_1 10 rfl) (zb_X12_beside_1 11 rfl)
theorem dX12_beside_52 : decode cX12_beside 52 = .ok (.laload, 1) := dop_47 (zb_X12_beside_1 12 rfl)
theorem dX12_beside_53 : decode cX12_beside 53 = .ok (.lcmp, 1) := dop_148 (zb_X12_beside_1 13 rfl)
theorem dX12_beside_54 : decode cX12_beside 54 = .ok (.ifCond .eq 27, 3) := dop_153 (zb_X12_beside_1 14 rfl) (zb_X12_beside_1 15 rfl) (zb_X12_beside_1 16 rfl) rfl
theorem dX12_beside_57 : decode cX12_beside 57 = .ok (.aload_n 0, 1) := dop_42 (zb_X12_beside_1 17 rfl)
theorem dX12_beside_58 : decode cX12_beside 58 = .ok (.getfield 94, 3) := dop_180 (zb_X12_beside_1 18 rfl) (zb_X12_beside_1 19 rfl) (zb_X12_beside_1 20 rfl) rfl
theorem dX12_beside_61 : decode cX12_beside 61 = .ok (.iload 4, 2) := dop_21 (zb_X12_beside_1 21 rfl) (zb_X12_beside_1 22 rfl)
theorem dX12_beside_63 : decode cX12_beside 63 = .ok (.laload, 1) := dop_47 (zb_X12_beside_1 23 rfl)
theorem dX12_beside_64 : decode cX12_beside 64 = .ok (.aload_n 0, 1) := dop_42 (zb_X12_beside_1 24 rfl)
theorem dX12_beside_65 : decode cX12_beside 65 = .ok (.getfield 97, 3) := dop_180 (zb_X12_beside_1 25 rfl) (zb_X12_beside_1 26 rfl) (zb_X12_beside_1 27 rfl) rfl
theorem dX12_beside_68 : decode cX12_beside 68 = .ok (.iload 4, 2) := dop_21 (zb_X12_beside_1 28 rfl) (zb_X12_beside_1 29 rfl)
theorem dX12_beside_70 : decode cX12_beside 70 = .ok (.laload, 1) := dop_47 (zb_X12_beside_1 30 rfl)
theorem dX12_beside_71 : decode cX12_beside 71 = .ok (.lcmp, 1) := dop_148 (zb_X12_beside_1 31 rfl)
theorem dX12_beside_72 : decode cX12_beside 72 = .ok (.ifCond .ge 7, 3) := dop_156 (zb_X12_beside_1 32 rfl) (zb_X12_beside_1 33 rfl) (zb_X12_beside_1 34 rfl) rfl
theorem dX12_beside_75 : decode cX12_beside 75 = .ok (.iconst (-1), 1) := dop_2 (zb_X12_beside_1 35 rfl)
theorem dX12_beside_76 : decode cX12_beside 76 = .ok (.goto 4, 3) := dop_167 (zb_X12_beside_1 36 rfl) (zb_X12_beside_1 37 rfl) (zb_X12_beside_1 38 rfl) rfl
theorem dX12_beside_79 : decode cX12_beside 79 = .ok (.iconst 1, 1) := dop_4 (zb_X12_beside_1 39 rfl)
theorem zb_X12_beside_2 (j : Nat) {n : Nat} (e : zw_X12_beside_2[j]? = some n) : dby cX12_beside (80 + j) n := dw_b (t := []) ze_X12_beside_2 j e
theorem dX12_beside_80 : decode cX12_beside 80 = .ok (.ireturn, 1) := dop_172 (zb_X12_beside_2 0 rfl)
theorem dX12_beside_81 : decode cX12_beside 81 = .ok (.iinc 4 (-1), 3) := dop_132 (zb_X12_beside_2 1 rfl) (zb_X12_beside_2 2 rfl) (zb_X12_beside_2 3 rfl) rfl
theorem dX12_beside_84 : decode cX12_beside 84 = .ok (.goto (-50), 3) := dop_167 (zb_X12_beside_2 4 rfl) (zb_X12_beside_2 5 rfl) (zb_X12_beside_2 6 rfl) rfl
theorem dX12_beside_87 : decode cX12_beside 87 = .ok (.iconst 0, 1) := dop_3 (zb_X12_beside_2 7 rfl)
theorem dX12_beside_88 : decode cX12_beside 88 = .ok (.ireturn, 1) := dop_172 (zb_X12_beside_2 8 rfl)
def zw_X12_tells_6 : List Nat := [21, 12, 153, 0, 7, 4, 167, 0, 4, 5, 172]
def zt_X12_tells_6 : List Nat := zw_X12_tells_6 ++ []
def zw_X12_tells_5 : List Nat := [21, 11, 154, 0, 5, 3, 172, 21, 6, 155, 0, 28, 21, 9, 155, 0, 19, 21, 9, 154, 0, 18, 28, 153, 0, 10, 42, 180, 1, 162, 154, 0, 7, 4, 167, 0, 4, 3, 54, 12]
def zt_X12_tells_5 : List Nat := zw_X12_tells_5 ++ zt_X12_tells_6
def zw_X12_tells_4 : List Nat := [153, 0, 7, 4, 167, 0, 4, 3, 54, 10, 21, 8, 157, 0, 15, 21, 8, 154, 0, 14, 42, 180, 1, 162, 153, 0, 7, 4, 167, 0, 4, 3, 54, 11, 21, 10, 153, 0, 8]
def zt_X12_tells_4 : List Nat := zw_X12_tells_4 ++ zt_X12_tells_5
def zw_X12_tells_3 : List Nat := [180, 1, 159, 153, 0, 15, 42, 16, 10, 21, 5, 29, 182, 1, 165, 167, 0, 4, 4, 54, 9, 21, 7, 155, 0, 19, 21, 7, 154, 0, 18, 28, 154, 0, 14, 42, 180, 1, 156]
def zt_X12_tells_3 : List Nat := zw_X12_tells_3 ++ zt_X12_tells_4
def zw_X12_tells_2 : List Nat := [153, 0, 14, 42, 3, 21, 5, 29, 182, 1, 165, 167, 0, 4, 2, 54, 7, 42, 180, 1, 159, 153, 0, 15, 42, 16, 10, 21, 4, 29, 182, 1, 165, 167, 0, 4, 4, 54, 8, 42]
def zt_X12_tells_2 : List Nat := zw_X12_tells_2 ++ zt_X12_tells_3
def zw_X12_tells_1 : List Nat := [27, 4, 96, 167, 0, 8, 5, 27, 104, 4, 96, 54, 5, 42, 180, 1, 153, 153, 0, 14, 42, 3, 21, 4, 29, 182, 1, 165, 167, 0, 4, 2, 54, 6, 42, 180, 1, 153]
def zt_X12_tells_1 : List Nat := zw_X12_tells_1 ++ zt_X12_tells_2
def zw_X12_tells_0 : List Nat := [28, 5, 160, 0, 7, 5, 167, 0, 4, 4, 62, 28, 5, 160, 0, 11, 5, 27, 104, 4, 100, 167, 0, 4, 27, 54, 4, 28, 154, 0, 7, 27, 167, 0, 19, 28, 4, 160, 0, 9]
def zt_X12_tells_0 : List Nat := zw_X12_tells_0 ++ zt_X12_tells_1
theorem ze_X12_tells_0 : (dcn cX12_tells).drop 0 = zt_X12_tells_0 := by decide +kernel
theorem ze_X12_tells_1 : (dcn cX12_tells).drop 40 = zt_X12_tells_1 := dw_n (wl := zw_X12_tells_0) ze_X12_tells_0 rfl
theorem zb_X12_tells_0 (j : Nat) {n : Nat} (e : zw_X12_tells_0[j]? = some n) : dby cX12_tells (0 + j) n := dw_b (t := zt_X12_tells_1) ze_X12_tells_0 j e
theorem dX12_tells_0 : decode cX12_tells 0 = .ok (.iload_n 2, 1) := dop_28 (zb_X12_tells_0 0 rfl)
theorem dX12_tells_1 : decode cX12_tells 1 = .ok (.iconst 2, 1) := dop_5 (zb_X12_tells_0 1 rfl)
theorem dX12_tells_2 : decode cX12_tells 2 = .ok (.if_icmp .ne 7, 3) := dop_160 (zb_X12_tells_0 2 rfl) (zb_X12_tells_0 3 rfl) (zb_X12_tells_0 4 rfl) rfl
theorem dX12_tells_5 : decode cX12_tells 5 = .ok (.iconst 2, 1) := dop_5 (zb_X12_tells_0 5 rfl)
theorem dX12_tells_6 : decode cX12_tells 6 = .ok (.goto 4, 3) := dop_167 (zb_X12_tells_0 6 rfl) (zb_X12_tells_0 7 rfl) (zb_X12_tells_0 8 rfl) rfl
theorem dX12_tells_9 : decode cX12_tells 9 = .ok (.iconst 1, 1) := dop_4 (zb_X12_tells_0 9 rfl)
theorem dX12_tells_10 : decode cX12_tells 10 = .ok (.istore_n 3, 1) := dop_62 (zb_X12_tells_0 10 rfl)
theorem dX12_tells_11 : decode cX12_tells 11 = .ok (.iload_n 2, 1) := dop_28 (zb_X12_tells_0 11 rfl)
theorem dX12_tells_12 : decode cX12_tells 12 = .ok (.iconst 2, 1) := dop_5 (zb_X12_tells_0 12 rfl)
theorem dX12_tells_13 : decode cX12_tells 13 = .ok (.if_icmp .ne 11, 3) := dop_160 (zb_X12_tells_0 13 rfl) (zb_X12_tells_0 14 rfl) (zb_X12_tells_0 15 rfl) rfl
theorem dX12_tells_16 : decode cX12_tells 16 = .ok (.iconst 2, 1) := dop_5 (zb_X12_tells_0 16 rfl)
theorem dX12_tells_17 : decode cX12_tells 17 = .ok (.iload_n 1, 1) := dop_27 (zb_X12_tells_0 17 rfl)
theorem dX12_tells_18 : decode cX12_tells 18 = .ok (.imul, 1) := dop_104 (zb_X12_tells_0 18 rfl)
theorem dX12_tells_19 : decode cX12_tells 19 = .ok (.iconst 1, 1) := dop_4 (zb_X12_tells_0 19 rfl)
theorem dX12_tells_20 : decode cX12_tells 20 = .ok (.isub, 1) := dop_100 (zb_X12_tells_0 20 rfl)
theorem dX12_tells_21 : decode cX12_tells 21 = .ok (.goto 4, 3) := dop_167 (zb_X12_tells_0 21 rfl) (zb_X12_tells_0 22 rfl) (zb_X12_tells_0 23 rfl) rfl
theorem dX12_tells_24 : decode cX12_tells 24 = .ok (.iload_n 1, 1) := dop_27 (zb_X12_tells_0 24 rfl)
theorem dX12_tells_25 : decode cX12_tells 25 = .ok (.istore 4, 2) := dop_54 (zb_X12_tells_0 25 rfl) (zb_X12_tells_0 26 rfl)
theorem dX12_tells_27 : decode cX12_tells 27 = .ok (.iload_n 2, 1) := dop_28 (zb_X12_tells_0 27 rfl)
theorem dX12_tells_28 : decode cX12_tells 28 = .ok (.ifCond .ne 7, 3) := dop_154 (zb_X12_tells_0 28 rfl) (zb_X12_tells_0 29 rfl) (zb_X12_tells_0 30 rfl) rfl
theorem dX12_tells_31 : decode cX12_tells 31 = .ok (.iload_n 1, 1) := dop_27 (zb_X12_tells_0 31 rfl)
theorem dX12_tells_32 : decode cX12_tells 32 = .ok (.goto 19, 3) := dop_167 (zb_X12_tells_0 32 rfl) (zb_X12_tells_0 33 rfl) (zb_X12_tells_0 34 rfl) rfl
theorem dX12_tells_35 : decode cX12_tells 35 = .ok (.iload_n 2, 1) := dop_28 (zb_X12_tells_0 35 rfl)
theorem dX12_tells_36 : decode cX12_tells 36 = .ok (.iconst 1, 1) := dop_4 (zb_X12_tells_0 36 rfl)
theorem dX12_tells_37 : decode cX12_tells 37 = .ok (.if_icmp .ne 9, 3) := dop_160 (zb_X12_tells_0 37 rfl) (zb_X12_tells_0 38 rfl) (zb_X12_tells_0 39 rfl) rfl
theorem ze_X12_tells_2 : (dcn cX12_tells).drop 78 = zt_X12_tells_2 := dw_n (wl := zw_X12_tells_1) ze_X12_tells_1 rfl
theorem zb_X12_tells_1 (j : Nat) {n : Nat} (e : zw_X12_tells_1[j]? = some n) : dby cX12_tells (40 + j) n := dw_b (t := zt_X12_tells_2) ze_X12_tells_1 j e
theorem dX12_tells_40 : decode cX12_tells 40 = .ok (.iload_n 1, 1) := dop_27 (zb_X12_tells_1 0 rfl)
theorem dX12_tells_41 : decode cX12_tells 41 = .ok (.iconst 1, 1) := dop_4 (zb_X12_tells_1 1 rfl)
theorem dX12_tells_42 : decode cX12_tells 42 = .ok (.iadd, 1) := dop_96 (zb_X12_tells_1 2 rfl)
theorem dX12_tells_43 : decode cX12_tells 43 = .ok (.goto 8, 3) := dop_167 (zb_X12_tells_1 3 rfl) (zb_X12_tells_1 4 rfl) (zb_X12_tells_1 5 rfl) rfl
theorem dX12_tells_46 : decode cX12_tells 46 = .ok (.iconst 2, 1) := dop_5 (zb_X12_tells_1 6 rfl)
theorem dX12_tells_47 : decode cX12_tells 47 = .ok (.iload_n 1, 1) := dop_27 (zb_X12_tells_1 7 rfl)
theorem dX12_tells_48 : decode cX12_tells 48 = .ok (.imul, 1) := dop_104 (zb_X12_tells_1 8 rfl)
theorem dX12_tells_49 : decode cX12_tells 49 = .ok (.iconst 1, 1) := dop_4 (zb_X12_tells_1 9 rfl)
theorem dX12_tells_50 : decode cX12_tells 50 = .ok (.iadd, 1) := dop_96 (zb_X12_tells_1 10 rfl)
theorem dX12_tells_51 : decode cX12_tells 51 = .ok (.istore 5, 2) := dop_54 (zb_X12_tells_1 11 rfl) (zb_X12_tells_1 12 rfl)
theorem dX12_tells_53 : decode cX12_tells 53 = .ok (.aload_n 0, 1) := dop_42 (zb_X12_tells_1 13 rfl)
theorem dX12_tells_54 : decode cX12_tells 54 = .ok (.getfield 409, 3) := dop_180 (zb_X12_tells_1 14 rfl) (zb_X12_tells_1 15 rfl) (zb_X12_tells_1 16 rfl) rfl
theorem dX12_tells_57 : decode cX12_tells 57 = .ok (.ifCond .eq 14, 3) := dop_153 (zb_X12_tells_1 17 rfl) (zb_X12_tells_1 18 rfl) (zb_X12_tells_1 19 rfl) rfl
theorem dX12_tells_60 : decode cX12_tells 60 = .ok (.aload_n 0, 1) := dop_42 (zb_X12_tells_1 20 rfl)
theorem dX12_tells_61 : decode cX12_tells 61 = .ok (.iconst 0, 1) := dop_3 (zb_X12_tells_1 21 rfl)
theorem dX12_tells_62 : decode cX12_tells 62 = .ok (.iload 4, 2) := dop_21 (zb_X12_tells_1 22 rfl) (zb_X12_tells_1 23 rfl)
theorem dX12_tells_64 : decode cX12_tells 64 = .ok (.iload_n 3, 1) := dop_29 (zb_X12_tells_1 24 rfl)
theorem dX12_tells_65 : decode cX12_tells 65 = .ok (.invokevirtual 421, 3) := dop_182 (zb_X12_tells_1 25 rfl) (zb_X12_tells_1 26 rfl) (zb_X12_tells_1 27 rfl) rfl
theorem dX12_tells_68 : decode cX12_tells 68 = .ok (.goto 4, 3) := dop_167 (zb_X12_tells_1 28 rfl) (zb_X12_tells_1 29 rfl) (zb_X12_tells_1 30 rfl) rfl
theorem dX12_tells_71 : decode cX12_tells 71 = .ok (.iconst (-1), 1) := dop_2 (zb_X12_tells_1 31 rfl)
theorem dX12_tells_72 : decode cX12_tells 72 = .ok (.istore 6, 2) := dop_54 (zb_X12_tells_1 32 rfl) (zb_X12_tells_1 33 rfl)
theorem dX12_tells_74 : decode cX12_tells 74 = .ok (.aload_n 0, 1) := dop_42 (zb_X12_tells_1 34 rfl)
theorem dX12_tells_75 : decode cX12_tells 75 = .ok (.getfield 409, 3) := dop_180 (zb_X12_tells_1 35 rfl) (zb_X12_tells_1 36 rfl) (zb_X12_tells_1 37 rfl) rfl
theorem ze_X12_tells_3 : (dcn cX12_tells).drop 118 = zt_X12_tells_3 := dw_n (wl := zw_X12_tells_2) ze_X12_tells_2 rfl
theorem zb_X12_tells_2 (j : Nat) {n : Nat} (e : zw_X12_tells_2[j]? = some n) : dby cX12_tells (78 + j) n := dw_b (t := zt_X12_tells_3) ze_X12_tells_2 j e
theorem dX12_tells_78 : decode cX12_tells 78 = .ok (.ifCond .eq 14, 3) := dop_153 (zb_X12_tells_2 0 rfl) (zb_X12_tells_2 1 rfl) (zb_X12_tells_2 2 rfl) rfl
theorem dX12_tells_81 : decode cX12_tells 81 = .ok (.aload_n 0, 1) := dop_42 (zb_X12_tells_2 3 rfl)
theorem dX12_tells_82 : decode cX12_tells 82 = .ok (.iconst 0, 1) := dop_3 (zb_X12_tells_2 4 rfl)
theorem dX12_tells_83 : decode cX12_tells 83 = .ok (.iload 5, 2) := dop_21 (zb_X12_tells_2 5 rfl) (zb_X12_tells_2 6 rfl)
theorem dX12_tells_85 : decode cX12_tells 85 = .ok (.iload_n 3, 1) := dop_29 (zb_X12_tells_2 7 rfl)
theorem dX12_tells_86 : decode cX12_tells 86 = .ok (.invokevirtual 421, 3) := dop_182 (zb_X12_tells_2 8 rfl) (zb_X12_tells_2 9 rfl) (zb_X12_tells_2 10 rfl) rfl
theorem dX12_tells_89 : decode cX12_tells 89 = .ok (.goto 4, 3) := dop_167 (zb_X12_tells_2 11 rfl) (zb_X12_tells_2 12 rfl) (zb_X12_tells_2 13 rfl) rfl
theorem dX12_tells_92 : decode cX12_tells 92 = .ok (.iconst (-1), 1) := dop_2 (zb_X12_tells_2 14 rfl)
theorem dX12_tells_93 : decode cX12_tells 93 = .ok (.istore 7, 2) := dop_54 (zb_X12_tells_2 15 rfl) (zb_X12_tells_2 16 rfl)
theorem dX12_tells_95 : decode cX12_tells 95 = .ok (.aload_n 0, 1) := dop_42 (zb_X12_tells_2 17 rfl)
theorem dX12_tells_96 : decode cX12_tells 96 = .ok (.getfield 415, 3) := dop_180 (zb_X12_tells_2 18 rfl) (zb_X12_tells_2 19 rfl) (zb_X12_tells_2 20 rfl) rfl
theorem dX12_tells_99 : decode cX12_tells 99 = .ok (.ifCond .eq 15, 3) := dop_153 (zb_X12_tells_2 21 rfl) (zb_X12_tells_2 22 rfl) (zb_X12_tells_2 23 rfl) rfl
theorem dX12_tells_102 : decode cX12_tells 102 = .ok (.aload_n 0, 1) := dop_42 (zb_X12_tells_2 24 rfl)
theorem dX12_tells_103 : decode cX12_tells 103 = .ok (.bipush 10, 2) := dop_16 (zb_X12_tells_2 25 rfl) (zb_X12_tells_2 26 rfl) rfl
theorem dX12_tells_105 : decode cX12_tells 105 = .ok (.iload 4, 2) := dop_21 (zb_X12_tells_2 27 rfl) (zb_X12_tells_2 28 rfl)
theorem dX12_tells_107 : decode cX12_tells 107 = .ok (.iload_n 3, 1) := dop_29 (zb_X12_tells_2 29 rfl)
theorem dX12_tells_108 : decode cX12_tells 108 = .ok (.invokevirtual 421, 3) := dop_182 (zb_X12_tells_2 30 rfl) (zb_X12_tells_2 31 rfl) (zb_X12_tells_2 32 rfl) rfl
theorem dX12_tells_111 : decode cX12_tells 111 = .ok (.goto 4, 3) := dop_167 (zb_X12_tells_2 33 rfl) (zb_X12_tells_2 34 rfl) (zb_X12_tells_2 35 rfl) rfl
theorem dX12_tells_114 : decode cX12_tells 114 = .ok (.iconst 1, 1) := dop_4 (zb_X12_tells_2 36 rfl)
theorem dX12_tells_115 : decode cX12_tells 115 = .ok (.istore 8, 2) := dop_54 (zb_X12_tells_2 37 rfl) (zb_X12_tells_2 38 rfl)
theorem dX12_tells_117 : decode cX12_tells 117 = .ok (.aload_n 0, 1) := dop_42 (zb_X12_tells_2 39 rfl)
theorem ze_X12_tells_4 : (dcn cX12_tells).drop 157 = zt_X12_tells_4 := dw_n (wl := zw_X12_tells_3) ze_X12_tells_3 rfl
theorem zb_X12_tells_3 (j : Nat) {n : Nat} (e : zw_X12_tells_3[j]? = some n) : dby cX12_tells (118 + j) n := dw_b (t := zt_X12_tells_4) ze_X12_tells_3 j e
theorem dX12_tells_118 : decode cX12_tells 118 = .ok (.getfield 415, 3) := dop_180 (zb_X12_tells_3 0 rfl) (zb_X12_tells_3 1 rfl) (zb_X12_tells_3 2 rfl) rfl
theorem dX12_tells_121 : decode cX12_tells 121 = .ok (.ifCond .eq 15, 3) := dop_153 (zb_X12_tells_3 3 rfl) (zb_X12_tells_3 4 rfl) (zb_X12_tells_3 5 rfl) rfl
theorem dX12_tells_124 : decode cX12_tells 124 = .ok (.aload_n 0, 1) := dop_42 (zb_X12_tells_3 6 rfl)
theorem dX12_tells_125 : decode cX12_tells 125 = .ok (.bipush 10, 2) := dop_16 (zb_X12_tells_3 7 rfl) (zb_X12_tells_3 8 rfl) rfl
theorem dX12_tells_127 : decode cX12_tells 127 = .ok (.iload 5, 2) := dop_21 (zb_X12_tells_3 9 rfl) (zb_X12_tells_3 10 rfl)
theorem dX12_tells_129 : decode cX12_tells 129 = .ok (.iload_n 3, 1) := dop_29 (zb_X12_tells_3 11 rfl)
theorem dX12_tells_130 : decode cX12_tells 130 = .ok (.invokevirtual 421, 3) := dop_182 (zb_X12_tells_3 12 rfl) (zb_X12_tells_3 13 rfl) (zb_X12_tells_3 14 rfl) rfl
theorem dX12_tells_133 : decode cX12_tells 133 = .ok (.goto 4, 3) := dop_167 (zb_X12_tells_3 15 rfl) (zb_X12_tells_3 16 rfl) (zb_X12_tells_3 17 rfl) rfl
theorem dX12_tells_136 : decode cX12_tells 136 = .ok (.iconst 1, 1) := dop_4 (zb_X12_tells_3 18 rfl)
theorem dX12_tells_137 : decode cX12_tells 137 = .ok (.istore 9, 2) := dop_54 (zb_X12_tells_3 19 rfl) (zb_X12_tells_3 20 rfl)
theorem dX12_tells_139 : decode cX12_tells 139 = .ok (.iload 7, 2) := dop_21 (zb_X12_tells_3 21 rfl) (zb_X12_tells_3 22 rfl)
theorem dX12_tells_141 : decode cX12_tells 141 = .ok (.ifCond .lt 19, 3) := dop_155 (zb_X12_tells_3 23 rfl) (zb_X12_tells_3 24 rfl) (zb_X12_tells_3 25 rfl) rfl
theorem dX12_tells_144 : decode cX12_tells 144 = .ok (.iload 7, 2) := dop_21 (zb_X12_tells_3 26 rfl) (zb_X12_tells_3 27 rfl)
theorem dX12_tells_146 : decode cX12_tells 146 = .ok (.ifCond .ne 18, 3) := dop_154 (zb_X12_tells_3 28 rfl) (zb_X12_tells_3 29 rfl) (zb_X12_tells_3 30 rfl) rfl
theorem dX12_tells_149 : decode cX12_tells 149 = .ok (.iload_n 2, 1) := dop_28 (zb_X12_tells_3 31 rfl)
theorem dX12_tells_150 : decode cX12_tells 150 = .ok (.ifCond .ne 14, 3) := dop_154 (zb_X12_tells_3 32 rfl) (zb_X12_tells_3 33 rfl) (zb_X12_tells_3 34 rfl) rfl
theorem dX12_tells_153 : decode cX12_tells 153 = .ok (.aload_n 0, 1) := dop_42 (zb_X12_tells_3 35 rfl)
theorem dX12_tells_154 : decode cX12_tells 154 = .ok (.getfield 412, 3) := dop_180 (zb_X12_tells_3 36 rfl) (zb_X12_tells_3 37 rfl) (zb_X12_tells_3 38 rfl) rfl
theorem ze_X12_tells_5 : (dcn cX12_tells).drop 196 = zt_X12_tells_5 := dw_n (wl := zw_X12_tells_4) ze_X12_tells_4 rfl
theorem zb_X12_tells_4 (j : Nat) {n : Nat} (e : zw_X12_tells_4[j]? = some n) : dby cX12_tells (157 + j) n := dw_b (t := zt_X12_tells_5) ze_X12_tells_4 j e
theorem dX12_tells_157 : decode cX12_tells 157 = .ok (.ifCond .eq 7, 3) := dop_153 (zb_X12_tells_4 0 rfl) (zb_X12_tells_4 1 rfl) (zb_X12_tells_4 2 rfl) rfl
theorem dX12_tells_160 : decode cX12_tells 160 = .ok (.iconst 1, 1) := dop_4 (zb_X12_tells_4 3 rfl)
theorem dX12_tells_161 : decode cX12_tells 161 = .ok (.goto 4, 3) := dop_167 (zb_X12_tells_4 4 rfl) (zb_X12_tells_4 5 rfl) (zb_X12_tells_4 6 rfl) rfl
theorem dX12_tells_164 : decode cX12_tells 164 = .ok (.iconst 0, 1) := dop_3 (zb_X12_tells_4 7 rfl)
theorem dX12_tells_165 : decode cX12_tells 165 = .ok (.istore 10, 2) := dop_54 (zb_X12_tells_4 8 rfl) (zb_X12_tells_4 9 rfl)
theorem dX12_tells_167 : decode cX12_tells 167 = .ok (.iload 8, 2) := dop_21 (zb_X12_tells_4 10 rfl) (zb_X12_tells_4 11 rfl)
theorem dX12_tells_169 : decode cX12_tells 169 = .ok (.ifCond .gt 15, 3) := dop_157 (zb_X12_tells_4 12 rfl) (zb_X12_tells_4 13 rfl) (zb_X12_tells_4 14 rfl) rfl
theorem dX12_tells_172 : decode cX12_tells 172 = .ok (.iload 8, 2) := dop_21 (zb_X12_tells_4 15 rfl) (zb_X12_tells_4 16 rfl)
theorem dX12_tells_174 : decode cX12_tells 174 = .ok (.ifCond .ne 14, 3) := dop_154 (zb_X12_tells_4 17 rfl) (zb_X12_tells_4 18 rfl) (zb_X12_tells_4 19 rfl) rfl
theorem dX12_tells_177 : decode cX12_tells 177 = .ok (.aload_n 0, 1) := dop_42 (zb_X12_tells_4 20 rfl)
theorem dX12_tells_178 : decode cX12_tells 178 = .ok (.getfield 418, 3) := dop_180 (zb_X12_tells_4 21 rfl) (zb_X12_tells_4 22 rfl) (zb_X12_tells_4 23 rfl) rfl
theorem dX12_tells_181 : decode cX12_tells 181 = .ok (.ifCond .eq 7, 3) := dop_153 (zb_X12_tells_4 24 rfl) (zb_X12_tells_4 25 rfl) (zb_X12_tells_4 26 rfl) rfl
theorem dX12_tells_184 : decode cX12_tells 184 = .ok (.iconst 1, 1) := dop_4 (zb_X12_tells_4 27 rfl)
theorem dX12_tells_185 : decode cX12_tells 185 = .ok (.goto 4, 3) := dop_167 (zb_X12_tells_4 28 rfl) (zb_X12_tells_4 29 rfl) (zb_X12_tells_4 30 rfl) rfl
theorem dX12_tells_188 : decode cX12_tells 188 = .ok (.iconst 0, 1) := dop_3 (zb_X12_tells_4 31 rfl)
theorem dX12_tells_189 : decode cX12_tells 189 = .ok (.istore 11, 2) := dop_54 (zb_X12_tells_4 32 rfl) (zb_X12_tells_4 33 rfl)
theorem dX12_tells_191 : decode cX12_tells 191 = .ok (.iload 10, 2) := dop_21 (zb_X12_tells_4 34 rfl) (zb_X12_tells_4 35 rfl)
theorem dX12_tells_193 : decode cX12_tells 193 = .ok (.ifCond .eq 8, 3) := dop_153 (zb_X12_tells_4 36 rfl) (zb_X12_tells_4 37 rfl) (zb_X12_tells_4 38 rfl) rfl
theorem ze_X12_tells_6 : (dcn cX12_tells).drop 236 = zt_X12_tells_6 := dw_n (wl := zw_X12_tells_5) ze_X12_tells_5 rfl
theorem zb_X12_tells_5 (j : Nat) {n : Nat} (e : zw_X12_tells_5[j]? = some n) : dby cX12_tells (196 + j) n := dw_b (t := zt_X12_tells_6) ze_X12_tells_5 j e
theorem dX12_tells_196 : decode cX12_tells 196 = .ok (.iload 11, 2) := dop_21 (zb_X12_tells_5 0 rfl) (zb_X12_tells_5 1 rfl)
theorem dX12_tells_198 : decode cX12_tells 198 = .ok (.ifCond .ne 5, 3) := dop_154 (zb_X12_tells_5 2 rfl) (zb_X12_tells_5 3 rfl) (zb_X12_tells_5 4 rfl) rfl
theorem dX12_tells_201 : decode cX12_tells 201 = .ok (.iconst 0, 1) := dop_3 (zb_X12_tells_5 5 rfl)
theorem dX12_tells_202 : decode cX12_tells 202 = .ok (.ireturn, 1) := dop_172 (zb_X12_tells_5 6 rfl)
theorem dX12_tells_203 : decode cX12_tells 203 = .ok (.iload 6, 2) := dop_21 (zb_X12_tells_5 7 rfl) (zb_X12_tells_5 8 rfl)
theorem dX12_tells_205 : decode cX12_tells 205 = .ok (.ifCond .lt 28, 3) := dop_155 (zb_X12_tells_5 9 rfl) (zb_X12_tells_5 10 rfl) (zb_X12_tells_5 11 rfl) rfl
theorem dX12_tells_208 : decode cX12_tells 208 = .ok (.iload 9, 2) := dop_21 (zb_X12_tells_5 12 rfl) (zb_X12_tells_5 13 rfl)
theorem dX12_tells_210 : decode cX12_tells 210 = .ok (.ifCond .lt 19, 3) := dop_155 (zb_X12_tells_5 14 rfl) (zb_X12_tells_5 15 rfl) (zb_X12_tells_5 16 rfl) rfl
theorem dX12_tells_213 : decode cX12_tells 213 = .ok (.iload 9, 2) := dop_21 (zb_X12_tells_5 17 rfl) (zb_X12_tells_5 18 rfl)
theorem dX12_tells_215 : decode cX12_tells 215 = .ok (.ifCond .ne 18, 3) := dop_154 (zb_X12_tells_5 19 rfl) (zb_X12_tells_5 20 rfl) (zb_X12_tells_5 21 rfl) rfl
theorem dX12_tells_218 : decode cX12_tells 218 = .ok (.iload_n 2, 1) := dop_28 (zb_X12_tells_5 22 rfl)
theorem dX12_tells_219 : decode cX12_tells 219 = .ok (.ifCond .eq 10, 3) := dop_153 (zb_X12_tells_5 23 rfl) (zb_X12_tells_5 24 rfl) (zb_X12_tells_5 25 rfl) rfl
theorem dX12_tells_222 : decode cX12_tells 222 = .ok (.aload_n 0, 1) := dop_42 (zb_X12_tells_5 26 rfl)
theorem dX12_tells_223 : decode cX12_tells 223 = .ok (.getfield 418, 3) := dop_180 (zb_X12_tells_5 27 rfl) (zb_X12_tells_5 28 rfl) (zb_X12_tells_5 29 rfl) rfl
theorem dX12_tells_226 : decode cX12_tells 226 = .ok (.ifCond .ne 7, 3) := dop_154 (zb_X12_tells_5 30 rfl) (zb_X12_tells_5 31 rfl) (zb_X12_tells_5 32 rfl) rfl
theorem dX12_tells_229 : decode cX12_tells 229 = .ok (.iconst 1, 1) := dop_4 (zb_X12_tells_5 33 rfl)
theorem dX12_tells_230 : decode cX12_tells 230 = .ok (.goto 4, 3) := dop_167 (zb_X12_tells_5 34 rfl) (zb_X12_tells_5 35 rfl) (zb_X12_tells_5 36 rfl) rfl
theorem dX12_tells_233 : decode cX12_tells 233 = .ok (.iconst 0, 1) := dop_3 (zb_X12_tells_5 37 rfl)
theorem dX12_tells_234 : decode cX12_tells 234 = .ok (.istore 12, 2) := dop_54 (zb_X12_tells_5 38 rfl) (zb_X12_tells_5 39 rfl)
theorem zb_X12_tells_6 (j : Nat) {n : Nat} (e : zw_X12_tells_6[j]? = some n) : dby cX12_tells (236 + j) n := dw_b (t := []) ze_X12_tells_6 j e
theorem dX12_tells_236 : decode cX12_tells 236 = .ok (.iload 12, 2) := dop_21 (zb_X12_tells_6 0 rfl) (zb_X12_tells_6 1 rfl)
theorem dX12_tells_238 : decode cX12_tells 238 = .ok (.ifCond .eq 7, 3) := dop_153 (zb_X12_tells_6 2 rfl) (zb_X12_tells_6 3 rfl) (zb_X12_tells_6 4 rfl) rfl
theorem dX12_tells_241 : decode cX12_tells 241 = .ok (.iconst 1, 1) := dop_4 (zb_X12_tells_6 5 rfl)
theorem dX12_tells_242 : decode cX12_tells 242 = .ok (.goto 4, 3) := dop_167 (zb_X12_tells_6 6 rfl) (zb_X12_tells_6 7 rfl) (zb_X12_tells_6 8 rfl) rfl
theorem dX12_tells_245 : decode cX12_tells 245 = .ok (.iconst 2, 1) := dop_5 (zb_X12_tells_6 9 rfl)
theorem dX12_tells_246 : decode cX12_tells 246 = .ok (.ireturn, 1) := dop_172 (zb_X12_tells_6 10 rfl)
def zw_X12_isAsked_0 : List Nat := [27, 133, 9, 20, 1, 129, 184, 0, 143, 153, 0, 26, 28, 184, 0, 169, 153, 0, 19, 42, 27, 16, 12, 28, 96, 182, 1, 138, 153, 0, 7, 4, 167, 0, 4, 3, 172]
def zt_X12_isAsked_0 : List Nat := zw_X12_isAsked_0 ++ []
theorem ze_X12_isAsked_0 : (dcn cX12_isAsked).drop 0 = zt_X12_isAsked_0 := by decide +kernel
theorem zb_X12_isAsked_0 (j : Nat) {n : Nat} (e : zw_X12_isAsked_0[j]? = some n) : dby cX12_isAsked (0 + j) n := dw_b (t := []) ze_X12_isAsked_0 j e
theorem dX12_isAsked_0 : decode cX12_isAsked 0 = .ok (.iload_n 1, 1) := dop_27 (zb_X12_isAsked_0 0 rfl)
theorem dX12_isAsked_1 : decode cX12_isAsked 1 = .ok (.i2l, 1) := dop_133 (zb_X12_isAsked_0 1 rfl)
theorem dX12_isAsked_2 : decode cX12_isAsked 2 = .ok (.lconst 0, 1) := dop_9 (zb_X12_isAsked_0 2 rfl)
theorem dX12_isAsked_3 : decode cX12_isAsked 3 = .ok (.ldc2_w 385, 3) := dop_20 (zb_X12_isAsked_0 3 rfl) (zb_X12_isAsked_0 4 rfl) (zb_X12_isAsked_0 5 rfl) rfl
theorem dX12_isAsked_6 : decode cX12_isAsked 6 = .ok (.invokestatic 143, 3) := dop_184 (zb_X12_isAsked_0 6 rfl) (zb_X12_isAsked_0 7 rfl) (zb_X12_isAsked_0 8 rfl) rfl
theorem dX12_isAsked_9 : decode cX12_isAsked 9 = .ok (.ifCond .eq 26, 3) := dop_153 (zb_X12_isAsked_0 9 rfl) (zb_X12_isAsked_0 10 rfl) (zb_X12_isAsked_0 11 rfl) rfl
theorem dX12_isAsked_12 : decode cX12_isAsked 12 = .ok (.iload_n 2, 1) := dop_28 (zb_X12_isAsked_0 12 rfl)
theorem dX12_isAsked_13 : decode cX12_isAsked 13 = .ok (.invokestatic 169, 3) := dop_184 (zb_X12_isAsked_0 13 rfl) (zb_X12_isAsked_0 14 rfl) (zb_X12_isAsked_0 15 rfl) rfl
theorem dX12_isAsked_16 : decode cX12_isAsked 16 = .ok (.ifCond .eq 19, 3) := dop_153 (zb_X12_isAsked_0 16 rfl) (zb_X12_isAsked_0 17 rfl) (zb_X12_isAsked_0 18 rfl) rfl
theorem dX12_isAsked_19 : decode cX12_isAsked 19 = .ok (.aload_n 0, 1) := dop_42 (zb_X12_isAsked_0 19 rfl)
theorem dX12_isAsked_20 : decode cX12_isAsked 20 = .ok (.iload_n 1, 1) := dop_27 (zb_X12_isAsked_0 20 rfl)
theorem dX12_isAsked_21 : decode cX12_isAsked 21 = .ok (.bipush 12, 2) := dop_16 (zb_X12_isAsked_0 21 rfl) (zb_X12_isAsked_0 22 rfl) rfl
theorem dX12_isAsked_23 : decode cX12_isAsked 23 = .ok (.iload_n 2, 1) := dop_28 (zb_X12_isAsked_0 23 rfl)
theorem dX12_isAsked_24 : decode cX12_isAsked 24 = .ok (.iadd, 1) := dop_96 (zb_X12_isAsked_0 24 rfl)
theorem dX12_isAsked_25 : decode cX12_isAsked 25 = .ok (.invokevirtual 394, 3) := dop_182 (zb_X12_isAsked_0 25 rfl) (zb_X12_isAsked_0 26 rfl) (zb_X12_isAsked_0 27 rfl) rfl
theorem dX12_isAsked_28 : decode cX12_isAsked 28 = .ok (.ifCond .eq 7, 3) := dop_153 (zb_X12_isAsked_0 28 rfl) (zb_X12_isAsked_0 29 rfl) (zb_X12_isAsked_0 30 rfl) rfl
theorem dX12_isAsked_31 : decode cX12_isAsked 31 = .ok (.iconst 1, 1) := dop_4 (zb_X12_isAsked_0 31 rfl)
theorem dX12_isAsked_32 : decode cX12_isAsked 32 = .ok (.goto 4, 3) := dop_167 (zb_X12_isAsked_0 32 rfl) (zb_X12_isAsked_0 33 rfl) (zb_X12_isAsked_0 34 rfl) rfl
theorem dX12_isAsked_35 : decode cX12_isAsked 35 = .ok (.iconst 0, 1) := dop_3 (zb_X12_isAsked_0 35 rfl)
theorem dX12_isAsked_36 : decode cX12_isAsked 36 = .ok (.ireturn, 1) := dop_172 (zb_X12_isAsked_0 36 rfl)
def zw_X12_would_1 : List Nat := [16, 254, 172, 42, 27, 28, 182, 1, 172, 42, 29, 21, 4, 182, 1, 175, 172]
def zt_X12_would_1 : List Nat := zw_X12_would_1 ++ []
def zw_X12_would_0 : List Nat := [42, 3, 181, 0, 133, 29, 133, 10, 20, 0, 180, 184, 0, 143, 153, 0, 25, 21, 4, 133, 9, 20, 0, 182, 184, 0, 143, 153, 0, 12, 42, 27, 28, 182, 1, 169, 154, 0, 6]
def zt_X12_would_0 : List Nat := zw_X12_would_0 ++ zt_X12_would_1
theorem ze_X12_would_0 : (dcn cX12_would).drop 0 = zt_X12_would_0 := by decide +kernel
theorem ze_X12_would_1 : (dcn cX12_would).drop 39 = zt_X12_would_1 := dw_n (wl := zw_X12_would_0) ze_X12_would_0 rfl
theorem zb_X12_would_0 (j : Nat) {n : Nat} (e : zw_X12_would_0[j]? = some n) : dby cX12_would (0 + j) n := dw_b (t := zt_X12_would_1) ze_X12_would_0 j e
theorem dX12_would_0 : decode cX12_would 0 = .ok (.aload_n 0, 1) := dop_42 (zb_X12_would_0 0 rfl)
theorem dX12_would_1 : decode cX12_would 1 = .ok (.iconst 0, 1) := dop_3 (zb_X12_would_0 1 rfl)
theorem dX12_would_2 : decode cX12_would 2 = .ok (.putfield 133, 3) := dop_181 (zb_X12_would_0 2 rfl) (zb_X12_would_0 3 rfl) (zb_X12_would_0 4 rfl) rfl
theorem dX12_would_5 : decode cX12_would 5 = .ok (.iload_n 3, 1) := dop_29 (zb_X12_would_0 5 rfl)
theorem dX12_would_6 : decode cX12_would 6 = .ok (.i2l, 1) := dop_133 (zb_X12_would_0 6 rfl)
theorem dX12_would_7 : decode cX12_would 7 = .ok (.lconst 1, 1) := dop_10 (zb_X12_would_0 7 rfl)
theorem dX12_would_8 : decode cX12_would 8 = .ok (.ldc2_w 180, 3) := dop_20 (zb_X12_would_0 8 rfl) (zb_X12_would_0 9 rfl) (zb_X12_would_0 10 rfl) rfl
theorem dX12_would_11 : decode cX12_would 11 = .ok (.invokestatic 143, 3) := dop_184 (zb_X12_would_0 11 rfl) (zb_X12_would_0 12 rfl) (zb_X12_would_0 13 rfl) rfl
theorem dX12_would_14 : decode cX12_would 14 = .ok (.ifCond .eq 25, 3) := dop_153 (zb_X12_would_0 14 rfl) (zb_X12_would_0 15 rfl) (zb_X12_would_0 16 rfl) rfl
theorem dX12_would_17 : decode cX12_would 17 = .ok (.iload 4, 2) := dop_21 (zb_X12_would_0 17 rfl) (zb_X12_would_0 18 rfl)
theorem dX12_would_19 : decode cX12_would 19 = .ok (.i2l, 1) := dop_133 (zb_X12_would_0 19 rfl)
theorem dX12_would_20 : decode cX12_would 20 = .ok (.lconst 0, 1) := dop_9 (zb_X12_would_0 20 rfl)
theorem dX12_would_21 : decode cX12_would 21 = .ok (.ldc2_w 182, 3) := dop_20 (zb_X12_would_0 21 rfl) (zb_X12_would_0 22 rfl) (zb_X12_would_0 23 rfl) rfl
theorem dX12_would_24 : decode cX12_would 24 = .ok (.invokestatic 143, 3) := dop_184 (zb_X12_would_0 24 rfl) (zb_X12_would_0 25 rfl) (zb_X12_would_0 26 rfl) rfl
theorem dX12_would_27 : decode cX12_would 27 = .ok (.ifCond .eq 12, 3) := dop_153 (zb_X12_would_0 27 rfl) (zb_X12_would_0 28 rfl) (zb_X12_would_0 29 rfl) rfl
theorem dX12_would_30 : decode cX12_would 30 = .ok (.aload_n 0, 1) := dop_42 (zb_X12_would_0 30 rfl)
theorem dX12_would_31 : decode cX12_would 31 = .ok (.iload_n 1, 1) := dop_27 (zb_X12_would_0 31 rfl)
theorem dX12_would_32 : decode cX12_would 32 = .ok (.iload_n 2, 1) := dop_28 (zb_X12_would_0 32 rfl)
theorem dX12_would_33 : decode cX12_would 33 = .ok (.invokevirtual 425, 3) := dop_182 (zb_X12_would_0 33 rfl) (zb_X12_would_0 34 rfl) (zb_X12_would_0 35 rfl) rfl
theorem dX12_would_36 : decode cX12_would 36 = .ok (.ifCond .ne 6, 3) := dop_154 (zb_X12_would_0 36 rfl) (zb_X12_would_0 37 rfl) (zb_X12_would_0 38 rfl) rfl
theorem zb_X12_would_1 (j : Nat) {n : Nat} (e : zw_X12_would_1[j]? = some n) : dby cX12_would (39 + j) n := dw_b (t := []) ze_X12_would_1 j e
theorem dX12_would_39 : decode cX12_would 39 = .ok (.bipush (-2), 2) := dop_16 (zb_X12_would_1 0 rfl) (zb_X12_would_1 1 rfl) rfl
theorem dX12_would_41 : decode cX12_would 41 = .ok (.ireturn, 1) := dop_172 (zb_X12_would_1 2 rfl)
theorem dX12_would_42 : decode cX12_would 42 = .ok (.aload_n 0, 1) := dop_42 (zb_X12_would_1 3 rfl)
theorem dX12_would_43 : decode cX12_would 43 = .ok (.iload_n 1, 1) := dop_27 (zb_X12_would_1 4 rfl)
theorem dX12_would_44 : decode cX12_would 44 = .ok (.iload_n 2, 1) := dop_28 (zb_X12_would_1 5 rfl)
theorem dX12_would_45 : decode cX12_would 45 = .ok (.invokevirtual 428, 3) := dop_182 (zb_X12_would_1 6 rfl) (zb_X12_would_1 7 rfl) (zb_X12_would_1 8 rfl) rfl
theorem dX12_would_48 : decode cX12_would 48 = .ok (.aload_n 0, 1) := dop_42 (zb_X12_would_1 9 rfl)
theorem dX12_would_49 : decode cX12_would 49 = .ok (.iload_n 3, 1) := dop_29 (zb_X12_would_1 10 rfl)
theorem dX12_would_50 : decode cX12_would 50 = .ok (.iload 4, 2) := dop_21 (zb_X12_would_1 11 rfl) (zb_X12_would_1 12 rfl)
theorem dX12_would_52 : decode cX12_would 52 = .ok (.invokevirtual 431, 3) := dop_182 (zb_X12_would_1 13 rfl) (zb_X12_would_1 14 rfl) (zb_X12_would_1 15 rfl) rfl
theorem dX12_would_55 : decode cX12_would 55 = .ok (.ireturn, 1) := dop_172 (zb_X12_would_1 16 rfl)
def zw_X12_numbersOf_0 : List Nat := [3, 61, 4, 62, 29, 16, 100, 162, 0, 26, 28, 42, 29, 27, 182, 1, 175, 158, 0, 7, 4, 167, 0, 4, 3, 96, 61, 132, 3, 1, 167, 255, 230, 28, 172]
def zt_X12_numbersOf_0 : List Nat := zw_X12_numbersOf_0 ++ []
theorem ze_X12_numbersOf_0 : (dcn cX12_numbersOf).drop 0 = zt_X12_numbersOf_0 := by decide +kernel
theorem zb_X12_numbersOf_0 (j : Nat) {n : Nat} (e : zw_X12_numbersOf_0[j]? = some n) : dby cX12_numbersOf (0 + j) n := dw_b (t := []) ze_X12_numbersOf_0 j e
theorem dX12_numbersOf_0 : decode cX12_numbersOf 0 = .ok (.iconst 0, 1) := dop_3 (zb_X12_numbersOf_0 0 rfl)
theorem dX12_numbersOf_1 : decode cX12_numbersOf 1 = .ok (.istore_n 2, 1) := dop_61 (zb_X12_numbersOf_0 1 rfl)
theorem dX12_numbersOf_2 : decode cX12_numbersOf 2 = .ok (.iconst 1, 1) := dop_4 (zb_X12_numbersOf_0 2 rfl)
theorem dX12_numbersOf_3 : decode cX12_numbersOf 3 = .ok (.istore_n 3, 1) := dop_62 (zb_X12_numbersOf_0 3 rfl)
theorem dX12_numbersOf_4 : decode cX12_numbersOf 4 = .ok (.iload_n 3, 1) := dop_29 (zb_X12_numbersOf_0 4 rfl)
theorem dX12_numbersOf_5 : decode cX12_numbersOf 5 = .ok (.bipush 100, 2) := dop_16 (zb_X12_numbersOf_0 5 rfl) (zb_X12_numbersOf_0 6 rfl) rfl
theorem dX12_numbersOf_7 : decode cX12_numbersOf 7 = .ok (.if_icmp .ge 26, 3) := dop_162 (zb_X12_numbersOf_0 7 rfl) (zb_X12_numbersOf_0 8 rfl) (zb_X12_numbersOf_0 9 rfl) rfl
theorem dX12_numbersOf_10 : decode cX12_numbersOf 10 = .ok (.iload_n 2, 1) := dop_28 (zb_X12_numbersOf_0 10 rfl)
theorem dX12_numbersOf_11 : decode cX12_numbersOf 11 = .ok (.aload_n 0, 1) := dop_42 (zb_X12_numbersOf_0 11 rfl)
theorem dX12_numbersOf_12 : decode cX12_numbersOf 12 = .ok (.iload_n 3, 1) := dop_29 (zb_X12_numbersOf_0 12 rfl)
theorem dX12_numbersOf_13 : decode cX12_numbersOf 13 = .ok (.iload_n 1, 1) := dop_27 (zb_X12_numbersOf_0 13 rfl)
theorem dX12_numbersOf_14 : decode cX12_numbersOf 14 = .ok (.invokevirtual 431, 3) := dop_182 (zb_X12_numbersOf_0 14 rfl) (zb_X12_numbersOf_0 15 rfl) (zb_X12_numbersOf_0 16 rfl) rfl
theorem dX12_numbersOf_17 : decode cX12_numbersOf 17 = .ok (.ifCond .le 7, 3) := dop_158 (zb_X12_numbersOf_0 17 rfl) (zb_X12_numbersOf_0 18 rfl) (zb_X12_numbersOf_0 19 rfl) rfl
theorem dX12_numbersOf_20 : decode cX12_numbersOf 20 = .ok (.iconst 1, 1) := dop_4 (zb_X12_numbersOf_0 20 rfl)
theorem dX12_numbersOf_21 : decode cX12_numbersOf 21 = .ok (.goto 4, 3) := dop_167 (zb_X12_numbersOf_0 21 rfl) (zb_X12_numbersOf_0 22 rfl) (zb_X12_numbersOf_0 23 rfl) rfl
theorem dX12_numbersOf_24 : decode cX12_numbersOf 24 = .ok (.iconst 0, 1) := dop_3 (zb_X12_numbersOf_0 24 rfl)
theorem dX12_numbersOf_25 : decode cX12_numbersOf 25 = .ok (.iadd, 1) := dop_96 (zb_X12_numbersOf_0 25 rfl)
theorem dX12_numbersOf_26 : decode cX12_numbersOf 26 = .ok (.istore_n 2, 1) := dop_61 (zb_X12_numbersOf_0 26 rfl)
theorem dX12_numbersOf_27 : decode cX12_numbersOf 27 = .ok (.iinc 3 1, 3) := dop_132 (zb_X12_numbersOf_0 27 rfl) (zb_X12_numbersOf_0 28 rfl) (zb_X12_numbersOf_0 29 rfl) rfl
theorem dX12_numbersOf_30 : decode cX12_numbersOf 30 = .ok (.goto (-26), 3) := dop_167 (zb_X12_numbersOf_0 30 rfl) (zb_X12_numbersOf_0 31 rfl) (zb_X12_numbersOf_0 32 rfl) rfl
theorem dX12_numbersOf_33 : decode cX12_numbersOf 33 = .ok (.iload_n 2, 1) := dop_28 (zb_X12_numbersOf_0 33 rfl)
theorem dX12_numbersOf_34 : decode cX12_numbersOf 34 = .ok (.ireturn, 1) := dop_172 (zb_X12_numbersOf_0 34 rfl)
def zw_X12_numbers_2 : List Nat := [16, 100, 21, 6, 100, 167, 0, 5, 21, 6, 54, 7, 42, 21, 7, 29, 182, 1, 175, 158, 0, 8, 21, 7, 167, 0, 5, 21, 5, 54, 5, 132, 6, 1, 167, 255, 209, 21, 5, 172]
def zt_X12_numbers_2 : List Nat := zw_X12_numbers_2 ++ []
def zw_X12_numbers_1 : List Nat := [16, 254, 172, 42, 27, 28, 182, 1, 172, 21, 4, 154, 0, 9, 42, 29, 182, 1, 178, 172, 2, 54, 5, 4, 54, 6, 21, 6, 16, 100, 162, 0, 46, 21, 4, 4, 160, 0, 11]
def zt_X12_numbers_1 : List Nat := zw_X12_numbers_1 ++ zt_X12_numbers_2
def zw_X12_numbers_0 : List Nat := [42, 3, 181, 0, 133, 29, 133, 9, 20, 0, 182, 184, 0, 143, 153, 0, 25, 21, 4, 133, 9, 20, 0, 182, 184, 0, 143, 153, 0, 12, 42, 27, 28, 182, 1, 169, 154, 0, 6]
def zt_X12_numbers_0 : List Nat := zw_X12_numbers_0 ++ zt_X12_numbers_1
theorem ze_X12_numbers_0 : (dcn cX12_numbers).drop 0 = zt_X12_numbers_0 := by decide +kernel
theorem ze_X12_numbers_1 : (dcn cX12_numbers).drop 39 = zt_X12_numbers_1 := dw_n (wl := zw_X12_numbers_0) ze_X12_numbers_0 rfl
theorem zb_X12_numbers_0 (j : Nat) {n : Nat} (e : zw_X12_numbers_0[j]? = some n) : dby cX12_numbers (0 + j) n := dw_b (t := zt_X12_numbers_1) ze_X12_numbers_0 j e
theorem dX12_numbers_0 : decode cX12_numbers 0 = .ok (.aload_n 0, 1) := dop_42 (zb_X12_numbers_0 0 rfl)
theorem dX12_numbers_1 : decode cX12_numbers 1 = .ok (.iconst 0, 1) := dop_3 (zb_X12_numbers_0 1 rfl)
theorem dX12_numbers_2 : decode cX12_numbers 2 = .ok (.putfield 133, 3) := dop_181 (zb_X12_numbers_0 2 rfl) (zb_X12_numbers_0 3 rfl) (zb_X12_numbers_0 4 rfl) rfl
theorem dX12_numbers_5 : decode cX12_numbers 5 = .ok (.iload_n 3, 1) := dop_29 (zb_X12_numbers_0 5 rfl)
theorem dX12_numbers_6 : decode cX12_numbers 6 = .ok (.i2l, 1) := dop_133 (zb_X12_numbers_0 6 rfl)
theorem dX12_numbers_7 : decode cX12_numbers 7 = .ok (.lconst 0, 1) := dop_9 (zb_X12_numbers_0 7 rfl)
theorem dX12_numbers_8 : decode cX12_numbers 8 = .ok (.ldc2_w 182, 3) := dop_20 (zb_X12_numbers_0 8 rfl) (zb_X12_numbers_0 9 rfl) (zb_X12_numbers_0 10 rfl) rfl
theorem dX12_numbers_11 : decode cX12_numbers 11 = .ok (.invokestatic 143, 3) := dop_184 (zb_X12_numbers_0 11 rfl) (zb_X12_numbers_0 12 rfl) (zb_X12_numbers_0 13 rfl) rfl
theorem dX12_numbers_14 : decode cX12_numbers 14 = .ok (.ifCond .eq 25, 3) := dop_153 (zb_X12_numbers_0 14 rfl) (zb_X12_numbers_0 15 rfl) (zb_X12_numbers_0 16 rfl) rfl
theorem dX12_numbers_17 : decode cX12_numbers 17 = .ok (.iload 4, 2) := dop_21 (zb_X12_numbers_0 17 rfl) (zb_X12_numbers_0 18 rfl)
theorem dX12_numbers_19 : decode cX12_numbers 19 = .ok (.i2l, 1) := dop_133 (zb_X12_numbers_0 19 rfl)
theorem dX12_numbers_20 : decode cX12_numbers 20 = .ok (.lconst 0, 1) := dop_9 (zb_X12_numbers_0 20 rfl)
theorem dX12_numbers_21 : decode cX12_numbers 21 = .ok (.ldc2_w 182, 3) := dop_20 (zb_X12_numbers_0 21 rfl) (zb_X12_numbers_0 22 rfl) (zb_X12_numbers_0 23 rfl) rfl
theorem dX12_numbers_24 : decode cX12_numbers 24 = .ok (.invokestatic 143, 3) := dop_184 (zb_X12_numbers_0 24 rfl) (zb_X12_numbers_0 25 rfl) (zb_X12_numbers_0 26 rfl) rfl
theorem dX12_numbers_27 : decode cX12_numbers 27 = .ok (.ifCond .eq 12, 3) := dop_153 (zb_X12_numbers_0 27 rfl) (zb_X12_numbers_0 28 rfl) (zb_X12_numbers_0 29 rfl) rfl
theorem dX12_numbers_30 : decode cX12_numbers 30 = .ok (.aload_n 0, 1) := dop_42 (zb_X12_numbers_0 30 rfl)
theorem dX12_numbers_31 : decode cX12_numbers 31 = .ok (.iload_n 1, 1) := dop_27 (zb_X12_numbers_0 31 rfl)
theorem dX12_numbers_32 : decode cX12_numbers 32 = .ok (.iload_n 2, 1) := dop_28 (zb_X12_numbers_0 32 rfl)
theorem dX12_numbers_33 : decode cX12_numbers 33 = .ok (.invokevirtual 425, 3) := dop_182 (zb_X12_numbers_0 33 rfl) (zb_X12_numbers_0 34 rfl) (zb_X12_numbers_0 35 rfl) rfl
theorem dX12_numbers_36 : decode cX12_numbers 36 = .ok (.ifCond .ne 6, 3) := dop_154 (zb_X12_numbers_0 36 rfl) (zb_X12_numbers_0 37 rfl) (zb_X12_numbers_0 38 rfl) rfl
theorem ze_X12_numbers_2 : (dcn cX12_numbers).drop 78 = zt_X12_numbers_2 := dw_n (wl := zw_X12_numbers_1) ze_X12_numbers_1 rfl
theorem zb_X12_numbers_1 (j : Nat) {n : Nat} (e : zw_X12_numbers_1[j]? = some n) : dby cX12_numbers (39 + j) n := dw_b (t := zt_X12_numbers_2) ze_X12_numbers_1 j e
theorem dX12_numbers_39 : decode cX12_numbers 39 = .ok (.bipush (-2), 2) := dop_16 (zb_X12_numbers_1 0 rfl) (zb_X12_numbers_1 1 rfl) rfl
theorem dX12_numbers_41 : decode cX12_numbers 41 = .ok (.ireturn, 1) := dop_172 (zb_X12_numbers_1 2 rfl)
theorem dX12_numbers_42 : decode cX12_numbers 42 = .ok (.aload_n 0, 1) := dop_42 (zb_X12_numbers_1 3 rfl)
theorem dX12_numbers_43 : decode cX12_numbers 43 = .ok (.iload_n 1, 1) := dop_27 (zb_X12_numbers_1 4 rfl)
theorem dX12_numbers_44 : decode cX12_numbers 44 = .ok (.iload_n 2, 1) := dop_28 (zb_X12_numbers_1 5 rfl)
theorem dX12_numbers_45 : decode cX12_numbers 45 = .ok (.invokevirtual 428, 3) := dop_182 (zb_X12_numbers_1 6 rfl) (zb_X12_numbers_1 7 rfl) (zb_X12_numbers_1 8 rfl) rfl
theorem dX12_numbers_48 : decode cX12_numbers 48 = .ok (.iload 4, 2) := dop_21 (zb_X12_numbers_1 9 rfl) (zb_X12_numbers_1 10 rfl)
theorem dX12_numbers_50 : decode cX12_numbers 50 = .ok (.ifCond .ne 9, 3) := dop_154 (zb_X12_numbers_1 11 rfl) (zb_X12_numbers_1 12 rfl) (zb_X12_numbers_1 13 rfl) rfl
theorem dX12_numbers_53 : decode cX12_numbers 53 = .ok (.aload_n 0, 1) := dop_42 (zb_X12_numbers_1 14 rfl)
theorem dX12_numbers_54 : decode cX12_numbers 54 = .ok (.iload_n 3, 1) := dop_29 (zb_X12_numbers_1 15 rfl)
theorem dX12_numbers_55 : decode cX12_numbers 55 = .ok (.invokevirtual 434, 3) := dop_182 (zb_X12_numbers_1 16 rfl) (zb_X12_numbers_1 17 rfl) (zb_X12_numbers_1 18 rfl) rfl
theorem dX12_numbers_58 : decode cX12_numbers 58 = .ok (.ireturn, 1) := dop_172 (zb_X12_numbers_1 19 rfl)
theorem dX12_numbers_59 : decode cX12_numbers 59 = .ok (.iconst (-1), 1) := dop_2 (zb_X12_numbers_1 20 rfl)
theorem dX12_numbers_60 : decode cX12_numbers 60 = .ok (.istore 5, 2) := dop_54 (zb_X12_numbers_1 21 rfl) (zb_X12_numbers_1 22 rfl)
theorem dX12_numbers_62 : decode cX12_numbers 62 = .ok (.iconst 1, 1) := dop_4 (zb_X12_numbers_1 23 rfl)
theorem dX12_numbers_63 : decode cX12_numbers 63 = .ok (.istore 6, 2) := dop_54 (zb_X12_numbers_1 24 rfl) (zb_X12_numbers_1 25 rfl)
theorem dX12_numbers_65 : decode cX12_numbers 65 = .ok (.iload 6, 2) := dop_21 (zb_X12_numbers_1 26 rfl) (zb_X12_numbers_1 27 rfl)
theorem dX12_numbers_67 : decode cX12_numbers 67 = .ok (.bipush 100, 2) := dop_16 (zb_X12_numbers_1 28 rfl) (zb_X12_numbers_1 29 rfl) rfl
theorem dX12_numbers_69 : decode cX12_numbers 69 = .ok (.if_icmp .ge 46, 3) := dop_162 (zb_X12_numbers_1 30 rfl) (zb_X12_numbers_1 31 rfl) (zb_X12_numbers_1 32 rfl) rfl
theorem dX12_numbers_72 : decode cX12_numbers 72 = .ok (.iload 4, 2) := dop_21 (zb_X12_numbers_1 33 rfl) (zb_X12_numbers_1 34 rfl)
theorem dX12_numbers_74 : decode cX12_numbers 74 = .ok (.iconst 1, 1) := dop_4 (zb_X12_numbers_1 35 rfl)
theorem dX12_numbers_75 : decode cX12_numbers 75 = .ok (.if_icmp .ne 11, 3) := dop_160 (zb_X12_numbers_1 36 rfl) (zb_X12_numbers_1 37 rfl) (zb_X12_numbers_1 38 rfl) rfl
theorem zb_X12_numbers_2 (j : Nat) {n : Nat} (e : zw_X12_numbers_2[j]? = some n) : dby cX12_numbers (78 + j) n := dw_b (t := []) ze_X12_numbers_2 j e
theorem dX12_numbers_78 : decode cX12_numbers 78 = .ok (.bipush 100, 2) := dop_16 (zb_X12_numbers_2 0 rfl) (zb_X12_numbers_2 1 rfl) rfl
theorem dX12_numbers_80 : decode cX12_numbers 80 = .ok (.iload 6, 2) := dop_21 (zb_X12_numbers_2 2 rfl) (zb_X12_numbers_2 3 rfl)
theorem dX12_numbers_82 : decode cX12_numbers 82 = .ok (.isub, 1) := dop_100 (zb_X12_numbers_2 4 rfl)
theorem dX12_numbers_83 : decode cX12_numbers 83 = .ok (.goto 5, 3) := dop_167 (zb_X12_numbers_2 5 rfl) (zb_X12_numbers_2 6 rfl) (zb_X12_numbers_2 7 rfl) rfl
theorem dX12_numbers_86 : decode cX12_numbers 86 = .ok (.iload 6, 2) := dop_21 (zb_X12_numbers_2 8 rfl) (zb_X12_numbers_2 9 rfl)
theorem dX12_numbers_88 : decode cX12_numbers 88 = .ok (.istore 7, 2) := dop_54 (zb_X12_numbers_2 10 rfl) (zb_X12_numbers_2 11 rfl)
theorem dX12_numbers_90 : decode cX12_numbers 90 = .ok (.aload_n 0, 1) := dop_42 (zb_X12_numbers_2 12 rfl)
theorem dX12_numbers_91 : decode cX12_numbers 91 = .ok (.iload 7, 2) := dop_21 (zb_X12_numbers_2 13 rfl) (zb_X12_numbers_2 14 rfl)
theorem dX12_numbers_93 : decode cX12_numbers 93 = .ok (.iload_n 3, 1) := dop_29 (zb_X12_numbers_2 15 rfl)
theorem dX12_numbers_94 : decode cX12_numbers 94 = .ok (.invokevirtual 431, 3) := dop_182 (zb_X12_numbers_2 16 rfl) (zb_X12_numbers_2 17 rfl) (zb_X12_numbers_2 18 rfl) rfl
theorem dX12_numbers_97 : decode cX12_numbers 97 = .ok (.ifCond .le 8, 3) := dop_158 (zb_X12_numbers_2 19 rfl) (zb_X12_numbers_2 20 rfl) (zb_X12_numbers_2 21 rfl) rfl
theorem dX12_numbers_100 : decode cX12_numbers 100 = .ok (.iload 7, 2) := dop_21 (zb_X12_numbers_2 22 rfl) (zb_X12_numbers_2 23 rfl)
theorem dX12_numbers_102 : decode cX12_numbers 102 = .ok (.goto 5, 3) := dop_167 (zb_X12_numbers_2 24 rfl) (zb_X12_numbers_2 25 rfl) (zb_X12_numbers_2 26 rfl) rfl
theorem dX12_numbers_105 : decode cX12_numbers 105 = .ok (.iload 5, 2) := dop_21 (zb_X12_numbers_2 27 rfl) (zb_X12_numbers_2 28 rfl)
theorem dX12_numbers_107 : decode cX12_numbers 107 = .ok (.istore 5, 2) := dop_54 (zb_X12_numbers_2 29 rfl) (zb_X12_numbers_2 30 rfl)
theorem dX12_numbers_109 : decode cX12_numbers 109 = .ok (.iinc 6 1, 3) := dop_132 (zb_X12_numbers_2 31 rfl) (zb_X12_numbers_2 32 rfl) (zb_X12_numbers_2 33 rfl) rfl
theorem dX12_numbers_112 : decode cX12_numbers 112 = .ok (.goto (-47), 3) := dop_167 (zb_X12_numbers_2 34 rfl) (zb_X12_numbers_2 35 rfl) (zb_X12_numbers_2 36 rfl) rfl
theorem dX12_numbers_115 : decode cX12_numbers 115 = .ok (.iload 5, 2) := dop_21 (zb_X12_numbers_2 37 rfl) (zb_X12_numbers_2 38 rfl)
theorem dX12_numbers_117 : decode cX12_numbers 117 = .ok (.ireturn, 1) := dop_172 (zb_X12_numbers_2 39 rfl)
def zw_X12_ask_3 : List Nat := [28, 7, 108, 167, 0, 15, 27, 4, 160, 0, 9, 28, 7, 112, 167, 0, 4, 29, 172]
def zt_X12_ask_3 : List Nat := zw_X12_ask_3 ++ []
def zw_X12_ask_2 : List Nat := [21, 4, 104, 21, 5, 96, 167, 0, 4, 28, 61, 21, 6, 29, 164, 0, 8, 21, 6, 167, 0, 4, 29, 62, 132, 5, 1, 167, 255, 192, 132, 4, 1, 167, 255, 176, 27, 154, 0, 9]
def zt_X12_ask_2 : List Nat := zw_X12_ask_2 ++ zt_X12_ask_3
def zw_X12_ask_1 : List Nat := [3, 54, 5, 21, 5, 7, 162, 0, 64, 42, 21, 4, 182, 1, 135, 153, 0, 55, 42, 21, 4, 21, 5, 182, 1, 172, 42, 4, 182, 1, 178, 54, 6, 21, 6, 29, 164, 0, 13, 7]
def zt_X12_ask_1 : List Nat := zw_X12_ask_1 ++ zt_X12_ask_2
def zw_X12_ask_0 : List Nat := [42, 3, 181, 0, 133, 27, 133, 9, 20, 0, 182, 184, 0, 143, 153, 0, 10, 42, 182, 1, 121, 154, 0, 5, 2, 172, 2, 61, 2, 62, 3, 54, 4, 21, 4, 16, 12, 162, 0, 79]
def zt_X12_ask_0 : List Nat := zw_X12_ask_0 ++ zt_X12_ask_1
theorem ze_X12_ask_0 : (dcn cX12_ask).drop 0 = zt_X12_ask_0 := by decide +kernel
theorem ze_X12_ask_1 : (dcn cX12_ask).drop 40 = zt_X12_ask_1 := dw_n (wl := zw_X12_ask_0) ze_X12_ask_0 rfl
theorem zb_X12_ask_0 (j : Nat) {n : Nat} (e : zw_X12_ask_0[j]? = some n) : dby cX12_ask (0 + j) n := dw_b (t := zt_X12_ask_1) ze_X12_ask_0 j e
theorem dX12_ask_0 : decode cX12_ask 0 = .ok (.aload_n 0, 1) := dop_42 (zb_X12_ask_0 0 rfl)
theorem dX12_ask_1 : decode cX12_ask 1 = .ok (.iconst 0, 1) := dop_3 (zb_X12_ask_0 1 rfl)
theorem dX12_ask_2 : decode cX12_ask 2 = .ok (.putfield 133, 3) := dop_181 (zb_X12_ask_0 2 rfl) (zb_X12_ask_0 3 rfl) (zb_X12_ask_0 4 rfl) rfl
theorem dX12_ask_5 : decode cX12_ask 5 = .ok (.iload_n 1, 1) := dop_27 (zb_X12_ask_0 5 rfl)
theorem dX12_ask_6 : decode cX12_ask 6 = .ok (.i2l, 1) := dop_133 (zb_X12_ask_0 6 rfl)
theorem dX12_ask_7 : decode cX12_ask 7 = .ok (.lconst 0, 1) := dop_9 (zb_X12_ask_0 7 rfl)
theorem dX12_ask_8 : decode cX12_ask 8 = .ok (.ldc2_w 182, 3) := dop_20 (zb_X12_ask_0 8 rfl) (zb_X12_ask_0 9 rfl) (zb_X12_ask_0 10 rfl) rfl
theorem dX12_ask_11 : decode cX12_ask 11 = .ok (.invokestatic 143, 3) := dop_184 (zb_X12_ask_0 11 rfl) (zb_X12_ask_0 12 rfl) (zb_X12_ask_0 13 rfl) rfl
theorem dX12_ask_14 : decode cX12_ask 14 = .ok (.ifCond .eq 10, 3) := dop_153 (zb_X12_ask_0 14 rfl) (zb_X12_ask_0 15 rfl) (zb_X12_ask_0 16 rfl) rfl
theorem dX12_ask_17 : decode cX12_ask 17 = .ok (.aload_n 0, 1) := dop_42 (zb_X12_ask_0 17 rfl)
theorem dX12_ask_18 : decode cX12_ask 18 = .ok (.invokevirtual 377, 3) := dop_182 (zb_X12_ask_0 18 rfl) (zb_X12_ask_0 19 rfl) (zb_X12_ask_0 20 rfl) rfl
theorem dX12_ask_21 : decode cX12_ask 21 = .ok (.ifCond .ne 5, 3) := dop_154 (zb_X12_ask_0 21 rfl) (zb_X12_ask_0 22 rfl) (zb_X12_ask_0 23 rfl) rfl
theorem dX12_ask_24 : decode cX12_ask 24 = .ok (.iconst (-1), 1) := dop_2 (zb_X12_ask_0 24 rfl)
theorem dX12_ask_25 : decode cX12_ask 25 = .ok (.ireturn, 1) := dop_172 (zb_X12_ask_0 25 rfl)
theorem dX12_ask_26 : decode cX12_ask 26 = .ok (.iconst (-1), 1) := dop_2 (zb_X12_ask_0 26 rfl)
theorem dX12_ask_27 : decode cX12_ask 27 = .ok (.istore_n 2, 1) := dop_61 (zb_X12_ask_0 27 rfl)
theorem dX12_ask_28 : decode cX12_ask 28 = .ok (.iconst (-1), 1) := dop_2 (zb_X12_ask_0 28 rfl)
theorem dX12_ask_29 : decode cX12_ask 29 = .ok (.istore_n 3, 1) := dop_62 (zb_X12_ask_0 29 rfl)
theorem dX12_ask_30 : decode cX12_ask 30 = .ok (.iconst 0, 1) := dop_3 (zb_X12_ask_0 30 rfl)
theorem dX12_ask_31 : decode cX12_ask 31 = .ok (.istore 4, 2) := dop_54 (zb_X12_ask_0 31 rfl) (zb_X12_ask_0 32 rfl)
theorem dX12_ask_33 : decode cX12_ask 33 = .ok (.iload 4, 2) := dop_21 (zb_X12_ask_0 33 rfl) (zb_X12_ask_0 34 rfl)
theorem dX12_ask_35 : decode cX12_ask 35 = .ok (.bipush 12, 2) := dop_16 (zb_X12_ask_0 35 rfl) (zb_X12_ask_0 36 rfl) rfl
theorem dX12_ask_37 : decode cX12_ask 37 = .ok (.if_icmp .ge 79, 3) := dop_162 (zb_X12_ask_0 37 rfl) (zb_X12_ask_0 38 rfl) (zb_X12_ask_0 39 rfl) rfl
theorem ze_X12_ask_2 : (dcn cX12_ask).drop 80 = zt_X12_ask_2 := dw_n (wl := zw_X12_ask_1) ze_X12_ask_1 rfl
theorem zb_X12_ask_1 (j : Nat) {n : Nat} (e : zw_X12_ask_1[j]? = some n) : dby cX12_ask (40 + j) n := dw_b (t := zt_X12_ask_2) ze_X12_ask_1 j e
theorem dX12_ask_40 : decode cX12_ask 40 = .ok (.iconst 0, 1) := dop_3 (zb_X12_ask_1 0 rfl)
theorem dX12_ask_41 : decode cX12_ask 41 = .ok (.istore 5, 2) := dop_54 (zb_X12_ask_1 1 rfl) (zb_X12_ask_1 2 rfl)
theorem dX12_ask_43 : decode cX12_ask 43 = .ok (.iload 5, 2) := dop_21 (zb_X12_ask_1 3 rfl) (zb_X12_ask_1 4 rfl)
theorem dX12_ask_45 : decode cX12_ask 45 = .ok (.iconst 4, 1) := dop_7 (zb_X12_ask_1 5 rfl)
theorem dX12_ask_46 : decode cX12_ask 46 = .ok (.if_icmp .ge 64, 3) := dop_162 (zb_X12_ask_1 6 rfl) (zb_X12_ask_1 7 rfl) (zb_X12_ask_1 8 rfl) rfl
theorem dX12_ask_49 : decode cX12_ask 49 = .ok (.aload_n 0, 1) := dop_42 (zb_X12_ask_1 9 rfl)
theorem dX12_ask_50 : decode cX12_ask 50 = .ok (.iload 4, 2) := dop_21 (zb_X12_ask_1 10 rfl) (zb_X12_ask_1 11 rfl)
theorem dX12_ask_52 : decode cX12_ask 52 = .ok (.invokevirtual 391, 3) := dop_182 (zb_X12_ask_1 12 rfl) (zb_X12_ask_1 13 rfl) (zb_X12_ask_1 14 rfl) rfl
theorem dX12_ask_55 : decode cX12_ask 55 = .ok (.ifCond .eq 55, 3) := dop_153 (zb_X12_ask_1 15 rfl) (zb_X12_ask_1 16 rfl) (zb_X12_ask_1 17 rfl) rfl
theorem dX12_ask_58 : decode cX12_ask 58 = .ok (.aload_n 0, 1) := dop_42 (zb_X12_ask_1 18 rfl)
theorem dX12_ask_59 : decode cX12_ask 59 = .ok (.iload 4, 2) := dop_21 (zb_X12_ask_1 19 rfl) (zb_X12_ask_1 20 rfl)
theorem dX12_ask_61 : decode cX12_ask 61 = .ok (.iload 5, 2) := dop_21 (zb_X12_ask_1 21 rfl) (zb_X12_ask_1 22 rfl)
theorem dX12_ask_63 : decode cX12_ask 63 = .ok (.invokevirtual 428, 3) := dop_182 (zb_X12_ask_1 23 rfl) (zb_X12_ask_1 24 rfl) (zb_X12_ask_1 25 rfl) rfl
theorem dX12_ask_66 : decode cX12_ask 66 = .ok (.aload_n 0, 1) := dop_42 (zb_X12_ask_1 26 rfl)
theorem dX12_ask_67 : decode cX12_ask 67 = .ok (.iconst 1, 1) := dop_4 (zb_X12_ask_1 27 rfl)
theorem dX12_ask_68 : decode cX12_ask 68 = .ok (.invokevirtual 434, 3) := dop_182 (zb_X12_ask_1 28 rfl) (zb_X12_ask_1 29 rfl) (zb_X12_ask_1 30 rfl) rfl
theorem dX12_ask_71 : decode cX12_ask 71 = .ok (.istore 6, 2) := dop_54 (zb_X12_ask_1 31 rfl) (zb_X12_ask_1 32 rfl)
theorem dX12_ask_73 : decode cX12_ask 73 = .ok (.iload 6, 2) := dop_21 (zb_X12_ask_1 33 rfl) (zb_X12_ask_1 34 rfl)
theorem dX12_ask_75 : decode cX12_ask 75 = .ok (.iload_n 3, 1) := dop_29 (zb_X12_ask_1 35 rfl)
theorem dX12_ask_76 : decode cX12_ask 76 = .ok (.if_icmp .le 13, 3) := dop_164 (zb_X12_ask_1 36 rfl) (zb_X12_ask_1 37 rfl) (zb_X12_ask_1 38 rfl) rfl
theorem dX12_ask_79 : decode cX12_ask 79 = .ok (.iconst 4, 1) := dop_7 (zb_X12_ask_1 39 rfl)
theorem ze_X12_ask_3 : (dcn cX12_ask).drop 120 = zt_X12_ask_3 := dw_n (wl := zw_X12_ask_2) ze_X12_ask_2 rfl
theorem zb_X12_ask_2 (j : Nat) {n : Nat} (e : zw_X12_ask_2[j]? = some n) : dby cX12_ask (80 + j) n := dw_b (t := zt_X12_ask_3) ze_X12_ask_2 j e
theorem dX12_ask_80 : decode cX12_ask 80 = .ok (.iload 4, 2) := dop_21 (zb_X12_ask_2 0 rfl) (zb_X12_ask_2 1 rfl)
theorem dX12_ask_82 : decode cX12_ask 82 = .ok (.imul, 1) := dop_104 (zb_X12_ask_2 2 rfl)
theorem dX12_ask_83 : decode cX12_ask 83 = .ok (.iload 5, 2) := dop_21 (zb_X12_ask_2 3 rfl) (zb_X12_ask_2 4 rfl)
theorem dX12_ask_85 : decode cX12_ask 85 = .ok (.iadd, 1) := dop_96 (zb_X12_ask_2 5 rfl)
theorem dX12_ask_86 : decode cX12_ask 86 = .ok (.goto 4, 3) := dop_167 (zb_X12_ask_2 6 rfl) (zb_X12_ask_2 7 rfl) (zb_X12_ask_2 8 rfl) rfl
theorem dX12_ask_89 : decode cX12_ask 89 = .ok (.iload_n 2, 1) := dop_28 (zb_X12_ask_2 9 rfl)
theorem dX12_ask_90 : decode cX12_ask 90 = .ok (.istore_n 2, 1) := dop_61 (zb_X12_ask_2 10 rfl)
theorem dX12_ask_91 : decode cX12_ask 91 = .ok (.iload 6, 2) := dop_21 (zb_X12_ask_2 11 rfl) (zb_X12_ask_2 12 rfl)
theorem dX12_ask_93 : decode cX12_ask 93 = .ok (.iload_n 3, 1) := dop_29 (zb_X12_ask_2 13 rfl)
theorem dX12_ask_94 : decode cX12_ask 94 = .ok (.if_icmp .le 8, 3) := dop_164 (zb_X12_ask_2 14 rfl) (zb_X12_ask_2 15 rfl) (zb_X12_ask_2 16 rfl) rfl
theorem dX12_ask_97 : decode cX12_ask 97 = .ok (.iload 6, 2) := dop_21 (zb_X12_ask_2 17 rfl) (zb_X12_ask_2 18 rfl)
theorem dX12_ask_99 : decode cX12_ask 99 = .ok (.goto 4, 3) := dop_167 (zb_X12_ask_2 19 rfl) (zb_X12_ask_2 20 rfl) (zb_X12_ask_2 21 rfl) rfl
theorem dX12_ask_102 : decode cX12_ask 102 = .ok (.iload_n 3, 1) := dop_29 (zb_X12_ask_2 22 rfl)
theorem dX12_ask_103 : decode cX12_ask 103 = .ok (.istore_n 3, 1) := dop_62 (zb_X12_ask_2 23 rfl)
theorem dX12_ask_104 : decode cX12_ask 104 = .ok (.iinc 5 1, 3) := dop_132 (zb_X12_ask_2 24 rfl) (zb_X12_ask_2 25 rfl) (zb_X12_ask_2 26 rfl) rfl
theorem dX12_ask_107 : decode cX12_ask 107 = .ok (.goto (-64), 3) := dop_167 (zb_X12_ask_2 27 rfl) (zb_X12_ask_2 28 rfl) (zb_X12_ask_2 29 rfl) rfl
theorem dX12_ask_110 : decode cX12_ask 110 = .ok (.iinc 4 1, 3) := dop_132 (zb_X12_ask_2 30 rfl) (zb_X12_ask_2 31 rfl) (zb_X12_ask_2 32 rfl) rfl
theorem dX12_ask_113 : decode cX12_ask 113 = .ok (.goto (-80), 3) := dop_167 (zb_X12_ask_2 33 rfl) (zb_X12_ask_2 34 rfl) (zb_X12_ask_2 35 rfl) rfl
theorem dX12_ask_116 : decode cX12_ask 116 = .ok (.iload_n 1, 1) := dop_27 (zb_X12_ask_2 36 rfl)
theorem dX12_ask_117 : decode cX12_ask 117 = .ok (.ifCond .ne 9, 3) := dop_154 (zb_X12_ask_2 37 rfl) (zb_X12_ask_2 38 rfl) (zb_X12_ask_2 39 rfl) rfl
theorem zb_X12_ask_3 (j : Nat) {n : Nat} (e : zw_X12_ask_3[j]? = some n) : dby cX12_ask (120 + j) n := dw_b (t := []) ze_X12_ask_3 j e
theorem dX12_ask_120 : decode cX12_ask 120 = .ok (.iload_n 2, 1) := dop_28 (zb_X12_ask_3 0 rfl)
theorem dX12_ask_121 : decode cX12_ask 121 = .ok (.iconst 4, 1) := dop_7 (zb_X12_ask_3 1 rfl)
theorem dX12_ask_122 : decode cX12_ask 122 = .ok (.idiv, 1) := dop_108 (zb_X12_ask_3 2 rfl)
theorem dX12_ask_123 : decode cX12_ask 123 = .ok (.goto 15, 3) := dop_167 (zb_X12_ask_3 3 rfl) (zb_X12_ask_3 4 rfl) (zb_X12_ask_3 5 rfl) rfl
theorem dX12_ask_126 : decode cX12_ask 126 = .ok (.iload_n 1, 1) := dop_27 (zb_X12_ask_3 6 rfl)
theorem dX12_ask_127 : decode cX12_ask 127 = .ok (.iconst 1, 1) := dop_4 (zb_X12_ask_3 7 rfl)
theorem dX12_ask_128 : decode cX12_ask 128 = .ok (.if_icmp .ne 9, 3) := dop_160 (zb_X12_ask_3 8 rfl) (zb_X12_ask_3 9 rfl) (zb_X12_ask_3 10 rfl) rfl
theorem dX12_ask_131 : decode cX12_ask 131 = .ok (.iload_n 2, 1) := dop_28 (zb_X12_ask_3 11 rfl)
theorem dX12_ask_132 : decode cX12_ask 132 = .ok (.iconst 4, 1) := dop_7 (zb_X12_ask_3 12 rfl)
theorem dX12_ask_133 : decode cX12_ask 133 = .ok (.irem, 1) := dop_112 (zb_X12_ask_3 13 rfl)
theorem dX12_ask_134 : decode cX12_ask 134 = .ok (.goto 4, 3) := dop_167 (zb_X12_ask_3 14 rfl) (zb_X12_ask_3 15 rfl) (zb_X12_ask_3 16 rfl) rfl
theorem dX12_ask_137 : decode cX12_ask 137 = .ok (.iload_n 3, 1) := dop_29 (zb_X12_ask_3 17 rfl)
theorem dX12_ask_138 : decode cX12_ask 138 = .ok (.ireturn, 1) := dop_172 (zb_X12_ask_3 18 rfl)
def zw_X12_dates_5 : List Nat := [21, 6, 167, 0, 5, 21, 7, 172]
def zt_X12_dates_5 : List Nat := zw_X12_dates_5 ++ []
def zw_X12_dates_4 : List Nat := [2, 160, 0, 8, 21, 8, 167, 0, 5, 21, 6, 54, 6, 21, 8, 54, 7, 132, 8, 1, 167, 255, 148, 21, 4, 154, 0, 8, 21, 5, 167, 0, 16, 21, 4, 4, 160, 0, 8]
def zt_X12_dates_4 : List Nat := zw_X12_dates_4 ++ zt_X12_dates_5
def zw_X12_dates_3 : List Nat := [16, 6, 27, 96, 167, 0, 4, 27, 54, 9, 42, 21, 9, 42, 180, 0, 13, 16, 10, 21, 8, 96, 46, 182, 1, 172, 42, 28, 29, 182, 1, 175, 158, 0, 25, 132, 5, 1, 21, 6]
def zt_X12_dates_3 : List Nat := zw_X12_dates_3 ++ zt_X12_dates_4
def zw_X12_dates_2 : List Nat := [180, 0, 13, 16, 10, 21, 8, 96, 46, 2, 159, 0, 87, 42, 180, 0, 13, 16, 42, 27, 96, 46, 2, 159, 0, 24, 21, 8, 42, 180, 0, 13, 16, 42, 27, 96, 46, 161, 0, 10]
def zt_X12_dates_2 : List Nat := zw_X12_dates_2 ++ zt_X12_dates_3
def zw_X12_dates_1 : List Nat := [20, 0, 182, 184, 0, 143, 153, 0, 10, 42, 182, 1, 121, 154, 0, 6, 16, 254, 172, 3, 54, 5, 2, 54, 6, 2, 54, 7, 3, 54, 8, 21, 8, 16, 32, 162, 0, 107, 42]
def zt_X12_dates_1 : List Nat := zw_X12_dates_1 ++ zt_X12_dates_2
def zw_X12_dates_0 : List Nat := [42, 3, 181, 0, 133, 27, 184, 0, 166, 153, 0, 47, 28, 133, 10, 20, 0, 180, 184, 0, 143, 153, 0, 35, 29, 133, 9, 20, 0, 182, 184, 0, 143, 153, 0, 23, 21, 4, 133, 9]
def zt_X12_dates_0 : List Nat := zw_X12_dates_0 ++ zt_X12_dates_1
theorem ze_X12_dates_0 : (dcn cX12_dates).drop 0 = zt_X12_dates_0 := by decide +kernel
theorem ze_X12_dates_1 : (dcn cX12_dates).drop 40 = zt_X12_dates_1 := dw_n (wl := zw_X12_dates_0) ze_X12_dates_0 rfl
theorem zb_X12_dates_0 (j : Nat) {n : Nat} (e : zw_X12_dates_0[j]? = some n) : dby cX12_dates (0 + j) n := dw_b (t := zt_X12_dates_1) ze_X12_dates_0 j e
theorem dX12_dates_0 : decode cX12_dates 0 = .ok (.aload_n 0, 1) := dop_42 (zb_X12_dates_0 0 rfl)
theorem dX12_dates_1 : decode cX12_dates 1 = .ok (.iconst 0, 1) := dop_3 (zb_X12_dates_0 1 rfl)
theorem dX12_dates_2 : decode cX12_dates 2 = .ok (.putfield 133, 3) := dop_181 (zb_X12_dates_0 2 rfl) (zb_X12_dates_0 3 rfl) (zb_X12_dates_0 4 rfl) rfl
theorem dX12_dates_5 : decode cX12_dates 5 = .ok (.iload_n 1, 1) := dop_27 (zb_X12_dates_0 5 rfl)
theorem dX12_dates_6 : decode cX12_dates 6 = .ok (.invokestatic 166, 3) := dop_184 (zb_X12_dates_0 6 rfl) (zb_X12_dates_0 7 rfl) (zb_X12_dates_0 8 rfl) rfl
theorem dX12_dates_9 : decode cX12_dates 9 = .ok (.ifCond .eq 47, 3) := dop_153 (zb_X12_dates_0 9 rfl) (zb_X12_dates_0 10 rfl) (zb_X12_dates_0 11 rfl) rfl
theorem dX12_dates_12 : decode cX12_dates 12 = .ok (.iload_n 2, 1) := dop_28 (zb_X12_dates_0 12 rfl)
theorem dX12_dates_13 : decode cX12_dates 13 = .ok (.i2l, 1) := dop_133 (zb_X12_dates_0 13 rfl)
theorem dX12_dates_14 : decode cX12_dates 14 = .ok (.lconst 1, 1) := dop_10 (zb_X12_dates_0 14 rfl)
theorem dX12_dates_15 : decode cX12_dates 15 = .ok (.ldc2_w 180, 3) := dop_20 (zb_X12_dates_0 15 rfl) (zb_X12_dates_0 16 rfl) (zb_X12_dates_0 17 rfl) rfl
theorem dX12_dates_18 : decode cX12_dates 18 = .ok (.invokestatic 143, 3) := dop_184 (zb_X12_dates_0 18 rfl) (zb_X12_dates_0 19 rfl) (zb_X12_dates_0 20 rfl) rfl
theorem dX12_dates_21 : decode cX12_dates 21 = .ok (.ifCond .eq 35, 3) := dop_153 (zb_X12_dates_0 21 rfl) (zb_X12_dates_0 22 rfl) (zb_X12_dates_0 23 rfl) rfl
theorem dX12_dates_24 : decode cX12_dates 24 = .ok (.iload_n 3, 1) := dop_29 (zb_X12_dates_0 24 rfl)
theorem dX12_dates_25 : decode cX12_dates 25 = .ok (.i2l, 1) := dop_133 (zb_X12_dates_0 25 rfl)
theorem dX12_dates_26 : decode cX12_dates 26 = .ok (.lconst 0, 1) := dop_9 (zb_X12_dates_0 26 rfl)
theorem dX12_dates_27 : decode cX12_dates 27 = .ok (.ldc2_w 182, 3) := dop_20 (zb_X12_dates_0 27 rfl) (zb_X12_dates_0 28 rfl) (zb_X12_dates_0 29 rfl) rfl
theorem dX12_dates_30 : decode cX12_dates 30 = .ok (.invokestatic 143, 3) := dop_184 (zb_X12_dates_0 30 rfl) (zb_X12_dates_0 31 rfl) (zb_X12_dates_0 32 rfl) rfl
theorem dX12_dates_33 : decode cX12_dates 33 = .ok (.ifCond .eq 23, 3) := dop_153 (zb_X12_dates_0 33 rfl) (zb_X12_dates_0 34 rfl) (zb_X12_dates_0 35 rfl) rfl
theorem dX12_dates_36 : decode cX12_dates 36 = .ok (.iload 4, 2) := dop_21 (zb_X12_dates_0 36 rfl) (zb_X12_dates_0 37 rfl)
theorem dX12_dates_38 : decode cX12_dates 38 = .ok (.i2l, 1) := dop_133 (zb_X12_dates_0 38 rfl)
theorem dX12_dates_39 : decode cX12_dates 39 = .ok (.lconst 0, 1) := dop_9 (zb_X12_dates_0 39 rfl)
theorem ze_X12_dates_2 : (dcn cX12_dates).drop 79 = zt_X12_dates_2 := dw_n (wl := zw_X12_dates_1) ze_X12_dates_1 rfl
theorem zb_X12_dates_1 (j : Nat) {n : Nat} (e : zw_X12_dates_1[j]? = some n) : dby cX12_dates (40 + j) n := dw_b (t := zt_X12_dates_2) ze_X12_dates_1 j e
theorem dX12_dates_40 : decode cX12_dates 40 = .ok (.ldc2_w 182, 3) := dop_20 (zb_X12_dates_1 0 rfl) (zb_X12_dates_1 1 rfl) (zb_X12_dates_1 2 rfl) rfl
theorem dX12_dates_43 : decode cX12_dates 43 = .ok (.invokestatic 143, 3) := dop_184 (zb_X12_dates_1 3 rfl) (zb_X12_dates_1 4 rfl) (zb_X12_dates_1 5 rfl) rfl
theorem dX12_dates_46 : decode cX12_dates 46 = .ok (.ifCond .eq 10, 3) := dop_153 (zb_X12_dates_1 6 rfl) (zb_X12_dates_1 7 rfl) (zb_X12_dates_1 8 rfl) rfl
theorem dX12_dates_49 : decode cX12_dates 49 = .ok (.aload_n 0, 1) := dop_42 (zb_X12_dates_1 9 rfl)
theorem dX12_dates_50 : decode cX12_dates 50 = .ok (.invokevirtual 377, 3) := dop_182 (zb_X12_dates_1 10 rfl) (zb_X12_dates_1 11 rfl) (zb_X12_dates_1 12 rfl) rfl
theorem dX12_dates_53 : decode cX12_dates 53 = .ok (.ifCond .ne 6, 3) := dop_154 (zb_X12_dates_1 13 rfl) (zb_X12_dates_1 14 rfl) (zb_X12_dates_1 15 rfl) rfl
theorem dX12_dates_56 : decode cX12_dates 56 = .ok (.bipush (-2), 2) := dop_16 (zb_X12_dates_1 16 rfl) (zb_X12_dates_1 17 rfl) rfl
theorem dX12_dates_58 : decode cX12_dates 58 = .ok (.ireturn, 1) := dop_172 (zb_X12_dates_1 18 rfl)
theorem dX12_dates_59 : decode cX12_dates 59 = .ok (.iconst 0, 1) := dop_3 (zb_X12_dates_1 19 rfl)
theorem dX12_dates_60 : decode cX12_dates 60 = .ok (.istore 5, 2) := dop_54 (zb_X12_dates_1 20 rfl) (zb_X12_dates_1 21 rfl)
theorem dX12_dates_62 : decode cX12_dates 62 = .ok (.iconst (-1), 1) := dop_2 (zb_X12_dates_1 22 rfl)
theorem dX12_dates_63 : decode cX12_dates 63 = .ok (.istore 6, 2) := dop_54 (zb_X12_dates_1 23 rfl) (zb_X12_dates_1 24 rfl)
theorem dX12_dates_65 : decode cX12_dates 65 = .ok (.iconst (-1), 1) := dop_2 (zb_X12_dates_1 25 rfl)
theorem dX12_dates_66 : decode cX12_dates 66 = .ok (.istore 7, 2) := dop_54 (zb_X12_dates_1 26 rfl) (zb_X12_dates_1 27 rfl)
theorem dX12_dates_68 : decode cX12_dates 68 = .ok (.iconst 0, 1) := dop_3 (zb_X12_dates_1 28 rfl)
theorem dX12_dates_69 : decode cX12_dates 69 = .ok (.istore 8, 2) := dop_54 (zb_X12_dates_1 29 rfl) (zb_X12_dates_1 30 rfl)
theorem dX12_dates_71 : decode cX12_dates 71 = .ok (.iload 8, 2) := dop_21 (zb_X12_dates_1 31 rfl) (zb_X12_dates_1 32 rfl)
theorem dX12_dates_73 : decode cX12_dates 73 = .ok (.bipush 32, 2) := dop_16 (zb_X12_dates_1 33 rfl) (zb_X12_dates_1 34 rfl) rfl
theorem dX12_dates_75 : decode cX12_dates 75 = .ok (.if_icmp .ge 107, 3) := dop_162 (zb_X12_dates_1 35 rfl) (zb_X12_dates_1 36 rfl) (zb_X12_dates_1 37 rfl) rfl
theorem dX12_dates_78 : decode cX12_dates 78 = .ok (.aload_n 0, 1) := dop_42 (zb_X12_dates_1 38 rfl)
theorem ze_X12_dates_3 : (dcn cX12_dates).drop 119 = zt_X12_dates_3 := dw_n (wl := zw_X12_dates_2) ze_X12_dates_2 rfl
theorem zb_X12_dates_2 (j : Nat) {n : Nat} (e : zw_X12_dates_2[j]? = some n) : dby cX12_dates (79 + j) n := dw_b (t := zt_X12_dates_3) ze_X12_dates_2 j e
theorem dX12_dates_79 : decode cX12_dates 79 = .ok (.getfield 13, 3) := dop_180 (zb_X12_dates_2 0 rfl) (zb_X12_dates_2 1 rfl) (zb_X12_dates_2 2 rfl) rfl
theorem dX12_dates_82 : decode cX12_dates 82 = .ok (.bipush 10, 2) := dop_16 (zb_X12_dates_2 3 rfl) (zb_X12_dates_2 4 rfl) rfl
theorem dX12_dates_84 : decode cX12_dates 84 = .ok (.iload 8, 2) := dop_21 (zb_X12_dates_2 5 rfl) (zb_X12_dates_2 6 rfl)
theorem dX12_dates_86 : decode cX12_dates 86 = .ok (.iadd, 1) := dop_96 (zb_X12_dates_2 7 rfl)
theorem dX12_dates_87 : decode cX12_dates 87 = .ok (.iaload, 1) := dop_46 (zb_X12_dates_2 8 rfl)
theorem dX12_dates_88 : decode cX12_dates 88 = .ok (.iconst (-1), 1) := dop_2 (zb_X12_dates_2 9 rfl)
theorem dX12_dates_89 : decode cX12_dates 89 = .ok (.if_icmp .eq 87, 3) := dop_159 (zb_X12_dates_2 10 rfl) (zb_X12_dates_2 11 rfl) (zb_X12_dates_2 12 rfl) rfl
theorem dX12_dates_92 : decode cX12_dates 92 = .ok (.aload_n 0, 1) := dop_42 (zb_X12_dates_2 13 rfl)
theorem dX12_dates_93 : decode cX12_dates 93 = .ok (.getfield 13, 3) := dop_180 (zb_X12_dates_2 14 rfl) (zb_X12_dates_2 15 rfl) (zb_X12_dates_2 16 rfl) rfl
theorem dX12_dates_96 : decode cX12_dates 96 = .ok (.bipush 42, 2) := dop_16 (zb_X12_dates_2 17 rfl) (zb_X12_dates_2 18 rfl) rfl
theorem dX12_dates_98 : decode cX12_dates 98 = .ok (.iload_n 1, 1) := dop_27 (zb_X12_dates_2 19 rfl)
theorem dX12_dates_99 : decode cX12_dates 99 = .ok (.iadd, 1) := dop_96 (zb_X12_dates_2 20 rfl)
theorem dX12_dates_100 : decode cX12_dates 100 = .ok (.iaload, 1) := dop_46 (zb_X12_dates_2 21 rfl)
theorem dX12_dates_101 : decode cX12_dates 101 = .ok (.iconst (-1), 1) := dop_2 (zb_X12_dates_2 22 rfl)
theorem dX12_dates_102 : decode cX12_dates 102 = .ok (.if_icmp .eq 24, 3) := dop_159 (zb_X12_dates_2 23 rfl) (zb_X12_dates_2 24 rfl) (zb_X12_dates_2 25 rfl) rfl
theorem dX12_dates_105 : decode cX12_dates 105 = .ok (.iload 8, 2) := dop_21 (zb_X12_dates_2 26 rfl) (zb_X12_dates_2 27 rfl)
theorem dX12_dates_107 : decode cX12_dates 107 = .ok (.aload_n 0, 1) := dop_42 (zb_X12_dates_2 28 rfl)
theorem dX12_dates_108 : decode cX12_dates 108 = .ok (.getfield 13, 3) := dop_180 (zb_X12_dates_2 29 rfl) (zb_X12_dates_2 30 rfl) (zb_X12_dates_2 31 rfl) rfl
theorem dX12_dates_111 : decode cX12_dates 111 = .ok (.bipush 42, 2) := dop_16 (zb_X12_dates_2 32 rfl) (zb_X12_dates_2 33 rfl) rfl
theorem dX12_dates_113 : decode cX12_dates 113 = .ok (.iload_n 1, 1) := dop_27 (zb_X12_dates_2 34 rfl)
theorem dX12_dates_114 : decode cX12_dates 114 = .ok (.iadd, 1) := dop_96 (zb_X12_dates_2 35 rfl)
theorem dX12_dates_115 : decode cX12_dates 115 = .ok (.iaload, 1) := dop_46 (zb_X12_dates_2 36 rfl)
theorem dX12_dates_116 : decode cX12_dates 116 = .ok (.if_icmp .lt 10, 3) := dop_161 (zb_X12_dates_2 37 rfl) (zb_X12_dates_2 38 rfl) (zb_X12_dates_2 39 rfl) rfl
theorem ze_X12_dates_4 : (dcn cX12_dates).drop 159 = zt_X12_dates_4 := dw_n (wl := zw_X12_dates_3) ze_X12_dates_3 rfl
theorem zb_X12_dates_3 (j : Nat) {n : Nat} (e : zw_X12_dates_3[j]? = some n) : dby cX12_dates (119 + j) n := dw_b (t := zt_X12_dates_4) ze_X12_dates_3 j e
theorem dX12_dates_119 : decode cX12_dates 119 = .ok (.bipush 6, 2) := dop_16 (zb_X12_dates_3 0 rfl) (zb_X12_dates_3 1 rfl) rfl
theorem dX12_dates_121 : decode cX12_dates 121 = .ok (.iload_n 1, 1) := dop_27 (zb_X12_dates_3 2 rfl)
theorem dX12_dates_122 : decode cX12_dates 122 = .ok (.iadd, 1) := dop_96 (zb_X12_dates_3 3 rfl)
theorem dX12_dates_123 : decode cX12_dates 123 = .ok (.goto 4, 3) := dop_167 (zb_X12_dates_3 4 rfl) (zb_X12_dates_3 5 rfl) (zb_X12_dates_3 6 rfl) rfl
theorem dX12_dates_126 : decode cX12_dates 126 = .ok (.iload_n 1, 1) := dop_27 (zb_X12_dates_3 7 rfl)
theorem dX12_dates_127 : decode cX12_dates 127 = .ok (.istore 9, 2) := dop_54 (zb_X12_dates_3 8 rfl) (zb_X12_dates_3 9 rfl)
theorem dX12_dates_129 : decode cX12_dates 129 = .ok (.aload_n 0, 1) := dop_42 (zb_X12_dates_3 10 rfl)
theorem dX12_dates_130 : decode cX12_dates 130 = .ok (.iload 9, 2) := dop_21 (zb_X12_dates_3 11 rfl) (zb_X12_dates_3 12 rfl)
theorem dX12_dates_132 : decode cX12_dates 132 = .ok (.aload_n 0, 1) := dop_42 (zb_X12_dates_3 13 rfl)
theorem dX12_dates_133 : decode cX12_dates 133 = .ok (.getfield 13, 3) := dop_180 (zb_X12_dates_3 14 rfl) (zb_X12_dates_3 15 rfl) (zb_X12_dates_3 16 rfl) rfl
theorem dX12_dates_136 : decode cX12_dates 136 = .ok (.bipush 10, 2) := dop_16 (zb_X12_dates_3 17 rfl) (zb_X12_dates_3 18 rfl) rfl
theorem dX12_dates_138 : decode cX12_dates 138 = .ok (.iload 8, 2) := dop_21 (zb_X12_dates_3 19 rfl) (zb_X12_dates_3 20 rfl)
theorem dX12_dates_140 : decode cX12_dates 140 = .ok (.iadd, 1) := dop_96 (zb_X12_dates_3 21 rfl)
theorem dX12_dates_141 : decode cX12_dates 141 = .ok (.iaload, 1) := dop_46 (zb_X12_dates_3 22 rfl)
theorem dX12_dates_142 : decode cX12_dates 142 = .ok (.invokevirtual 428, 3) := dop_182 (zb_X12_dates_3 23 rfl) (zb_X12_dates_3 24 rfl) (zb_X12_dates_3 25 rfl) rfl
theorem dX12_dates_145 : decode cX12_dates 145 = .ok (.aload_n 0, 1) := dop_42 (zb_X12_dates_3 26 rfl)
theorem dX12_dates_146 : decode cX12_dates 146 = .ok (.iload_n 2, 1) := dop_28 (zb_X12_dates_3 27 rfl)
theorem dX12_dates_147 : decode cX12_dates 147 = .ok (.iload_n 3, 1) := dop_29 (zb_X12_dates_3 28 rfl)
theorem dX12_dates_148 : decode cX12_dates 148 = .ok (.invokevirtual 431, 3) := dop_182 (zb_X12_dates_3 29 rfl) (zb_X12_dates_3 30 rfl) (zb_X12_dates_3 31 rfl) rfl
theorem dX12_dates_151 : decode cX12_dates 151 = .ok (.ifCond .le 25, 3) := dop_158 (zb_X12_dates_3 32 rfl) (zb_X12_dates_3 33 rfl) (zb_X12_dates_3 34 rfl) rfl
theorem dX12_dates_154 : decode cX12_dates 154 = .ok (.iinc 5 1, 3) := dop_132 (zb_X12_dates_3 35 rfl) (zb_X12_dates_3 36 rfl) (zb_X12_dates_3 37 rfl) rfl
theorem dX12_dates_157 : decode cX12_dates 157 = .ok (.iload 6, 2) := dop_21 (zb_X12_dates_3 38 rfl) (zb_X12_dates_3 39 rfl)
theorem ze_X12_dates_5 : (dcn cX12_dates).drop 198 = zt_X12_dates_5 := dw_n (wl := zw_X12_dates_4) ze_X12_dates_4 rfl
theorem zb_X12_dates_4 (j : Nat) {n : Nat} (e : zw_X12_dates_4[j]? = some n) : dby cX12_dates (159 + j) n := dw_b (t := zt_X12_dates_5) ze_X12_dates_4 j e
theorem dX12_dates_159 : decode cX12_dates 159 = .ok (.iconst (-1), 1) := dop_2 (zb_X12_dates_4 0 rfl)
theorem dX12_dates_160 : decode cX12_dates 160 = .ok (.if_icmp .ne 8, 3) := dop_160 (zb_X12_dates_4 1 rfl) (zb_X12_dates_4 2 rfl) (zb_X12_dates_4 3 rfl) rfl
theorem dX12_dates_163 : decode cX12_dates 163 = .ok (.iload 8, 2) := dop_21 (zb_X12_dates_4 4 rfl) (zb_X12_dates_4 5 rfl)
theorem dX12_dates_165 : decode cX12_dates 165 = .ok (.goto 5, 3) := dop_167 (zb_X12_dates_4 6 rfl) (zb_X12_dates_4 7 rfl) (zb_X12_dates_4 8 rfl) rfl
theorem dX12_dates_168 : decode cX12_dates 168 = .ok (.iload 6, 2) := dop_21 (zb_X12_dates_4 9 rfl) (zb_X12_dates_4 10 rfl)
theorem dX12_dates_170 : decode cX12_dates 170 = .ok (.istore 6, 2) := dop_54 (zb_X12_dates_4 11 rfl) (zb_X12_dates_4 12 rfl)
theorem dX12_dates_172 : decode cX12_dates 172 = .ok (.iload 8, 2) := dop_21 (zb_X12_dates_4 13 rfl) (zb_X12_dates_4 14 rfl)
theorem dX12_dates_174 : decode cX12_dates 174 = .ok (.istore 7, 2) := dop_54 (zb_X12_dates_4 15 rfl) (zb_X12_dates_4 16 rfl)
theorem dX12_dates_176 : decode cX12_dates 176 = .ok (.iinc 8 1, 3) := dop_132 (zb_X12_dates_4 17 rfl) (zb_X12_dates_4 18 rfl) (zb_X12_dates_4 19 rfl) rfl
theorem dX12_dates_179 : decode cX12_dates 179 = .ok (.goto (-108), 3) := dop_167 (zb_X12_dates_4 20 rfl) (zb_X12_dates_4 21 rfl) (zb_X12_dates_4 22 rfl) rfl
theorem dX12_dates_182 : decode cX12_dates 182 = .ok (.iload 4, 2) := dop_21 (zb_X12_dates_4 23 rfl) (zb_X12_dates_4 24 rfl)
theorem dX12_dates_184 : decode cX12_dates 184 = .ok (.ifCond .ne 8, 3) := dop_154 (zb_X12_dates_4 25 rfl) (zb_X12_dates_4 26 rfl) (zb_X12_dates_4 27 rfl) rfl
theorem dX12_dates_187 : decode cX12_dates 187 = .ok (.iload 5, 2) := dop_21 (zb_X12_dates_4 28 rfl) (zb_X12_dates_4 29 rfl)
theorem dX12_dates_189 : decode cX12_dates 189 = .ok (.goto 16, 3) := dop_167 (zb_X12_dates_4 30 rfl) (zb_X12_dates_4 31 rfl) (zb_X12_dates_4 32 rfl) rfl
theorem dX12_dates_192 : decode cX12_dates 192 = .ok (.iload 4, 2) := dop_21 (zb_X12_dates_4 33 rfl) (zb_X12_dates_4 34 rfl)
theorem dX12_dates_194 : decode cX12_dates 194 = .ok (.iconst 1, 1) := dop_4 (zb_X12_dates_4 35 rfl)
theorem dX12_dates_195 : decode cX12_dates 195 = .ok (.if_icmp .ne 8, 3) := dop_160 (zb_X12_dates_4 36 rfl) (zb_X12_dates_4 37 rfl) (zb_X12_dates_4 38 rfl) rfl
theorem zb_X12_dates_5 (j : Nat) {n : Nat} (e : zw_X12_dates_5[j]? = some n) : dby cX12_dates (198 + j) n := dw_b (t := []) ze_X12_dates_5 j e
theorem dX12_dates_198 : decode cX12_dates 198 = .ok (.iload 6, 2) := dop_21 (zb_X12_dates_5 0 rfl) (zb_X12_dates_5 1 rfl)
theorem dX12_dates_200 : decode cX12_dates 200 = .ok (.goto 5, 3) := dop_167 (zb_X12_dates_5 2 rfl) (zb_X12_dates_5 3 rfl) (zb_X12_dates_5 4 rfl) rfl
theorem dX12_dates_203 : decode cX12_dates 203 = .ok (.iload 7, 2) := dop_21 (zb_X12_dates_5 5 rfl) (zb_X12_dates_5 6 rfl)
theorem dX12_dates_205 : decode cX12_dates 205 = .ok (.ireturn, 1) := dop_172 (zb_X12_dates_5 7 rfl)
def zw_X12_whole_0 : List Nat := [42, 27, 47, 20, 1, 71, 42, 27, 4, 96, 47, 20, 1, 71, 42, 27, 5, 96, 47, 105, 97, 105, 97, 173]
def zt_X12_whole_0 : List Nat := zw_X12_whole_0 ++ []
theorem ze_X12_whole_0 : (dcn cX12_whole).drop 0 = zt_X12_whole_0 := by decide +kernel
theorem zb_X12_whole_0 (j : Nat) {n : Nat} (e : zw_X12_whole_0[j]? = some n) : dby cX12_whole (0 + j) n := dw_b (t := []) ze_X12_whole_0 j e
theorem dX12_whole_0 : decode cX12_whole 0 = .ok (.aload_n 0, 1) := dop_42 (zb_X12_whole_0 0 rfl)
theorem dX12_whole_1 : decode cX12_whole 1 = .ok (.iload_n 1, 1) := dop_27 (zb_X12_whole_0 1 rfl)
theorem dX12_whole_2 : decode cX12_whole 2 = .ok (.laload, 1) := dop_47 (zb_X12_whole_0 2 rfl)
theorem dX12_whole_3 : decode cX12_whole 3 = .ok (.ldc2_w 327, 3) := dop_20 (zb_X12_whole_0 3 rfl) (zb_X12_whole_0 4 rfl) (zb_X12_whole_0 5 rfl) rfl
theorem dX12_whole_6 : decode cX12_whole 6 = .ok (.aload_n 0, 1) := dop_42 (zb_X12_whole_0 6 rfl)
theorem dX12_whole_7 : decode cX12_whole 7 = .ok (.iload_n 1, 1) := dop_27 (zb_X12_whole_0 7 rfl)
theorem dX12_whole_8 : decode cX12_whole 8 = .ok (.iconst 1, 1) := dop_4 (zb_X12_whole_0 8 rfl)
theorem dX12_whole_9 : decode cX12_whole 9 = .ok (.iadd, 1) := dop_96 (zb_X12_whole_0 9 rfl)
theorem dX12_whole_10 : decode cX12_whole 10 = .ok (.laload, 1) := dop_47 (zb_X12_whole_0 10 rfl)
theorem dX12_whole_11 : decode cX12_whole 11 = .ok (.ldc2_w 327, 3) := dop_20 (zb_X12_whole_0 11 rfl) (zb_X12_whole_0 12 rfl) (zb_X12_whole_0 13 rfl) rfl
theorem dX12_whole_14 : decode cX12_whole 14 = .ok (.aload_n 0, 1) := dop_42 (zb_X12_whole_0 14 rfl)
theorem dX12_whole_15 : decode cX12_whole 15 = .ok (.iload_n 1, 1) := dop_27 (zb_X12_whole_0 15 rfl)
theorem dX12_whole_16 : decode cX12_whole 16 = .ok (.iconst 2, 1) := dop_5 (zb_X12_whole_0 16 rfl)
theorem dX12_whole_17 : decode cX12_whole 17 = .ok (.iadd, 1) := dop_96 (zb_X12_whole_0 17 rfl)
theorem dX12_whole_18 : decode cX12_whole 18 = .ok (.laload, 1) := dop_47 (zb_X12_whole_0 18 rfl)
theorem dX12_whole_19 : decode cX12_whole 19 = .ok (.lmul, 1) := dop_105 (zb_X12_whole_0 19 rfl)
theorem dX12_whole_20 : decode cX12_whole 20 = .ok (.ladd, 1) := dop_97 (zb_X12_whole_0 20 rfl)
theorem dX12_whole_21 : decode cX12_whole 21 = .ok (.lmul, 1) := dop_105 (zb_X12_whole_0 21 rfl)
theorem dX12_whole_22 : decode cX12_whole 22 = .ok (.ladd, 1) := dop_97 (zb_X12_whole_0 22 rfl)
theorem dX12_whole_23 : decode cX12_whole 23 = .ok (.lreturn, 1) := dop_173 (zb_X12_whole_0 23 rfl)
def zw_X12_common_0 : List Nat := [30, 55, 4, 32, 55, 6, 22, 6, 9, 148, 153, 0, 21, 22, 4, 22, 6, 113, 55, 8, 22, 6, 55, 4, 22, 8, 55, 6, 167, 255, 234, 22, 4, 173]
def zt_X12_common_0 : List Nat := zw_X12_common_0 ++ []
theorem ze_X12_common_0 : (dcn cX12_common).drop 0 = zt_X12_common_0 := by decide +kernel
theorem zb_X12_common_0 (j : Nat) {n : Nat} (e : zw_X12_common_0[j]? = some n) : dby cX12_common (0 + j) n := dw_b (t := []) ze_X12_common_0 j e
theorem dX12_common_0 : decode cX12_common 0 = .ok (.lload_n 0, 1) := dop_30 (zb_X12_common_0 0 rfl)
theorem dX12_common_1 : decode cX12_common 1 = .ok (.lstore 4, 2) := dop_55 (zb_X12_common_0 1 rfl) (zb_X12_common_0 2 rfl)
theorem dX12_common_3 : decode cX12_common 3 = .ok (.lload_n 2, 1) := dop_32 (zb_X12_common_0 3 rfl)
theorem dX12_common_4 : decode cX12_common 4 = .ok (.lstore 6, 2) := dop_55 (zb_X12_common_0 4 rfl) (zb_X12_common_0 5 rfl)
theorem dX12_common_6 : decode cX12_common 6 = .ok (.lload 6, 2) := dop_22 (zb_X12_common_0 6 rfl) (zb_X12_common_0 7 rfl)
theorem dX12_common_8 : decode cX12_common 8 = .ok (.lconst 0, 1) := dop_9 (zb_X12_common_0 8 rfl)
theorem dX12_common_9 : decode cX12_common 9 = .ok (.lcmp, 1) := dop_148 (zb_X12_common_0 9 rfl)
theorem dX12_common_10 : decode cX12_common 10 = .ok (.ifCond .eq 21, 3) := dop_153 (zb_X12_common_0 10 rfl) (zb_X12_common_0 11 rfl) (zb_X12_common_0 12 rfl) rfl
theorem dX12_common_13 : decode cX12_common 13 = .ok (.lload 4, 2) := dop_22 (zb_X12_common_0 13 rfl) (zb_X12_common_0 14 rfl)
theorem dX12_common_15 : decode cX12_common 15 = .ok (.lload 6, 2) := dop_22 (zb_X12_common_0 15 rfl) (zb_X12_common_0 16 rfl)
theorem dX12_common_17 : decode cX12_common 17 = .ok (.lrem, 1) := dop_113 (zb_X12_common_0 17 rfl)
theorem dX12_common_18 : decode cX12_common 18 = .ok (.lstore 8, 2) := dop_55 (zb_X12_common_0 18 rfl) (zb_X12_common_0 19 rfl)
theorem dX12_common_20 : decode cX12_common 20 = .ok (.lload 6, 2) := dop_22 (zb_X12_common_0 20 rfl) (zb_X12_common_0 21 rfl)
theorem dX12_common_22 : decode cX12_common 22 = .ok (.lstore 4, 2) := dop_55 (zb_X12_common_0 22 rfl) (zb_X12_common_0 23 rfl)
theorem dX12_common_24 : decode cX12_common 24 = .ok (.lload 8, 2) := dop_22 (zb_X12_common_0 24 rfl) (zb_X12_common_0 25 rfl)
theorem dX12_common_26 : decode cX12_common 26 = .ok (.lstore 6, 2) := dop_55 (zb_X12_common_0 26 rfl) (zb_X12_common_0 27 rfl)
theorem dX12_common_28 : decode cX12_common 28 = .ok (.goto (-22), 3) := dop_167 (zb_X12_common_0 28 rfl) (zb_X12_common_0 29 rfl) (zb_X12_common_0 30 rfl) rfl
theorem dX12_common_31 : decode cX12_common 31 = .ok (.lload 4, 2) := dop_22 (zb_X12_common_0 31 rfl) (zb_X12_common_0 32 rfl)
theorem dX12_common_33 : decode cX12_common 33 = .ok (.lreturn, 1) := dop_173 (zb_X12_common_0 33 rfl)
def zw_X12_part_4 : List Nat := [154, 0, 11, 22, 4, 22, 8, 109, 167, 0, 8, 22, 6, 22, 8, 109, 173]
def zt_X12_part_4 : List Nat := zw_X12_part_4 ++ []
def zw_X12_part_3 : List Nat := [22, 12, 184, 1, 187, 55, 14, 22, 4, 22, 8, 109, 22, 12, 22, 14, 109, 148, 154, 0, 17, 22, 6, 22, 8, 109, 22, 10, 22, 14, 109, 148, 153, 0, 5, 9, 173, 29]
def zt_X12_part_3 : List Nat := zw_X12_part_3 ++ zt_X12_part_4
def zw_X12_part_2 : List Nat := [182, 1, 141, 42, 180, 0, 70, 28, 51, 154, 0, 5, 9, 173, 42, 180, 0, 61, 8, 28, 104, 184, 1, 183, 55, 10, 42, 180, 0, 64, 8, 28, 104, 184, 1, 183, 55, 12, 22, 10]
def zt_X12_part_2 : List Nat := zw_X12_part_2 ++ zt_X12_part_3
def zw_X12_part_1 : List Nat := [154, 0, 5, 9, 173, 42, 180, 0, 61, 8, 27, 104, 184, 1, 183, 55, 4, 42, 180, 0, 64, 8, 27, 104, 184, 1, 183, 55, 6, 22, 4, 22, 6, 184, 1, 187, 55, 8, 42, 27]
def zt_X12_part_1 : List Nat := zw_X12_part_1 ++ zt_X12_part_2
def zw_X12_part_0 : List Nat := [42, 3, 181, 0, 133, 29, 133, 9, 10, 184, 0, 143, 153, 0, 12, 42, 27, 28, 182, 1, 138, 154, 0, 7, 20, 1, 181, 173, 42, 28, 182, 1, 141, 42, 180, 0, 70, 27, 51]
def zt_X12_part_0 : List Nat := zw_X12_part_0 ++ zt_X12_part_1
theorem ze_X12_part_0 : (dcn cX12_part).drop 0 = zt_X12_part_0 := by decide +kernel
theorem ze_X12_part_1 : (dcn cX12_part).drop 39 = zt_X12_part_1 := dw_n (wl := zw_X12_part_0) ze_X12_part_0 rfl
theorem zb_X12_part_0 (j : Nat) {n : Nat} (e : zw_X12_part_0[j]? = some n) : dby cX12_part (0 + j) n := dw_b (t := zt_X12_part_1) ze_X12_part_0 j e
theorem dX12_part_0 : decode cX12_part 0 = .ok (.aload_n 0, 1) := dop_42 (zb_X12_part_0 0 rfl)
theorem dX12_part_1 : decode cX12_part 1 = .ok (.iconst 0, 1) := dop_3 (zb_X12_part_0 1 rfl)
theorem dX12_part_2 : decode cX12_part 2 = .ok (.putfield 133, 3) := dop_181 (zb_X12_part_0 2 rfl) (zb_X12_part_0 3 rfl) (zb_X12_part_0 4 rfl) rfl
theorem dX12_part_5 : decode cX12_part 5 = .ok (.iload_n 3, 1) := dop_29 (zb_X12_part_0 5 rfl)
theorem dX12_part_6 : decode cX12_part 6 = .ok (.i2l, 1) := dop_133 (zb_X12_part_0 6 rfl)
theorem dX12_part_7 : decode cX12_part 7 = .ok (.lconst 0, 1) := dop_9 (zb_X12_part_0 7 rfl)
theorem dX12_part_8 : decode cX12_part 8 = .ok (.lconst 1, 1) := dop_10 (zb_X12_part_0 8 rfl)
theorem dX12_part_9 : decode cX12_part 9 = .ok (.invokestatic 143, 3) := dop_184 (zb_X12_part_0 9 rfl) (zb_X12_part_0 10 rfl) (zb_X12_part_0 11 rfl) rfl
theorem dX12_part_12 : decode cX12_part 12 = .ok (.ifCond .eq 12, 3) := dop_153 (zb_X12_part_0 12 rfl) (zb_X12_part_0 13 rfl) (zb_X12_part_0 14 rfl) rfl
theorem dX12_part_15 : decode cX12_part 15 = .ok (.aload_n 0, 1) := dop_42 (zb_X12_part_0 15 rfl)
theorem dX12_part_16 : decode cX12_part 16 = .ok (.iload_n 1, 1) := dop_27 (zb_X12_part_0 16 rfl)
theorem dX12_part_17 : decode cX12_part 17 = .ok (.iload_n 2, 1) := dop_28 (zb_X12_part_0 17 rfl)
theorem dX12_part_18 : decode cX12_part 18 = .ok (.invokevirtual 394, 3) := dop_182 (zb_X12_part_0 18 rfl) (zb_X12_part_0 19 rfl) (zb_X12_part_0 20 rfl) rfl
theorem dX12_part_21 : decode cX12_part 21 = .ok (.ifCond .ne 7, 3) := dop_154 (zb_X12_part_0 21 rfl) (zb_X12_part_0 22 rfl) (zb_X12_part_0 23 rfl) rfl
theorem dX12_part_24 : decode cX12_part 24 = .ok (.ldc2_w 437, 3) := dop_20 (zb_X12_part_0 24 rfl) (zb_X12_part_0 25 rfl) (zb_X12_part_0 26 rfl) rfl
theorem dX12_part_27 : decode cX12_part 27 = .ok (.lreturn, 1) := dop_173 (zb_X12_part_0 27 rfl)
theorem dX12_part_28 : decode cX12_part 28 = .ok (.aload_n 0, 1) := dop_42 (zb_X12_part_0 28 rfl)
theorem dX12_part_29 : decode cX12_part 29 = .ok (.iload_n 2, 1) := dop_28 (zb_X12_part_0 29 rfl)
theorem dX12_part_30 : decode cX12_part 30 = .ok (.invokevirtual 397, 3) := dop_182 (zb_X12_part_0 30 rfl) (zb_X12_part_0 31 rfl) (zb_X12_part_0 32 rfl) rfl
theorem dX12_part_33 : decode cX12_part 33 = .ok (.aload_n 0, 1) := dop_42 (zb_X12_part_0 33 rfl)
theorem dX12_part_34 : decode cX12_part 34 = .ok (.getfield 70, 3) := dop_180 (zb_X12_part_0 34 rfl) (zb_X12_part_0 35 rfl) (zb_X12_part_0 36 rfl) rfl
theorem dX12_part_37 : decode cX12_part 37 = .ok (.iload_n 1, 1) := dop_27 (zb_X12_part_0 37 rfl)
theorem dX12_part_38 : decode cX12_part 38 = .ok (.baload, 1) := dop_51 (zb_X12_part_0 38 rfl)
theorem ze_X12_part_2 : (dcn cX12_part).drop 79 = zt_X12_part_2 := dw_n (wl := zw_X12_part_1) ze_X12_part_1 rfl
theorem zb_X12_part_1 (j : Nat) {n : Nat} (e : zw_X12_part_1[j]? = some n) : dby cX12_part (39 + j) n := dw_b (t := zt_X12_part_2) ze_X12_part_1 j e
theorem dX12_part_39 : decode cX12_part 39 = .ok (.ifCond .ne 5, 3) := dop_154 (zb_X12_part_1 0 rfl) (zb_X12_part_1 1 rfl) (zb_X12_part_1 2 rfl) rfl
theorem dX12_part_42 : decode cX12_part 42 = .ok (.lconst 0, 1) := dop_9 (zb_X12_part_1 3 rfl)
theorem dX12_part_43 : decode cX12_part 43 = .ok (.lreturn, 1) := dop_173 (zb_X12_part_1 4 rfl)
theorem dX12_part_44 : decode cX12_part 44 = .ok (.aload_n 0, 1) := dop_42 (zb_X12_part_1 5 rfl)
theorem dX12_part_45 : decode cX12_part 45 = .ok (.getfield 61, 3) := dop_180 (zb_X12_part_1 6 rfl) (zb_X12_part_1 7 rfl) (zb_X12_part_1 8 rfl) rfl
theorem dX12_part_48 : decode cX12_part 48 = .ok (.iconst 5, 1) := dop_8 (zb_X12_part_1 9 rfl)
theorem dX12_part_49 : decode cX12_part 49 = .ok (.iload_n 1, 1) := dop_27 (zb_X12_part_1 10 rfl)
theorem dX12_part_50 : decode cX12_part 50 = .ok (.imul, 1) := dop_104 (zb_X12_part_1 11 rfl)
theorem dX12_part_51 : decode cX12_part 51 = .ok (.invokestatic 439, 3) := dop_184 (zb_X12_part_1 12 rfl) (zb_X12_part_1 13 rfl) (zb_X12_part_1 14 rfl) rfl
theorem dX12_part_54 : decode cX12_part 54 = .ok (.lstore 4, 2) := dop_55 (zb_X12_part_1 15 rfl) (zb_X12_part_1 16 rfl)
theorem dX12_part_56 : decode cX12_part 56 = .ok (.aload_n 0, 1) := dop_42 (zb_X12_part_1 17 rfl)
theorem dX12_part_57 : decode cX12_part 57 = .ok (.getfield 64, 3) := dop_180 (zb_X12_part_1 18 rfl) (zb_X12_part_1 19 rfl) (zb_X12_part_1 20 rfl) rfl
theorem dX12_part_60 : decode cX12_part 60 = .ok (.iconst 5, 1) := dop_8 (zb_X12_part_1 21 rfl)
theorem dX12_part_61 : decode cX12_part 61 = .ok (.iload_n 1, 1) := dop_27 (zb_X12_part_1 22 rfl)
theorem dX12_part_62 : decode cX12_part 62 = .ok (.imul, 1) := dop_104 (zb_X12_part_1 23 rfl)
theorem dX12_part_63 : decode cX12_part 63 = .ok (.invokestatic 439, 3) := dop_184 (zb_X12_part_1 24 rfl) (zb_X12_part_1 25 rfl) (zb_X12_part_1 26 rfl) rfl
theorem dX12_part_66 : decode cX12_part 66 = .ok (.lstore 6, 2) := dop_55 (zb_X12_part_1 27 rfl) (zb_X12_part_1 28 rfl)
theorem dX12_part_68 : decode cX12_part 68 = .ok (.lload 4, 2) := dop_22 (zb_X12_part_1 29 rfl) (zb_X12_part_1 30 rfl)
theorem dX12_part_70 : decode cX12_part 70 = .ok (.lload 6, 2) := dop_22 (zb_X12_part_1 31 rfl) (zb_X12_part_1 32 rfl)
theorem dX12_part_72 : decode cX12_part 72 = .ok (.invokestatic 443, 3) := dop_184 (zb_X12_part_1 33 rfl) (zb_X12_part_1 34 rfl) (zb_X12_part_1 35 rfl) rfl
theorem dX12_part_75 : decode cX12_part 75 = .ok (.lstore 8, 2) := dop_55 (zb_X12_part_1 36 rfl) (zb_X12_part_1 37 rfl)
theorem dX12_part_77 : decode cX12_part 77 = .ok (.aload_n 0, 1) := dop_42 (zb_X12_part_1 38 rfl)
theorem dX12_part_78 : decode cX12_part 78 = .ok (.iload_n 1, 1) := dop_27 (zb_X12_part_1 39 rfl)
theorem ze_X12_part_3 : (dcn cX12_part).drop 119 = zt_X12_part_3 := dw_n (wl := zw_X12_part_2) ze_X12_part_2 rfl
theorem zb_X12_part_2 (j : Nat) {n : Nat} (e : zw_X12_part_2[j]? = some n) : dby cX12_part (79 + j) n := dw_b (t := zt_X12_part_3) ze_X12_part_2 j e
theorem dX12_part_79 : decode cX12_part 79 = .ok (.invokevirtual 397, 3) := dop_182 (zb_X12_part_2 0 rfl) (zb_X12_part_2 1 rfl) (zb_X12_part_2 2 rfl) rfl
theorem dX12_part_82 : decode cX12_part 82 = .ok (.aload_n 0, 1) := dop_42 (zb_X12_part_2 3 rfl)
theorem dX12_part_83 : decode cX12_part 83 = .ok (.getfield 70, 3) := dop_180 (zb_X12_part_2 4 rfl) (zb_X12_part_2 5 rfl) (zb_X12_part_2 6 rfl) rfl
theorem dX12_part_86 : decode cX12_part 86 = .ok (.iload_n 2, 1) := dop_28 (zb_X12_part_2 7 rfl)
theorem dX12_part_87 : decode cX12_part 87 = .ok (.baload, 1) := dop_51 (zb_X12_part_2 8 rfl)
theorem dX12_part_88 : decode cX12_part 88 = .ok (.ifCond .ne 5, 3) := dop_154 (zb_X12_part_2 9 rfl) (zb_X12_part_2 10 rfl) (zb_X12_part_2 11 rfl) rfl
theorem dX12_part_91 : decode cX12_part 91 = .ok (.lconst 0, 1) := dop_9 (zb_X12_part_2 12 rfl)
theorem dX12_part_92 : decode cX12_part 92 = .ok (.lreturn, 1) := dop_173 (zb_X12_part_2 13 rfl)
theorem dX12_part_93 : decode cX12_part 93 = .ok (.aload_n 0, 1) := dop_42 (zb_X12_part_2 14 rfl)
theorem dX12_part_94 : decode cX12_part 94 = .ok (.getfield 61, 3) := dop_180 (zb_X12_part_2 15 rfl) (zb_X12_part_2 16 rfl) (zb_X12_part_2 17 rfl) rfl
theorem dX12_part_97 : decode cX12_part 97 = .ok (.iconst 5, 1) := dop_8 (zb_X12_part_2 18 rfl)
theorem dX12_part_98 : decode cX12_part 98 = .ok (.iload_n 2, 1) := dop_28 (zb_X12_part_2 19 rfl)
theorem dX12_part_99 : decode cX12_part 99 = .ok (.imul, 1) := dop_104 (zb_X12_part_2 20 rfl)
theorem dX12_part_100 : decode cX12_part 100 = .ok (.invokestatic 439, 3) := dop_184 (zb_X12_part_2 21 rfl) (zb_X12_part_2 22 rfl) (zb_X12_part_2 23 rfl) rfl
theorem dX12_part_103 : decode cX12_part 103 = .ok (.lstore 10, 2) := dop_55 (zb_X12_part_2 24 rfl) (zb_X12_part_2 25 rfl)
theorem dX12_part_105 : decode cX12_part 105 = .ok (.aload_n 0, 1) := dop_42 (zb_X12_part_2 26 rfl)
theorem dX12_part_106 : decode cX12_part 106 = .ok (.getfield 64, 3) := dop_180 (zb_X12_part_2 27 rfl) (zb_X12_part_2 28 rfl) (zb_X12_part_2 29 rfl) rfl
theorem dX12_part_109 : decode cX12_part 109 = .ok (.iconst 5, 1) := dop_8 (zb_X12_part_2 30 rfl)
theorem dX12_part_110 : decode cX12_part 110 = .ok (.iload_n 2, 1) := dop_28 (zb_X12_part_2 31 rfl)
theorem dX12_part_111 : decode cX12_part 111 = .ok (.imul, 1) := dop_104 (zb_X12_part_2 32 rfl)
theorem dX12_part_112 : decode cX12_part 112 = .ok (.invokestatic 439, 3) := dop_184 (zb_X12_part_2 33 rfl) (zb_X12_part_2 34 rfl) (zb_X12_part_2 35 rfl) rfl
theorem dX12_part_115 : decode cX12_part 115 = .ok (.lstore 12, 2) := dop_55 (zb_X12_part_2 36 rfl) (zb_X12_part_2 37 rfl)
theorem dX12_part_117 : decode cX12_part 117 = .ok (.lload 10, 2) := dop_22 (zb_X12_part_2 38 rfl) (zb_X12_part_2 39 rfl)
theorem ze_X12_part_4 : (dcn cX12_part).drop 157 = zt_X12_part_4 := dw_n (wl := zw_X12_part_3) ze_X12_part_3 rfl
theorem zb_X12_part_3 (j : Nat) {n : Nat} (e : zw_X12_part_3[j]? = some n) : dby cX12_part (119 + j) n := dw_b (t := zt_X12_part_4) ze_X12_part_3 j e
theorem dX12_part_119 : decode cX12_part 119 = .ok (.lload 12, 2) := dop_22 (zb_X12_part_3 0 rfl) (zb_X12_part_3 1 rfl)
theorem dX12_part_121 : decode cX12_part 121 = .ok (.invokestatic 443, 3) := dop_184 (zb_X12_part_3 2 rfl) (zb_X12_part_3 3 rfl) (zb_X12_part_3 4 rfl) rfl
theorem dX12_part_124 : decode cX12_part 124 = .ok (.lstore 14, 2) := dop_55 (zb_X12_part_3 5 rfl) (zb_X12_part_3 6 rfl)
theorem dX12_part_126 : decode cX12_part 126 = .ok (.lload 4, 2) := dop_22 (zb_X12_part_3 7 rfl) (zb_X12_part_3 8 rfl)
theorem dX12_part_128 : decode cX12_part 128 = .ok (.lload 8, 2) := dop_22 (zb_X12_part_3 9 rfl) (zb_X12_part_3 10 rfl)
theorem dX12_part_130 : decode cX12_part 130 = .ok (.ldiv, 1) := dop_109 (zb_X12_part_3 11 rfl)
theorem dX12_part_131 : decode cX12_part 131 = .ok (.lload 12, 2) := dop_22 (zb_X12_part_3 12 rfl) (zb_X12_part_3 13 rfl)
theorem dX12_part_133 : decode cX12_part 133 = .ok (.lload 14, 2) := dop_22 (zb_X12_part_3 14 rfl) (zb_X12_part_3 15 rfl)
theorem dX12_part_135 : decode cX12_part 135 = .ok (.ldiv, 1) := dop_109 (zb_X12_part_3 16 rfl)
theorem dX12_part_136 : decode cX12_part 136 = .ok (.lcmp, 1) := dop_148 (zb_X12_part_3 17 rfl)
theorem dX12_part_137 : decode cX12_part 137 = .ok (.ifCond .ne 17, 3) := dop_154 (zb_X12_part_3 18 rfl) (zb_X12_part_3 19 rfl) (zb_X12_part_3 20 rfl) rfl
theorem dX12_part_140 : decode cX12_part 140 = .ok (.lload 6, 2) := dop_22 (zb_X12_part_3 21 rfl) (zb_X12_part_3 22 rfl)
theorem dX12_part_142 : decode cX12_part 142 = .ok (.lload 8, 2) := dop_22 (zb_X12_part_3 23 rfl) (zb_X12_part_3 24 rfl)
theorem dX12_part_144 : decode cX12_part 144 = .ok (.ldiv, 1) := dop_109 (zb_X12_part_3 25 rfl)
theorem dX12_part_145 : decode cX12_part 145 = .ok (.lload 10, 2) := dop_22 (zb_X12_part_3 26 rfl) (zb_X12_part_3 27 rfl)
theorem dX12_part_147 : decode cX12_part 147 = .ok (.lload 14, 2) := dop_22 (zb_X12_part_3 28 rfl) (zb_X12_part_3 29 rfl)
theorem dX12_part_149 : decode cX12_part 149 = .ok (.ldiv, 1) := dop_109 (zb_X12_part_3 30 rfl)
theorem dX12_part_150 : decode cX12_part 150 = .ok (.lcmp, 1) := dop_148 (zb_X12_part_3 31 rfl)
theorem dX12_part_151 : decode cX12_part 151 = .ok (.ifCond .eq 5, 3) := dop_153 (zb_X12_part_3 32 rfl) (zb_X12_part_3 33 rfl) (zb_X12_part_3 34 rfl) rfl
theorem dX12_part_154 : decode cX12_part 154 = .ok (.lconst 0, 1) := dop_9 (zb_X12_part_3 35 rfl)
theorem dX12_part_155 : decode cX12_part 155 = .ok (.lreturn, 1) := dop_173 (zb_X12_part_3 36 rfl)
theorem dX12_part_156 : decode cX12_part 156 = .ok (.iload_n 3, 1) := dop_29 (zb_X12_part_3 37 rfl)
theorem zb_X12_part_4 (j : Nat) {n : Nat} (e : zw_X12_part_4[j]? = some n) : dby cX12_part (157 + j) n := dw_b (t := []) ze_X12_part_4 j e
theorem dX12_part_157 : decode cX12_part 157 = .ok (.ifCond .ne 11, 3) := dop_154 (zb_X12_part_4 0 rfl) (zb_X12_part_4 1 rfl) (zb_X12_part_4 2 rfl) rfl
theorem dX12_part_160 : decode cX12_part 160 = .ok (.lload 4, 2) := dop_22 (zb_X12_part_4 3 rfl) (zb_X12_part_4 4 rfl)
theorem dX12_part_162 : decode cX12_part 162 = .ok (.lload 8, 2) := dop_22 (zb_X12_part_4 5 rfl) (zb_X12_part_4 6 rfl)
theorem dX12_part_164 : decode cX12_part 164 = .ok (.ldiv, 1) := dop_109 (zb_X12_part_4 7 rfl)
theorem dX12_part_165 : decode cX12_part 165 = .ok (.goto 8, 3) := dop_167 (zb_X12_part_4 8 rfl) (zb_X12_part_4 9 rfl) (zb_X12_part_4 10 rfl) rfl
theorem dX12_part_168 : decode cX12_part 168 = .ok (.lload 6, 2) := dop_22 (zb_X12_part_4 11 rfl) (zb_X12_part_4 12 rfl)
theorem dX12_part_170 : decode cX12_part 170 = .ok (.lload 8, 2) := dop_22 (zb_X12_part_4 13 rfl) (zb_X12_part_4 14 rfl)
theorem dX12_part_172 : decode cX12_part 172 = .ok (.ldiv, 1) := dop_109 (zb_X12_part_4 15 rfl)
theorem dX12_part_173 : decode cX12_part 173 = .ok (.lreturn, 1) := dop_173 (zb_X12_part_4 16 rfl)
def zw_X12_multiply_3 : List Nat := [109, 55, 4, 132, 6, 1, 167, 255, 162, 3, 54, 6, 21, 6, 16, 10, 162, 0, 20, 43, 21, 6, 42, 180, 0, 115, 21, 6, 47, 80, 132, 6, 1, 167, 255, 235, 177]
def zt_X12_multiply_3 : List Nat := zw_X12_multiply_3 ++ []
def zw_X12_multiply_2 : List Nat := [22, 9, 97, 55, 12, 42, 180, 0, 115, 21, 11, 21, 6, 96, 22, 12, 20, 1, 71, 113, 80, 22, 12, 20, 1, 71, 109, 55, 9, 132, 11, 1, 167, 255, 196, 22, 4, 20, 1, 71]
def zt_X12_multiply_2 : List Nat := zw_X12_multiply_2 ++ zt_X12_multiply_3
def zw_X12_multiply_1 : List Nat := [20, 1, 71, 113, 55, 7, 9, 55, 9, 3, 54, 11, 21, 11, 21, 6, 96, 16, 10, 162, 0, 56, 42, 180, 0, 115, 21, 11, 21, 6, 96, 47, 43, 21, 11, 47, 22, 7, 105, 97]
def zt_X12_multiply_1 : List Nat := zw_X12_multiply_1 ++ zt_X12_multiply_2
def zw_X12_multiply_0 : List Nat := [3, 54, 4, 21, 4, 16, 10, 162, 0, 17, 42, 180, 0, 115, 21, 4, 9, 80, 132, 4, 1, 167, 255, 238, 32, 55, 4, 3, 54, 6, 21, 6, 6, 162, 0, 94, 22, 4]
def zt_X12_multiply_0 : List Nat := zw_X12_multiply_0 ++ zt_X12_multiply_1
theorem ze_X12_multiply_0 : (dcn cX12_multiply).drop 0 = zt_X12_multiply_0 := by decide +kernel
theorem ze_X12_multiply_1 : (dcn cX12_multiply).drop 38 = zt_X12_multiply_1 := dw_n (wl := zw_X12_multiply_0) ze_X12_multiply_0 rfl
theorem zb_X12_multiply_0 (j : Nat) {n : Nat} (e : zw_X12_multiply_0[j]? = some n) : dby cX12_multiply (0 + j) n := dw_b (t := zt_X12_multiply_1) ze_X12_multiply_0 j e
theorem dX12_multiply_0 : decode cX12_multiply 0 = .ok (.iconst 0, 1) := dop_3 (zb_X12_multiply_0 0 rfl)
theorem dX12_multiply_1 : decode cX12_multiply 1 = .ok (.istore 4, 2) := dop_54 (zb_X12_multiply_0 1 rfl) (zb_X12_multiply_0 2 rfl)
theorem dX12_multiply_3 : decode cX12_multiply 3 = .ok (.iload 4, 2) := dop_21 (zb_X12_multiply_0 3 rfl) (zb_X12_multiply_0 4 rfl)
theorem dX12_multiply_5 : decode cX12_multiply 5 = .ok (.bipush 10, 2) := dop_16 (zb_X12_multiply_0 5 rfl) (zb_X12_multiply_0 6 rfl) rfl
theorem dX12_multiply_7 : decode cX12_multiply 7 = .ok (.if_icmp .ge 17, 3) := dop_162 (zb_X12_multiply_0 7 rfl) (zb_X12_multiply_0 8 rfl) (zb_X12_multiply_0 9 rfl) rfl
theorem dX12_multiply_10 : decode cX12_multiply 10 = .ok (.aload_n 0, 1) := dop_42 (zb_X12_multiply_0 10 rfl)
theorem dX12_multiply_11 : decode cX12_multiply 11 = .ok (.getfield 115, 3) := dop_180 (zb_X12_multiply_0 11 rfl) (zb_X12_multiply_0 12 rfl) (zb_X12_multiply_0 13 rfl) rfl
theorem dX12_multiply_14 : decode cX12_multiply 14 = .ok (.iload 4, 2) := dop_21 (zb_X12_multiply_0 14 rfl) (zb_X12_multiply_0 15 rfl)
theorem dX12_multiply_16 : decode cX12_multiply 16 = .ok (.lconst 0, 1) := dop_9 (zb_X12_multiply_0 16 rfl)
theorem dX12_multiply_17 : decode cX12_multiply 17 = .ok (.lastore, 1) := dop_80 (zb_X12_multiply_0 17 rfl)
theorem dX12_multiply_18 : decode cX12_multiply 18 = .ok (.iinc 4 1, 3) := dop_132 (zb_X12_multiply_0 18 rfl) (zb_X12_multiply_0 19 rfl) (zb_X12_multiply_0 20 rfl) rfl
theorem dX12_multiply_21 : decode cX12_multiply 21 = .ok (.goto (-18), 3) := dop_167 (zb_X12_multiply_0 21 rfl) (zb_X12_multiply_0 22 rfl) (zb_X12_multiply_0 23 rfl) rfl
theorem dX12_multiply_24 : decode cX12_multiply 24 = .ok (.lload_n 2, 1) := dop_32 (zb_X12_multiply_0 24 rfl)
theorem dX12_multiply_25 : decode cX12_multiply 25 = .ok (.lstore 4, 2) := dop_55 (zb_X12_multiply_0 25 rfl) (zb_X12_multiply_0 26 rfl)
theorem dX12_multiply_27 : decode cX12_multiply 27 = .ok (.iconst 0, 1) := dop_3 (zb_X12_multiply_0 27 rfl)
theorem dX12_multiply_28 : decode cX12_multiply 28 = .ok (.istore 6, 2) := dop_54 (zb_X12_multiply_0 28 rfl) (zb_X12_multiply_0 29 rfl)
theorem dX12_multiply_30 : decode cX12_multiply 30 = .ok (.iload 6, 2) := dop_21 (zb_X12_multiply_0 30 rfl) (zb_X12_multiply_0 31 rfl)
theorem dX12_multiply_32 : decode cX12_multiply 32 = .ok (.iconst 3, 1) := dop_6 (zb_X12_multiply_0 32 rfl)
theorem dX12_multiply_33 : decode cX12_multiply 33 = .ok (.if_icmp .ge 94, 3) := dop_162 (zb_X12_multiply_0 33 rfl) (zb_X12_multiply_0 34 rfl) (zb_X12_multiply_0 35 rfl) rfl
theorem dX12_multiply_36 : decode cX12_multiply 36 = .ok (.lload 4, 2) := dop_22 (zb_X12_multiply_0 36 rfl) (zb_X12_multiply_0 37 rfl)
theorem ze_X12_multiply_2 : (dcn cX12_multiply).drop 78 = zt_X12_multiply_2 := dw_n (wl := zw_X12_multiply_1) ze_X12_multiply_1 rfl
theorem zb_X12_multiply_1 (j : Nat) {n : Nat} (e : zw_X12_multiply_1[j]? = some n) : dby cX12_multiply (38 + j) n := dw_b (t := zt_X12_multiply_2) ze_X12_multiply_1 j e
theorem dX12_multiply_38 : decode cX12_multiply 38 = .ok (.ldc2_w 327, 3) := dop_20 (zb_X12_multiply_1 0 rfl) (zb_X12_multiply_1 1 rfl) (zb_X12_multiply_1 2 rfl) rfl
theorem dX12_multiply_41 : decode cX12_multiply 41 = .ok (.lrem, 1) := dop_113 (zb_X12_multiply_1 3 rfl)
theorem dX12_multiply_42 : decode cX12_multiply 42 = .ok (.lstore 7, 2) := dop_55 (zb_X12_multiply_1 4 rfl) (zb_X12_multiply_1 5 rfl)
theorem dX12_multiply_44 : decode cX12_multiply 44 = .ok (.lconst 0, 1) := dop_9 (zb_X12_multiply_1 6 rfl)
theorem dX12_multiply_45 : decode cX12_multiply 45 = .ok (.lstore 9, 2) := dop_55 (zb_X12_multiply_1 7 rfl) (zb_X12_multiply_1 8 rfl)
theorem dX12_multiply_47 : decode cX12_multiply 47 = .ok (.iconst 0, 1) := dop_3 (zb_X12_multiply_1 9 rfl)
theorem dX12_multiply_48 : decode cX12_multiply 48 = .ok (.istore 11, 2) := dop_54 (zb_X12_multiply_1 10 rfl) (zb_X12_multiply_1 11 rfl)
theorem dX12_multiply_50 : decode cX12_multiply 50 = .ok (.iload 11, 2) := dop_21 (zb_X12_multiply_1 12 rfl) (zb_X12_multiply_1 13 rfl)
theorem dX12_multiply_52 : decode cX12_multiply 52 = .ok (.iload 6, 2) := dop_21 (zb_X12_multiply_1 14 rfl) (zb_X12_multiply_1 15 rfl)
theorem dX12_multiply_54 : decode cX12_multiply 54 = .ok (.iadd, 1) := dop_96 (zb_X12_multiply_1 16 rfl)
theorem dX12_multiply_55 : decode cX12_multiply 55 = .ok (.bipush 10, 2) := dop_16 (zb_X12_multiply_1 17 rfl) (zb_X12_multiply_1 18 rfl) rfl
theorem dX12_multiply_57 : decode cX12_multiply 57 = .ok (.if_icmp .ge 56, 3) := dop_162 (zb_X12_multiply_1 19 rfl) (zb_X12_multiply_1 20 rfl) (zb_X12_multiply_1 21 rfl) rfl
theorem dX12_multiply_60 : decode cX12_multiply 60 = .ok (.aload_n 0, 1) := dop_42 (zb_X12_multiply_1 22 rfl)
theorem dX12_multiply_61 : decode cX12_multiply 61 = .ok (.getfield 115, 3) := dop_180 (zb_X12_multiply_1 23 rfl) (zb_X12_multiply_1 24 rfl) (zb_X12_multiply_1 25 rfl) rfl
theorem dX12_multiply_64 : decode cX12_multiply 64 = .ok (.iload 11, 2) := dop_21 (zb_X12_multiply_1 26 rfl) (zb_X12_multiply_1 27 rfl)
theorem dX12_multiply_66 : decode cX12_multiply 66 = .ok (.iload 6, 2) := dop_21 (zb_X12_multiply_1 28 rfl) (zb_X12_multiply_1 29 rfl)
theorem dX12_multiply_68 : decode cX12_multiply 68 = .ok (.iadd, 1) := dop_96 (zb_X12_multiply_1 30 rfl)
theorem dX12_multiply_69 : decode cX12_multiply 69 = .ok (.laload, 1) := dop_47 (zb_X12_multiply_1 31 rfl)
theorem dX12_multiply_70 : decode cX12_multiply 70 = .ok (.aload_n 1, 1) := dop_43 (zb_X12_multiply_1 32 rfl)
theorem dX12_multiply_71 : decode cX12_multiply 71 = .ok (.iload 11, 2) := dop_21 (zb_X12_multiply_1 33 rfl) (zb_X12_multiply_1 34 rfl)
theorem dX12_multiply_73 : decode cX12_multiply 73 = .ok (.laload, 1) := dop_47 (zb_X12_multiply_1 35 rfl)
theorem dX12_multiply_74 : decode cX12_multiply 74 = .ok (.lload 7, 2) := dop_22 (zb_X12_multiply_1 36 rfl) (zb_X12_multiply_1 37 rfl)
theorem dX12_multiply_76 : decode cX12_multiply 76 = .ok (.lmul, 1) := dop_105 (zb_X12_multiply_1 38 rfl)
theorem dX12_multiply_77 : decode cX12_multiply 77 = .ok (.ladd, 1) := dop_97 (zb_X12_multiply_1 39 rfl)
theorem ze_X12_multiply_3 : (dcn cX12_multiply).drop 118 = zt_X12_multiply_3 := dw_n (wl := zw_X12_multiply_2) ze_X12_multiply_2 rfl
theorem zb_X12_multiply_2 (j : Nat) {n : Nat} (e : zw_X12_multiply_2[j]? = some n) : dby cX12_multiply (78 + j) n := dw_b (t := zt_X12_multiply_3) ze_X12_multiply_2 j e
theorem dX12_multiply_78 : decode cX12_multiply 78 = .ok (.lload 9, 2) := dop_22 (zb_X12_multiply_2 0 rfl) (zb_X12_multiply_2 1 rfl)
theorem dX12_multiply_80 : decode cX12_multiply 80 = .ok (.ladd, 1) := dop_97 (zb_X12_multiply_2 2 rfl)
theorem dX12_multiply_81 : decode cX12_multiply 81 = .ok (.lstore 12, 2) := dop_55 (zb_X12_multiply_2 3 rfl) (zb_X12_multiply_2 4 rfl)
theorem dX12_multiply_83 : decode cX12_multiply 83 = .ok (.aload_n 0, 1) := dop_42 (zb_X12_multiply_2 5 rfl)
theorem dX12_multiply_84 : decode cX12_multiply 84 = .ok (.getfield 115, 3) := dop_180 (zb_X12_multiply_2 6 rfl) (zb_X12_multiply_2 7 rfl) (zb_X12_multiply_2 8 rfl) rfl
theorem dX12_multiply_87 : decode cX12_multiply 87 = .ok (.iload 11, 2) := dop_21 (zb_X12_multiply_2 9 rfl) (zb_X12_multiply_2 10 rfl)
theorem dX12_multiply_89 : decode cX12_multiply 89 = .ok (.iload 6, 2) := dop_21 (zb_X12_multiply_2 11 rfl) (zb_X12_multiply_2 12 rfl)
theorem dX12_multiply_91 : decode cX12_multiply 91 = .ok (.iadd, 1) := dop_96 (zb_X12_multiply_2 13 rfl)
theorem dX12_multiply_92 : decode cX12_multiply 92 = .ok (.lload 12, 2) := dop_22 (zb_X12_multiply_2 14 rfl) (zb_X12_multiply_2 15 rfl)
theorem dX12_multiply_94 : decode cX12_multiply 94 = .ok (.ldc2_w 327, 3) := dop_20 (zb_X12_multiply_2 16 rfl) (zb_X12_multiply_2 17 rfl) (zb_X12_multiply_2 18 rfl) rfl
theorem dX12_multiply_97 : decode cX12_multiply 97 = .ok (.lrem, 1) := dop_113 (zb_X12_multiply_2 19 rfl)
theorem dX12_multiply_98 : decode cX12_multiply 98 = .ok (.lastore, 1) := dop_80 (zb_X12_multiply_2 20 rfl)
theorem dX12_multiply_99 : decode cX12_multiply 99 = .ok (.lload 12, 2) := dop_22 (zb_X12_multiply_2 21 rfl) (zb_X12_multiply_2 22 rfl)
theorem dX12_multiply_101 : decode cX12_multiply 101 = .ok (.ldc2_w 327, 3) := dop_20 (zb_X12_multiply_2 23 rfl) (zb_X12_multiply_2 24 rfl) (zb_X12_multiply_2 25 rfl) rfl
theorem dX12_multiply_104 : decode cX12_multiply 104 = .ok (.ldiv, 1) := dop_109 (zb_X12_multiply_2 26 rfl)
theorem dX12_multiply_105 : decode cX12_multiply 105 = .ok (.lstore 9, 2) := dop_55 (zb_X12_multiply_2 27 rfl) (zb_X12_multiply_2 28 rfl)
theorem dX12_multiply_107 : decode cX12_multiply 107 = .ok (.iinc 11 1, 3) := dop_132 (zb_X12_multiply_2 29 rfl) (zb_X12_multiply_2 30 rfl) (zb_X12_multiply_2 31 rfl) rfl
theorem dX12_multiply_110 : decode cX12_multiply 110 = .ok (.goto (-60), 3) := dop_167 (zb_X12_multiply_2 32 rfl) (zb_X12_multiply_2 33 rfl) (zb_X12_multiply_2 34 rfl) rfl
theorem dX12_multiply_113 : decode cX12_multiply 113 = .ok (.lload 4, 2) := dop_22 (zb_X12_multiply_2 35 rfl) (zb_X12_multiply_2 36 rfl)
theorem dX12_multiply_115 : decode cX12_multiply 115 = .ok (.ldc2_w 327, 3) := dop_20 (zb_X12_multiply_2 37 rfl) (zb_X12_multiply_2 38 rfl) (zb_X12_multiply_2 39 rfl) rfl
theorem zb_X12_multiply_3 (j : Nat) {n : Nat} (e : zw_X12_multiply_3[j]? = some n) : dby cX12_multiply (118 + j) n := dw_b (t := []) ze_X12_multiply_3 j e
theorem dX12_multiply_118 : decode cX12_multiply 118 = .ok (.ldiv, 1) := dop_109 (zb_X12_multiply_3 0 rfl)
theorem dX12_multiply_119 : decode cX12_multiply 119 = .ok (.lstore 4, 2) := dop_55 (zb_X12_multiply_3 1 rfl) (zb_X12_multiply_3 2 rfl)
theorem dX12_multiply_121 : decode cX12_multiply 121 = .ok (.iinc 6 1, 3) := dop_132 (zb_X12_multiply_3 3 rfl) (zb_X12_multiply_3 4 rfl) (zb_X12_multiply_3 5 rfl) rfl
theorem dX12_multiply_124 : decode cX12_multiply 124 = .ok (.goto (-94), 3) := dop_167 (zb_X12_multiply_3 6 rfl) (zb_X12_multiply_3 7 rfl) (zb_X12_multiply_3 8 rfl) rfl
theorem dX12_multiply_127 : decode cX12_multiply 127 = .ok (.iconst 0, 1) := dop_3 (zb_X12_multiply_3 9 rfl)
theorem dX12_multiply_128 : decode cX12_multiply 128 = .ok (.istore 6, 2) := dop_54 (zb_X12_multiply_3 10 rfl) (zb_X12_multiply_3 11 rfl)
theorem dX12_multiply_130 : decode cX12_multiply 130 = .ok (.iload 6, 2) := dop_21 (zb_X12_multiply_3 12 rfl) (zb_X12_multiply_3 13 rfl)
theorem dX12_multiply_132 : decode cX12_multiply 132 = .ok (.bipush 10, 2) := dop_16 (zb_X12_multiply_3 14 rfl) (zb_X12_multiply_3 15 rfl) rfl
theorem dX12_multiply_134 : decode cX12_multiply 134 = .ok (.if_icmp .ge 20, 3) := dop_162 (zb_X12_multiply_3 16 rfl) (zb_X12_multiply_3 17 rfl) (zb_X12_multiply_3 18 rfl) rfl
theorem dX12_multiply_137 : decode cX12_multiply 137 = .ok (.aload_n 1, 1) := dop_43 (zb_X12_multiply_3 19 rfl)
theorem dX12_multiply_138 : decode cX12_multiply 138 = .ok (.iload 6, 2) := dop_21 (zb_X12_multiply_3 20 rfl) (zb_X12_multiply_3 21 rfl)
theorem dX12_multiply_140 : decode cX12_multiply 140 = .ok (.aload_n 0, 1) := dop_42 (zb_X12_multiply_3 22 rfl)
theorem dX12_multiply_141 : decode cX12_multiply 141 = .ok (.getfield 115, 3) := dop_180 (zb_X12_multiply_3 23 rfl) (zb_X12_multiply_3 24 rfl) (zb_X12_multiply_3 25 rfl) rfl
theorem dX12_multiply_144 : decode cX12_multiply 144 = .ok (.iload 6, 2) := dop_21 (zb_X12_multiply_3 26 rfl) (zb_X12_multiply_3 27 rfl)
theorem dX12_multiply_146 : decode cX12_multiply 146 = .ok (.laload, 1) := dop_47 (zb_X12_multiply_3 28 rfl)
theorem dX12_multiply_147 : decode cX12_multiply 147 = .ok (.lastore, 1) := dop_80 (zb_X12_multiply_3 29 rfl)
theorem dX12_multiply_148 : decode cX12_multiply 148 = .ok (.iinc 6 1, 3) := dop_132 (zb_X12_multiply_3 30 rfl) (zb_X12_multiply_3 31 rfl) (zb_X12_multiply_3 32 rfl) rfl
theorem dX12_multiply_151 : decode cX12_multiply 151 = .ok (.goto (-21), 3) := dop_167 (zb_X12_multiply_3 33 rfl) (zb_X12_multiply_3 34 rfl) (zb_X12_multiply_3 35 rfl) rfl
theorem dX12_multiply_154 : decode cX12_multiply 154 = .ok (.return_, 1) := dop_177 (zb_X12_multiply_3 36 rfl)
def zw_X12_triple_1 : List Nat := [182, 1, 191, 42, 43, 22, 6, 182, 1, 191, 177]
def zt_X12_triple_1 : List Nat := zw_X12_triple_1 ++ []
def zw_X12_triple_0 : List Nat := [3, 54, 8, 21, 8, 16, 10, 162, 0, 23, 43, 21, 8, 21, 8, 154, 0, 7, 10, 167, 0, 4, 9, 80, 132, 8, 1, 167, 255, 232, 42, 43, 32, 182, 1, 191, 42, 43, 22, 4]
def zt_X12_triple_0 : List Nat := zw_X12_triple_0 ++ zt_X12_triple_1
theorem ze_X12_triple_0 : (dcn cX12_triple).drop 0 = zt_X12_triple_0 := by decide +kernel
theorem ze_X12_triple_1 : (dcn cX12_triple).drop 40 = zt_X12_triple_1 := dw_n (wl := zw_X12_triple_0) ze_X12_triple_0 rfl
theorem zb_X12_triple_0 (j : Nat) {n : Nat} (e : zw_X12_triple_0[j]? = some n) : dby cX12_triple (0 + j) n := dw_b (t := zt_X12_triple_1) ze_X12_triple_0 j e
theorem dX12_triple_0 : decode cX12_triple 0 = .ok (.iconst 0, 1) := dop_3 (zb_X12_triple_0 0 rfl)
theorem dX12_triple_1 : decode cX12_triple 1 = .ok (.istore 8, 2) := dop_54 (zb_X12_triple_0 1 rfl) (zb_X12_triple_0 2 rfl)
theorem dX12_triple_3 : decode cX12_triple 3 = .ok (.iload 8, 2) := dop_21 (zb_X12_triple_0 3 rfl) (zb_X12_triple_0 4 rfl)
theorem dX12_triple_5 : decode cX12_triple 5 = .ok (.bipush 10, 2) := dop_16 (zb_X12_triple_0 5 rfl) (zb_X12_triple_0 6 rfl) rfl
theorem dX12_triple_7 : decode cX12_triple 7 = .ok (.if_icmp .ge 23, 3) := dop_162 (zb_X12_triple_0 7 rfl) (zb_X12_triple_0 8 rfl) (zb_X12_triple_0 9 rfl) rfl
theorem dX12_triple_10 : decode cX12_triple 10 = .ok (.aload_n 1, 1) := dop_43 (zb_X12_triple_0 10 rfl)
theorem dX12_triple_11 : decode cX12_triple 11 = .ok (.iload 8, 2) := dop_21 (zb_X12_triple_0 11 rfl) (zb_X12_triple_0 12 rfl)
theorem dX12_triple_13 : decode cX12_triple 13 = .ok (.iload 8, 2) := dop_21 (zb_X12_triple_0 13 rfl) (zb_X12_triple_0 14 rfl)
theorem dX12_triple_15 : decode cX12_triple 15 = .ok (.ifCond .ne 7, 3) := dop_154 (zb_X12_triple_0 15 rfl) (zb_X12_triple_0 16 rfl) (zb_X12_triple_0 17 rfl) rfl
theorem dX12_triple_18 : decode cX12_triple 18 = .ok (.lconst 1, 1) := dop_10 (zb_X12_triple_0 18 rfl)
theorem dX12_triple_19 : decode cX12_triple 19 = .ok (.goto 4, 3) := dop_167 (zb_X12_triple_0 19 rfl) (zb_X12_triple_0 20 rfl) (zb_X12_triple_0 21 rfl) rfl
theorem dX12_triple_22 : decode cX12_triple 22 = .ok (.lconst 0, 1) := dop_9 (zb_X12_triple_0 22 rfl)
theorem dX12_triple_23 : decode cX12_triple 23 = .ok (.lastore, 1) := dop_80 (zb_X12_triple_0 23 rfl)
theorem dX12_triple_24 : decode cX12_triple 24 = .ok (.iinc 8 1, 3) := dop_132 (zb_X12_triple_0 24 rfl) (zb_X12_triple_0 25 rfl) (zb_X12_triple_0 26 rfl) rfl
theorem dX12_triple_27 : decode cX12_triple 27 = .ok (.goto (-24), 3) := dop_167 (zb_X12_triple_0 27 rfl) (zb_X12_triple_0 28 rfl) (zb_X12_triple_0 29 rfl) rfl
theorem dX12_triple_30 : decode cX12_triple 30 = .ok (.aload_n 0, 1) := dop_42 (zb_X12_triple_0 30 rfl)
theorem dX12_triple_31 : decode cX12_triple 31 = .ok (.aload_n 1, 1) := dop_43 (zb_X12_triple_0 31 rfl)
theorem dX12_triple_32 : decode cX12_triple 32 = .ok (.lload_n 2, 1) := dop_32 (zb_X12_triple_0 32 rfl)
theorem dX12_triple_33 : decode cX12_triple 33 = .ok (.invokevirtual 447, 3) := dop_182 (zb_X12_triple_0 33 rfl) (zb_X12_triple_0 34 rfl) (zb_X12_triple_0 35 rfl) rfl
theorem dX12_triple_36 : decode cX12_triple 36 = .ok (.aload_n 0, 1) := dop_42 (zb_X12_triple_0 36 rfl)
theorem dX12_triple_37 : decode cX12_triple 37 = .ok (.aload_n 1, 1) := dop_43 (zb_X12_triple_0 37 rfl)
theorem dX12_triple_38 : decode cX12_triple 38 = .ok (.lload 4, 2) := dop_22 (zb_X12_triple_0 38 rfl) (zb_X12_triple_0 39 rfl)
theorem zb_X12_triple_1 (j : Nat) {n : Nat} (e : zw_X12_triple_1[j]? = some n) : dby cX12_triple (40 + j) n := dw_b (t := []) ze_X12_triple_1 j e
theorem dX12_triple_40 : decode cX12_triple 40 = .ok (.invokevirtual 447, 3) := dop_182 (zb_X12_triple_1 0 rfl) (zb_X12_triple_1 1 rfl) (zb_X12_triple_1 2 rfl) rfl
theorem dX12_triple_43 : decode cX12_triple 43 = .ok (.aload_n 0, 1) := dop_42 (zb_X12_triple_1 3 rfl)
theorem dX12_triple_44 : decode cX12_triple 44 = .ok (.aload_n 1, 1) := dop_43 (zb_X12_triple_1 4 rfl)
theorem dX12_triple_45 : decode cX12_triple 45 = .ok (.lload 6, 2) := dop_22 (zb_X12_triple_1 5 rfl) (zb_X12_triple_1 6 rfl)
theorem dX12_triple_47 : decode cX12_triple 47 = .ok (.invokevirtual 447, 3) := dop_182 (zb_X12_triple_1 7 rfl) (zb_X12_triple_1 8 rfl) (zb_X12_triple_1 9 rfl) rfl
theorem dX12_triple_50 : decode cX12_triple 50 = .ok (.return_, 1) := dop_177 (zb_X12_triple_1 10 rfl)
def zw_X12_besideTen_1 : List Nat := [172]
def zt_X12_besideTen_1 : List Nat := zw_X12_besideTen_1 ++ []
def zw_X12_besideTen_0 : List Nat := [16, 9, 61, 28, 155, 0, 35, 42, 28, 47, 43, 28, 47, 148, 153, 0, 19, 42, 28, 47, 43, 28, 47, 148, 156, 0, 7, 2, 167, 0, 4, 4, 172, 132, 2, 255, 167, 255, 223, 3]
def zt_X12_besideTen_0 : List Nat := zw_X12_besideTen_0 ++ zt_X12_besideTen_1
theorem ze_X12_besideTen_0 : (dcn cX12_besideTen).drop 0 = zt_X12_besideTen_0 := by decide +kernel
theorem ze_X12_besideTen_1 : (dcn cX12_besideTen).drop 40 = zt_X12_besideTen_1 := dw_n (wl := zw_X12_besideTen_0) ze_X12_besideTen_0 rfl
theorem zb_X12_besideTen_0 (j : Nat) {n : Nat} (e : zw_X12_besideTen_0[j]? = some n) : dby cX12_besideTen (0 + j) n := dw_b (t := zt_X12_besideTen_1) ze_X12_besideTen_0 j e
theorem dX12_besideTen_0 : decode cX12_besideTen 0 = .ok (.bipush 9, 2) := dop_16 (zb_X12_besideTen_0 0 rfl) (zb_X12_besideTen_0 1 rfl) rfl
theorem dX12_besideTen_2 : decode cX12_besideTen 2 = .ok (.istore_n 2, 1) := dop_61 (zb_X12_besideTen_0 2 rfl)
theorem dX12_besideTen_3 : decode cX12_besideTen 3 = .ok (.iload_n 2, 1) := dop_28 (zb_X12_besideTen_0 3 rfl)
theorem dX12_besideTen_4 : decode cX12_besideTen 4 = .ok (.ifCond .lt 35, 3) := dop_155 (zb_X12_besideTen_0 4 rfl) (zb_X12_besideTen_0 5 rfl) (zb_X12_besideTen_0 6 rfl) rfl
theorem dX12_besideTen_7 : decode cX12_besideTen 7 = .ok (.aload_n 0, 1) := dop_42 (zb_X12_besideTen_0 7 rfl)
theorem dX12_besideTen_8 : decode cX12_besideTen 8 = .ok (.iload_n 2, 1) := dop_28 (zb_X12_besideTen_0 8 rfl)
theorem dX12_besideTen_9 : decode cX12_besideTen 9 = .ok (.laload, 1) := dop_47 (zb_X12_besideTen_0 9 rfl)
theorem dX12_besideTen_10 : decode cX12_besideTen 10 = .ok (.aload_n 1, 1) := dop_43 (zb_X12_besideTen_0 10 rfl)
theorem dX12_besideTen_11 : decode cX12_besideTen 11 = .ok (.iload_n 2, 1) := dop_28 (zb_X12_besideTen_0 11 rfl)
theorem dX12_besideTen_12 : decode cX12_besideTen 12 = .ok (.laload, 1) := dop_47 (zb_X12_besideTen_0 12 rfl)
theorem dX12_besideTen_13 : decode cX12_besideTen 13 = .ok (.lcmp, 1) := dop_148 (zb_X12_besideTen_0 13 rfl)
theorem dX12_besideTen_14 : decode cX12_besideTen 14 = .ok (.ifCond .eq 19, 3) := dop_153 (zb_X12_besideTen_0 14 rfl) (zb_X12_besideTen_0 15 rfl) (zb_X12_besideTen_0 16 rfl) rfl
theorem dX12_besideTen_17 : decode cX12_besideTen 17 = .ok (.aload_n 0, 1) := dop_42 (zb_X12_besideTen_0 17 rfl)
theorem dX12_besideTen_18 : decode cX12_besideTen 18 = .ok (.iload_n 2, 1) := dop_28 (zb_X12_besideTen_0 18 rfl)
theorem dX12_besideTen_19 : decode cX12_besideTen 19 = .ok (.laload, 1) := dop_47 (zb_X12_besideTen_0 19 rfl)
theorem dX12_besideTen_20 : decode cX12_besideTen 20 = .ok (.aload_n 1, 1) := dop_43 (zb_X12_besideTen_0 20 rfl)
theorem dX12_besideTen_21 : decode cX12_besideTen 21 = .ok (.iload_n 2, 1) := dop_28 (zb_X12_besideTen_0 21 rfl)
theorem dX12_besideTen_22 : decode cX12_besideTen 22 = .ok (.laload, 1) := dop_47 (zb_X12_besideTen_0 22 rfl)
theorem dX12_besideTen_23 : decode cX12_besideTen 23 = .ok (.lcmp, 1) := dop_148 (zb_X12_besideTen_0 23 rfl)
theorem dX12_besideTen_24 : decode cX12_besideTen 24 = .ok (.ifCond .ge 7, 3) := dop_156 (zb_X12_besideTen_0 24 rfl) (zb_X12_besideTen_0 25 rfl) (zb_X12_besideTen_0 26 rfl) rfl
theorem dX12_besideTen_27 : decode cX12_besideTen 27 = .ok (.iconst (-1), 1) := dop_2 (zb_X12_besideTen_0 27 rfl)
theorem dX12_besideTen_28 : decode cX12_besideTen 28 = .ok (.goto 4, 3) := dop_167 (zb_X12_besideTen_0 28 rfl) (zb_X12_besideTen_0 29 rfl) (zb_X12_besideTen_0 30 rfl) rfl
theorem dX12_besideTen_31 : decode cX12_besideTen 31 = .ok (.iconst 1, 1) := dop_4 (zb_X12_besideTen_0 31 rfl)
theorem dX12_besideTen_32 : decode cX12_besideTen 32 = .ok (.ireturn, 1) := dop_172 (zb_X12_besideTen_0 32 rfl)
theorem dX12_besideTen_33 : decode cX12_besideTen 33 = .ok (.iinc 2 (-1), 3) := dop_132 (zb_X12_besideTen_0 33 rfl) (zb_X12_besideTen_0 34 rfl) (zb_X12_besideTen_0 35 rfl) rfl
theorem dX12_besideTen_36 : decode cX12_besideTen 36 = .ok (.goto (-33), 3) := dop_167 (zb_X12_besideTen_0 36 rfl) (zb_X12_besideTen_0 37 rfl) (zb_X12_besideTen_0 38 rfl) rfl
theorem dX12_besideTen_39 : decode cX12_besideTen 39 = .ok (.iconst 0, 1) := dop_3 (zb_X12_besideTen_0 39 rfl)
theorem zb_X12_besideTen_1 (j : Nat) {n : Nat} (e : zw_X12_besideTen_1[j]? = some n) : dby cX12_besideTen (40 + j) n := dw_b (t := []) ze_X12_besideTen_1 j e
theorem dX12_besideTen_40 : decode cX12_besideTen 40 = .ok (.ireturn, 1) := dop_172 (zb_X12_besideTen_1 0 rfl)
def zw_X12_often_3 : List Nat := [164, 0, 7, 27, 167, 0, 4, 29, 172]
def zt_X12_often_3 : List Nat := zw_X12_often_3 ++ []
def zw_X12_often_2 : List Nat := [42, 42, 180, 0, 112, 29, 133, 182, 1, 191, 29, 28, 154, 0, 21, 42, 180, 0, 112, 42, 180, 0, 106, 184, 1, 199, 154, 0, 7, 4, 167, 0, 4, 3, 100, 62, 29, 27]
def zt_X12_often_2 : List Nat := zw_X12_often_2 ++ zt_X12_often_3
def zw_X12_often_1 : List Nat := [182, 1, 191, 42, 180, 0, 112, 42, 180, 0, 106, 184, 1, 199, 157, 0, 9, 21, 5, 62, 167, 0, 9, 21, 5, 4, 100, 54, 4, 167, 255, 195, 42, 42, 180, 0, 109, 182, 1, 195]
def zt_X12_often_1 : List Nat := zw_X12_often_1 ++ zt_X12_often_2
def zw_X12_often_0 : List Nat := [3, 62, 27, 4, 96, 54, 4, 29, 21, 4, 162, 0, 61, 29, 21, 4, 96, 4, 96, 5, 108, 54, 5, 42, 42, 180, 0, 109, 182, 1, 195, 42, 42, 180, 0, 112, 21, 5, 133]
def zt_X12_often_0 : List Nat := zw_X12_often_0 ++ zt_X12_often_1
theorem ze_X12_often_0 : (dcn cX12_often).drop 0 = zt_X12_often_0 := by decide +kernel
theorem ze_X12_often_1 : (dcn cX12_often).drop 39 = zt_X12_often_1 := dw_n (wl := zw_X12_often_0) ze_X12_often_0 rfl
theorem zb_X12_often_0 (j : Nat) {n : Nat} (e : zw_X12_often_0[j]? = some n) : dby cX12_often (0 + j) n := dw_b (t := zt_X12_often_1) ze_X12_often_0 j e
theorem dX12_often_0 : decode cX12_often 0 = .ok (.iconst 0, 1) := dop_3 (zb_X12_often_0 0 rfl)
theorem dX12_often_1 : decode cX12_often 1 = .ok (.istore_n 3, 1) := dop_62 (zb_X12_often_0 1 rfl)
theorem dX12_often_2 : decode cX12_often 2 = .ok (.iload_n 1, 1) := dop_27 (zb_X12_often_0 2 rfl)
theorem dX12_often_3 : decode cX12_often 3 = .ok (.iconst 1, 1) := dop_4 (zb_X12_often_0 3 rfl)
theorem dX12_often_4 : decode cX12_often 4 = .ok (.iadd, 1) := dop_96 (zb_X12_often_0 4 rfl)
theorem dX12_often_5 : decode cX12_often 5 = .ok (.istore 4, 2) := dop_54 (zb_X12_often_0 5 rfl) (zb_X12_often_0 6 rfl)
theorem dX12_often_7 : decode cX12_often 7 = .ok (.iload_n 3, 1) := dop_29 (zb_X12_often_0 7 rfl)
theorem dX12_often_8 : decode cX12_often 8 = .ok (.iload 4, 2) := dop_21 (zb_X12_often_0 8 rfl) (zb_X12_often_0 9 rfl)
theorem dX12_often_10 : decode cX12_often 10 = .ok (.if_icmp .ge 61, 3) := dop_162 (zb_X12_often_0 10 rfl) (zb_X12_often_0 11 rfl) (zb_X12_often_0 12 rfl) rfl
theorem dX12_often_13 : decode cX12_often 13 = .ok (.iload_n 3, 1) := dop_29 (zb_X12_often_0 13 rfl)
theorem dX12_often_14 : decode cX12_often 14 = .ok (.iload 4, 2) := dop_21 (zb_X12_often_0 14 rfl) (zb_X12_often_0 15 rfl)
theorem dX12_often_16 : decode cX12_often 16 = .ok (.iadd, 1) := dop_96 (zb_X12_often_0 16 rfl)
theorem dX12_often_17 : decode cX12_often 17 = .ok (.iconst 1, 1) := dop_4 (zb_X12_often_0 17 rfl)
theorem dX12_often_18 : decode cX12_often 18 = .ok (.iadd, 1) := dop_96 (zb_X12_often_0 18 rfl)
theorem dX12_often_19 : decode cX12_often 19 = .ok (.iconst 2, 1) := dop_5 (zb_X12_often_0 19 rfl)
theorem dX12_often_20 : decode cX12_often 20 = .ok (.idiv, 1) := dop_108 (zb_X12_often_0 20 rfl)
theorem dX12_often_21 : decode cX12_often 21 = .ok (.istore 5, 2) := dop_54 (zb_X12_often_0 21 rfl) (zb_X12_often_0 22 rfl)
theorem dX12_often_23 : decode cX12_often 23 = .ok (.aload_n 0, 1) := dop_42 (zb_X12_often_0 23 rfl)
theorem dX12_often_24 : decode cX12_often 24 = .ok (.aload_n 0, 1) := dop_42 (zb_X12_often_0 24 rfl)
theorem dX12_often_25 : decode cX12_often 25 = .ok (.getfield 109, 3) := dop_180 (zb_X12_often_0 25 rfl) (zb_X12_often_0 26 rfl) (zb_X12_often_0 27 rfl) rfl
theorem dX12_often_28 : decode cX12_often 28 = .ok (.invokevirtual 451, 3) := dop_182 (zb_X12_often_0 28 rfl) (zb_X12_often_0 29 rfl) (zb_X12_often_0 30 rfl) rfl
theorem dX12_often_31 : decode cX12_often 31 = .ok (.aload_n 0, 1) := dop_42 (zb_X12_often_0 31 rfl)
theorem dX12_often_32 : decode cX12_often 32 = .ok (.aload_n 0, 1) := dop_42 (zb_X12_often_0 32 rfl)
theorem dX12_often_33 : decode cX12_often 33 = .ok (.getfield 112, 3) := dop_180 (zb_X12_often_0 33 rfl) (zb_X12_often_0 34 rfl) (zb_X12_often_0 35 rfl) rfl
theorem dX12_often_36 : decode cX12_often 36 = .ok (.iload 5, 2) := dop_21 (zb_X12_often_0 36 rfl) (zb_X12_often_0 37 rfl)
theorem dX12_often_38 : decode cX12_often 38 = .ok (.i2l, 1) := dop_133 (zb_X12_often_0 38 rfl)
theorem ze_X12_often_2 : (dcn cX12_often).drop 79 = zt_X12_often_2 := dw_n (wl := zw_X12_often_1) ze_X12_often_1 rfl
theorem zb_X12_often_1 (j : Nat) {n : Nat} (e : zw_X12_often_1[j]? = some n) : dby cX12_often (39 + j) n := dw_b (t := zt_X12_often_2) ze_X12_often_1 j e
theorem dX12_often_39 : decode cX12_often 39 = .ok (.invokevirtual 447, 3) := dop_182 (zb_X12_often_1 0 rfl) (zb_X12_often_1 1 rfl) (zb_X12_often_1 2 rfl) rfl
theorem dX12_often_42 : decode cX12_often 42 = .ok (.aload_n 0, 1) := dop_42 (zb_X12_often_1 3 rfl)
theorem dX12_often_43 : decode cX12_often 43 = .ok (.getfield 112, 3) := dop_180 (zb_X12_often_1 4 rfl) (zb_X12_often_1 5 rfl) (zb_X12_often_1 6 rfl) rfl
theorem dX12_often_46 : decode cX12_often 46 = .ok (.aload_n 0, 1) := dop_42 (zb_X12_often_1 7 rfl)
theorem dX12_often_47 : decode cX12_often 47 = .ok (.getfield 106, 3) := dop_180 (zb_X12_often_1 8 rfl) (zb_X12_often_1 9 rfl) (zb_X12_often_1 10 rfl) rfl
theorem dX12_often_50 : decode cX12_often 50 = .ok (.invokestatic 455, 3) := dop_184 (zb_X12_often_1 11 rfl) (zb_X12_often_1 12 rfl) (zb_X12_often_1 13 rfl) rfl
theorem dX12_often_53 : decode cX12_often 53 = .ok (.ifCond .gt 9, 3) := dop_157 (zb_X12_often_1 14 rfl) (zb_X12_often_1 15 rfl) (zb_X12_often_1 16 rfl) rfl
theorem dX12_often_56 : decode cX12_often 56 = .ok (.iload 5, 2) := dop_21 (zb_X12_often_1 17 rfl) (zb_X12_often_1 18 rfl)
theorem dX12_often_58 : decode cX12_often 58 = .ok (.istore_n 3, 1) := dop_62 (zb_X12_often_1 19 rfl)
theorem dX12_often_59 : decode cX12_often 59 = .ok (.goto 9, 3) := dop_167 (zb_X12_often_1 20 rfl) (zb_X12_often_1 21 rfl) (zb_X12_often_1 22 rfl) rfl
theorem dX12_often_62 : decode cX12_often 62 = .ok (.iload 5, 2) := dop_21 (zb_X12_often_1 23 rfl) (zb_X12_often_1 24 rfl)
theorem dX12_often_64 : decode cX12_often 64 = .ok (.iconst 1, 1) := dop_4 (zb_X12_often_1 25 rfl)
theorem dX12_often_65 : decode cX12_often 65 = .ok (.isub, 1) := dop_100 (zb_X12_often_1 26 rfl)
theorem dX12_often_66 : decode cX12_often 66 = .ok (.istore 4, 2) := dop_54 (zb_X12_often_1 27 rfl) (zb_X12_often_1 28 rfl)
theorem dX12_often_68 : decode cX12_often 68 = .ok (.goto (-61), 3) := dop_167 (zb_X12_often_1 29 rfl) (zb_X12_often_1 30 rfl) (zb_X12_often_1 31 rfl) rfl
theorem dX12_often_71 : decode cX12_often 71 = .ok (.aload_n 0, 1) := dop_42 (zb_X12_often_1 32 rfl)
theorem dX12_often_72 : decode cX12_often 72 = .ok (.aload_n 0, 1) := dop_42 (zb_X12_often_1 33 rfl)
theorem dX12_often_73 : decode cX12_often 73 = .ok (.getfield 109, 3) := dop_180 (zb_X12_often_1 34 rfl) (zb_X12_often_1 35 rfl) (zb_X12_often_1 36 rfl) rfl
theorem dX12_often_76 : decode cX12_often 76 = .ok (.invokevirtual 451, 3) := dop_182 (zb_X12_often_1 37 rfl) (zb_X12_often_1 38 rfl) (zb_X12_often_1 39 rfl) rfl
theorem ze_X12_often_3 : (dcn cX12_often).drop 117 = zt_X12_often_3 := dw_n (wl := zw_X12_often_2) ze_X12_often_2 rfl
theorem zb_X12_often_2 (j : Nat) {n : Nat} (e : zw_X12_often_2[j]? = some n) : dby cX12_often (79 + j) n := dw_b (t := zt_X12_often_3) ze_X12_often_2 j e
theorem dX12_often_79 : decode cX12_often 79 = .ok (.aload_n 0, 1) := dop_42 (zb_X12_often_2 0 rfl)
theorem dX12_often_80 : decode cX12_often 80 = .ok (.aload_n 0, 1) := dop_42 (zb_X12_often_2 1 rfl)
theorem dX12_often_81 : decode cX12_often 81 = .ok (.getfield 112, 3) := dop_180 (zb_X12_often_2 2 rfl) (zb_X12_often_2 3 rfl) (zb_X12_often_2 4 rfl) rfl
theorem dX12_often_84 : decode cX12_often 84 = .ok (.iload_n 3, 1) := dop_29 (zb_X12_often_2 5 rfl)
theorem dX12_often_85 : decode cX12_often 85 = .ok (.i2l, 1) := dop_133 (zb_X12_often_2 6 rfl)
theorem dX12_often_86 : decode cX12_often 86 = .ok (.invokevirtual 447, 3) := dop_182 (zb_X12_often_2 7 rfl) (zb_X12_often_2 8 rfl) (zb_X12_often_2 9 rfl) rfl
theorem dX12_often_89 : decode cX12_often 89 = .ok (.iload_n 3, 1) := dop_29 (zb_X12_often_2 10 rfl)
theorem dX12_often_90 : decode cX12_often 90 = .ok (.iload_n 2, 1) := dop_28 (zb_X12_often_2 11 rfl)
theorem dX12_often_91 : decode cX12_often 91 = .ok (.ifCond .ne 21, 3) := dop_154 (zb_X12_often_2 12 rfl) (zb_X12_often_2 13 rfl) (zb_X12_often_2 14 rfl) rfl
theorem dX12_often_94 : decode cX12_often 94 = .ok (.aload_n 0, 1) := dop_42 (zb_X12_often_2 15 rfl)
theorem dX12_often_95 : decode cX12_often 95 = .ok (.getfield 112, 3) := dop_180 (zb_X12_often_2 16 rfl) (zb_X12_often_2 17 rfl) (zb_X12_often_2 18 rfl) rfl
theorem dX12_often_98 : decode cX12_often 98 = .ok (.aload_n 0, 1) := dop_42 (zb_X12_often_2 19 rfl)
theorem dX12_often_99 : decode cX12_often 99 = .ok (.getfield 106, 3) := dop_180 (zb_X12_often_2 20 rfl) (zb_X12_often_2 21 rfl) (zb_X12_often_2 22 rfl) rfl
theorem dX12_often_102 : decode cX12_often 102 = .ok (.invokestatic 455, 3) := dop_184 (zb_X12_often_2 23 rfl) (zb_X12_often_2 24 rfl) (zb_X12_often_2 25 rfl) rfl
theorem dX12_often_105 : decode cX12_often 105 = .ok (.ifCond .ne 7, 3) := dop_154 (zb_X12_often_2 26 rfl) (zb_X12_often_2 27 rfl) (zb_X12_often_2 28 rfl) rfl
theorem dX12_often_108 : decode cX12_often 108 = .ok (.iconst 1, 1) := dop_4 (zb_X12_often_2 29 rfl)
theorem dX12_often_109 : decode cX12_often 109 = .ok (.goto 4, 3) := dop_167 (zb_X12_often_2 30 rfl) (zb_X12_often_2 31 rfl) (zb_X12_often_2 32 rfl) rfl
theorem dX12_often_112 : decode cX12_often 112 = .ok (.iconst 0, 1) := dop_3 (zb_X12_often_2 33 rfl)
theorem dX12_often_113 : decode cX12_often 113 = .ok (.isub, 1) := dop_100 (zb_X12_often_2 34 rfl)
theorem dX12_often_114 : decode cX12_often 114 = .ok (.istore_n 3, 1) := dop_62 (zb_X12_often_2 35 rfl)
theorem dX12_often_115 : decode cX12_often 115 = .ok (.iload_n 3, 1) := dop_29 (zb_X12_often_2 36 rfl)
theorem dX12_often_116 : decode cX12_often 116 = .ok (.iload_n 1, 1) := dop_27 (zb_X12_often_2 37 rfl)
theorem zb_X12_often_3 (j : Nat) {n : Nat} (e : zw_X12_often_3[j]? = some n) : dby cX12_often (117 + j) n := dw_b (t := []) ze_X12_often_3 j e
theorem dX12_often_117 : decode cX12_often 117 = .ok (.if_icmp .le 7, 3) := dop_164 (zb_X12_often_3 0 rfl) (zb_X12_often_3 1 rfl) (zb_X12_often_3 2 rfl) rfl
theorem dX12_often_120 : decode cX12_often 120 = .ok (.iload_n 1, 1) := dop_27 (zb_X12_often_3 3 rfl)
theorem dX12_often_121 : decode cX12_often 121 = .ok (.goto 4, 3) := dop_167 (zb_X12_often_3 4 rfl) (zb_X12_often_3 5 rfl) (zb_X12_often_3 6 rfl) rfl
theorem dX12_often_124 : decode cX12_often 124 = .ok (.iload_n 3, 1) := dop_29 (zb_X12_often_3 7 rfl)
theorem dX12_often_125 : decode cX12_often 125 = .ok (.ireturn, 1) := dop_172 (zb_X12_often_3 8 rfl)
def zw_X12_copyTen_0 : List Nat := [3, 61, 28, 16, 10, 162, 0, 18, 42, 180, 0, 112, 28, 43, 28, 47, 80, 132, 2, 1, 167, 255, 238, 177]
def zt_X12_copyTen_0 : List Nat := zw_X12_copyTen_0 ++ []
theorem ze_X12_copyTen_0 : (dcn cX12_copyTen).drop 0 = zt_X12_copyTen_0 := by decide +kernel
theorem zb_X12_copyTen_0 (j : Nat) {n : Nat} (e : zw_X12_copyTen_0[j]? = some n) : dby cX12_copyTen (0 + j) n := dw_b (t := []) ze_X12_copyTen_0 j e
theorem dX12_copyTen_0 : decode cX12_copyTen 0 = .ok (.iconst 0, 1) := dop_3 (zb_X12_copyTen_0 0 rfl)
theorem dX12_copyTen_1 : decode cX12_copyTen 1 = .ok (.istore_n 2, 1) := dop_61 (zb_X12_copyTen_0 1 rfl)
theorem dX12_copyTen_2 : decode cX12_copyTen 2 = .ok (.iload_n 2, 1) := dop_28 (zb_X12_copyTen_0 2 rfl)
theorem dX12_copyTen_3 : decode cX12_copyTen 3 = .ok (.bipush 10, 2) := dop_16 (zb_X12_copyTen_0 3 rfl) (zb_X12_copyTen_0 4 rfl) rfl
theorem dX12_copyTen_5 : decode cX12_copyTen 5 = .ok (.if_icmp .ge 18, 3) := dop_162 (zb_X12_copyTen_0 5 rfl) (zb_X12_copyTen_0 6 rfl) (zb_X12_copyTen_0 7 rfl) rfl
theorem dX12_copyTen_8 : decode cX12_copyTen 8 = .ok (.aload_n 0, 1) := dop_42 (zb_X12_copyTen_0 8 rfl)
theorem dX12_copyTen_9 : decode cX12_copyTen 9 = .ok (.getfield 112, 3) := dop_180 (zb_X12_copyTen_0 9 rfl) (zb_X12_copyTen_0 10 rfl) (zb_X12_copyTen_0 11 rfl) rfl
theorem dX12_copyTen_12 : decode cX12_copyTen 12 = .ok (.iload_n 2, 1) := dop_28 (zb_X12_copyTen_0 12 rfl)
theorem dX12_copyTen_13 : decode cX12_copyTen 13 = .ok (.aload_n 1, 1) := dop_43 (zb_X12_copyTen_0 13 rfl)
theorem dX12_copyTen_14 : decode cX12_copyTen 14 = .ok (.iload_n 2, 1) := dop_28 (zb_X12_copyTen_0 14 rfl)
theorem dX12_copyTen_15 : decode cX12_copyTen 15 = .ok (.laload, 1) := dop_47 (zb_X12_copyTen_0 15 rfl)
theorem dX12_copyTen_16 : decode cX12_copyTen 16 = .ok (.lastore, 1) := dop_80 (zb_X12_copyTen_0 16 rfl)
theorem dX12_copyTen_17 : decode cX12_copyTen 17 = .ok (.iinc 2 1, 3) := dop_132 (zb_X12_copyTen_0 17 rfl) (zb_X12_copyTen_0 18 rfl) (zb_X12_copyTen_0 19 rfl) rfl
theorem dX12_copyTen_20 : decode cX12_copyTen 20 = .ok (.goto (-18), 3) := dop_167 (zb_X12_copyTen_0 20 rfl) (zb_X12_copyTen_0 21 rfl) (zb_X12_copyTen_0 22 rfl) rfl
theorem dX12_copyTen_23 : decode cX12_copyTen 23 = .ok (.return_, 1) := dop_177 (zb_X12_copyTen_0 23 rfl)
def zw_X12_takeEnd_4 : List Nat := [180, 0, 118, 27, 22, 6, 22, 10, 109, 80, 42, 180, 0, 121, 27, 22, 8, 22, 10, 109, 80, 177]
def zt_X12_takeEnd_4 : List Nat := zw_X12_takeEnd_4 ++ []
def zw_X12_takeEnd_3 : List Nat := [167, 0, 5, 16, 10, 184, 1, 183, 55, 6, 42, 180, 0, 103, 21, 4, 153, 0, 7, 8, 167, 0, 5, 16, 15, 184, 1, 183, 55, 8, 22, 6, 22, 8, 184, 1, 187, 55, 10, 42]
def zt_X12_takeEnd_3 : List Nat := zw_X12_takeEnd_3 ++ zt_X12_takeEnd_4
def zw_X12_takeEnd_2 : List Nat := [180, 1, 156, 153, 0, 17, 167, 0, 10, 42, 180, 1, 162, 153, 0, 7, 4, 167, 0, 4, 3, 181, 1, 206, 21, 5, 153, 0, 74, 42, 180, 0, 103, 21, 4, 153, 0, 7, 3]
def zt_X12_takeEnd_2 : List Nat := zw_X12_takeEnd_2 ++ zt_X12_takeEnd_3
def zw_X12_takeEnd_1 : List Nat := [180, 1, 159, 54, 5, 42, 42, 180, 1, 203, 153, 0, 12, 21, 5, 153, 0, 7, 4, 167, 0, 4, 3, 181, 1, 203, 42, 42, 180, 1, 206, 153, 0, 29, 21, 4, 153, 0, 13, 42]
def zt_X12_takeEnd_1 : List Nat := zw_X12_takeEnd_1 ++ zt_X12_takeEnd_2
def zw_X12_takeEnd_0 : List Nat := [42, 180, 0, 118, 27, 9, 80, 42, 180, 0, 121, 27, 10, 80, 28, 2, 160, 0, 4, 177, 42, 28, 29, 182, 1, 172, 21, 4, 153, 0, 10, 42, 180, 1, 153, 167, 0, 7, 42]
def zt_X12_takeEnd_0 : List Nat := zw_X12_takeEnd_0 ++ zt_X12_takeEnd_1
theorem ze_X12_takeEnd_0 : (dcn cX12_takeEnd).drop 0 = zt_X12_takeEnd_0 := by decide +kernel
theorem ze_X12_takeEnd_1 : (dcn cX12_takeEnd).drop 39 = zt_X12_takeEnd_1 := dw_n (wl := zw_X12_takeEnd_0) ze_X12_takeEnd_0 rfl
theorem zb_X12_takeEnd_0 (j : Nat) {n : Nat} (e : zw_X12_takeEnd_0[j]? = some n) : dby cX12_takeEnd (0 + j) n := dw_b (t := zt_X12_takeEnd_1) ze_X12_takeEnd_0 j e
theorem dX12_takeEnd_0 : decode cX12_takeEnd 0 = .ok (.aload_n 0, 1) := dop_42 (zb_X12_takeEnd_0 0 rfl)
theorem dX12_takeEnd_1 : decode cX12_takeEnd 1 = .ok (.getfield 118, 3) := dop_180 (zb_X12_takeEnd_0 1 rfl) (zb_X12_takeEnd_0 2 rfl) (zb_X12_takeEnd_0 3 rfl) rfl
theorem dX12_takeEnd_4 : decode cX12_takeEnd 4 = .ok (.iload_n 1, 1) := dop_27 (zb_X12_takeEnd_0 4 rfl)
theorem dX12_takeEnd_5 : decode cX12_takeEnd 5 = .ok (.lconst 0, 1) := dop_9 (zb_X12_takeEnd_0 5 rfl)
theorem dX12_takeEnd_6 : decode cX12_takeEnd 6 = .ok (.lastore, 1) := dop_80 (zb_X12_takeEnd_0 6 rfl)
theorem dX12_takeEnd_7 : decode cX12_takeEnd 7 = .ok (.aload_n 0, 1) := dop_42 (zb_X12_takeEnd_0 7 rfl)
theorem dX12_takeEnd_8 : decode cX12_takeEnd 8 = .ok (.getfield 121, 3) := dop_180 (zb_X12_takeEnd_0 8 rfl) (zb_X12_takeEnd_0 9 rfl) (zb_X12_takeEnd_0 10 rfl) rfl
theorem dX12_takeEnd_11 : decode cX12_takeEnd 11 = .ok (.iload_n 1, 1) := dop_27 (zb_X12_takeEnd_0 11 rfl)
theorem dX12_takeEnd_12 : decode cX12_takeEnd 12 = .ok (.lconst 1, 1) := dop_10 (zb_X12_takeEnd_0 12 rfl)
theorem dX12_takeEnd_13 : decode cX12_takeEnd 13 = .ok (.lastore, 1) := dop_80 (zb_X12_takeEnd_0 13 rfl)
theorem dX12_takeEnd_14 : decode cX12_takeEnd 14 = .ok (.iload_n 2, 1) := dop_28 (zb_X12_takeEnd_0 14 rfl)
theorem dX12_takeEnd_15 : decode cX12_takeEnd 15 = .ok (.iconst (-1), 1) := dop_2 (zb_X12_takeEnd_0 15 rfl)
theorem dX12_takeEnd_16 : decode cX12_takeEnd 16 = .ok (.if_icmp .ne 4, 3) := dop_160 (zb_X12_takeEnd_0 16 rfl) (zb_X12_takeEnd_0 17 rfl) (zb_X12_takeEnd_0 18 rfl) rfl
theorem dX12_takeEnd_19 : decode cX12_takeEnd 19 = .ok (.return_, 1) := dop_177 (zb_X12_takeEnd_0 19 rfl)
theorem dX12_takeEnd_20 : decode cX12_takeEnd 20 = .ok (.aload_n 0, 1) := dop_42 (zb_X12_takeEnd_0 20 rfl)
theorem dX12_takeEnd_21 : decode cX12_takeEnd 21 = .ok (.iload_n 2, 1) := dop_28 (zb_X12_takeEnd_0 21 rfl)
theorem dX12_takeEnd_22 : decode cX12_takeEnd 22 = .ok (.iload_n 3, 1) := dop_29 (zb_X12_takeEnd_0 22 rfl)
theorem dX12_takeEnd_23 : decode cX12_takeEnd 23 = .ok (.invokevirtual 428, 3) := dop_182 (zb_X12_takeEnd_0 23 rfl) (zb_X12_takeEnd_0 24 rfl) (zb_X12_takeEnd_0 25 rfl) rfl
theorem dX12_takeEnd_26 : decode cX12_takeEnd 26 = .ok (.iload 4, 2) := dop_21 (zb_X12_takeEnd_0 26 rfl) (zb_X12_takeEnd_0 27 rfl)
theorem dX12_takeEnd_28 : decode cX12_takeEnd 28 = .ok (.ifCond .eq 10, 3) := dop_153 (zb_X12_takeEnd_0 28 rfl) (zb_X12_takeEnd_0 29 rfl) (zb_X12_takeEnd_0 30 rfl) rfl
theorem dX12_takeEnd_31 : decode cX12_takeEnd 31 = .ok (.aload_n 0, 1) := dop_42 (zb_X12_takeEnd_0 31 rfl)
theorem dX12_takeEnd_32 : decode cX12_takeEnd 32 = .ok (.getfield 409, 3) := dop_180 (zb_X12_takeEnd_0 32 rfl) (zb_X12_takeEnd_0 33 rfl) (zb_X12_takeEnd_0 34 rfl) rfl
theorem dX12_takeEnd_35 : decode cX12_takeEnd 35 = .ok (.goto 7, 3) := dop_167 (zb_X12_takeEnd_0 35 rfl) (zb_X12_takeEnd_0 36 rfl) (zb_X12_takeEnd_0 37 rfl) rfl
theorem dX12_takeEnd_38 : decode cX12_takeEnd 38 = .ok (.aload_n 0, 1) := dop_42 (zb_X12_takeEnd_0 38 rfl)
theorem ze_X12_takeEnd_2 : (dcn cX12_takeEnd).drop 79 = zt_X12_takeEnd_2 := dw_n (wl := zw_X12_takeEnd_1) ze_X12_takeEnd_1 rfl
theorem zb_X12_takeEnd_1 (j : Nat) {n : Nat} (e : zw_X12_takeEnd_1[j]? = some n) : dby cX12_takeEnd (39 + j) n := dw_b (t := zt_X12_takeEnd_2) ze_X12_takeEnd_1 j e
theorem dX12_takeEnd_39 : decode cX12_takeEnd 39 = .ok (.getfield 415, 3) := dop_180 (zb_X12_takeEnd_1 0 rfl) (zb_X12_takeEnd_1 1 rfl) (zb_X12_takeEnd_1 2 rfl) rfl
theorem dX12_takeEnd_42 : decode cX12_takeEnd 42 = .ok (.istore 5, 2) := dop_54 (zb_X12_takeEnd_1 3 rfl) (zb_X12_takeEnd_1 4 rfl)
theorem dX12_takeEnd_44 : decode cX12_takeEnd 44 = .ok (.aload_n 0, 1) := dop_42 (zb_X12_takeEnd_1 5 rfl)
theorem dX12_takeEnd_45 : decode cX12_takeEnd 45 = .ok (.aload_n 0, 1) := dop_42 (zb_X12_takeEnd_1 6 rfl)
theorem dX12_takeEnd_46 : decode cX12_takeEnd 46 = .ok (.getfield 459, 3) := dop_180 (zb_X12_takeEnd_1 7 rfl) (zb_X12_takeEnd_1 8 rfl) (zb_X12_takeEnd_1 9 rfl) rfl
theorem dX12_takeEnd_49 : decode cX12_takeEnd 49 = .ok (.ifCond .eq 12, 3) := dop_153 (zb_X12_takeEnd_1 10 rfl) (zb_X12_takeEnd_1 11 rfl) (zb_X12_takeEnd_1 12 rfl) rfl
theorem dX12_takeEnd_52 : decode cX12_takeEnd 52 = .ok (.iload 5, 2) := dop_21 (zb_X12_takeEnd_1 13 rfl) (zb_X12_takeEnd_1 14 rfl)
theorem dX12_takeEnd_54 : decode cX12_takeEnd 54 = .ok (.ifCond .eq 7, 3) := dop_153 (zb_X12_takeEnd_1 15 rfl) (zb_X12_takeEnd_1 16 rfl) (zb_X12_takeEnd_1 17 rfl) rfl
theorem dX12_takeEnd_57 : decode cX12_takeEnd 57 = .ok (.iconst 1, 1) := dop_4 (zb_X12_takeEnd_1 18 rfl)
theorem dX12_takeEnd_58 : decode cX12_takeEnd 58 = .ok (.goto 4, 3) := dop_167 (zb_X12_takeEnd_1 19 rfl) (zb_X12_takeEnd_1 20 rfl) (zb_X12_takeEnd_1 21 rfl) rfl
theorem dX12_takeEnd_61 : decode cX12_takeEnd 61 = .ok (.iconst 0, 1) := dop_3 (zb_X12_takeEnd_1 22 rfl)
theorem dX12_takeEnd_62 : decode cX12_takeEnd 62 = .ok (.putfield 459, 3) := dop_181 (zb_X12_takeEnd_1 23 rfl) (zb_X12_takeEnd_1 24 rfl) (zb_X12_takeEnd_1 25 rfl) rfl
theorem dX12_takeEnd_65 : decode cX12_takeEnd 65 = .ok (.aload_n 0, 1) := dop_42 (zb_X12_takeEnd_1 26 rfl)
theorem dX12_takeEnd_66 : decode cX12_takeEnd 66 = .ok (.aload_n 0, 1) := dop_42 (zb_X12_takeEnd_1 27 rfl)
theorem dX12_takeEnd_67 : decode cX12_takeEnd 67 = .ok (.getfield 462, 3) := dop_180 (zb_X12_takeEnd_1 28 rfl) (zb_X12_takeEnd_1 29 rfl) (zb_X12_takeEnd_1 30 rfl) rfl
theorem dX12_takeEnd_70 : decode cX12_takeEnd 70 = .ok (.ifCond .eq 29, 3) := dop_153 (zb_X12_takeEnd_1 31 rfl) (zb_X12_takeEnd_1 32 rfl) (zb_X12_takeEnd_1 33 rfl) rfl
theorem dX12_takeEnd_73 : decode cX12_takeEnd 73 = .ok (.iload 4, 2) := dop_21 (zb_X12_takeEnd_1 34 rfl) (zb_X12_takeEnd_1 35 rfl)
theorem dX12_takeEnd_75 : decode cX12_takeEnd 75 = .ok (.ifCond .eq 13, 3) := dop_153 (zb_X12_takeEnd_1 36 rfl) (zb_X12_takeEnd_1 37 rfl) (zb_X12_takeEnd_1 38 rfl) rfl
theorem dX12_takeEnd_78 : decode cX12_takeEnd 78 = .ok (.aload_n 0, 1) := dop_42 (zb_X12_takeEnd_1 39 rfl)
theorem ze_X12_takeEnd_3 : (dcn cX12_takeEnd).drop 118 = zt_X12_takeEnd_3 := dw_n (wl := zw_X12_takeEnd_2) ze_X12_takeEnd_2 rfl
theorem zb_X12_takeEnd_2 (j : Nat) {n : Nat} (e : zw_X12_takeEnd_2[j]? = some n) : dby cX12_takeEnd (79 + j) n := dw_b (t := zt_X12_takeEnd_3) ze_X12_takeEnd_2 j e
theorem dX12_takeEnd_79 : decode cX12_takeEnd 79 = .ok (.getfield 412, 3) := dop_180 (zb_X12_takeEnd_2 0 rfl) (zb_X12_takeEnd_2 1 rfl) (zb_X12_takeEnd_2 2 rfl) rfl
theorem dX12_takeEnd_82 : decode cX12_takeEnd 82 = .ok (.ifCond .eq 17, 3) := dop_153 (zb_X12_takeEnd_2 3 rfl) (zb_X12_takeEnd_2 4 rfl) (zb_X12_takeEnd_2 5 rfl) rfl
theorem dX12_takeEnd_85 : decode cX12_takeEnd 85 = .ok (.goto 10, 3) := dop_167 (zb_X12_takeEnd_2 6 rfl) (zb_X12_takeEnd_2 7 rfl) (zb_X12_takeEnd_2 8 rfl) rfl
theorem dX12_takeEnd_88 : decode cX12_takeEnd 88 = .ok (.aload_n 0, 1) := dop_42 (zb_X12_takeEnd_2 9 rfl)
theorem dX12_takeEnd_89 : decode cX12_takeEnd 89 = .ok (.getfield 418, 3) := dop_180 (zb_X12_takeEnd_2 10 rfl) (zb_X12_takeEnd_2 11 rfl) (zb_X12_takeEnd_2 12 rfl) rfl
theorem dX12_takeEnd_92 : decode cX12_takeEnd 92 = .ok (.ifCond .eq 7, 3) := dop_153 (zb_X12_takeEnd_2 13 rfl) (zb_X12_takeEnd_2 14 rfl) (zb_X12_takeEnd_2 15 rfl) rfl
theorem dX12_takeEnd_95 : decode cX12_takeEnd 95 = .ok (.iconst 1, 1) := dop_4 (zb_X12_takeEnd_2 16 rfl)
theorem dX12_takeEnd_96 : decode cX12_takeEnd 96 = .ok (.goto 4, 3) := dop_167 (zb_X12_takeEnd_2 17 rfl) (zb_X12_takeEnd_2 18 rfl) (zb_X12_takeEnd_2 19 rfl) rfl
theorem dX12_takeEnd_99 : decode cX12_takeEnd 99 = .ok (.iconst 0, 1) := dop_3 (zb_X12_takeEnd_2 20 rfl)
theorem dX12_takeEnd_100 : decode cX12_takeEnd 100 = .ok (.putfield 462, 3) := dop_181 (zb_X12_takeEnd_2 21 rfl) (zb_X12_takeEnd_2 22 rfl) (zb_X12_takeEnd_2 23 rfl) rfl
theorem dX12_takeEnd_103 : decode cX12_takeEnd 103 = .ok (.iload 5, 2) := dop_21 (zb_X12_takeEnd_2 24 rfl) (zb_X12_takeEnd_2 25 rfl)
theorem dX12_takeEnd_105 : decode cX12_takeEnd 105 = .ok (.ifCond .eq 74, 3) := dop_153 (zb_X12_takeEnd_2 26 rfl) (zb_X12_takeEnd_2 27 rfl) (zb_X12_takeEnd_2 28 rfl) rfl
theorem dX12_takeEnd_108 : decode cX12_takeEnd 108 = .ok (.aload_n 0, 1) := dop_42 (zb_X12_takeEnd_2 29 rfl)
theorem dX12_takeEnd_109 : decode cX12_takeEnd 109 = .ok (.getfield 103, 3) := dop_180 (zb_X12_takeEnd_2 30 rfl) (zb_X12_takeEnd_2 31 rfl) (zb_X12_takeEnd_2 32 rfl) rfl
theorem dX12_takeEnd_112 : decode cX12_takeEnd 112 = .ok (.iload 4, 2) := dop_21 (zb_X12_takeEnd_2 33 rfl) (zb_X12_takeEnd_2 34 rfl)
theorem dX12_takeEnd_114 : decode cX12_takeEnd 114 = .ok (.ifCond .eq 7, 3) := dop_153 (zb_X12_takeEnd_2 35 rfl) (zb_X12_takeEnd_2 36 rfl) (zb_X12_takeEnd_2 37 rfl) rfl
theorem dX12_takeEnd_117 : decode cX12_takeEnd 117 = .ok (.iconst 0, 1) := dop_3 (zb_X12_takeEnd_2 38 rfl)
theorem ze_X12_takeEnd_4 : (dcn cX12_takeEnd).drop 158 = zt_X12_takeEnd_4 := dw_n (wl := zw_X12_takeEnd_3) ze_X12_takeEnd_3 rfl
theorem zb_X12_takeEnd_3 (j : Nat) {n : Nat} (e : zw_X12_takeEnd_3[j]? = some n) : dby cX12_takeEnd (118 + j) n := dw_b (t := zt_X12_takeEnd_4) ze_X12_takeEnd_3 j e
theorem dX12_takeEnd_118 : decode cX12_takeEnd 118 = .ok (.goto 5, 3) := dop_167 (zb_X12_takeEnd_3 0 rfl) (zb_X12_takeEnd_3 1 rfl) (zb_X12_takeEnd_3 2 rfl) rfl
theorem dX12_takeEnd_121 : decode cX12_takeEnd 121 = .ok (.bipush 10, 2) := dop_16 (zb_X12_takeEnd_3 3 rfl) (zb_X12_takeEnd_3 4 rfl) rfl
theorem dX12_takeEnd_123 : decode cX12_takeEnd 123 = .ok (.invokestatic 439, 3) := dop_184 (zb_X12_takeEnd_3 5 rfl) (zb_X12_takeEnd_3 6 rfl) (zb_X12_takeEnd_3 7 rfl) rfl
theorem dX12_takeEnd_126 : decode cX12_takeEnd 126 = .ok (.lstore 6, 2) := dop_55 (zb_X12_takeEnd_3 8 rfl) (zb_X12_takeEnd_3 9 rfl)
theorem dX12_takeEnd_128 : decode cX12_takeEnd 128 = .ok (.aload_n 0, 1) := dop_42 (zb_X12_takeEnd_3 10 rfl)
theorem dX12_takeEnd_129 : decode cX12_takeEnd 129 = .ok (.getfield 103, 3) := dop_180 (zb_X12_takeEnd_3 11 rfl) (zb_X12_takeEnd_3 12 rfl) (zb_X12_takeEnd_3 13 rfl) rfl
theorem dX12_takeEnd_132 : decode cX12_takeEnd 132 = .ok (.iload 4, 2) := dop_21 (zb_X12_takeEnd_3 14 rfl) (zb_X12_takeEnd_3 15 rfl)
theorem dX12_takeEnd_134 : decode cX12_takeEnd 134 = .ok (.ifCond .eq 7, 3) := dop_153 (zb_X12_takeEnd_3 16 rfl) (zb_X12_takeEnd_3 17 rfl) (zb_X12_takeEnd_3 18 rfl) rfl
theorem dX12_takeEnd_137 : decode cX12_takeEnd 137 = .ok (.iconst 5, 1) := dop_8 (zb_X12_takeEnd_3 19 rfl)
theorem dX12_takeEnd_138 : decode cX12_takeEnd 138 = .ok (.goto 5, 3) := dop_167 (zb_X12_takeEnd_3 20 rfl) (zb_X12_takeEnd_3 21 rfl) (zb_X12_takeEnd_3 22 rfl) rfl
theorem dX12_takeEnd_141 : decode cX12_takeEnd 141 = .ok (.bipush 15, 2) := dop_16 (zb_X12_takeEnd_3 23 rfl) (zb_X12_takeEnd_3 24 rfl) rfl
theorem dX12_takeEnd_143 : decode cX12_takeEnd 143 = .ok (.invokestatic 439, 3) := dop_184 (zb_X12_takeEnd_3 25 rfl) (zb_X12_takeEnd_3 26 rfl) (zb_X12_takeEnd_3 27 rfl) rfl
theorem dX12_takeEnd_146 : decode cX12_takeEnd 146 = .ok (.lstore 8, 2) := dop_55 (zb_X12_takeEnd_3 28 rfl) (zb_X12_takeEnd_3 29 rfl)
theorem dX12_takeEnd_148 : decode cX12_takeEnd 148 = .ok (.lload 6, 2) := dop_22 (zb_X12_takeEnd_3 30 rfl) (zb_X12_takeEnd_3 31 rfl)
theorem dX12_takeEnd_150 : decode cX12_takeEnd 150 = .ok (.lload 8, 2) := dop_22 (zb_X12_takeEnd_3 32 rfl) (zb_X12_takeEnd_3 33 rfl)
theorem dX12_takeEnd_152 : decode cX12_takeEnd 152 = .ok (.invokestatic 443, 3) := dop_184 (zb_X12_takeEnd_3 34 rfl) (zb_X12_takeEnd_3 35 rfl) (zb_X12_takeEnd_3 36 rfl) rfl
theorem dX12_takeEnd_155 : decode cX12_takeEnd 155 = .ok (.lstore 10, 2) := dop_55 (zb_X12_takeEnd_3 37 rfl) (zb_X12_takeEnd_3 38 rfl)
theorem dX12_takeEnd_157 : decode cX12_takeEnd 157 = .ok (.aload_n 0, 1) := dop_42 (zb_X12_takeEnd_3 39 rfl)
theorem zb_X12_takeEnd_4 (j : Nat) {n : Nat} (e : zw_X12_takeEnd_4[j]? = some n) : dby cX12_takeEnd (158 + j) n := dw_b (t := []) ze_X12_takeEnd_4 j e
theorem dX12_takeEnd_158 : decode cX12_takeEnd 158 = .ok (.getfield 118, 3) := dop_180 (zb_X12_takeEnd_4 0 rfl) (zb_X12_takeEnd_4 1 rfl) (zb_X12_takeEnd_4 2 rfl) rfl
theorem dX12_takeEnd_161 : decode cX12_takeEnd 161 = .ok (.iload_n 1, 1) := dop_27 (zb_X12_takeEnd_4 3 rfl)
theorem dX12_takeEnd_162 : decode cX12_takeEnd 162 = .ok (.lload 6, 2) := dop_22 (zb_X12_takeEnd_4 4 rfl) (zb_X12_takeEnd_4 5 rfl)
theorem dX12_takeEnd_164 : decode cX12_takeEnd 164 = .ok (.lload 10, 2) := dop_22 (zb_X12_takeEnd_4 6 rfl) (zb_X12_takeEnd_4 7 rfl)
theorem dX12_takeEnd_166 : decode cX12_takeEnd 166 = .ok (.ldiv, 1) := dop_109 (zb_X12_takeEnd_4 8 rfl)
theorem dX12_takeEnd_167 : decode cX12_takeEnd 167 = .ok (.lastore, 1) := dop_80 (zb_X12_takeEnd_4 9 rfl)
theorem dX12_takeEnd_168 : decode cX12_takeEnd 168 = .ok (.aload_n 0, 1) := dop_42 (zb_X12_takeEnd_4 10 rfl)
theorem dX12_takeEnd_169 : decode cX12_takeEnd 169 = .ok (.getfield 121, 3) := dop_180 (zb_X12_takeEnd_4 11 rfl) (zb_X12_takeEnd_4 12 rfl) (zb_X12_takeEnd_4 13 rfl) rfl
theorem dX12_takeEnd_172 : decode cX12_takeEnd 172 = .ok (.iload_n 1, 1) := dop_27 (zb_X12_takeEnd_4 14 rfl)
theorem dX12_takeEnd_173 : decode cX12_takeEnd 173 = .ok (.lload 8, 2) := dop_22 (zb_X12_takeEnd_4 15 rfl) (zb_X12_takeEnd_4 16 rfl)
theorem dX12_takeEnd_175 : decode cX12_takeEnd 175 = .ok (.lload 10, 2) := dop_22 (zb_X12_takeEnd_4 17 rfl) (zb_X12_takeEnd_4 18 rfl)
theorem dX12_takeEnd_177 : decode cX12_takeEnd 177 = .ok (.ldiv, 1) := dop_109 (zb_X12_takeEnd_4 19 rfl)
theorem dX12_takeEnd_178 : decode cX12_takeEnd 178 = .ok (.lastore, 1) := dop_80 (zb_X12_takeEnd_4 20 rfl)
theorem dX12_takeEnd_179 : decode cX12_takeEnd 179 = .ok (.return_, 1) := dop_177 (zb_X12_takeEnd_4 21 rfl)
def zw_X12_isGround_0 : List Nat := [26, 133, 9, 20, 1, 129, 184, 0, 143, 172]
def zt_X12_isGround_0 : List Nat := zw_X12_isGround_0 ++ []
theorem ze_X12_isGround_0 : (dcn cX12_isGround).drop 0 = zt_X12_isGround_0 := by decide +kernel
theorem zb_X12_isGround_0 (j : Nat) {n : Nat} (e : zw_X12_isGround_0[j]? = some n) : dby cX12_isGround (0 + j) n := dw_b (t := []) ze_X12_isGround_0 j e
theorem dX12_isGround_0 : decode cX12_isGround 0 = .ok (.iload_n 0, 1) := dop_26 (zb_X12_isGround_0 0 rfl)
theorem dX12_isGround_1 : decode cX12_isGround 1 = .ok (.i2l, 1) := dop_133 (zb_X12_isGround_0 1 rfl)
theorem dX12_isGround_2 : decode cX12_isGround 2 = .ok (.lconst 0, 1) := dop_9 (zb_X12_isGround_0 2 rfl)
theorem dX12_isGround_3 : decode cX12_isGround 3 = .ok (.ldc2_w 385, 3) := dop_20 (zb_X12_isGround_0 3 rfl) (zb_X12_isGround_0 4 rfl) (zb_X12_isGround_0 5 rfl) rfl
theorem dX12_isGround_6 : decode cX12_isGround 6 = .ok (.invokestatic 143, 3) := dop_184 (zb_X12_isGround_0 6 rfl) (zb_X12_isGround_0 7 rfl) (zb_X12_isGround_0 8 rfl) rfl
theorem dX12_isGround_9 : decode cX12_isGround 9 = .ok (.ireturn, 1) := dop_172 (zb_X12_isGround_0 9 rfl)
def zw_X12_lay_7 : List Nat := [47, 42, 180, 0, 118, 5, 47, 182, 1, 216, 42, 182, 1, 220, 42, 17, 23, 112, 21, 5, 153, 0, 10, 42, 180, 1, 206, 153, 0, 7, 4, 167, 0, 4, 3, 182, 1, 223, 172]
def zt_X12_lay_7 : List Nat := zw_X12_lay_7 ++ []
def zw_X12_lay_6 : List Nat := [180, 0, 121, 3, 47, 42, 180, 0, 118, 4, 47, 42, 180, 0, 121, 5, 47, 182, 1, 216, 42, 182, 1, 220, 42, 42, 180, 0, 112, 42, 180, 0, 121, 3, 47, 42, 180, 0, 121, 4]
def zt_X12_lay_6 : List Nat := zw_X12_lay_6 ++ zt_X12_lay_7
def zw_X12_lay_5 : List Nat := [180, 0, 121, 5, 47, 182, 1, 216, 42, 42, 180, 0, 106, 42, 180, 0, 118, 3, 47, 42, 180, 0, 121, 4, 47, 42, 180, 0, 121, 5, 47, 182, 1, 216, 42, 42, 180, 0, 112, 42]
def zt_X12_lay_5 : List Nat := zw_X12_lay_5 ++ zt_X12_lay_6
def zw_X12_lay_4 : List Nat := [167, 0, 4, 3, 182, 1, 212, 21, 5, 4, 160, 0, 12, 42, 180, 1, 203, 154, 0, 5, 2, 172, 42, 42, 180, 0, 109, 42, 180, 0, 121, 3, 47, 42, 180, 0, 121, 4, 47, 42]
def zt_X12_lay_4 : List Nat := zw_X12_lay_4 ++ zt_X12_lay_5
def zw_X12_lay_3 : List Nat := [154, 0, 7, 4, 167, 0, 4, 3, 182, 1, 212, 42, 4, 28, 21, 4, 21, 5, 154, 0, 7, 4, 167, 0, 4, 3, 182, 1, 212, 42, 5, 29, 21, 4, 21, 5, 154, 0, 7, 4]
def zt_X12_lay_3 : List Nat := zw_X12_lay_3 ++ zt_X12_lay_4
def zw_X12_lay_2 : List Nat := [182, 1, 135, 153, 0, 16, 42, 27, 16, 12, 21, 4, 96, 182, 1, 138, 154, 0, 6, 16, 254, 172, 42, 4, 181, 1, 203, 42, 4, 181, 1, 206, 42, 3, 27, 21, 4, 21, 5]
def zt_X12_lay_2 : List Nat := zw_X12_lay_2 ++ zt_X12_lay_3
def zw_X12_lay_1 : List Nat := [21, 5, 133, 9, 10, 184, 0, 143, 153, 0, 7, 4, 167, 0, 4, 3, 54, 6, 21, 6, 153, 0, 37, 42, 28, 182, 1, 135, 153, 0, 29, 29, 2, 159, 0, 11, 42, 29]
def zt_X12_lay_1 : List Nat := zw_X12_lay_1 ++ zt_X12_lay_2
def zw_X12_lay_0 : List Nat := [42, 3, 181, 0, 133, 27, 184, 1, 209, 153, 0, 45, 28, 184, 1, 209, 153, 0, 38, 29, 2, 159, 0, 10, 29, 184, 1, 209, 153, 0, 26, 21, 4, 184, 0, 169, 153, 0, 18]
def zt_X12_lay_0 : List Nat := zw_X12_lay_0 ++ zt_X12_lay_1
theorem ze_X12_lay_0 : (dcn cX12_lay).drop 0 = zt_X12_lay_0 := by decide +kernel
theorem ze_X12_lay_1 : (dcn cX12_lay).drop 39 = zt_X12_lay_1 := dw_n (wl := zw_X12_lay_0) ze_X12_lay_0 rfl
theorem zb_X12_lay_0 (j : Nat) {n : Nat} (e : zw_X12_lay_0[j]? = some n) : dby cX12_lay (0 + j) n := dw_b (t := zt_X12_lay_1) ze_X12_lay_0 j e
theorem dX12_lay_0 : decode cX12_lay 0 = .ok (.aload_n 0, 1) := dop_42 (zb_X12_lay_0 0 rfl)
theorem dX12_lay_1 : decode cX12_lay 1 = .ok (.iconst 0, 1) := dop_3 (zb_X12_lay_0 1 rfl)
theorem dX12_lay_2 : decode cX12_lay 2 = .ok (.putfield 133, 3) := dop_181 (zb_X12_lay_0 2 rfl) (zb_X12_lay_0 3 rfl) (zb_X12_lay_0 4 rfl) rfl
theorem dX12_lay_5 : decode cX12_lay 5 = .ok (.iload_n 1, 1) := dop_27 (zb_X12_lay_0 5 rfl)
theorem dX12_lay_6 : decode cX12_lay 6 = .ok (.invokestatic 465, 3) := dop_184 (zb_X12_lay_0 6 rfl) (zb_X12_lay_0 7 rfl) (zb_X12_lay_0 8 rfl) rfl
theorem dX12_lay_9 : decode cX12_lay 9 = .ok (.ifCond .eq 45, 3) := dop_153 (zb_X12_lay_0 9 rfl) (zb_X12_lay_0 10 rfl) (zb_X12_lay_0 11 rfl) rfl
theorem dX12_lay_12 : decode cX12_lay 12 = .ok (.iload_n 2, 1) := dop_28 (zb_X12_lay_0 12 rfl)
theorem dX12_lay_13 : decode cX12_lay 13 = .ok (.invokestatic 465, 3) := dop_184 (zb_X12_lay_0 13 rfl) (zb_X12_lay_0 14 rfl) (zb_X12_lay_0 15 rfl) rfl
theorem dX12_lay_16 : decode cX12_lay 16 = .ok (.ifCond .eq 38, 3) := dop_153 (zb_X12_lay_0 16 rfl) (zb_X12_lay_0 17 rfl) (zb_X12_lay_0 18 rfl) rfl
theorem dX12_lay_19 : decode cX12_lay 19 = .ok (.iload_n 3, 1) := dop_29 (zb_X12_lay_0 19 rfl)
theorem dX12_lay_20 : decode cX12_lay 20 = .ok (.iconst (-1), 1) := dop_2 (zb_X12_lay_0 20 rfl)
theorem dX12_lay_21 : decode cX12_lay 21 = .ok (.if_icmp .eq 10, 3) := dop_159 (zb_X12_lay_0 21 rfl) (zb_X12_lay_0 22 rfl) (zb_X12_lay_0 23 rfl) rfl
theorem dX12_lay_24 : decode cX12_lay 24 = .ok (.iload_n 3, 1) := dop_29 (zb_X12_lay_0 24 rfl)
theorem dX12_lay_25 : decode cX12_lay 25 = .ok (.invokestatic 465, 3) := dop_184 (zb_X12_lay_0 25 rfl) (zb_X12_lay_0 26 rfl) (zb_X12_lay_0 27 rfl) rfl
theorem dX12_lay_28 : decode cX12_lay 28 = .ok (.ifCond .eq 26, 3) := dop_153 (zb_X12_lay_0 28 rfl) (zb_X12_lay_0 29 rfl) (zb_X12_lay_0 30 rfl) rfl
theorem dX12_lay_31 : decode cX12_lay 31 = .ok (.iload 4, 2) := dop_21 (zb_X12_lay_0 31 rfl) (zb_X12_lay_0 32 rfl)
theorem dX12_lay_33 : decode cX12_lay 33 = .ok (.invokestatic 169, 3) := dop_184 (zb_X12_lay_0 33 rfl) (zb_X12_lay_0 34 rfl) (zb_X12_lay_0 35 rfl) rfl
theorem dX12_lay_36 : decode cX12_lay 36 = .ok (.ifCond .eq 18, 3) := dop_153 (zb_X12_lay_0 36 rfl) (zb_X12_lay_0 37 rfl) (zb_X12_lay_0 38 rfl) rfl
theorem ze_X12_lay_2 : (dcn cX12_lay).drop 77 = zt_X12_lay_2 := dw_n (wl := zw_X12_lay_1) ze_X12_lay_1 rfl
theorem zb_X12_lay_1 (j : Nat) {n : Nat} (e : zw_X12_lay_1[j]? = some n) : dby cX12_lay (39 + j) n := dw_b (t := zt_X12_lay_2) ze_X12_lay_1 j e
theorem dX12_lay_39 : decode cX12_lay 39 = .ok (.iload 5, 2) := dop_21 (zb_X12_lay_1 0 rfl) (zb_X12_lay_1 1 rfl)
theorem dX12_lay_41 : decode cX12_lay 41 = .ok (.i2l, 1) := dop_133 (zb_X12_lay_1 2 rfl)
theorem dX12_lay_42 : decode cX12_lay 42 = .ok (.lconst 0, 1) := dop_9 (zb_X12_lay_1 3 rfl)
theorem dX12_lay_43 : decode cX12_lay 43 = .ok (.lconst 1, 1) := dop_10 (zb_X12_lay_1 4 rfl)
theorem dX12_lay_44 : decode cX12_lay 44 = .ok (.invokestatic 143, 3) := dop_184 (zb_X12_lay_1 5 rfl) (zb_X12_lay_1 6 rfl) (zb_X12_lay_1 7 rfl) rfl
theorem dX12_lay_47 : decode cX12_lay 47 = .ok (.ifCond .eq 7, 3) := dop_153 (zb_X12_lay_1 8 rfl) (zb_X12_lay_1 9 rfl) (zb_X12_lay_1 10 rfl) rfl
theorem dX12_lay_50 : decode cX12_lay 50 = .ok (.iconst 1, 1) := dop_4 (zb_X12_lay_1 11 rfl)
theorem dX12_lay_51 : decode cX12_lay 51 = .ok (.goto 4, 3) := dop_167 (zb_X12_lay_1 12 rfl) (zb_X12_lay_1 13 rfl) (zb_X12_lay_1 14 rfl) rfl
theorem dX12_lay_54 : decode cX12_lay 54 = .ok (.iconst 0, 1) := dop_3 (zb_X12_lay_1 15 rfl)
theorem dX12_lay_55 : decode cX12_lay 55 = .ok (.istore 6, 2) := dop_54 (zb_X12_lay_1 16 rfl) (zb_X12_lay_1 17 rfl)
theorem dX12_lay_57 : decode cX12_lay 57 = .ok (.iload 6, 2) := dop_21 (zb_X12_lay_1 18 rfl) (zb_X12_lay_1 19 rfl)
theorem dX12_lay_59 : decode cX12_lay 59 = .ok (.ifCond .eq 37, 3) := dop_153 (zb_X12_lay_1 20 rfl) (zb_X12_lay_1 21 rfl) (zb_X12_lay_1 22 rfl) rfl
theorem dX12_lay_62 : decode cX12_lay 62 = .ok (.aload_n 0, 1) := dop_42 (zb_X12_lay_1 23 rfl)
theorem dX12_lay_63 : decode cX12_lay 63 = .ok (.iload_n 2, 1) := dop_28 (zb_X12_lay_1 24 rfl)
theorem dX12_lay_64 : decode cX12_lay 64 = .ok (.invokevirtual 391, 3) := dop_182 (zb_X12_lay_1 25 rfl) (zb_X12_lay_1 26 rfl) (zb_X12_lay_1 27 rfl) rfl
theorem dX12_lay_67 : decode cX12_lay 67 = .ok (.ifCond .eq 29, 3) := dop_153 (zb_X12_lay_1 28 rfl) (zb_X12_lay_1 29 rfl) (zb_X12_lay_1 30 rfl) rfl
theorem dX12_lay_70 : decode cX12_lay 70 = .ok (.iload_n 3, 1) := dop_29 (zb_X12_lay_1 31 rfl)
theorem dX12_lay_71 : decode cX12_lay 71 = .ok (.iconst (-1), 1) := dop_2 (zb_X12_lay_1 32 rfl)
theorem dX12_lay_72 : decode cX12_lay 72 = .ok (.if_icmp .eq 11, 3) := dop_159 (zb_X12_lay_1 33 rfl) (zb_X12_lay_1 34 rfl) (zb_X12_lay_1 35 rfl) rfl
theorem dX12_lay_75 : decode cX12_lay 75 = .ok (.aload_n 0, 1) := dop_42 (zb_X12_lay_1 36 rfl)
theorem dX12_lay_76 : decode cX12_lay 76 = .ok (.iload_n 3, 1) := dop_29 (zb_X12_lay_1 37 rfl)
theorem ze_X12_lay_3 : (dcn cX12_lay).drop 116 = zt_X12_lay_3 := dw_n (wl := zw_X12_lay_2) ze_X12_lay_2 rfl
theorem zb_X12_lay_2 (j : Nat) {n : Nat} (e : zw_X12_lay_2[j]? = some n) : dby cX12_lay (77 + j) n := dw_b (t := zt_X12_lay_3) ze_X12_lay_2 j e
theorem dX12_lay_77 : decode cX12_lay 77 = .ok (.invokevirtual 391, 3) := dop_182 (zb_X12_lay_2 0 rfl) (zb_X12_lay_2 1 rfl) (zb_X12_lay_2 2 rfl) rfl
theorem dX12_lay_80 : decode cX12_lay 80 = .ok (.ifCond .eq 16, 3) := dop_153 (zb_X12_lay_2 3 rfl) (zb_X12_lay_2 4 rfl) (zb_X12_lay_2 5 rfl) rfl
theorem dX12_lay_83 : decode cX12_lay 83 = .ok (.aload_n 0, 1) := dop_42 (zb_X12_lay_2 6 rfl)
theorem dX12_lay_84 : decode cX12_lay 84 = .ok (.iload_n 1, 1) := dop_27 (zb_X12_lay_2 7 rfl)
theorem dX12_lay_85 : decode cX12_lay 85 = .ok (.bipush 12, 2) := dop_16 (zb_X12_lay_2 8 rfl) (zb_X12_lay_2 9 rfl) rfl
theorem dX12_lay_87 : decode cX12_lay 87 = .ok (.iload 4, 2) := dop_21 (zb_X12_lay_2 10 rfl) (zb_X12_lay_2 11 rfl)
theorem dX12_lay_89 : decode cX12_lay 89 = .ok (.iadd, 1) := dop_96 (zb_X12_lay_2 12 rfl)
theorem dX12_lay_90 : decode cX12_lay 90 = .ok (.invokevirtual 394, 3) := dop_182 (zb_X12_lay_2 13 rfl) (zb_X12_lay_2 14 rfl) (zb_X12_lay_2 15 rfl) rfl
theorem dX12_lay_93 : decode cX12_lay 93 = .ok (.ifCond .ne 6, 3) := dop_154 (zb_X12_lay_2 16 rfl) (zb_X12_lay_2 17 rfl) (zb_X12_lay_2 18 rfl) rfl
theorem dX12_lay_96 : decode cX12_lay 96 = .ok (.bipush (-2), 2) := dop_16 (zb_X12_lay_2 19 rfl) (zb_X12_lay_2 20 rfl) rfl
theorem dX12_lay_98 : decode cX12_lay 98 = .ok (.ireturn, 1) := dop_172 (zb_X12_lay_2 21 rfl)
theorem dX12_lay_99 : decode cX12_lay 99 = .ok (.aload_n 0, 1) := dop_42 (zb_X12_lay_2 22 rfl)
theorem dX12_lay_100 : decode cX12_lay 100 = .ok (.iconst 1, 1) := dop_4 (zb_X12_lay_2 23 rfl)
theorem dX12_lay_101 : decode cX12_lay 101 = .ok (.putfield 459, 3) := dop_181 (zb_X12_lay_2 24 rfl) (zb_X12_lay_2 25 rfl) (zb_X12_lay_2 26 rfl) rfl
theorem dX12_lay_104 : decode cX12_lay 104 = .ok (.aload_n 0, 1) := dop_42 (zb_X12_lay_2 27 rfl)
theorem dX12_lay_105 : decode cX12_lay 105 = .ok (.iconst 1, 1) := dop_4 (zb_X12_lay_2 28 rfl)
theorem dX12_lay_106 : decode cX12_lay 106 = .ok (.putfield 462, 3) := dop_181 (zb_X12_lay_2 29 rfl) (zb_X12_lay_2 30 rfl) (zb_X12_lay_2 31 rfl) rfl
theorem dX12_lay_109 : decode cX12_lay 109 = .ok (.aload_n 0, 1) := dop_42 (zb_X12_lay_2 32 rfl)
theorem dX12_lay_110 : decode cX12_lay 110 = .ok (.iconst 0, 1) := dop_3 (zb_X12_lay_2 33 rfl)
theorem dX12_lay_111 : decode cX12_lay 111 = .ok (.iload_n 1, 1) := dop_27 (zb_X12_lay_2 34 rfl)
theorem dX12_lay_112 : decode cX12_lay 112 = .ok (.iload 4, 2) := dop_21 (zb_X12_lay_2 35 rfl) (zb_X12_lay_2 36 rfl)
theorem dX12_lay_114 : decode cX12_lay 114 = .ok (.iload 5, 2) := dop_21 (zb_X12_lay_2 37 rfl) (zb_X12_lay_2 38 rfl)
theorem ze_X12_lay_4 : (dcn cX12_lay).drop 156 = zt_X12_lay_4 := dw_n (wl := zw_X12_lay_3) ze_X12_lay_3 rfl
theorem zb_X12_lay_3 (j : Nat) {n : Nat} (e : zw_X12_lay_3[j]? = some n) : dby cX12_lay (116 + j) n := dw_b (t := zt_X12_lay_4) ze_X12_lay_3 j e
theorem dX12_lay_116 : decode cX12_lay 116 = .ok (.ifCond .ne 7, 3) := dop_154 (zb_X12_lay_3 0 rfl) (zb_X12_lay_3 1 rfl) (zb_X12_lay_3 2 rfl) rfl
theorem dX12_lay_119 : decode cX12_lay 119 = .ok (.iconst 1, 1) := dop_4 (zb_X12_lay_3 3 rfl)
theorem dX12_lay_120 : decode cX12_lay 120 = .ok (.goto 4, 3) := dop_167 (zb_X12_lay_3 4 rfl) (zb_X12_lay_3 5 rfl) (zb_X12_lay_3 6 rfl) rfl
theorem dX12_lay_123 : decode cX12_lay 123 = .ok (.iconst 0, 1) := dop_3 (zb_X12_lay_3 7 rfl)
theorem dX12_lay_124 : decode cX12_lay 124 = .ok (.invokevirtual 468, 3) := dop_182 (zb_X12_lay_3 8 rfl) (zb_X12_lay_3 9 rfl) (zb_X12_lay_3 10 rfl) rfl
theorem dX12_lay_127 : decode cX12_lay 127 = .ok (.aload_n 0, 1) := dop_42 (zb_X12_lay_3 11 rfl)
theorem dX12_lay_128 : decode cX12_lay 128 = .ok (.iconst 1, 1) := dop_4 (zb_X12_lay_3 12 rfl)
theorem dX12_lay_129 : decode cX12_lay 129 = .ok (.iload_n 2, 1) := dop_28 (zb_X12_lay_3 13 rfl)
theorem dX12_lay_130 : decode cX12_lay 130 = .ok (.iload 4, 2) := dop_21 (zb_X12_lay_3 14 rfl) (zb_X12_lay_3 15 rfl)
theorem dX12_lay_132 : decode cX12_lay 132 = .ok (.iload 5, 2) := dop_21 (zb_X12_lay_3 16 rfl) (zb_X12_lay_3 17 rfl)
theorem dX12_lay_134 : decode cX12_lay 134 = .ok (.ifCond .ne 7, 3) := dop_154 (zb_X12_lay_3 18 rfl) (zb_X12_lay_3 19 rfl) (zb_X12_lay_3 20 rfl) rfl
theorem dX12_lay_137 : decode cX12_lay 137 = .ok (.iconst 1, 1) := dop_4 (zb_X12_lay_3 21 rfl)
theorem dX12_lay_138 : decode cX12_lay 138 = .ok (.goto 4, 3) := dop_167 (zb_X12_lay_3 22 rfl) (zb_X12_lay_3 23 rfl) (zb_X12_lay_3 24 rfl) rfl
theorem dX12_lay_141 : decode cX12_lay 141 = .ok (.iconst 0, 1) := dop_3 (zb_X12_lay_3 25 rfl)
theorem dX12_lay_142 : decode cX12_lay 142 = .ok (.invokevirtual 468, 3) := dop_182 (zb_X12_lay_3 26 rfl) (zb_X12_lay_3 27 rfl) (zb_X12_lay_3 28 rfl) rfl
theorem dX12_lay_145 : decode cX12_lay 145 = .ok (.aload_n 0, 1) := dop_42 (zb_X12_lay_3 29 rfl)
theorem dX12_lay_146 : decode cX12_lay 146 = .ok (.iconst 2, 1) := dop_5 (zb_X12_lay_3 30 rfl)
theorem dX12_lay_147 : decode cX12_lay 147 = .ok (.iload_n 3, 1) := dop_29 (zb_X12_lay_3 31 rfl)
theorem dX12_lay_148 : decode cX12_lay 148 = .ok (.iload 4, 2) := dop_21 (zb_X12_lay_3 32 rfl) (zb_X12_lay_3 33 rfl)
theorem dX12_lay_150 : decode cX12_lay 150 = .ok (.iload 5, 2) := dop_21 (zb_X12_lay_3 34 rfl) (zb_X12_lay_3 35 rfl)
theorem dX12_lay_152 : decode cX12_lay 152 = .ok (.ifCond .ne 7, 3) := dop_154 (zb_X12_lay_3 36 rfl) (zb_X12_lay_3 37 rfl) (zb_X12_lay_3 38 rfl) rfl
theorem dX12_lay_155 : decode cX12_lay 155 = .ok (.iconst 1, 1) := dop_4 (zb_X12_lay_3 39 rfl)
theorem ze_X12_lay_5 : (dcn cX12_lay).drop 196 = zt_X12_lay_5 := dw_n (wl := zw_X12_lay_4) ze_X12_lay_4 rfl
theorem zb_X12_lay_4 (j : Nat) {n : Nat} (e : zw_X12_lay_4[j]? = some n) : dby cX12_lay (156 + j) n := dw_b (t := zt_X12_lay_5) ze_X12_lay_4 j e
theorem dX12_lay_156 : decode cX12_lay 156 = .ok (.goto 4, 3) := dop_167 (zb_X12_lay_4 0 rfl) (zb_X12_lay_4 1 rfl) (zb_X12_lay_4 2 rfl) rfl
theorem dX12_lay_159 : decode cX12_lay 159 = .ok (.iconst 0, 1) := dop_3 (zb_X12_lay_4 3 rfl)
theorem dX12_lay_160 : decode cX12_lay 160 = .ok (.invokevirtual 468, 3) := dop_182 (zb_X12_lay_4 4 rfl) (zb_X12_lay_4 5 rfl) (zb_X12_lay_4 6 rfl) rfl
theorem dX12_lay_163 : decode cX12_lay 163 = .ok (.iload 5, 2) := dop_21 (zb_X12_lay_4 7 rfl) (zb_X12_lay_4 8 rfl)
theorem dX12_lay_165 : decode cX12_lay 165 = .ok (.iconst 1, 1) := dop_4 (zb_X12_lay_4 9 rfl)
theorem dX12_lay_166 : decode cX12_lay 166 = .ok (.if_icmp .ne 12, 3) := dop_160 (zb_X12_lay_4 10 rfl) (zb_X12_lay_4 11 rfl) (zb_X12_lay_4 12 rfl) rfl
theorem dX12_lay_169 : decode cX12_lay 169 = .ok (.aload_n 0, 1) := dop_42 (zb_X12_lay_4 13 rfl)
theorem dX12_lay_170 : decode cX12_lay 170 = .ok (.getfield 459, 3) := dop_180 (zb_X12_lay_4 14 rfl) (zb_X12_lay_4 15 rfl) (zb_X12_lay_4 16 rfl) rfl
theorem dX12_lay_173 : decode cX12_lay 173 = .ok (.ifCond .ne 5, 3) := dop_154 (zb_X12_lay_4 17 rfl) (zb_X12_lay_4 18 rfl) (zb_X12_lay_4 19 rfl) rfl
theorem dX12_lay_176 : decode cX12_lay 176 = .ok (.iconst (-1), 1) := dop_2 (zb_X12_lay_4 20 rfl)
theorem dX12_lay_177 : decode cX12_lay 177 = .ok (.ireturn, 1) := dop_172 (zb_X12_lay_4 21 rfl)
theorem dX12_lay_178 : decode cX12_lay 178 = .ok (.aload_n 0, 1) := dop_42 (zb_X12_lay_4 22 rfl)
theorem dX12_lay_179 : decode cX12_lay 179 = .ok (.aload_n 0, 1) := dop_42 (zb_X12_lay_4 23 rfl)
theorem dX12_lay_180 : decode cX12_lay 180 = .ok (.getfield 109, 3) := dop_180 (zb_X12_lay_4 24 rfl) (zb_X12_lay_4 25 rfl) (zb_X12_lay_4 26 rfl) rfl
theorem dX12_lay_183 : decode cX12_lay 183 = .ok (.aload_n 0, 1) := dop_42 (zb_X12_lay_4 27 rfl)
theorem dX12_lay_184 : decode cX12_lay 184 = .ok (.getfield 121, 3) := dop_180 (zb_X12_lay_4 28 rfl) (zb_X12_lay_4 29 rfl) (zb_X12_lay_4 30 rfl) rfl
theorem dX12_lay_187 : decode cX12_lay 187 = .ok (.iconst 0, 1) := dop_3 (zb_X12_lay_4 31 rfl)
theorem dX12_lay_188 : decode cX12_lay 188 = .ok (.laload, 1) := dop_47 (zb_X12_lay_4 32 rfl)
theorem dX12_lay_189 : decode cX12_lay 189 = .ok (.aload_n 0, 1) := dop_42 (zb_X12_lay_4 33 rfl)
theorem dX12_lay_190 : decode cX12_lay 190 = .ok (.getfield 121, 3) := dop_180 (zb_X12_lay_4 34 rfl) (zb_X12_lay_4 35 rfl) (zb_X12_lay_4 36 rfl) rfl
theorem dX12_lay_193 : decode cX12_lay 193 = .ok (.iconst 1, 1) := dop_4 (zb_X12_lay_4 37 rfl)
theorem dX12_lay_194 : decode cX12_lay 194 = .ok (.laload, 1) := dop_47 (zb_X12_lay_4 38 rfl)
theorem dX12_lay_195 : decode cX12_lay 195 = .ok (.aload_n 0, 1) := dop_42 (zb_X12_lay_4 39 rfl)
theorem ze_X12_lay_6 : (dcn cX12_lay).drop 236 = zt_X12_lay_6 := dw_n (wl := zw_X12_lay_5) ze_X12_lay_5 rfl
theorem zb_X12_lay_5 (j : Nat) {n : Nat} (e : zw_X12_lay_5[j]? = some n) : dby cX12_lay (196 + j) n := dw_b (t := zt_X12_lay_6) ze_X12_lay_5 j e
theorem dX12_lay_196 : decode cX12_lay 196 = .ok (.getfield 121, 3) := dop_180 (zb_X12_lay_5 0 rfl) (zb_X12_lay_5 1 rfl) (zb_X12_lay_5 2 rfl) rfl
theorem dX12_lay_199 : decode cX12_lay 199 = .ok (.iconst 2, 1) := dop_5 (zb_X12_lay_5 3 rfl)
theorem dX12_lay_200 : decode cX12_lay 200 = .ok (.laload, 1) := dop_47 (zb_X12_lay_5 4 rfl)
theorem dX12_lay_201 : decode cX12_lay 201 = .ok (.invokevirtual 472, 3) := dop_182 (zb_X12_lay_5 5 rfl) (zb_X12_lay_5 6 rfl) (zb_X12_lay_5 7 rfl) rfl
theorem dX12_lay_204 : decode cX12_lay 204 = .ok (.aload_n 0, 1) := dop_42 (zb_X12_lay_5 8 rfl)
theorem dX12_lay_205 : decode cX12_lay 205 = .ok (.aload_n 0, 1) := dop_42 (zb_X12_lay_5 9 rfl)
theorem dX12_lay_206 : decode cX12_lay 206 = .ok (.getfield 106, 3) := dop_180 (zb_X12_lay_5 10 rfl) (zb_X12_lay_5 11 rfl) (zb_X12_lay_5 12 rfl) rfl
theorem dX12_lay_209 : decode cX12_lay 209 = .ok (.aload_n 0, 1) := dop_42 (zb_X12_lay_5 13 rfl)
theorem dX12_lay_210 : decode cX12_lay 210 = .ok (.getfield 118, 3) := dop_180 (zb_X12_lay_5 14 rfl) (zb_X12_lay_5 15 rfl) (zb_X12_lay_5 16 rfl) rfl
theorem dX12_lay_213 : decode cX12_lay 213 = .ok (.iconst 0, 1) := dop_3 (zb_X12_lay_5 17 rfl)
theorem dX12_lay_214 : decode cX12_lay 214 = .ok (.laload, 1) := dop_47 (zb_X12_lay_5 18 rfl)
theorem dX12_lay_215 : decode cX12_lay 215 = .ok (.aload_n 0, 1) := dop_42 (zb_X12_lay_5 19 rfl)
theorem dX12_lay_216 : decode cX12_lay 216 = .ok (.getfield 121, 3) := dop_180 (zb_X12_lay_5 20 rfl) (zb_X12_lay_5 21 rfl) (zb_X12_lay_5 22 rfl) rfl
theorem dX12_lay_219 : decode cX12_lay 219 = .ok (.iconst 1, 1) := dop_4 (zb_X12_lay_5 23 rfl)
theorem dX12_lay_220 : decode cX12_lay 220 = .ok (.laload, 1) := dop_47 (zb_X12_lay_5 24 rfl)
theorem dX12_lay_221 : decode cX12_lay 221 = .ok (.aload_n 0, 1) := dop_42 (zb_X12_lay_5 25 rfl)
theorem dX12_lay_222 : decode cX12_lay 222 = .ok (.getfield 121, 3) := dop_180 (zb_X12_lay_5 26 rfl) (zb_X12_lay_5 27 rfl) (zb_X12_lay_5 28 rfl) rfl
theorem dX12_lay_225 : decode cX12_lay 225 = .ok (.iconst 2, 1) := dop_5 (zb_X12_lay_5 29 rfl)
theorem dX12_lay_226 : decode cX12_lay 226 = .ok (.laload, 1) := dop_47 (zb_X12_lay_5 30 rfl)
theorem dX12_lay_227 : decode cX12_lay 227 = .ok (.invokevirtual 472, 3) := dop_182 (zb_X12_lay_5 31 rfl) (zb_X12_lay_5 32 rfl) (zb_X12_lay_5 33 rfl) rfl
theorem dX12_lay_230 : decode cX12_lay 230 = .ok (.aload_n 0, 1) := dop_42 (zb_X12_lay_5 34 rfl)
theorem dX12_lay_231 : decode cX12_lay 231 = .ok (.aload_n 0, 1) := dop_42 (zb_X12_lay_5 35 rfl)
theorem dX12_lay_232 : decode cX12_lay 232 = .ok (.getfield 112, 3) := dop_180 (zb_X12_lay_5 36 rfl) (zb_X12_lay_5 37 rfl) (zb_X12_lay_5 38 rfl) rfl
theorem dX12_lay_235 : decode cX12_lay 235 = .ok (.aload_n 0, 1) := dop_42 (zb_X12_lay_5 39 rfl)
theorem ze_X12_lay_7 : (dcn cX12_lay).drop 276 = zt_X12_lay_7 := dw_n (wl := zw_X12_lay_6) ze_X12_lay_6 rfl
theorem zb_X12_lay_6 (j : Nat) {n : Nat} (e : zw_X12_lay_6[j]? = some n) : dby cX12_lay (236 + j) n := dw_b (t := zt_X12_lay_7) ze_X12_lay_6 j e
theorem dX12_lay_236 : decode cX12_lay 236 = .ok (.getfield 121, 3) := dop_180 (zb_X12_lay_6 0 rfl) (zb_X12_lay_6 1 rfl) (zb_X12_lay_6 2 rfl) rfl
theorem dX12_lay_239 : decode cX12_lay 239 = .ok (.iconst 0, 1) := dop_3 (zb_X12_lay_6 3 rfl)
theorem dX12_lay_240 : decode cX12_lay 240 = .ok (.laload, 1) := dop_47 (zb_X12_lay_6 4 rfl)
theorem dX12_lay_241 : decode cX12_lay 241 = .ok (.aload_n 0, 1) := dop_42 (zb_X12_lay_6 5 rfl)
theorem dX12_lay_242 : decode cX12_lay 242 = .ok (.getfield 118, 3) := dop_180 (zb_X12_lay_6 6 rfl) (zb_X12_lay_6 7 rfl) (zb_X12_lay_6 8 rfl) rfl
theorem dX12_lay_245 : decode cX12_lay 245 = .ok (.iconst 1, 1) := dop_4 (zb_X12_lay_6 9 rfl)
theorem dX12_lay_246 : decode cX12_lay 246 = .ok (.laload, 1) := dop_47 (zb_X12_lay_6 10 rfl)
theorem dX12_lay_247 : decode cX12_lay 247 = .ok (.aload_n 0, 1) := dop_42 (zb_X12_lay_6 11 rfl)
theorem dX12_lay_248 : decode cX12_lay 248 = .ok (.getfield 121, 3) := dop_180 (zb_X12_lay_6 12 rfl) (zb_X12_lay_6 13 rfl) (zb_X12_lay_6 14 rfl) rfl
theorem dX12_lay_251 : decode cX12_lay 251 = .ok (.iconst 2, 1) := dop_5 (zb_X12_lay_6 15 rfl)
theorem dX12_lay_252 : decode cX12_lay 252 = .ok (.laload, 1) := dop_47 (zb_X12_lay_6 16 rfl)
theorem dX12_lay_253 : decode cX12_lay 253 = .ok (.invokevirtual 472, 3) := dop_182 (zb_X12_lay_6 17 rfl) (zb_X12_lay_6 18 rfl) (zb_X12_lay_6 19 rfl) rfl
theorem dX12_lay_256 : decode cX12_lay 256 = .ok (.aload_n 0, 1) := dop_42 (zb_X12_lay_6 20 rfl)
theorem dX12_lay_257 : decode cX12_lay 257 = .ok (.invokevirtual 476, 3) := dop_182 (zb_X12_lay_6 21 rfl) (zb_X12_lay_6 22 rfl) (zb_X12_lay_6 23 rfl) rfl
theorem dX12_lay_260 : decode cX12_lay 260 = .ok (.aload_n 0, 1) := dop_42 (zb_X12_lay_6 24 rfl)
theorem dX12_lay_261 : decode cX12_lay 261 = .ok (.aload_n 0, 1) := dop_42 (zb_X12_lay_6 25 rfl)
theorem dX12_lay_262 : decode cX12_lay 262 = .ok (.getfield 112, 3) := dop_180 (zb_X12_lay_6 26 rfl) (zb_X12_lay_6 27 rfl) (zb_X12_lay_6 28 rfl) rfl
theorem dX12_lay_265 : decode cX12_lay 265 = .ok (.aload_n 0, 1) := dop_42 (zb_X12_lay_6 29 rfl)
theorem dX12_lay_266 : decode cX12_lay 266 = .ok (.getfield 121, 3) := dop_180 (zb_X12_lay_6 30 rfl) (zb_X12_lay_6 31 rfl) (zb_X12_lay_6 32 rfl) rfl
theorem dX12_lay_269 : decode cX12_lay 269 = .ok (.iconst 0, 1) := dop_3 (zb_X12_lay_6 33 rfl)
theorem dX12_lay_270 : decode cX12_lay 270 = .ok (.laload, 1) := dop_47 (zb_X12_lay_6 34 rfl)
theorem dX12_lay_271 : decode cX12_lay 271 = .ok (.aload_n 0, 1) := dop_42 (zb_X12_lay_6 35 rfl)
theorem dX12_lay_272 : decode cX12_lay 272 = .ok (.getfield 121, 3) := dop_180 (zb_X12_lay_6 36 rfl) (zb_X12_lay_6 37 rfl) (zb_X12_lay_6 38 rfl) rfl
theorem dX12_lay_275 : decode cX12_lay 275 = .ok (.iconst 1, 1) := dop_4 (zb_X12_lay_6 39 rfl)
theorem zb_X12_lay_7 (j : Nat) {n : Nat} (e : zw_X12_lay_7[j]? = some n) : dby cX12_lay (276 + j) n := dw_b (t := []) ze_X12_lay_7 j e
theorem dX12_lay_276 : decode cX12_lay 276 = .ok (.laload, 1) := dop_47 (zb_X12_lay_7 0 rfl)
theorem dX12_lay_277 : decode cX12_lay 277 = .ok (.aload_n 0, 1) := dop_42 (zb_X12_lay_7 1 rfl)
theorem dX12_lay_278 : decode cX12_lay 278 = .ok (.getfield 118, 3) := dop_180 (zb_X12_lay_7 2 rfl) (zb_X12_lay_7 3 rfl) (zb_X12_lay_7 4 rfl) rfl
theorem dX12_lay_281 : decode cX12_lay 281 = .ok (.iconst 2, 1) := dop_5 (zb_X12_lay_7 5 rfl)
theorem dX12_lay_282 : decode cX12_lay 282 = .ok (.laload, 1) := dop_47 (zb_X12_lay_7 6 rfl)
theorem dX12_lay_283 : decode cX12_lay 283 = .ok (.invokevirtual 472, 3) := dop_182 (zb_X12_lay_7 7 rfl) (zb_X12_lay_7 8 rfl) (zb_X12_lay_7 9 rfl) rfl
theorem dX12_lay_286 : decode cX12_lay 286 = .ok (.aload_n 0, 1) := dop_42 (zb_X12_lay_7 10 rfl)
theorem dX12_lay_287 : decode cX12_lay 287 = .ok (.invokevirtual 476, 3) := dop_182 (zb_X12_lay_7 11 rfl) (zb_X12_lay_7 12 rfl) (zb_X12_lay_7 13 rfl) rfl
theorem dX12_lay_290 : decode cX12_lay 290 = .ok (.aload_n 0, 1) := dop_42 (zb_X12_lay_7 14 rfl)
theorem dX12_lay_291 : decode cX12_lay 291 = .ok (.sipush 6000, 3) := dop_17 (zb_X12_lay_7 15 rfl) (zb_X12_lay_7 16 rfl) (zb_X12_lay_7 17 rfl) rfl
theorem dX12_lay_294 : decode cX12_lay 294 = .ok (.iload 5, 2) := dop_21 (zb_X12_lay_7 18 rfl) (zb_X12_lay_7 19 rfl)
theorem dX12_lay_296 : decode cX12_lay 296 = .ok (.ifCond .eq 10, 3) := dop_153 (zb_X12_lay_7 20 rfl) (zb_X12_lay_7 21 rfl) (zb_X12_lay_7 22 rfl) rfl
theorem dX12_lay_299 : decode cX12_lay 299 = .ok (.aload_n 0, 1) := dop_42 (zb_X12_lay_7 23 rfl)
theorem dX12_lay_300 : decode cX12_lay 300 = .ok (.getfield 462, 3) := dop_180 (zb_X12_lay_7 24 rfl) (zb_X12_lay_7 25 rfl) (zb_X12_lay_7 26 rfl) rfl
theorem dX12_lay_303 : decode cX12_lay 303 = .ok (.ifCond .eq 7, 3) := dop_153 (zb_X12_lay_7 27 rfl) (zb_X12_lay_7 28 rfl) (zb_X12_lay_7 29 rfl) rfl
theorem dX12_lay_306 : decode cX12_lay 306 = .ok (.iconst 1, 1) := dop_4 (zb_X12_lay_7 30 rfl)
theorem dX12_lay_307 : decode cX12_lay 307 = .ok (.goto 4, 3) := dop_167 (zb_X12_lay_7 31 rfl) (zb_X12_lay_7 32 rfl) (zb_X12_lay_7 33 rfl) rfl
theorem dX12_lay_310 : decode cX12_lay 310 = .ok (.iconst 0, 1) := dop_3 (zb_X12_lay_7 34 rfl)
theorem dX12_lay_311 : decode cX12_lay 311 = .ok (.invokevirtual 479, 3) := dop_182 (zb_X12_lay_7 35 rfl) (zb_X12_lay_7 36 rfl) (zb_X12_lay_7 37 rfl) rfl
theorem dX12_lay_314 : decode cX12_lay 314 = .ok (.ireturn, 1) := dop_172 (zb_X12_lay_7 38 rfl)
def zw_X12_addFactor_1 : List Nat := [22, 4, 20, 1, 71, 109, 64, 132, 3, 1, 167, 255, 211, 177]
def zt_X12_addFactor_1 : List Nat := zw_X12_addFactor_1 ++ []
def zw_X12_addFactor_0 : List Nat := [9, 64, 3, 62, 29, 16, 10, 162, 0, 45, 42, 180, 0, 106, 29, 47, 42, 180, 0, 112, 29, 47, 97, 31, 97, 55, 4, 42, 180, 0, 106, 29, 22, 4, 20, 1, 71, 113, 80]
def zt_X12_addFactor_0 : List Nat := zw_X12_addFactor_0 ++ zt_X12_addFactor_1
theorem ze_X12_addFactor_0 : (dcn cX12_addFactor).drop 0 = zt_X12_addFactor_0 := by decide +kernel
theorem ze_X12_addFactor_1 : (dcn cX12_addFactor).drop 39 = zt_X12_addFactor_1 := dw_n (wl := zw_X12_addFactor_0) ze_X12_addFactor_0 rfl
theorem zb_X12_addFactor_0 (j : Nat) {n : Nat} (e : zw_X12_addFactor_0[j]? = some n) : dby cX12_addFactor (0 + j) n := dw_b (t := zt_X12_addFactor_1) ze_X12_addFactor_0 j e
theorem dX12_addFactor_0 : decode cX12_addFactor 0 = .ok (.lconst 0, 1) := dop_9 (zb_X12_addFactor_0 0 rfl)
theorem dX12_addFactor_1 : decode cX12_addFactor 1 = .ok (.lstore_n 1, 1) := dop_64 (zb_X12_addFactor_0 1 rfl)
theorem dX12_addFactor_2 : decode cX12_addFactor 2 = .ok (.iconst 0, 1) := dop_3 (zb_X12_addFactor_0 2 rfl)
theorem dX12_addFactor_3 : decode cX12_addFactor 3 = .ok (.istore_n 3, 1) := dop_62 (zb_X12_addFactor_0 3 rfl)
theorem dX12_addFactor_4 : decode cX12_addFactor 4 = .ok (.iload_n 3, 1) := dop_29 (zb_X12_addFactor_0 4 rfl)
theorem dX12_addFactor_5 : decode cX12_addFactor 5 = .ok (.bipush 10, 2) := dop_16 (zb_X12_addFactor_0 5 rfl) (zb_X12_addFactor_0 6 rfl) rfl
theorem dX12_addFactor_7 : decode cX12_addFactor 7 = .ok (.if_icmp .ge 45, 3) := dop_162 (zb_X12_addFactor_0 7 rfl) (zb_X12_addFactor_0 8 rfl) (zb_X12_addFactor_0 9 rfl) rfl
theorem dX12_addFactor_10 : decode cX12_addFactor 10 = .ok (.aload_n 0, 1) := dop_42 (zb_X12_addFactor_0 10 rfl)
theorem dX12_addFactor_11 : decode cX12_addFactor 11 = .ok (.getfield 106, 3) := dop_180 (zb_X12_addFactor_0 11 rfl) (zb_X12_addFactor_0 12 rfl) (zb_X12_addFactor_0 13 rfl) rfl
theorem dX12_addFactor_14 : decode cX12_addFactor 14 = .ok (.iload_n 3, 1) := dop_29 (zb_X12_addFactor_0 14 rfl)
theorem dX12_addFactor_15 : decode cX12_addFactor 15 = .ok (.laload, 1) := dop_47 (zb_X12_addFactor_0 15 rfl)
theorem dX12_addFactor_16 : decode cX12_addFactor 16 = .ok (.aload_n 0, 1) := dop_42 (zb_X12_addFactor_0 16 rfl)
theorem dX12_addFactor_17 : decode cX12_addFactor 17 = .ok (.getfield 112, 3) := dop_180 (zb_X12_addFactor_0 17 rfl) (zb_X12_addFactor_0 18 rfl) (zb_X12_addFactor_0 19 rfl) rfl
theorem dX12_addFactor_20 : decode cX12_addFactor 20 = .ok (.iload_n 3, 1) := dop_29 (zb_X12_addFactor_0 20 rfl)
theorem dX12_addFactor_21 : decode cX12_addFactor 21 = .ok (.laload, 1) := dop_47 (zb_X12_addFactor_0 21 rfl)
theorem dX12_addFactor_22 : decode cX12_addFactor 22 = .ok (.ladd, 1) := dop_97 (zb_X12_addFactor_0 22 rfl)
theorem dX12_addFactor_23 : decode cX12_addFactor 23 = .ok (.lload_n 1, 1) := dop_31 (zb_X12_addFactor_0 23 rfl)
theorem dX12_addFactor_24 : decode cX12_addFactor 24 = .ok (.ladd, 1) := dop_97 (zb_X12_addFactor_0 24 rfl)
theorem dX12_addFactor_25 : decode cX12_addFactor 25 = .ok (.lstore 4, 2) := dop_55 (zb_X12_addFactor_0 25 rfl) (zb_X12_addFactor_0 26 rfl)
theorem dX12_addFactor_27 : decode cX12_addFactor 27 = .ok (.aload_n 0, 1) := dop_42 (zb_X12_addFactor_0 27 rfl)
theorem dX12_addFactor_28 : decode cX12_addFactor 28 = .ok (.getfield 106, 3) := dop_180 (zb_X12_addFactor_0 28 rfl) (zb_X12_addFactor_0 29 rfl) (zb_X12_addFactor_0 30 rfl) rfl
theorem dX12_addFactor_31 : decode cX12_addFactor 31 = .ok (.iload_n 3, 1) := dop_29 (zb_X12_addFactor_0 31 rfl)
theorem dX12_addFactor_32 : decode cX12_addFactor 32 = .ok (.lload 4, 2) := dop_22 (zb_X12_addFactor_0 32 rfl) (zb_X12_addFactor_0 33 rfl)
theorem dX12_addFactor_34 : decode cX12_addFactor 34 = .ok (.ldc2_w 327, 3) := dop_20 (zb_X12_addFactor_0 34 rfl) (zb_X12_addFactor_0 35 rfl) (zb_X12_addFactor_0 36 rfl) rfl
theorem dX12_addFactor_37 : decode cX12_addFactor 37 = .ok (.lrem, 1) := dop_113 (zb_X12_addFactor_0 37 rfl)
theorem dX12_addFactor_38 : decode cX12_addFactor 38 = .ok (.lastore, 1) := dop_80 (zb_X12_addFactor_0 38 rfl)
theorem zb_X12_addFactor_1 (j : Nat) {n : Nat} (e : zw_X12_addFactor_1[j]? = some n) : dby cX12_addFactor (39 + j) n := dw_b (t := []) ze_X12_addFactor_1 j e
theorem dX12_addFactor_39 : decode cX12_addFactor 39 = .ok (.lload 4, 2) := dop_22 (zb_X12_addFactor_1 0 rfl) (zb_X12_addFactor_1 1 rfl)
theorem dX12_addFactor_41 : decode cX12_addFactor 41 = .ok (.ldc2_w 327, 3) := dop_20 (zb_X12_addFactor_1 2 rfl) (zb_X12_addFactor_1 3 rfl) (zb_X12_addFactor_1 4 rfl) rfl
theorem dX12_addFactor_44 : decode cX12_addFactor 44 = .ok (.ldiv, 1) := dop_109 (zb_X12_addFactor_1 5 rfl)
theorem dX12_addFactor_45 : decode cX12_addFactor 45 = .ok (.lstore_n 1, 1) := dop_64 (zb_X12_addFactor_1 6 rfl)
theorem dX12_addFactor_46 : decode cX12_addFactor 46 = .ok (.iinc 3 1, 3) := dop_132 (zb_X12_addFactor_1 7 rfl) (zb_X12_addFactor_1 8 rfl) (zb_X12_addFactor_1 9 rfl) rfl
theorem dX12_addFactor_49 : decode cX12_addFactor 49 = .ok (.goto (-45), 3) := dop_167 (zb_X12_addFactor_1 10 rfl) (zb_X12_addFactor_1 11 rfl) (zb_X12_addFactor_1 12 rfl) rfl
theorem dX12_addFactor_52 : decode cX12_addFactor 52 = .ok (.return_, 1) := dop_177 (zb_X12_addFactor_1 13 rfl)
def zw_X12_area_4 : List Nat := [180, 0, 121, 3, 47, 42, 180, 0, 121, 4, 47, 10, 182, 1, 216, 42, 19, 1, 227, 21, 4, 153, 0, 10, 42, 180, 1, 206, 153, 0, 7, 4, 167, 0, 4, 3, 182, 1, 223, 172]
def zt_X12_area_4 : List Nat := zw_X12_area_4 ++ []
def zw_X12_area_3 : List Nat := [4, 160, 0, 12, 42, 180, 1, 203, 154, 0, 5, 2, 172, 42, 42, 180, 0, 106, 42, 180, 0, 118, 3, 47, 42, 180, 0, 118, 4, 47, 10, 182, 1, 216, 42, 42, 180, 0, 109, 42]
def zt_X12_area_3 : List Nat := zw_X12_area_3 ++ zt_X12_area_4
def zw_X12_area_2 : List Nat := [4, 181, 1, 206, 42, 3, 27, 29, 21, 4, 154, 0, 7, 4, 167, 0, 4, 3, 182, 1, 212, 42, 4, 28, 29, 21, 4, 154, 0, 7, 4, 167, 0, 4, 3, 182, 1, 212, 21, 4]
def zt_X12_area_2 : List Nat := zw_X12_area_2 ++ zt_X12_area_3
def zw_X12_area_1 : List Nat := [167, 0, 4, 3, 54, 5, 21, 5, 153, 0, 23, 42, 28, 182, 1, 135, 153, 0, 15, 42, 27, 16, 12, 29, 96, 182, 1, 138, 154, 0, 6, 16, 254, 172, 42, 4, 181, 1, 203, 42]
def zt_X12_area_1 : List Nat := zw_X12_area_1 ++ zt_X12_area_2
def zw_X12_area_0 : List Nat := [42, 3, 181, 0, 133, 27, 184, 1, 209, 153, 0, 32, 28, 184, 1, 209, 153, 0, 25, 29, 184, 0, 169, 153, 0, 18, 21, 4, 133, 9, 10, 184, 0, 143, 153, 0, 7, 4]
def zt_X12_area_0 : List Nat := zw_X12_area_0 ++ zt_X12_area_1
theorem ze_X12_area_0 : (dcn cX12_area).drop 0 = zt_X12_area_0 := by decide +kernel
theorem ze_X12_area_1 : (dcn cX12_area).drop 38 = zt_X12_area_1 := dw_n (wl := zw_X12_area_0) ze_X12_area_0 rfl
theorem zb_X12_area_0 (j : Nat) {n : Nat} (e : zw_X12_area_0[j]? = some n) : dby cX12_area (0 + j) n := dw_b (t := zt_X12_area_1) ze_X12_area_0 j e
theorem dX12_area_0 : decode cX12_area 0 = .ok (.aload_n 0, 1) := dop_42 (zb_X12_area_0 0 rfl)
theorem dX12_area_1 : decode cX12_area 1 = .ok (.iconst 0, 1) := dop_3 (zb_X12_area_0 1 rfl)
theorem dX12_area_2 : decode cX12_area 2 = .ok (.putfield 133, 3) := dop_181 (zb_X12_area_0 2 rfl) (zb_X12_area_0 3 rfl) (zb_X12_area_0 4 rfl) rfl
theorem dX12_area_5 : decode cX12_area 5 = .ok (.iload_n 1, 1) := dop_27 (zb_X12_area_0 5 rfl)
theorem dX12_area_6 : decode cX12_area 6 = .ok (.invokestatic 465, 3) := dop_184 (zb_X12_area_0 6 rfl) (zb_X12_area_0 7 rfl) (zb_X12_area_0 8 rfl) rfl
theorem dX12_area_9 : decode cX12_area 9 = .ok (.ifCond .eq 32, 3) := dop_153 (zb_X12_area_0 9 rfl) (zb_X12_area_0 10 rfl) (zb_X12_area_0 11 rfl) rfl
theorem dX12_area_12 : decode cX12_area 12 = .ok (.iload_n 2, 1) := dop_28 (zb_X12_area_0 12 rfl)
theorem dX12_area_13 : decode cX12_area 13 = .ok (.invokestatic 465, 3) := dop_184 (zb_X12_area_0 13 rfl) (zb_X12_area_0 14 rfl) (zb_X12_area_0 15 rfl) rfl
theorem dX12_area_16 : decode cX12_area 16 = .ok (.ifCond .eq 25, 3) := dop_153 (zb_X12_area_0 16 rfl) (zb_X12_area_0 17 rfl) (zb_X12_area_0 18 rfl) rfl
theorem dX12_area_19 : decode cX12_area 19 = .ok (.iload_n 3, 1) := dop_29 (zb_X12_area_0 19 rfl)
theorem dX12_area_20 : decode cX12_area 20 = .ok (.invokestatic 169, 3) := dop_184 (zb_X12_area_0 20 rfl) (zb_X12_area_0 21 rfl) (zb_X12_area_0 22 rfl) rfl
theorem dX12_area_23 : decode cX12_area 23 = .ok (.ifCond .eq 18, 3) := dop_153 (zb_X12_area_0 23 rfl) (zb_X12_area_0 24 rfl) (zb_X12_area_0 25 rfl) rfl
theorem dX12_area_26 : decode cX12_area 26 = .ok (.iload 4, 2) := dop_21 (zb_X12_area_0 26 rfl) (zb_X12_area_0 27 rfl)
theorem dX12_area_28 : decode cX12_area 28 = .ok (.i2l, 1) := dop_133 (zb_X12_area_0 28 rfl)
theorem dX12_area_29 : decode cX12_area 29 = .ok (.lconst 0, 1) := dop_9 (zb_X12_area_0 29 rfl)
theorem dX12_area_30 : decode cX12_area 30 = .ok (.lconst 1, 1) := dop_10 (zb_X12_area_0 30 rfl)
theorem dX12_area_31 : decode cX12_area 31 = .ok (.invokestatic 143, 3) := dop_184 (zb_X12_area_0 31 rfl) (zb_X12_area_0 32 rfl) (zb_X12_area_0 33 rfl) rfl
theorem dX12_area_34 : decode cX12_area 34 = .ok (.ifCond .eq 7, 3) := dop_153 (zb_X12_area_0 34 rfl) (zb_X12_area_0 35 rfl) (zb_X12_area_0 36 rfl) rfl
theorem dX12_area_37 : decode cX12_area 37 = .ok (.iconst 1, 1) := dop_4 (zb_X12_area_0 37 rfl)
theorem ze_X12_area_2 : (dcn cX12_area).drop 78 = zt_X12_area_2 := dw_n (wl := zw_X12_area_1) ze_X12_area_1 rfl
theorem zb_X12_area_1 (j : Nat) {n : Nat} (e : zw_X12_area_1[j]? = some n) : dby cX12_area (38 + j) n := dw_b (t := zt_X12_area_2) ze_X12_area_1 j e
theorem dX12_area_38 : decode cX12_area 38 = .ok (.goto 4, 3) := dop_167 (zb_X12_area_1 0 rfl) (zb_X12_area_1 1 rfl) (zb_X12_area_1 2 rfl) rfl
theorem dX12_area_41 : decode cX12_area 41 = .ok (.iconst 0, 1) := dop_3 (zb_X12_area_1 3 rfl)
theorem dX12_area_42 : decode cX12_area 42 = .ok (.istore 5, 2) := dop_54 (zb_X12_area_1 4 rfl) (zb_X12_area_1 5 rfl)
theorem dX12_area_44 : decode cX12_area 44 = .ok (.iload 5, 2) := dop_21 (zb_X12_area_1 6 rfl) (zb_X12_area_1 7 rfl)
theorem dX12_area_46 : decode cX12_area 46 = .ok (.ifCond .eq 23, 3) := dop_153 (zb_X12_area_1 8 rfl) (zb_X12_area_1 9 rfl) (zb_X12_area_1 10 rfl) rfl
theorem dX12_area_49 : decode cX12_area 49 = .ok (.aload_n 0, 1) := dop_42 (zb_X12_area_1 11 rfl)
theorem dX12_area_50 : decode cX12_area 50 = .ok (.iload_n 2, 1) := dop_28 (zb_X12_area_1 12 rfl)
theorem dX12_area_51 : decode cX12_area 51 = .ok (.invokevirtual 391, 3) := dop_182 (zb_X12_area_1 13 rfl) (zb_X12_area_1 14 rfl) (zb_X12_area_1 15 rfl) rfl
theorem dX12_area_54 : decode cX12_area 54 = .ok (.ifCond .eq 15, 3) := dop_153 (zb_X12_area_1 16 rfl) (zb_X12_area_1 17 rfl) (zb_X12_area_1 18 rfl) rfl
theorem dX12_area_57 : decode cX12_area 57 = .ok (.aload_n 0, 1) := dop_42 (zb_X12_area_1 19 rfl)
theorem dX12_area_58 : decode cX12_area 58 = .ok (.iload_n 1, 1) := dop_27 (zb_X12_area_1 20 rfl)
theorem dX12_area_59 : decode cX12_area 59 = .ok (.bipush 12, 2) := dop_16 (zb_X12_area_1 21 rfl) (zb_X12_area_1 22 rfl) rfl
theorem dX12_area_61 : decode cX12_area 61 = .ok (.iload_n 3, 1) := dop_29 (zb_X12_area_1 23 rfl)
theorem dX12_area_62 : decode cX12_area 62 = .ok (.iadd, 1) := dop_96 (zb_X12_area_1 24 rfl)
theorem dX12_area_63 : decode cX12_area 63 = .ok (.invokevirtual 394, 3) := dop_182 (zb_X12_area_1 25 rfl) (zb_X12_area_1 26 rfl) (zb_X12_area_1 27 rfl) rfl
theorem dX12_area_66 : decode cX12_area 66 = .ok (.ifCond .ne 6, 3) := dop_154 (zb_X12_area_1 28 rfl) (zb_X12_area_1 29 rfl) (zb_X12_area_1 30 rfl) rfl
theorem dX12_area_69 : decode cX12_area 69 = .ok (.bipush (-2), 2) := dop_16 (zb_X12_area_1 31 rfl) (zb_X12_area_1 32 rfl) rfl
theorem dX12_area_71 : decode cX12_area 71 = .ok (.ireturn, 1) := dop_172 (zb_X12_area_1 33 rfl)
theorem dX12_area_72 : decode cX12_area 72 = .ok (.aload_n 0, 1) := dop_42 (zb_X12_area_1 34 rfl)
theorem dX12_area_73 : decode cX12_area 73 = .ok (.iconst 1, 1) := dop_4 (zb_X12_area_1 35 rfl)
theorem dX12_area_74 : decode cX12_area 74 = .ok (.putfield 459, 3) := dop_181 (zb_X12_area_1 36 rfl) (zb_X12_area_1 37 rfl) (zb_X12_area_1 38 rfl) rfl
theorem dX12_area_77 : decode cX12_area 77 = .ok (.aload_n 0, 1) := dop_42 (zb_X12_area_1 39 rfl)
theorem ze_X12_area_3 : (dcn cX12_area).drop 118 = zt_X12_area_3 := dw_n (wl := zw_X12_area_2) ze_X12_area_2 rfl
theorem zb_X12_area_2 (j : Nat) {n : Nat} (e : zw_X12_area_2[j]? = some n) : dby cX12_area (78 + j) n := dw_b (t := zt_X12_area_3) ze_X12_area_2 j e
theorem dX12_area_78 : decode cX12_area 78 = .ok (.iconst 1, 1) := dop_4 (zb_X12_area_2 0 rfl)
theorem dX12_area_79 : decode cX12_area 79 = .ok (.putfield 462, 3) := dop_181 (zb_X12_area_2 1 rfl) (zb_X12_area_2 2 rfl) (zb_X12_area_2 3 rfl) rfl
theorem dX12_area_82 : decode cX12_area 82 = .ok (.aload_n 0, 1) := dop_42 (zb_X12_area_2 4 rfl)
theorem dX12_area_83 : decode cX12_area 83 = .ok (.iconst 0, 1) := dop_3 (zb_X12_area_2 5 rfl)
theorem dX12_area_84 : decode cX12_area 84 = .ok (.iload_n 1, 1) := dop_27 (zb_X12_area_2 6 rfl)
theorem dX12_area_85 : decode cX12_area 85 = .ok (.iload_n 3, 1) := dop_29 (zb_X12_area_2 7 rfl)
theorem dX12_area_86 : decode cX12_area 86 = .ok (.iload 4, 2) := dop_21 (zb_X12_area_2 8 rfl) (zb_X12_area_2 9 rfl)
theorem dX12_area_88 : decode cX12_area 88 = .ok (.ifCond .ne 7, 3) := dop_154 (zb_X12_area_2 10 rfl) (zb_X12_area_2 11 rfl) (zb_X12_area_2 12 rfl) rfl
theorem dX12_area_91 : decode cX12_area 91 = .ok (.iconst 1, 1) := dop_4 (zb_X12_area_2 13 rfl)
theorem dX12_area_92 : decode cX12_area 92 = .ok (.goto 4, 3) := dop_167 (zb_X12_area_2 14 rfl) (zb_X12_area_2 15 rfl) (zb_X12_area_2 16 rfl) rfl
theorem dX12_area_95 : decode cX12_area 95 = .ok (.iconst 0, 1) := dop_3 (zb_X12_area_2 17 rfl)
theorem dX12_area_96 : decode cX12_area 96 = .ok (.invokevirtual 468, 3) := dop_182 (zb_X12_area_2 18 rfl) (zb_X12_area_2 19 rfl) (zb_X12_area_2 20 rfl) rfl
theorem dX12_area_99 : decode cX12_area 99 = .ok (.aload_n 0, 1) := dop_42 (zb_X12_area_2 21 rfl)
theorem dX12_area_100 : decode cX12_area 100 = .ok (.iconst 1, 1) := dop_4 (zb_X12_area_2 22 rfl)
theorem dX12_area_101 : decode cX12_area 101 = .ok (.iload_n 2, 1) := dop_28 (zb_X12_area_2 23 rfl)
theorem dX12_area_102 : decode cX12_area 102 = .ok (.iload_n 3, 1) := dop_29 (zb_X12_area_2 24 rfl)
theorem dX12_area_103 : decode cX12_area 103 = .ok (.iload 4, 2) := dop_21 (zb_X12_area_2 25 rfl) (zb_X12_area_2 26 rfl)
theorem dX12_area_105 : decode cX12_area 105 = .ok (.ifCond .ne 7, 3) := dop_154 (zb_X12_area_2 27 rfl) (zb_X12_area_2 28 rfl) (zb_X12_area_2 29 rfl) rfl
theorem dX12_area_108 : decode cX12_area 108 = .ok (.iconst 1, 1) := dop_4 (zb_X12_area_2 30 rfl)
theorem dX12_area_109 : decode cX12_area 109 = .ok (.goto 4, 3) := dop_167 (zb_X12_area_2 31 rfl) (zb_X12_area_2 32 rfl) (zb_X12_area_2 33 rfl) rfl
theorem dX12_area_112 : decode cX12_area 112 = .ok (.iconst 0, 1) := dop_3 (zb_X12_area_2 34 rfl)
theorem dX12_area_113 : decode cX12_area 113 = .ok (.invokevirtual 468, 3) := dop_182 (zb_X12_area_2 35 rfl) (zb_X12_area_2 36 rfl) (zb_X12_area_2 37 rfl) rfl
theorem dX12_area_116 : decode cX12_area 116 = .ok (.iload 4, 2) := dop_21 (zb_X12_area_2 38 rfl) (zb_X12_area_2 39 rfl)
theorem ze_X12_area_4 : (dcn cX12_area).drop 158 = zt_X12_area_4 := dw_n (wl := zw_X12_area_3) ze_X12_area_3 rfl
theorem zb_X12_area_3 (j : Nat) {n : Nat} (e : zw_X12_area_3[j]? = some n) : dby cX12_area (118 + j) n := dw_b (t := zt_X12_area_4) ze_X12_area_3 j e
theorem dX12_area_118 : decode cX12_area 118 = .ok (.iconst 1, 1) := dop_4 (zb_X12_area_3 0 rfl)
theorem dX12_area_119 : decode cX12_area 119 = .ok (.if_icmp .ne 12, 3) := dop_160 (zb_X12_area_3 1 rfl) (zb_X12_area_3 2 rfl) (zb_X12_area_3 3 rfl) rfl
theorem dX12_area_122 : decode cX12_area 122 = .ok (.aload_n 0, 1) := dop_42 (zb_X12_area_3 4 rfl)
theorem dX12_area_123 : decode cX12_area 123 = .ok (.getfield 459, 3) := dop_180 (zb_X12_area_3 5 rfl) (zb_X12_area_3 6 rfl) (zb_X12_area_3 7 rfl) rfl
theorem dX12_area_126 : decode cX12_area 126 = .ok (.ifCond .ne 5, 3) := dop_154 (zb_X12_area_3 8 rfl) (zb_X12_area_3 9 rfl) (zb_X12_area_3 10 rfl) rfl
theorem dX12_area_129 : decode cX12_area 129 = .ok (.iconst (-1), 1) := dop_2 (zb_X12_area_3 11 rfl)
theorem dX12_area_130 : decode cX12_area 130 = .ok (.ireturn, 1) := dop_172 (zb_X12_area_3 12 rfl)
theorem dX12_area_131 : decode cX12_area 131 = .ok (.aload_n 0, 1) := dop_42 (zb_X12_area_3 13 rfl)
theorem dX12_area_132 : decode cX12_area 132 = .ok (.aload_n 0, 1) := dop_42 (zb_X12_area_3 14 rfl)
theorem dX12_area_133 : decode cX12_area 133 = .ok (.getfield 106, 3) := dop_180 (zb_X12_area_3 15 rfl) (zb_X12_area_3 16 rfl) (zb_X12_area_3 17 rfl) rfl
theorem dX12_area_136 : decode cX12_area 136 = .ok (.aload_n 0, 1) := dop_42 (zb_X12_area_3 18 rfl)
theorem dX12_area_137 : decode cX12_area 137 = .ok (.getfield 118, 3) := dop_180 (zb_X12_area_3 19 rfl) (zb_X12_area_3 20 rfl) (zb_X12_area_3 21 rfl) rfl
theorem dX12_area_140 : decode cX12_area 140 = .ok (.iconst 0, 1) := dop_3 (zb_X12_area_3 22 rfl)
theorem dX12_area_141 : decode cX12_area 141 = .ok (.laload, 1) := dop_47 (zb_X12_area_3 23 rfl)
theorem dX12_area_142 : decode cX12_area 142 = .ok (.aload_n 0, 1) := dop_42 (zb_X12_area_3 24 rfl)
theorem dX12_area_143 : decode cX12_area 143 = .ok (.getfield 118, 3) := dop_180 (zb_X12_area_3 25 rfl) (zb_X12_area_3 26 rfl) (zb_X12_area_3 27 rfl) rfl
theorem dX12_area_146 : decode cX12_area 146 = .ok (.iconst 1, 1) := dop_4 (zb_X12_area_3 28 rfl)
theorem dX12_area_147 : decode cX12_area 147 = .ok (.laload, 1) := dop_47 (zb_X12_area_3 29 rfl)
theorem dX12_area_148 : decode cX12_area 148 = .ok (.lconst 1, 1) := dop_10 (zb_X12_area_3 30 rfl)
theorem dX12_area_149 : decode cX12_area 149 = .ok (.invokevirtual 472, 3) := dop_182 (zb_X12_area_3 31 rfl) (zb_X12_area_3 32 rfl) (zb_X12_area_3 33 rfl) rfl
theorem dX12_area_152 : decode cX12_area 152 = .ok (.aload_n 0, 1) := dop_42 (zb_X12_area_3 34 rfl)
theorem dX12_area_153 : decode cX12_area 153 = .ok (.aload_n 0, 1) := dop_42 (zb_X12_area_3 35 rfl)
theorem dX12_area_154 : decode cX12_area 154 = .ok (.getfield 109, 3) := dop_180 (zb_X12_area_3 36 rfl) (zb_X12_area_3 37 rfl) (zb_X12_area_3 38 rfl) rfl
theorem dX12_area_157 : decode cX12_area 157 = .ok (.aload_n 0, 1) := dop_42 (zb_X12_area_3 39 rfl)
theorem zb_X12_area_4 (j : Nat) {n : Nat} (e : zw_X12_area_4[j]? = some n) : dby cX12_area (158 + j) n := dw_b (t := []) ze_X12_area_4 j e
theorem dX12_area_158 : decode cX12_area 158 = .ok (.getfield 121, 3) := dop_180 (zb_X12_area_4 0 rfl) (zb_X12_area_4 1 rfl) (zb_X12_area_4 2 rfl) rfl
theorem dX12_area_161 : decode cX12_area 161 = .ok (.iconst 0, 1) := dop_3 (zb_X12_area_4 3 rfl)
theorem dX12_area_162 : decode cX12_area 162 = .ok (.laload, 1) := dop_47 (zb_X12_area_4 4 rfl)
theorem dX12_area_163 : decode cX12_area 163 = .ok (.aload_n 0, 1) := dop_42 (zb_X12_area_4 5 rfl)
theorem dX12_area_164 : decode cX12_area 164 = .ok (.getfield 121, 3) := dop_180 (zb_X12_area_4 6 rfl) (zb_X12_area_4 7 rfl) (zb_X12_area_4 8 rfl) rfl
theorem dX12_area_167 : decode cX12_area 167 = .ok (.iconst 1, 1) := dop_4 (zb_X12_area_4 9 rfl)
theorem dX12_area_168 : decode cX12_area 168 = .ok (.laload, 1) := dop_47 (zb_X12_area_4 10 rfl)
theorem dX12_area_169 : decode cX12_area 169 = .ok (.lconst 1, 1) := dop_10 (zb_X12_area_4 11 rfl)
theorem dX12_area_170 : decode cX12_area 170 = .ok (.invokevirtual 472, 3) := dop_182 (zb_X12_area_4 12 rfl) (zb_X12_area_4 13 rfl) (zb_X12_area_4 14 rfl) rfl
theorem dX12_area_173 : decode cX12_area 173 = .ok (.aload_n 0, 1) := dop_42 (zb_X12_area_4 15 rfl)
theorem dX12_area_174 : decode cX12_area 174 = .ok (.ldc_w 483, 3) := dop_19 (zb_X12_area_4 16 rfl) (zb_X12_area_4 17 rfl) (zb_X12_area_4 18 rfl) rfl
theorem dX12_area_177 : decode cX12_area 177 = .ok (.iload 4, 2) := dop_21 (zb_X12_area_4 19 rfl) (zb_X12_area_4 20 rfl)
theorem dX12_area_179 : decode cX12_area 179 = .ok (.ifCond .eq 10, 3) := dop_153 (zb_X12_area_4 21 rfl) (zb_X12_area_4 22 rfl) (zb_X12_area_4 23 rfl) rfl
theorem dX12_area_182 : decode cX12_area 182 = .ok (.aload_n 0, 1) := dop_42 (zb_X12_area_4 24 rfl)
theorem dX12_area_183 : decode cX12_area 183 = .ok (.getfield 462, 3) := dop_180 (zb_X12_area_4 25 rfl) (zb_X12_area_4 26 rfl) (zb_X12_area_4 27 rfl) rfl
theorem dX12_area_186 : decode cX12_area 186 = .ok (.ifCond .eq 7, 3) := dop_153 (zb_X12_area_4 28 rfl) (zb_X12_area_4 29 rfl) (zb_X12_area_4 30 rfl) rfl
theorem dX12_area_189 : decode cX12_area 189 = .ok (.iconst 1, 1) := dop_4 (zb_X12_area_4 31 rfl)
theorem dX12_area_190 : decode cX12_area 190 = .ok (.goto 4, 3) := dop_167 (zb_X12_area_4 32 rfl) (zb_X12_area_4 33 rfl) (zb_X12_area_4 34 rfl) rfl
theorem dX12_area_193 : decode cX12_area 193 = .ok (.iconst 0, 1) := dop_3 (zb_X12_area_4 35 rfl)
theorem dX12_area_194 : decode cX12_area 194 = .ok (.invokevirtual 479, 3) := dop_182 (zb_X12_area_4 36 rfl) (zb_X12_area_4 37 rfl) (zb_X12_area_4 38 rfl) rfl
theorem dX12_area_197 : decode cX12_area 197 = .ok (.ireturn, 1) := dop_172 (zb_X12_area_4 39 rfl)
def zw_X12_findGroups_3 : List Nat := [132, 2, 1, 167, 255, 180, 132, 1, 1, 167, 255, 166, 177]
def zt_X12_findGroups_3 : List Nat := zw_X12_findGroups_3 ++ []
def zw_X12_findGroups_2 : List Nat := [21, 4, 162, 0, 7, 29, 167, 0, 5, 21, 4, 54, 5, 42, 180, 0, 124, 42, 180, 0, 40, 28, 46, 21, 5, 79, 42, 180, 0, 124, 42, 180, 0, 43, 28, 46, 21, 5, 79]
def zt_X12_findGroups_2 : List Nat := zw_X12_findGroups_2 ++ zt_X12_findGroups_3
def zw_X12_findGroups_1 : List Nat := [162, 0, 90, 3, 61, 28, 42, 180, 1, 77, 162, 0, 74, 42, 180, 0, 124, 42, 180, 0, 40, 28, 46, 46, 62, 42, 180, 0, 124, 42, 180, 0, 43, 28, 46, 46, 54, 4, 29]
def zt_X12_findGroups_1 : List Nat := zw_X12_findGroups_1 ++ zt_X12_findGroups_2
def zw_X12_findGroups_0 : List Nat := [42, 182, 1, 111, 42, 42, 182, 1, 114, 182, 1, 98, 3, 60, 27, 16, 16, 162, 0, 16, 42, 180, 0, 124, 27, 27, 79, 132, 1, 1, 167, 255, 240, 3, 60, 27, 16, 16]
def zt_X12_findGroups_0 : List Nat := zw_X12_findGroups_0 ++ zt_X12_findGroups_1
theorem ze_X12_findGroups_0 : (dcn cX12_findGroups).drop 0 = zt_X12_findGroups_0 := by decide +kernel
theorem ze_X12_findGroups_1 : (dcn cX12_findGroups).drop 38 = zt_X12_findGroups_1 := dw_n (wl := zw_X12_findGroups_0) ze_X12_findGroups_0 rfl
theorem zb_X12_findGroups_0 (j : Nat) {n : Nat} (e : zw_X12_findGroups_0[j]? = some n) : dby cX12_findGroups (0 + j) n := dw_b (t := zt_X12_findGroups_1) ze_X12_findGroups_0 j e
theorem dX12_findGroups_0 : decode cX12_findGroups 0 = .ok (.aload_n 0, 1) := dop_42 (zb_X12_findGroups_0 0 rfl)
theorem dX12_findGroups_1 : decode cX12_findGroups 1 = .ok (.invokevirtual 367, 3) := dop_182 (zb_X12_findGroups_0 1 rfl) (zb_X12_findGroups_0 2 rfl) (zb_X12_findGroups_0 3 rfl) rfl
theorem dX12_findGroups_4 : decode cX12_findGroups 4 = .ok (.aload_n 0, 1) := dop_42 (zb_X12_findGroups_0 4 rfl)
theorem dX12_findGroups_5 : decode cX12_findGroups 5 = .ok (.aload_n 0, 1) := dop_42 (zb_X12_findGroups_0 5 rfl)
theorem dX12_findGroups_6 : decode cX12_findGroups 6 = .ok (.invokevirtual 370, 3) := dop_182 (zb_X12_findGroups_0 6 rfl) (zb_X12_findGroups_0 7 rfl) (zb_X12_findGroups_0 8 rfl) rfl
theorem dX12_findGroups_9 : decode cX12_findGroups 9 = .ok (.invokevirtual 354, 3) := dop_182 (zb_X12_findGroups_0 9 rfl) (zb_X12_findGroups_0 10 rfl) (zb_X12_findGroups_0 11 rfl) rfl
theorem dX12_findGroups_12 : decode cX12_findGroups 12 = .ok (.iconst 0, 1) := dop_3 (zb_X12_findGroups_0 12 rfl)
theorem dX12_findGroups_13 : decode cX12_findGroups 13 = .ok (.istore_n 1, 1) := dop_60 (zb_X12_findGroups_0 13 rfl)
theorem dX12_findGroups_14 : decode cX12_findGroups 14 = .ok (.iload_n 1, 1) := dop_27 (zb_X12_findGroups_0 14 rfl)
theorem dX12_findGroups_15 : decode cX12_findGroups 15 = .ok (.bipush 16, 2) := dop_16 (zb_X12_findGroups_0 15 rfl) (zb_X12_findGroups_0 16 rfl) rfl
theorem dX12_findGroups_17 : decode cX12_findGroups 17 = .ok (.if_icmp .ge 16, 3) := dop_162 (zb_X12_findGroups_0 17 rfl) (zb_X12_findGroups_0 18 rfl) (zb_X12_findGroups_0 19 rfl) rfl
theorem dX12_findGroups_20 : decode cX12_findGroups 20 = .ok (.aload_n 0, 1) := dop_42 (zb_X12_findGroups_0 20 rfl)
theorem dX12_findGroups_21 : decode cX12_findGroups 21 = .ok (.getfield 124, 3) := dop_180 (zb_X12_findGroups_0 21 rfl) (zb_X12_findGroups_0 22 rfl) (zb_X12_findGroups_0 23 rfl) rfl
theorem dX12_findGroups_24 : decode cX12_findGroups 24 = .ok (.iload_n 1, 1) := dop_27 (zb_X12_findGroups_0 24 rfl)
theorem dX12_findGroups_25 : decode cX12_findGroups 25 = .ok (.iload_n 1, 1) := dop_27 (zb_X12_findGroups_0 25 rfl)
theorem dX12_findGroups_26 : decode cX12_findGroups 26 = .ok (.iastore, 1) := dop_79 (zb_X12_findGroups_0 26 rfl)
theorem dX12_findGroups_27 : decode cX12_findGroups 27 = .ok (.iinc 1 1, 3) := dop_132 (zb_X12_findGroups_0 27 rfl) (zb_X12_findGroups_0 28 rfl) (zb_X12_findGroups_0 29 rfl) rfl
theorem dX12_findGroups_30 : decode cX12_findGroups 30 = .ok (.goto (-16), 3) := dop_167 (zb_X12_findGroups_0 30 rfl) (zb_X12_findGroups_0 31 rfl) (zb_X12_findGroups_0 32 rfl) rfl
theorem dX12_findGroups_33 : decode cX12_findGroups 33 = .ok (.iconst 0, 1) := dop_3 (zb_X12_findGroups_0 33 rfl)
theorem dX12_findGroups_34 : decode cX12_findGroups 34 = .ok (.istore_n 1, 1) := dop_60 (zb_X12_findGroups_0 34 rfl)
theorem dX12_findGroups_35 : decode cX12_findGroups 35 = .ok (.iload_n 1, 1) := dop_27 (zb_X12_findGroups_0 35 rfl)
theorem dX12_findGroups_36 : decode cX12_findGroups 36 = .ok (.bipush 16, 2) := dop_16 (zb_X12_findGroups_0 36 rfl) (zb_X12_findGroups_0 37 rfl) rfl
theorem ze_X12_findGroups_2 : (dcn cX12_findGroups).drop 77 = zt_X12_findGroups_2 := dw_n (wl := zw_X12_findGroups_1) ze_X12_findGroups_1 rfl
theorem zb_X12_findGroups_1 (j : Nat) {n : Nat} (e : zw_X12_findGroups_1[j]? = some n) : dby cX12_findGroups (38 + j) n := dw_b (t := zt_X12_findGroups_2) ze_X12_findGroups_1 j e
theorem dX12_findGroups_38 : decode cX12_findGroups 38 = .ok (.if_icmp .ge 90, 3) := dop_162 (zb_X12_findGroups_1 0 rfl) (zb_X12_findGroups_1 1 rfl) (zb_X12_findGroups_1 2 rfl) rfl
theorem dX12_findGroups_41 : decode cX12_findGroups 41 = .ok (.iconst 0, 1) := dop_3 (zb_X12_findGroups_1 3 rfl)
theorem dX12_findGroups_42 : decode cX12_findGroups 42 = .ok (.istore_n 2, 1) := dop_61 (zb_X12_findGroups_1 4 rfl)
theorem dX12_findGroups_43 : decode cX12_findGroups 43 = .ok (.iload_n 2, 1) := dop_28 (zb_X12_findGroups_1 5 rfl)
theorem dX12_findGroups_44 : decode cX12_findGroups 44 = .ok (.aload_n 0, 1) := dop_42 (zb_X12_findGroups_1 6 rfl)
theorem dX12_findGroups_45 : decode cX12_findGroups 45 = .ok (.getfield 333, 3) := dop_180 (zb_X12_findGroups_1 7 rfl) (zb_X12_findGroups_1 8 rfl) (zb_X12_findGroups_1 9 rfl) rfl
theorem dX12_findGroups_48 : decode cX12_findGroups 48 = .ok (.if_icmp .ge 74, 3) := dop_162 (zb_X12_findGroups_1 10 rfl) (zb_X12_findGroups_1 11 rfl) (zb_X12_findGroups_1 12 rfl) rfl
theorem dX12_findGroups_51 : decode cX12_findGroups 51 = .ok (.aload_n 0, 1) := dop_42 (zb_X12_findGroups_1 13 rfl)
theorem dX12_findGroups_52 : decode cX12_findGroups 52 = .ok (.getfield 124, 3) := dop_180 (zb_X12_findGroups_1 14 rfl) (zb_X12_findGroups_1 15 rfl) (zb_X12_findGroups_1 16 rfl) rfl
theorem dX12_findGroups_55 : decode cX12_findGroups 55 = .ok (.aload_n 0, 1) := dop_42 (zb_X12_findGroups_1 17 rfl)
theorem dX12_findGroups_56 : decode cX12_findGroups 56 = .ok (.getfield 40, 3) := dop_180 (zb_X12_findGroups_1 18 rfl) (zb_X12_findGroups_1 19 rfl) (zb_X12_findGroups_1 20 rfl) rfl
theorem dX12_findGroups_59 : decode cX12_findGroups 59 = .ok (.iload_n 2, 1) := dop_28 (zb_X12_findGroups_1 21 rfl)
theorem dX12_findGroups_60 : decode cX12_findGroups 60 = .ok (.iaload, 1) := dop_46 (zb_X12_findGroups_1 22 rfl)
theorem dX12_findGroups_61 : decode cX12_findGroups 61 = .ok (.iaload, 1) := dop_46 (zb_X12_findGroups_1 23 rfl)
theorem dX12_findGroups_62 : decode cX12_findGroups 62 = .ok (.istore_n 3, 1) := dop_62 (zb_X12_findGroups_1 24 rfl)
theorem dX12_findGroups_63 : decode cX12_findGroups 63 = .ok (.aload_n 0, 1) := dop_42 (zb_X12_findGroups_1 25 rfl)
theorem dX12_findGroups_64 : decode cX12_findGroups 64 = .ok (.getfield 124, 3) := dop_180 (zb_X12_findGroups_1 26 rfl) (zb_X12_findGroups_1 27 rfl) (zb_X12_findGroups_1 28 rfl) rfl
theorem dX12_findGroups_67 : decode cX12_findGroups 67 = .ok (.aload_n 0, 1) := dop_42 (zb_X12_findGroups_1 29 rfl)
theorem dX12_findGroups_68 : decode cX12_findGroups 68 = .ok (.getfield 43, 3) := dop_180 (zb_X12_findGroups_1 30 rfl) (zb_X12_findGroups_1 31 rfl) (zb_X12_findGroups_1 32 rfl) rfl
theorem dX12_findGroups_71 : decode cX12_findGroups 71 = .ok (.iload_n 2, 1) := dop_28 (zb_X12_findGroups_1 33 rfl)
theorem dX12_findGroups_72 : decode cX12_findGroups 72 = .ok (.iaload, 1) := dop_46 (zb_X12_findGroups_1 34 rfl)
theorem dX12_findGroups_73 : decode cX12_findGroups 73 = .ok (.iaload, 1) := dop_46 (zb_X12_findGroups_1 35 rfl)
theorem dX12_findGroups_74 : decode cX12_findGroups 74 = .ok (.istore 4, 2) := dop_54 (zb_X12_findGroups_1 36 rfl) (zb_X12_findGroups_1 37 rfl)
theorem dX12_findGroups_76 : decode cX12_findGroups 76 = .ok (.iload_n 3, 1) := dop_29 (zb_X12_findGroups_1 38 rfl)
theorem ze_X12_findGroups_3 : (dcn cX12_findGroups).drop 116 = zt_X12_findGroups_3 := dw_n (wl := zw_X12_findGroups_2) ze_X12_findGroups_2 rfl
theorem zb_X12_findGroups_2 (j : Nat) {n : Nat} (e : zw_X12_findGroups_2[j]? = some n) : dby cX12_findGroups (77 + j) n := dw_b (t := zt_X12_findGroups_3) ze_X12_findGroups_2 j e
theorem dX12_findGroups_77 : decode cX12_findGroups 77 = .ok (.iload 4, 2) := dop_21 (zb_X12_findGroups_2 0 rfl) (zb_X12_findGroups_2 1 rfl)
theorem dX12_findGroups_79 : decode cX12_findGroups 79 = .ok (.if_icmp .ge 7, 3) := dop_162 (zb_X12_findGroups_2 2 rfl) (zb_X12_findGroups_2 3 rfl) (zb_X12_findGroups_2 4 rfl) rfl
theorem dX12_findGroups_82 : decode cX12_findGroups 82 = .ok (.iload_n 3, 1) := dop_29 (zb_X12_findGroups_2 5 rfl)
theorem dX12_findGroups_83 : decode cX12_findGroups 83 = .ok (.goto 5, 3) := dop_167 (zb_X12_findGroups_2 6 rfl) (zb_X12_findGroups_2 7 rfl) (zb_X12_findGroups_2 8 rfl) rfl
theorem dX12_findGroups_86 : decode cX12_findGroups 86 = .ok (.iload 4, 2) := dop_21 (zb_X12_findGroups_2 9 rfl) (zb_X12_findGroups_2 10 rfl)
theorem dX12_findGroups_88 : decode cX12_findGroups 88 = .ok (.istore 5, 2) := dop_54 (zb_X12_findGroups_2 11 rfl) (zb_X12_findGroups_2 12 rfl)
theorem dX12_findGroups_90 : decode cX12_findGroups 90 = .ok (.aload_n 0, 1) := dop_42 (zb_X12_findGroups_2 13 rfl)
theorem dX12_findGroups_91 : decode cX12_findGroups 91 = .ok (.getfield 124, 3) := dop_180 (zb_X12_findGroups_2 14 rfl) (zb_X12_findGroups_2 15 rfl) (zb_X12_findGroups_2 16 rfl) rfl
theorem dX12_findGroups_94 : decode cX12_findGroups 94 = .ok (.aload_n 0, 1) := dop_42 (zb_X12_findGroups_2 17 rfl)
theorem dX12_findGroups_95 : decode cX12_findGroups 95 = .ok (.getfield 40, 3) := dop_180 (zb_X12_findGroups_2 18 rfl) (zb_X12_findGroups_2 19 rfl) (zb_X12_findGroups_2 20 rfl) rfl
theorem dX12_findGroups_98 : decode cX12_findGroups 98 = .ok (.iload_n 2, 1) := dop_28 (zb_X12_findGroups_2 21 rfl)
theorem dX12_findGroups_99 : decode cX12_findGroups 99 = .ok (.iaload, 1) := dop_46 (zb_X12_findGroups_2 22 rfl)
theorem dX12_findGroups_100 : decode cX12_findGroups 100 = .ok (.iload 5, 2) := dop_21 (zb_X12_findGroups_2 23 rfl) (zb_X12_findGroups_2 24 rfl)
theorem dX12_findGroups_102 : decode cX12_findGroups 102 = .ok (.iastore, 1) := dop_79 (zb_X12_findGroups_2 25 rfl)
theorem dX12_findGroups_103 : decode cX12_findGroups 103 = .ok (.aload_n 0, 1) := dop_42 (zb_X12_findGroups_2 26 rfl)
theorem dX12_findGroups_104 : decode cX12_findGroups 104 = .ok (.getfield 124, 3) := dop_180 (zb_X12_findGroups_2 27 rfl) (zb_X12_findGroups_2 28 rfl) (zb_X12_findGroups_2 29 rfl) rfl
theorem dX12_findGroups_107 : decode cX12_findGroups 107 = .ok (.aload_n 0, 1) := dop_42 (zb_X12_findGroups_2 30 rfl)
theorem dX12_findGroups_108 : decode cX12_findGroups 108 = .ok (.getfield 43, 3) := dop_180 (zb_X12_findGroups_2 31 rfl) (zb_X12_findGroups_2 32 rfl) (zb_X12_findGroups_2 33 rfl) rfl
theorem dX12_findGroups_111 : decode cX12_findGroups 111 = .ok (.iload_n 2, 1) := dop_28 (zb_X12_findGroups_2 34 rfl)
theorem dX12_findGroups_112 : decode cX12_findGroups 112 = .ok (.iaload, 1) := dop_46 (zb_X12_findGroups_2 35 rfl)
theorem dX12_findGroups_113 : decode cX12_findGroups 113 = .ok (.iload 5, 2) := dop_21 (zb_X12_findGroups_2 36 rfl) (zb_X12_findGroups_2 37 rfl)
theorem dX12_findGroups_115 : decode cX12_findGroups 115 = .ok (.iastore, 1) := dop_79 (zb_X12_findGroups_2 38 rfl)
theorem zb_X12_findGroups_3 (j : Nat) {n : Nat} (e : zw_X12_findGroups_3[j]? = some n) : dby cX12_findGroups (116 + j) n := dw_b (t := []) ze_X12_findGroups_3 j e
theorem dX12_findGroups_116 : decode cX12_findGroups 116 = .ok (.iinc 2 1, 3) := dop_132 (zb_X12_findGroups_3 0 rfl) (zb_X12_findGroups_3 1 rfl) (zb_X12_findGroups_3 2 rfl) rfl
theorem dX12_findGroups_119 : decode cX12_findGroups 119 = .ok (.goto (-76), 3) := dop_167 (zb_X12_findGroups_3 3 rfl) (zb_X12_findGroups_3 4 rfl) (zb_X12_findGroups_3 5 rfl) rfl
theorem dX12_findGroups_122 : decode cX12_findGroups 122 = .ok (.iinc 1 1, 3) := dop_132 (zb_X12_findGroups_3 6 rfl) (zb_X12_findGroups_3 7 rfl) (zb_X12_findGroups_3 8 rfl) rfl
theorem dX12_findGroups_125 : decode cX12_findGroups 125 = .ok (.goto (-90), 3) := dop_167 (zb_X12_findGroups_3 9 rfl) (zb_X12_findGroups_3 10 rfl) (zb_X12_findGroups_3 11 rfl) rfl
theorem dX12_findGroups_128 : decode cX12_findGroups 128 = .ok (.return_, 1) := dop_177 (zb_X12_findGroups_3 12 rfl)
def zw_X12_joined_1 : List Nat := [160, 0, 7, 4, 167, 0, 4, 3, 172]
def zt_X12_joined_1 : List Nat := zw_X12_joined_1 ++ []
def zw_X12_joined_0 : List Nat := [42, 3, 181, 0, 133, 42, 27, 182, 1, 135, 153, 0, 11, 42, 28, 182, 1, 135, 154, 0, 6, 16, 254, 172, 42, 182, 1, 228, 42, 180, 0, 124, 27, 46, 42, 180, 0, 124, 28, 46]
def zt_X12_joined_0 : List Nat := zw_X12_joined_0 ++ zt_X12_joined_1
theorem ze_X12_joined_0 : (dcn cX12_joined).drop 0 = zt_X12_joined_0 := by decide +kernel
theorem ze_X12_joined_1 : (dcn cX12_joined).drop 40 = zt_X12_joined_1 := dw_n (wl := zw_X12_joined_0) ze_X12_joined_0 rfl
theorem zb_X12_joined_0 (j : Nat) {n : Nat} (e : zw_X12_joined_0[j]? = some n) : dby cX12_joined (0 + j) n := dw_b (t := zt_X12_joined_1) ze_X12_joined_0 j e
theorem dX12_joined_0 : decode cX12_joined 0 = .ok (.aload_n 0, 1) := dop_42 (zb_X12_joined_0 0 rfl)
theorem dX12_joined_1 : decode cX12_joined 1 = .ok (.iconst 0, 1) := dop_3 (zb_X12_joined_0 1 rfl)
theorem dX12_joined_2 : decode cX12_joined 2 = .ok (.putfield 133, 3) := dop_181 (zb_X12_joined_0 2 rfl) (zb_X12_joined_0 3 rfl) (zb_X12_joined_0 4 rfl) rfl
theorem dX12_joined_5 : decode cX12_joined 5 = .ok (.aload_n 0, 1) := dop_42 (zb_X12_joined_0 5 rfl)
theorem dX12_joined_6 : decode cX12_joined 6 = .ok (.iload_n 1, 1) := dop_27 (zb_X12_joined_0 6 rfl)
theorem dX12_joined_7 : decode cX12_joined 7 = .ok (.invokevirtual 391, 3) := dop_182 (zb_X12_joined_0 7 rfl) (zb_X12_joined_0 8 rfl) (zb_X12_joined_0 9 rfl) rfl
theorem dX12_joined_10 : decode cX12_joined 10 = .ok (.ifCond .eq 11, 3) := dop_153 (zb_X12_joined_0 10 rfl) (zb_X12_joined_0 11 rfl) (zb_X12_joined_0 12 rfl) rfl
theorem dX12_joined_13 : decode cX12_joined 13 = .ok (.aload_n 0, 1) := dop_42 (zb_X12_joined_0 13 rfl)
theorem dX12_joined_14 : decode cX12_joined 14 = .ok (.iload_n 2, 1) := dop_28 (zb_X12_joined_0 14 rfl)
theorem dX12_joined_15 : decode cX12_joined 15 = .ok (.invokevirtual 391, 3) := dop_182 (zb_X12_joined_0 15 rfl) (zb_X12_joined_0 16 rfl) (zb_X12_joined_0 17 rfl) rfl
theorem dX12_joined_18 : decode cX12_joined 18 = .ok (.ifCond .ne 6, 3) := dop_154 (zb_X12_joined_0 18 rfl) (zb_X12_joined_0 19 rfl) (zb_X12_joined_0 20 rfl) rfl
theorem dX12_joined_21 : decode cX12_joined 21 = .ok (.bipush (-2), 2) := dop_16 (zb_X12_joined_0 21 rfl) (zb_X12_joined_0 22 rfl) rfl
theorem dX12_joined_23 : decode cX12_joined 23 = .ok (.ireturn, 1) := dop_172 (zb_X12_joined_0 23 rfl)
theorem dX12_joined_24 : decode cX12_joined 24 = .ok (.aload_n 0, 1) := dop_42 (zb_X12_joined_0 24 rfl)
theorem dX12_joined_25 : decode cX12_joined 25 = .ok (.invokevirtual 484, 3) := dop_182 (zb_X12_joined_0 25 rfl) (zb_X12_joined_0 26 rfl) (zb_X12_joined_0 27 rfl) rfl
theorem dX12_joined_28 : decode cX12_joined 28 = .ok (.aload_n 0, 1) := dop_42 (zb_X12_joined_0 28 rfl)
theorem dX12_joined_29 : decode cX12_joined 29 = .ok (.getfield 124, 3) := dop_180 (zb_X12_joined_0 29 rfl) (zb_X12_joined_0 30 rfl) (zb_X12_joined_0 31 rfl) rfl
theorem dX12_joined_32 : decode cX12_joined 32 = .ok (.iload_n 1, 1) := dop_27 (zb_X12_joined_0 32 rfl)
theorem dX12_joined_33 : decode cX12_joined 33 = .ok (.iaload, 1) := dop_46 (zb_X12_joined_0 33 rfl)
theorem dX12_joined_34 : decode cX12_joined 34 = .ok (.aload_n 0, 1) := dop_42 (zb_X12_joined_0 34 rfl)
theorem dX12_joined_35 : decode cX12_joined 35 = .ok (.getfield 124, 3) := dop_180 (zb_X12_joined_0 35 rfl) (zb_X12_joined_0 36 rfl) (zb_X12_joined_0 37 rfl) rfl
theorem dX12_joined_38 : decode cX12_joined 38 = .ok (.iload_n 2, 1) := dop_28 (zb_X12_joined_0 38 rfl)
theorem dX12_joined_39 : decode cX12_joined 39 = .ok (.iaload, 1) := dop_46 (zb_X12_joined_0 39 rfl)
theorem zb_X12_joined_1 (j : Nat) {n : Nat} (e : zw_X12_joined_1[j]? = some n) : dby cX12_joined (40 + j) n := dw_b (t := []) ze_X12_joined_1 j e
theorem dX12_joined_40 : decode cX12_joined 40 = .ok (.if_icmp .ne 7, 3) := dop_160 (zb_X12_joined_1 0 rfl) (zb_X12_joined_1 1 rfl) (zb_X12_joined_1 2 rfl) rfl
theorem dX12_joined_43 : decode cX12_joined 43 = .ok (.iconst 1, 1) := dop_4 (zb_X12_joined_1 3 rfl)
theorem dX12_joined_44 : decode cX12_joined 44 = .ok (.goto 4, 3) := dop_167 (zb_X12_joined_1 4 rfl) (zb_X12_joined_1 5 rfl) (zb_X12_joined_1 6 rfl) rfl
theorem dX12_joined_47 : decode cX12_joined 47 = .ok (.iconst 0, 1) := dop_3 (zb_X12_joined_1 7 rfl)
theorem dX12_joined_48 : decode cX12_joined 48 = .ok (.ireturn, 1) := dop_172 (zb_X12_joined_1 8 rfl)
def zw_X12_groups_3 : List Nat := [27, 154, 0, 7, 28, 167, 0, 15, 27, 4, 160, 0, 9, 28, 4, 100, 167, 0, 4, 29, 172]
def zt_X12_groups_3 : List Nat := zw_X12_groups_3 ++ []
def zw_X12_groups_2 : List Nat := [54, 5, 132, 6, 1, 167, 255, 215, 28, 21, 5, 158, 0, 7, 4, 167, 0, 4, 3, 96, 61, 21, 5, 29, 164, 0, 8, 21, 5, 167, 0, 4, 29, 62, 132, 4, 1, 167, 255, 170]
def zt_X12_groups_2 : List Nat := zw_X12_groups_2 ++ zt_X12_groups_3
def zw_X12_groups_1 : List Nat := [3, 54, 6, 21, 6, 16, 16, 162, 0, 40, 21, 5, 42, 21, 6, 182, 1, 135, 153, 0, 19, 42, 180, 0, 124, 21, 6, 46, 21, 4, 160, 0, 7, 4, 167, 0, 4, 3, 96]
def zt_X12_groups_1 : List Nat := zw_X12_groups_1 ++ zt_X12_groups_2
def zw_X12_groups_0 : List Nat := [42, 3, 181, 0, 133, 27, 133, 9, 20, 0, 182, 184, 0, 143, 154, 0, 5, 2, 172, 42, 182, 1, 228, 3, 61, 3, 62, 3, 54, 4, 21, 4, 16, 16, 162, 0, 85, 3, 54, 5]
def zt_X12_groups_0 : List Nat := zw_X12_groups_0 ++ zt_X12_groups_1
theorem ze_X12_groups_0 : (dcn cX12_groups).drop 0 = zt_X12_groups_0 := by decide +kernel
theorem ze_X12_groups_1 : (dcn cX12_groups).drop 40 = zt_X12_groups_1 := dw_n (wl := zw_X12_groups_0) ze_X12_groups_0 rfl
theorem zb_X12_groups_0 (j : Nat) {n : Nat} (e : zw_X12_groups_0[j]? = some n) : dby cX12_groups (0 + j) n := dw_b (t := zt_X12_groups_1) ze_X12_groups_0 j e
theorem dX12_groups_0 : decode cX12_groups 0 = .ok (.aload_n 0, 1) := dop_42 (zb_X12_groups_0 0 rfl)
theorem dX12_groups_1 : decode cX12_groups 1 = .ok (.iconst 0, 1) := dop_3 (zb_X12_groups_0 1 rfl)
theorem dX12_groups_2 : decode cX12_groups 2 = .ok (.putfield 133, 3) := dop_181 (zb_X12_groups_0 2 rfl) (zb_X12_groups_0 3 rfl) (zb_X12_groups_0 4 rfl) rfl
theorem dX12_groups_5 : decode cX12_groups 5 = .ok (.iload_n 1, 1) := dop_27 (zb_X12_groups_0 5 rfl)
theorem dX12_groups_6 : decode cX12_groups 6 = .ok (.i2l, 1) := dop_133 (zb_X12_groups_0 6 rfl)
theorem dX12_groups_7 : decode cX12_groups 7 = .ok (.lconst 0, 1) := dop_9 (zb_X12_groups_0 7 rfl)
theorem dX12_groups_8 : decode cX12_groups 8 = .ok (.ldc2_w 182, 3) := dop_20 (zb_X12_groups_0 8 rfl) (zb_X12_groups_0 9 rfl) (zb_X12_groups_0 10 rfl) rfl
theorem dX12_groups_11 : decode cX12_groups 11 = .ok (.invokestatic 143, 3) := dop_184 (zb_X12_groups_0 11 rfl) (zb_X12_groups_0 12 rfl) (zb_X12_groups_0 13 rfl) rfl
theorem dX12_groups_14 : decode cX12_groups 14 = .ok (.ifCond .ne 5, 3) := dop_154 (zb_X12_groups_0 14 rfl) (zb_X12_groups_0 15 rfl) (zb_X12_groups_0 16 rfl) rfl
theorem dX12_groups_17 : decode cX12_groups 17 = .ok (.iconst (-1), 1) := dop_2 (zb_X12_groups_0 17 rfl)
theorem dX12_groups_18 : decode cX12_groups 18 = .ok (.ireturn, 1) := dop_172 (zb_X12_groups_0 18 rfl)
theorem dX12_groups_19 : decode cX12_groups 19 = .ok (.aload_n 0, 1) := dop_42 (zb_X12_groups_0 19 rfl)
theorem dX12_groups_20 : decode cX12_groups 20 = .ok (.invokevirtual 484, 3) := dop_182 (zb_X12_groups_0 20 rfl) (zb_X12_groups_0 21 rfl) (zb_X12_groups_0 22 rfl) rfl
theorem dX12_groups_23 : decode cX12_groups 23 = .ok (.iconst 0, 1) := dop_3 (zb_X12_groups_0 23 rfl)
theorem dX12_groups_24 : decode cX12_groups 24 = .ok (.istore_n 2, 1) := dop_61 (zb_X12_groups_0 24 rfl)
theorem dX12_groups_25 : decode cX12_groups 25 = .ok (.iconst 0, 1) := dop_3 (zb_X12_groups_0 25 rfl)
theorem dX12_groups_26 : decode cX12_groups 26 = .ok (.istore_n 3, 1) := dop_62 (zb_X12_groups_0 26 rfl)
theorem dX12_groups_27 : decode cX12_groups 27 = .ok (.iconst 0, 1) := dop_3 (zb_X12_groups_0 27 rfl)
theorem dX12_groups_28 : decode cX12_groups 28 = .ok (.istore 4, 2) := dop_54 (zb_X12_groups_0 28 rfl) (zb_X12_groups_0 29 rfl)
theorem dX12_groups_30 : decode cX12_groups 30 = .ok (.iload 4, 2) := dop_21 (zb_X12_groups_0 30 rfl) (zb_X12_groups_0 31 rfl)
theorem dX12_groups_32 : decode cX12_groups 32 = .ok (.bipush 16, 2) := dop_16 (zb_X12_groups_0 32 rfl) (zb_X12_groups_0 33 rfl) rfl
theorem dX12_groups_34 : decode cX12_groups 34 = .ok (.if_icmp .ge 85, 3) := dop_162 (zb_X12_groups_0 34 rfl) (zb_X12_groups_0 35 rfl) (zb_X12_groups_0 36 rfl) rfl
theorem dX12_groups_37 : decode cX12_groups 37 = .ok (.iconst 0, 1) := dop_3 (zb_X12_groups_0 37 rfl)
theorem dX12_groups_38 : decode cX12_groups 38 = .ok (.istore 5, 2) := dop_54 (zb_X12_groups_0 38 rfl) (zb_X12_groups_0 39 rfl)
theorem ze_X12_groups_2 : (dcn cX12_groups).drop 79 = zt_X12_groups_2 := dw_n (wl := zw_X12_groups_1) ze_X12_groups_1 rfl
theorem zb_X12_groups_1 (j : Nat) {n : Nat} (e : zw_X12_groups_1[j]? = some n) : dby cX12_groups (40 + j) n := dw_b (t := zt_X12_groups_2) ze_X12_groups_1 j e
theorem dX12_groups_40 : decode cX12_groups 40 = .ok (.iconst 0, 1) := dop_3 (zb_X12_groups_1 0 rfl)
theorem dX12_groups_41 : decode cX12_groups 41 = .ok (.istore 6, 2) := dop_54 (zb_X12_groups_1 1 rfl) (zb_X12_groups_1 2 rfl)
theorem dX12_groups_43 : decode cX12_groups 43 = .ok (.iload 6, 2) := dop_21 (zb_X12_groups_1 3 rfl) (zb_X12_groups_1 4 rfl)
theorem dX12_groups_45 : decode cX12_groups 45 = .ok (.bipush 16, 2) := dop_16 (zb_X12_groups_1 5 rfl) (zb_X12_groups_1 6 rfl) rfl
theorem dX12_groups_47 : decode cX12_groups 47 = .ok (.if_icmp .ge 40, 3) := dop_162 (zb_X12_groups_1 7 rfl) (zb_X12_groups_1 8 rfl) (zb_X12_groups_1 9 rfl) rfl
theorem dX12_groups_50 : decode cX12_groups 50 = .ok (.iload 5, 2) := dop_21 (zb_X12_groups_1 10 rfl) (zb_X12_groups_1 11 rfl)
theorem dX12_groups_52 : decode cX12_groups 52 = .ok (.aload_n 0, 1) := dop_42 (zb_X12_groups_1 12 rfl)
theorem dX12_groups_53 : decode cX12_groups 53 = .ok (.iload 6, 2) := dop_21 (zb_X12_groups_1 13 rfl) (zb_X12_groups_1 14 rfl)
theorem dX12_groups_55 : decode cX12_groups 55 = .ok (.invokevirtual 391, 3) := dop_182 (zb_X12_groups_1 15 rfl) (zb_X12_groups_1 16 rfl) (zb_X12_groups_1 17 rfl) rfl
theorem dX12_groups_58 : decode cX12_groups 58 = .ok (.ifCond .eq 19, 3) := dop_153 (zb_X12_groups_1 18 rfl) (zb_X12_groups_1 19 rfl) (zb_X12_groups_1 20 rfl) rfl
theorem dX12_groups_61 : decode cX12_groups 61 = .ok (.aload_n 0, 1) := dop_42 (zb_X12_groups_1 21 rfl)
theorem dX12_groups_62 : decode cX12_groups 62 = .ok (.getfield 124, 3) := dop_180 (zb_X12_groups_1 22 rfl) (zb_X12_groups_1 23 rfl) (zb_X12_groups_1 24 rfl) rfl
theorem dX12_groups_65 : decode cX12_groups 65 = .ok (.iload 6, 2) := dop_21 (zb_X12_groups_1 25 rfl) (zb_X12_groups_1 26 rfl)
theorem dX12_groups_67 : decode cX12_groups 67 = .ok (.iaload, 1) := dop_46 (zb_X12_groups_1 27 rfl)
theorem dX12_groups_68 : decode cX12_groups 68 = .ok (.iload 4, 2) := dop_21 (zb_X12_groups_1 28 rfl) (zb_X12_groups_1 29 rfl)
theorem dX12_groups_70 : decode cX12_groups 70 = .ok (.if_icmp .ne 7, 3) := dop_160 (zb_X12_groups_1 30 rfl) (zb_X12_groups_1 31 rfl) (zb_X12_groups_1 32 rfl) rfl
theorem dX12_groups_73 : decode cX12_groups 73 = .ok (.iconst 1, 1) := dop_4 (zb_X12_groups_1 33 rfl)
theorem dX12_groups_74 : decode cX12_groups 74 = .ok (.goto 4, 3) := dop_167 (zb_X12_groups_1 34 rfl) (zb_X12_groups_1 35 rfl) (zb_X12_groups_1 36 rfl) rfl
theorem dX12_groups_77 : decode cX12_groups 77 = .ok (.iconst 0, 1) := dop_3 (zb_X12_groups_1 37 rfl)
theorem dX12_groups_78 : decode cX12_groups 78 = .ok (.iadd, 1) := dop_96 (zb_X12_groups_1 38 rfl)
theorem ze_X12_groups_3 : (dcn cX12_groups).drop 119 = zt_X12_groups_3 := dw_n (wl := zw_X12_groups_2) ze_X12_groups_2 rfl
theorem zb_X12_groups_2 (j : Nat) {n : Nat} (e : zw_X12_groups_2[j]? = some n) : dby cX12_groups (79 + j) n := dw_b (t := zt_X12_groups_3) ze_X12_groups_2 j e
theorem dX12_groups_79 : decode cX12_groups 79 = .ok (.istore 5, 2) := dop_54 (zb_X12_groups_2 0 rfl) (zb_X12_groups_2 1 rfl)
theorem dX12_groups_81 : decode cX12_groups 81 = .ok (.iinc 6 1, 3) := dop_132 (zb_X12_groups_2 2 rfl) (zb_X12_groups_2 3 rfl) (zb_X12_groups_2 4 rfl) rfl
theorem dX12_groups_84 : decode cX12_groups 84 = .ok (.goto (-41), 3) := dop_167 (zb_X12_groups_2 5 rfl) (zb_X12_groups_2 6 rfl) (zb_X12_groups_2 7 rfl) rfl
theorem dX12_groups_87 : decode cX12_groups 87 = .ok (.iload_n 2, 1) := dop_28 (zb_X12_groups_2 8 rfl)
theorem dX12_groups_88 : decode cX12_groups 88 = .ok (.iload 5, 2) := dop_21 (zb_X12_groups_2 9 rfl) (zb_X12_groups_2 10 rfl)
theorem dX12_groups_90 : decode cX12_groups 90 = .ok (.ifCond .le 7, 3) := dop_158 (zb_X12_groups_2 11 rfl) (zb_X12_groups_2 12 rfl) (zb_X12_groups_2 13 rfl) rfl
theorem dX12_groups_93 : decode cX12_groups 93 = .ok (.iconst 1, 1) := dop_4 (zb_X12_groups_2 14 rfl)
theorem dX12_groups_94 : decode cX12_groups 94 = .ok (.goto 4, 3) := dop_167 (zb_X12_groups_2 15 rfl) (zb_X12_groups_2 16 rfl) (zb_X12_groups_2 17 rfl) rfl
theorem dX12_groups_97 : decode cX12_groups 97 = .ok (.iconst 0, 1) := dop_3 (zb_X12_groups_2 18 rfl)
theorem dX12_groups_98 : decode cX12_groups 98 = .ok (.iadd, 1) := dop_96 (zb_X12_groups_2 19 rfl)
theorem dX12_groups_99 : decode cX12_groups 99 = .ok (.istore_n 2, 1) := dop_61 (zb_X12_groups_2 20 rfl)
theorem dX12_groups_100 : decode cX12_groups 100 = .ok (.iload 5, 2) := dop_21 (zb_X12_groups_2 21 rfl) (zb_X12_groups_2 22 rfl)
theorem dX12_groups_102 : decode cX12_groups 102 = .ok (.iload_n 3, 1) := dop_29 (zb_X12_groups_2 23 rfl)
theorem dX12_groups_103 : decode cX12_groups 103 = .ok (.if_icmp .le 8, 3) := dop_164 (zb_X12_groups_2 24 rfl) (zb_X12_groups_2 25 rfl) (zb_X12_groups_2 26 rfl) rfl
theorem dX12_groups_106 : decode cX12_groups 106 = .ok (.iload 5, 2) := dop_21 (zb_X12_groups_2 27 rfl) (zb_X12_groups_2 28 rfl)
theorem dX12_groups_108 : decode cX12_groups 108 = .ok (.goto 4, 3) := dop_167 (zb_X12_groups_2 29 rfl) (zb_X12_groups_2 30 rfl) (zb_X12_groups_2 31 rfl) rfl
theorem dX12_groups_111 : decode cX12_groups 111 = .ok (.iload_n 3, 1) := dop_29 (zb_X12_groups_2 32 rfl)
theorem dX12_groups_112 : decode cX12_groups 112 = .ok (.istore_n 3, 1) := dop_62 (zb_X12_groups_2 33 rfl)
theorem dX12_groups_113 : decode cX12_groups 113 = .ok (.iinc 4 1, 3) := dop_132 (zb_X12_groups_2 34 rfl) (zb_X12_groups_2 35 rfl) (zb_X12_groups_2 36 rfl) rfl
theorem dX12_groups_116 : decode cX12_groups 116 = .ok (.goto (-86), 3) := dop_167 (zb_X12_groups_2 37 rfl) (zb_X12_groups_2 38 rfl) (zb_X12_groups_2 39 rfl) rfl
theorem zb_X12_groups_3 (j : Nat) {n : Nat} (e : zw_X12_groups_3[j]? = some n) : dby cX12_groups (119 + j) n := dw_b (t := []) ze_X12_groups_3 j e
theorem dX12_groups_119 : decode cX12_groups 119 = .ok (.iload_n 1, 1) := dop_27 (zb_X12_groups_3 0 rfl)
theorem dX12_groups_120 : decode cX12_groups 120 = .ok (.ifCond .ne 7, 3) := dop_154 (zb_X12_groups_3 1 rfl) (zb_X12_groups_3 2 rfl) (zb_X12_groups_3 3 rfl) rfl
theorem dX12_groups_123 : decode cX12_groups 123 = .ok (.iload_n 2, 1) := dop_28 (zb_X12_groups_3 4 rfl)
theorem dX12_groups_124 : decode cX12_groups 124 = .ok (.goto 15, 3) := dop_167 (zb_X12_groups_3 5 rfl) (zb_X12_groups_3 6 rfl) (zb_X12_groups_3 7 rfl) rfl
theorem dX12_groups_127 : decode cX12_groups 127 = .ok (.iload_n 1, 1) := dop_27 (zb_X12_groups_3 8 rfl)
theorem dX12_groups_128 : decode cX12_groups 128 = .ok (.iconst 1, 1) := dop_4 (zb_X12_groups_3 9 rfl)
theorem dX12_groups_129 : decode cX12_groups 129 = .ok (.if_icmp .ne 9, 3) := dop_160 (zb_X12_groups_3 10 rfl) (zb_X12_groups_3 11 rfl) (zb_X12_groups_3 12 rfl) rfl
theorem dX12_groups_132 : decode cX12_groups 132 = .ok (.iload_n 2, 1) := dop_28 (zb_X12_groups_3 13 rfl)
theorem dX12_groups_133 : decode cX12_groups 133 = .ok (.iconst 1, 1) := dop_4 (zb_X12_groups_3 14 rfl)
theorem dX12_groups_134 : decode cX12_groups 134 = .ok (.isub, 1) := dop_100 (zb_X12_groups_3 15 rfl)
theorem dX12_groups_135 : decode cX12_groups 135 = .ok (.goto 4, 3) := dop_167 (zb_X12_groups_3 16 rfl) (zb_X12_groups_3 17 rfl) (zb_X12_groups_3 18 rfl) rfl
theorem dX12_groups_138 : decode cX12_groups 138 = .ok (.iload_n 3, 1) := dop_29 (zb_X12_groups_3 19 rfl)
theorem dX12_groups_139 : decode cX12_groups 139 = .ok (.ireturn, 1) := dop_172 (zb_X12_groups_3 20 rfl)
def zw_X12_core_2 : List Nat := [132, 2, 1, 167, 255, 213, 27, 172]
def zt_X12_core_2 : List Nat := zw_X12_core_2 ++ []
def zw_X12_core_1 : List Nat := [180, 0, 13, 3, 46, 162, 0, 39, 27, 28, 184, 1, 80, 153, 0, 25, 42, 27, 4, 28, 120, 2, 130, 126, 182, 1, 118, 154, 0, 11, 27, 4, 28, 120, 2, 130, 126, 60]
def zt_X12_core_1 : List Nat := zw_X12_core_1 ++ zt_X12_core_2
def zw_X12_core_0 : List Nat := [42, 3, 181, 0, 133, 42, 182, 1, 111, 42, 182, 1, 114, 60, 42, 27, 182, 1, 118, 153, 0, 5, 3, 172, 42, 3, 182, 1, 118, 154, 0, 5, 2, 172, 3, 61, 28, 42]
def zt_X12_core_0 : List Nat := zw_X12_core_0 ++ zt_X12_core_1
theorem ze_X12_core_0 : (dcn cX12_core).drop 0 = zt_X12_core_0 := by decide +kernel
theorem ze_X12_core_1 : (dcn cX12_core).drop 38 = zt_X12_core_1 := dw_n (wl := zw_X12_core_0) ze_X12_core_0 rfl
theorem zb_X12_core_0 (j : Nat) {n : Nat} (e : zw_X12_core_0[j]? = some n) : dby cX12_core (0 + j) n := dw_b (t := zt_X12_core_1) ze_X12_core_0 j e
theorem dX12_core_0 : decode cX12_core 0 = .ok (.aload_n 0, 1) := dop_42 (zb_X12_core_0 0 rfl)
theorem dX12_core_1 : decode cX12_core 1 = .ok (.iconst 0, 1) := dop_3 (zb_X12_core_0 1 rfl)
theorem dX12_core_2 : decode cX12_core 2 = .ok (.putfield 133, 3) := dop_181 (zb_X12_core_0 2 rfl) (zb_X12_core_0 3 rfl) (zb_X12_core_0 4 rfl) rfl
theorem dX12_core_5 : decode cX12_core 5 = .ok (.aload_n 0, 1) := dop_42 (zb_X12_core_0 5 rfl)
theorem dX12_core_6 : decode cX12_core 6 = .ok (.invokevirtual 367, 3) := dop_182 (zb_X12_core_0 6 rfl) (zb_X12_core_0 7 rfl) (zb_X12_core_0 8 rfl) rfl
theorem dX12_core_9 : decode cX12_core 9 = .ok (.aload_n 0, 1) := dop_42 (zb_X12_core_0 9 rfl)
theorem dX12_core_10 : decode cX12_core 10 = .ok (.invokevirtual 370, 3) := dop_182 (zb_X12_core_0 10 rfl) (zb_X12_core_0 11 rfl) (zb_X12_core_0 12 rfl) rfl
theorem dX12_core_13 : decode cX12_core 13 = .ok (.istore_n 1, 1) := dop_60 (zb_X12_core_0 13 rfl)
theorem dX12_core_14 : decode cX12_core 14 = .ok (.aload_n 0, 1) := dop_42 (zb_X12_core_0 14 rfl)
theorem dX12_core_15 : decode cX12_core 15 = .ok (.iload_n 1, 1) := dop_27 (zb_X12_core_0 15 rfl)
theorem dX12_core_16 : decode cX12_core 16 = .ok (.invokevirtual 374, 3) := dop_182 (zb_X12_core_0 16 rfl) (zb_X12_core_0 17 rfl) (zb_X12_core_0 18 rfl) rfl
theorem dX12_core_19 : decode cX12_core 19 = .ok (.ifCond .eq 5, 3) := dop_153 (zb_X12_core_0 19 rfl) (zb_X12_core_0 20 rfl) (zb_X12_core_0 21 rfl) rfl
theorem dX12_core_22 : decode cX12_core 22 = .ok (.iconst 0, 1) := dop_3 (zb_X12_core_0 22 rfl)
theorem dX12_core_23 : decode cX12_core 23 = .ok (.ireturn, 1) := dop_172 (zb_X12_core_0 23 rfl)
theorem dX12_core_24 : decode cX12_core 24 = .ok (.aload_n 0, 1) := dop_42 (zb_X12_core_0 24 rfl)
theorem dX12_core_25 : decode cX12_core 25 = .ok (.iconst 0, 1) := dop_3 (zb_X12_core_0 25 rfl)
theorem dX12_core_26 : decode cX12_core 26 = .ok (.invokevirtual 374, 3) := dop_182 (zb_X12_core_0 26 rfl) (zb_X12_core_0 27 rfl) (zb_X12_core_0 28 rfl) rfl
theorem dX12_core_29 : decode cX12_core 29 = .ok (.ifCond .ne 5, 3) := dop_154 (zb_X12_core_0 29 rfl) (zb_X12_core_0 30 rfl) (zb_X12_core_0 31 rfl) rfl
theorem dX12_core_32 : decode cX12_core 32 = .ok (.iconst (-1), 1) := dop_2 (zb_X12_core_0 32 rfl)
theorem dX12_core_33 : decode cX12_core 33 = .ok (.ireturn, 1) := dop_172 (zb_X12_core_0 33 rfl)
theorem dX12_core_34 : decode cX12_core 34 = .ok (.iconst 0, 1) := dop_3 (zb_X12_core_0 34 rfl)
theorem dX12_core_35 : decode cX12_core 35 = .ok (.istore_n 2, 1) := dop_61 (zb_X12_core_0 35 rfl)
theorem dX12_core_36 : decode cX12_core 36 = .ok (.iload_n 2, 1) := dop_28 (zb_X12_core_0 36 rfl)
theorem dX12_core_37 : decode cX12_core 37 = .ok (.aload_n 0, 1) := dop_42 (zb_X12_core_0 37 rfl)
theorem ze_X12_core_2 : (dcn cX12_core).drop 76 = zt_X12_core_2 := dw_n (wl := zw_X12_core_1) ze_X12_core_1 rfl
theorem zb_X12_core_1 (j : Nat) {n : Nat} (e : zw_X12_core_1[j]? = some n) : dby cX12_core (38 + j) n := dw_b (t := zt_X12_core_2) ze_X12_core_1 j e
theorem dX12_core_38 : decode cX12_core 38 = .ok (.getfield 13, 3) := dop_180 (zb_X12_core_1 0 rfl) (zb_X12_core_1 1 rfl) (zb_X12_core_1 2 rfl) rfl
theorem dX12_core_41 : decode cX12_core 41 = .ok (.iconst 0, 1) := dop_3 (zb_X12_core_1 3 rfl)
theorem dX12_core_42 : decode cX12_core 42 = .ok (.iaload, 1) := dop_46 (zb_X12_core_1 4 rfl)
theorem dX12_core_43 : decode cX12_core 43 = .ok (.if_icmp .ge 39, 3) := dop_162 (zb_X12_core_1 5 rfl) (zb_X12_core_1 6 rfl) (zb_X12_core_1 7 rfl) rfl
theorem dX12_core_46 : decode cX12_core 46 = .ok (.iload_n 1, 1) := dop_27 (zb_X12_core_1 8 rfl)
theorem dX12_core_47 : decode cX12_core 47 = .ok (.iload_n 2, 1) := dop_28 (zb_X12_core_1 9 rfl)
theorem dX12_core_48 : decode cX12_core 48 = .ok (.invokestatic 336, 3) := dop_184 (zb_X12_core_1 10 rfl) (zb_X12_core_1 11 rfl) (zb_X12_core_1 12 rfl) rfl
theorem dX12_core_51 : decode cX12_core 51 = .ok (.ifCond .eq 25, 3) := dop_153 (zb_X12_core_1 13 rfl) (zb_X12_core_1 14 rfl) (zb_X12_core_1 15 rfl) rfl
theorem dX12_core_54 : decode cX12_core 54 = .ok (.aload_n 0, 1) := dop_42 (zb_X12_core_1 16 rfl)
theorem dX12_core_55 : decode cX12_core 55 = .ok (.iload_n 1, 1) := dop_27 (zb_X12_core_1 17 rfl)
theorem dX12_core_56 : decode cX12_core 56 = .ok (.iconst 1, 1) := dop_4 (zb_X12_core_1 18 rfl)
theorem dX12_core_57 : decode cX12_core 57 = .ok (.iload_n 2, 1) := dop_28 (zb_X12_core_1 19 rfl)
theorem dX12_core_58 : decode cX12_core 58 = .ok (.ishl, 1) := dop_120 (zb_X12_core_1 20 rfl)
theorem dX12_core_59 : decode cX12_core 59 = .ok (.iconst (-1), 1) := dop_2 (zb_X12_core_1 21 rfl)
theorem dX12_core_60 : decode cX12_core 60 = .ok (.ixor, 1) := dop_130 (zb_X12_core_1 22 rfl)
theorem dX12_core_61 : decode cX12_core 61 = .ok (.iand, 1) := dop_126 (zb_X12_core_1 23 rfl)
theorem dX12_core_62 : decode cX12_core 62 = .ok (.invokevirtual 374, 3) := dop_182 (zb_X12_core_1 24 rfl) (zb_X12_core_1 25 rfl) (zb_X12_core_1 26 rfl) rfl
theorem dX12_core_65 : decode cX12_core 65 = .ok (.ifCond .ne 11, 3) := dop_154 (zb_X12_core_1 27 rfl) (zb_X12_core_1 28 rfl) (zb_X12_core_1 29 rfl) rfl
theorem dX12_core_68 : decode cX12_core 68 = .ok (.iload_n 1, 1) := dop_27 (zb_X12_core_1 30 rfl)
theorem dX12_core_69 : decode cX12_core 69 = .ok (.iconst 1, 1) := dop_4 (zb_X12_core_1 31 rfl)
theorem dX12_core_70 : decode cX12_core 70 = .ok (.iload_n 2, 1) := dop_28 (zb_X12_core_1 32 rfl)
theorem dX12_core_71 : decode cX12_core 71 = .ok (.ishl, 1) := dop_120 (zb_X12_core_1 33 rfl)
theorem dX12_core_72 : decode cX12_core 72 = .ok (.iconst (-1), 1) := dop_2 (zb_X12_core_1 34 rfl)
theorem dX12_core_73 : decode cX12_core 73 = .ok (.ixor, 1) := dop_130 (zb_X12_core_1 35 rfl)
theorem dX12_core_74 : decode cX12_core 74 = .ok (.iand, 1) := dop_126 (zb_X12_core_1 36 rfl)
theorem dX12_core_75 : decode cX12_core 75 = .ok (.istore_n 1, 1) := dop_60 (zb_X12_core_1 37 rfl)
theorem zb_X12_core_2 (j : Nat) {n : Nat} (e : zw_X12_core_2[j]? = some n) : dby cX12_core (76 + j) n := dw_b (t := []) ze_X12_core_2 j e
theorem dX12_core_76 : decode cX12_core 76 = .ok (.iinc 2 1, 3) := dop_132 (zb_X12_core_2 0 rfl) (zb_X12_core_2 1 rfl) (zb_X12_core_2 2 rfl) rfl
theorem dX12_core_79 : decode cX12_core 79 = .ok (.goto (-43), 3) := dop_167 (zb_X12_core_2 3 rfl) (zb_X12_core_2 4 rfl) (zb_X12_core_2 5 rfl) rfl
theorem dX12_core_82 : decode cX12_core 82 = .ok (.iload_n 1, 1) := dop_27 (zb_X12_core_2 6 rfl)
theorem dX12_core_83 : decode cX12_core 83 = .ok (.ireturn, 1) := dop_172 (zb_X12_core_2 7 rfl)
def zw_X12_wrong_5 : List Nat := [21, 5, 158, 0, 25, 27, 154, 0, 8, 21, 4, 167, 0, 15, 27, 4, 160, 0, 8, 21, 5, 167, 0, 5, 21, 6, 172, 132, 4, 1, 167, 255, 68, 2, 172]
def zt_X12_wrong_5 : List Nat := zw_X12_wrong_5 ++ []
def zw_X12_wrong_4 : List Nat := [154, 0, 8, 21, 9, 167, 0, 5, 21, 6, 54, 6, 21, 5, 21, 10, 153, 0, 7, 4, 167, 0, 4, 3, 96, 54, 5, 132, 8, 1, 167, 255, 140, 132, 7, 1, 167, 255, 116]
def zt_X12_wrong_4 : List Nat := zw_X12_wrong_4 ++ zt_X12_wrong_5
def zw_X12_wrong_3 : List Nat := [54, 9, 21, 9, 28, 2, 130, 126, 154, 0, 20, 42, 28, 21, 9, 2, 130, 126, 182, 1, 118, 153, 0, 7, 4, 167, 0, 4, 3, 54, 10, 21, 10, 153, 0, 13, 21, 5]
def zt_X12_wrong_3 : List Nat := zw_X12_wrong_3 ++ zt_X12_wrong_4
def zw_X12_wrong_2 : List Nat := [167, 0, 5, 21, 7, 162, 0, 105, 21, 4, 154, 0, 7, 3, 167, 0, 25, 21, 4, 4, 160, 0, 10, 4, 21, 7, 120, 167, 0, 12, 4, 21, 8, 120, 4, 21, 7, 120, 128]
def zt_X12_wrong_2 : List Nat := zw_X12_wrong_2 ++ zt_X12_wrong_3
def zw_X12_wrong_1 : List Nat := [5, 163, 0, 188, 3, 54, 5, 3, 54, 6, 3, 54, 7, 21, 7, 21, 4, 154, 0, 7, 4, 167, 0, 4, 29, 162, 0, 131, 3, 54, 8, 21, 8, 21, 4, 5, 162, 0, 7, 4]
def zt_X12_wrong_1 : List Nat := zw_X12_wrong_1 ++ zt_X12_wrong_2
def zw_X12_wrong_0 : List Nat := [42, 3, 181, 0, 133, 27, 133, 9, 20, 0, 182, 184, 0, 143, 154, 0, 5, 2, 172, 42, 182, 1, 111, 42, 182, 1, 114, 61, 42, 180, 0, 13, 3, 46, 62, 3, 54, 4, 21, 4]
def zt_X12_wrong_0 : List Nat := zw_X12_wrong_0 ++ zt_X12_wrong_1
theorem ze_X12_wrong_0 : (dcn cX12_wrong).drop 0 = zt_X12_wrong_0 := by decide +kernel
theorem ze_X12_wrong_1 : (dcn cX12_wrong).drop 40 = zt_X12_wrong_1 := dw_n (wl := zw_X12_wrong_0) ze_X12_wrong_0 rfl
theorem zb_X12_wrong_0 (j : Nat) {n : Nat} (e : zw_X12_wrong_0[j]? = some n) : dby cX12_wrong (0 + j) n := dw_b (t := zt_X12_wrong_1) ze_X12_wrong_0 j e
theorem dX12_wrong_0 : decode cX12_wrong 0 = .ok (.aload_n 0, 1) := dop_42 (zb_X12_wrong_0 0 rfl)
theorem dX12_wrong_1 : decode cX12_wrong 1 = .ok (.iconst 0, 1) := dop_3 (zb_X12_wrong_0 1 rfl)
theorem dX12_wrong_2 : decode cX12_wrong 2 = .ok (.putfield 133, 3) := dop_181 (zb_X12_wrong_0 2 rfl) (zb_X12_wrong_0 3 rfl) (zb_X12_wrong_0 4 rfl) rfl
theorem dX12_wrong_5 : decode cX12_wrong 5 = .ok (.iload_n 1, 1) := dop_27 (zb_X12_wrong_0 5 rfl)
theorem dX12_wrong_6 : decode cX12_wrong 6 = .ok (.i2l, 1) := dop_133 (zb_X12_wrong_0 6 rfl)
theorem dX12_wrong_7 : decode cX12_wrong 7 = .ok (.lconst 0, 1) := dop_9 (zb_X12_wrong_0 7 rfl)
theorem dX12_wrong_8 : decode cX12_wrong 8 = .ok (.ldc2_w 182, 3) := dop_20 (zb_X12_wrong_0 8 rfl) (zb_X12_wrong_0 9 rfl) (zb_X12_wrong_0 10 rfl) rfl
theorem dX12_wrong_11 : decode cX12_wrong 11 = .ok (.invokestatic 143, 3) := dop_184 (zb_X12_wrong_0 11 rfl) (zb_X12_wrong_0 12 rfl) (zb_X12_wrong_0 13 rfl) rfl
theorem dX12_wrong_14 : decode cX12_wrong 14 = .ok (.ifCond .ne 5, 3) := dop_154 (zb_X12_wrong_0 14 rfl) (zb_X12_wrong_0 15 rfl) (zb_X12_wrong_0 16 rfl) rfl
theorem dX12_wrong_17 : decode cX12_wrong 17 = .ok (.iconst (-1), 1) := dop_2 (zb_X12_wrong_0 17 rfl)
theorem dX12_wrong_18 : decode cX12_wrong 18 = .ok (.ireturn, 1) := dop_172 (zb_X12_wrong_0 18 rfl)
theorem dX12_wrong_19 : decode cX12_wrong 19 = .ok (.aload_n 0, 1) := dop_42 (zb_X12_wrong_0 19 rfl)
theorem dX12_wrong_20 : decode cX12_wrong 20 = .ok (.invokevirtual 367, 3) := dop_182 (zb_X12_wrong_0 20 rfl) (zb_X12_wrong_0 21 rfl) (zb_X12_wrong_0 22 rfl) rfl
theorem dX12_wrong_23 : decode cX12_wrong 23 = .ok (.aload_n 0, 1) := dop_42 (zb_X12_wrong_0 23 rfl)
theorem dX12_wrong_24 : decode cX12_wrong 24 = .ok (.invokevirtual 370, 3) := dop_182 (zb_X12_wrong_0 24 rfl) (zb_X12_wrong_0 25 rfl) (zb_X12_wrong_0 26 rfl) rfl
theorem dX12_wrong_27 : decode cX12_wrong 27 = .ok (.istore_n 2, 1) := dop_61 (zb_X12_wrong_0 27 rfl)
theorem dX12_wrong_28 : decode cX12_wrong 28 = .ok (.aload_n 0, 1) := dop_42 (zb_X12_wrong_0 28 rfl)
theorem dX12_wrong_29 : decode cX12_wrong 29 = .ok (.getfield 13, 3) := dop_180 (zb_X12_wrong_0 29 rfl) (zb_X12_wrong_0 30 rfl) (zb_X12_wrong_0 31 rfl) rfl
theorem dX12_wrong_32 : decode cX12_wrong 32 = .ok (.iconst 0, 1) := dop_3 (zb_X12_wrong_0 32 rfl)
theorem dX12_wrong_33 : decode cX12_wrong 33 = .ok (.iaload, 1) := dop_46 (zb_X12_wrong_0 33 rfl)
theorem dX12_wrong_34 : decode cX12_wrong 34 = .ok (.istore_n 3, 1) := dop_62 (zb_X12_wrong_0 34 rfl)
theorem dX12_wrong_35 : decode cX12_wrong 35 = .ok (.iconst 0, 1) := dop_3 (zb_X12_wrong_0 35 rfl)
theorem dX12_wrong_36 : decode cX12_wrong 36 = .ok (.istore 4, 2) := dop_54 (zb_X12_wrong_0 36 rfl) (zb_X12_wrong_0 37 rfl)
theorem dX12_wrong_38 : decode cX12_wrong 38 = .ok (.iload 4, 2) := dop_21 (zb_X12_wrong_0 38 rfl) (zb_X12_wrong_0 39 rfl)
theorem ze_X12_wrong_2 : (dcn cX12_wrong).drop 80 = zt_X12_wrong_2 := dw_n (wl := zw_X12_wrong_1) ze_X12_wrong_1 rfl
theorem zb_X12_wrong_1 (j : Nat) {n : Nat} (e : zw_X12_wrong_1[j]? = some n) : dby cX12_wrong (40 + j) n := dw_b (t := zt_X12_wrong_2) ze_X12_wrong_1 j e
theorem dX12_wrong_40 : decode cX12_wrong 40 = .ok (.iconst 2, 1) := dop_5 (zb_X12_wrong_1 0 rfl)
theorem dX12_wrong_41 : decode cX12_wrong 41 = .ok (.if_icmp .gt 188, 3) := dop_163 (zb_X12_wrong_1 1 rfl) (zb_X12_wrong_1 2 rfl) (zb_X12_wrong_1 3 rfl) rfl
theorem dX12_wrong_44 : decode cX12_wrong 44 = .ok (.iconst 0, 1) := dop_3 (zb_X12_wrong_1 4 rfl)
theorem dX12_wrong_45 : decode cX12_wrong 45 = .ok (.istore 5, 2) := dop_54 (zb_X12_wrong_1 5 rfl) (zb_X12_wrong_1 6 rfl)
theorem dX12_wrong_47 : decode cX12_wrong 47 = .ok (.iconst 0, 1) := dop_3 (zb_X12_wrong_1 7 rfl)
theorem dX12_wrong_48 : decode cX12_wrong 48 = .ok (.istore 6, 2) := dop_54 (zb_X12_wrong_1 8 rfl) (zb_X12_wrong_1 9 rfl)
theorem dX12_wrong_50 : decode cX12_wrong 50 = .ok (.iconst 0, 1) := dop_3 (zb_X12_wrong_1 10 rfl)
theorem dX12_wrong_51 : decode cX12_wrong 51 = .ok (.istore 7, 2) := dop_54 (zb_X12_wrong_1 11 rfl) (zb_X12_wrong_1 12 rfl)
theorem dX12_wrong_53 : decode cX12_wrong 53 = .ok (.iload 7, 2) := dop_21 (zb_X12_wrong_1 13 rfl) (zb_X12_wrong_1 14 rfl)
theorem dX12_wrong_55 : decode cX12_wrong 55 = .ok (.iload 4, 2) := dop_21 (zb_X12_wrong_1 15 rfl) (zb_X12_wrong_1 16 rfl)
theorem dX12_wrong_57 : decode cX12_wrong 57 = .ok (.ifCond .ne 7, 3) := dop_154 (zb_X12_wrong_1 17 rfl) (zb_X12_wrong_1 18 rfl) (zb_X12_wrong_1 19 rfl) rfl
theorem dX12_wrong_60 : decode cX12_wrong 60 = .ok (.iconst 1, 1) := dop_4 (zb_X12_wrong_1 20 rfl)
theorem dX12_wrong_61 : decode cX12_wrong 61 = .ok (.goto 4, 3) := dop_167 (zb_X12_wrong_1 21 rfl) (zb_X12_wrong_1 22 rfl) (zb_X12_wrong_1 23 rfl) rfl
theorem dX12_wrong_64 : decode cX12_wrong 64 = .ok (.iload_n 3, 1) := dop_29 (zb_X12_wrong_1 24 rfl)
theorem dX12_wrong_65 : decode cX12_wrong 65 = .ok (.if_icmp .ge 131, 3) := dop_162 (zb_X12_wrong_1 25 rfl) (zb_X12_wrong_1 26 rfl) (zb_X12_wrong_1 27 rfl) rfl
theorem dX12_wrong_68 : decode cX12_wrong 68 = .ok (.iconst 0, 1) := dop_3 (zb_X12_wrong_1 28 rfl)
theorem dX12_wrong_69 : decode cX12_wrong 69 = .ok (.istore 8, 2) := dop_54 (zb_X12_wrong_1 29 rfl) (zb_X12_wrong_1 30 rfl)
theorem dX12_wrong_71 : decode cX12_wrong 71 = .ok (.iload 8, 2) := dop_21 (zb_X12_wrong_1 31 rfl) (zb_X12_wrong_1 32 rfl)
theorem dX12_wrong_73 : decode cX12_wrong 73 = .ok (.iload 4, 2) := dop_21 (zb_X12_wrong_1 33 rfl) (zb_X12_wrong_1 34 rfl)
theorem dX12_wrong_75 : decode cX12_wrong 75 = .ok (.iconst 2, 1) := dop_5 (zb_X12_wrong_1 35 rfl)
theorem dX12_wrong_76 : decode cX12_wrong 76 = .ok (.if_icmp .ge 7, 3) := dop_162 (zb_X12_wrong_1 36 rfl) (zb_X12_wrong_1 37 rfl) (zb_X12_wrong_1 38 rfl) rfl
theorem dX12_wrong_79 : decode cX12_wrong 79 = .ok (.iconst 1, 1) := dop_4 (zb_X12_wrong_1 39 rfl)
theorem ze_X12_wrong_3 : (dcn cX12_wrong).drop 119 = zt_X12_wrong_3 := dw_n (wl := zw_X12_wrong_2) ze_X12_wrong_2 rfl
theorem zb_X12_wrong_2 (j : Nat) {n : Nat} (e : zw_X12_wrong_2[j]? = some n) : dby cX12_wrong (80 + j) n := dw_b (t := zt_X12_wrong_3) ze_X12_wrong_2 j e
theorem dX12_wrong_80 : decode cX12_wrong 80 = .ok (.goto 5, 3) := dop_167 (zb_X12_wrong_2 0 rfl) (zb_X12_wrong_2 1 rfl) (zb_X12_wrong_2 2 rfl) rfl
theorem dX12_wrong_83 : decode cX12_wrong 83 = .ok (.iload 7, 2) := dop_21 (zb_X12_wrong_2 3 rfl) (zb_X12_wrong_2 4 rfl)
theorem dX12_wrong_85 : decode cX12_wrong 85 = .ok (.if_icmp .ge 105, 3) := dop_162 (zb_X12_wrong_2 5 rfl) (zb_X12_wrong_2 6 rfl) (zb_X12_wrong_2 7 rfl) rfl
theorem dX12_wrong_88 : decode cX12_wrong 88 = .ok (.iload 4, 2) := dop_21 (zb_X12_wrong_2 8 rfl) (zb_X12_wrong_2 9 rfl)
theorem dX12_wrong_90 : decode cX12_wrong 90 = .ok (.ifCond .ne 7, 3) := dop_154 (zb_X12_wrong_2 10 rfl) (zb_X12_wrong_2 11 rfl) (zb_X12_wrong_2 12 rfl) rfl
theorem dX12_wrong_93 : decode cX12_wrong 93 = .ok (.iconst 0, 1) := dop_3 (zb_X12_wrong_2 13 rfl)
theorem dX12_wrong_94 : decode cX12_wrong 94 = .ok (.goto 25, 3) := dop_167 (zb_X12_wrong_2 14 rfl) (zb_X12_wrong_2 15 rfl) (zb_X12_wrong_2 16 rfl) rfl
theorem dX12_wrong_97 : decode cX12_wrong 97 = .ok (.iload 4, 2) := dop_21 (zb_X12_wrong_2 17 rfl) (zb_X12_wrong_2 18 rfl)
theorem dX12_wrong_99 : decode cX12_wrong 99 = .ok (.iconst 1, 1) := dop_4 (zb_X12_wrong_2 19 rfl)
theorem dX12_wrong_100 : decode cX12_wrong 100 = .ok (.if_icmp .ne 10, 3) := dop_160 (zb_X12_wrong_2 20 rfl) (zb_X12_wrong_2 21 rfl) (zb_X12_wrong_2 22 rfl) rfl
theorem dX12_wrong_103 : decode cX12_wrong 103 = .ok (.iconst 1, 1) := dop_4 (zb_X12_wrong_2 23 rfl)
theorem dX12_wrong_104 : decode cX12_wrong 104 = .ok (.iload 7, 2) := dop_21 (zb_X12_wrong_2 24 rfl) (zb_X12_wrong_2 25 rfl)
theorem dX12_wrong_106 : decode cX12_wrong 106 = .ok (.ishl, 1) := dop_120 (zb_X12_wrong_2 26 rfl)
theorem dX12_wrong_107 : decode cX12_wrong 107 = .ok (.goto 12, 3) := dop_167 (zb_X12_wrong_2 27 rfl) (zb_X12_wrong_2 28 rfl) (zb_X12_wrong_2 29 rfl) rfl
theorem dX12_wrong_110 : decode cX12_wrong 110 = .ok (.iconst 1, 1) := dop_4 (zb_X12_wrong_2 30 rfl)
theorem dX12_wrong_111 : decode cX12_wrong 111 = .ok (.iload 8, 2) := dop_21 (zb_X12_wrong_2 31 rfl) (zb_X12_wrong_2 32 rfl)
theorem dX12_wrong_113 : decode cX12_wrong 113 = .ok (.ishl, 1) := dop_120 (zb_X12_wrong_2 33 rfl)
theorem dX12_wrong_114 : decode cX12_wrong 114 = .ok (.iconst 1, 1) := dop_4 (zb_X12_wrong_2 34 rfl)
theorem dX12_wrong_115 : decode cX12_wrong 115 = .ok (.iload 7, 2) := dop_21 (zb_X12_wrong_2 35 rfl) (zb_X12_wrong_2 36 rfl)
theorem dX12_wrong_117 : decode cX12_wrong 117 = .ok (.ishl, 1) := dop_120 (zb_X12_wrong_2 37 rfl)
theorem dX12_wrong_118 : decode cX12_wrong 118 = .ok (.ior, 1) := dop_128 (zb_X12_wrong_2 38 rfl)
theorem ze_X12_wrong_4 : (dcn cX12_wrong).drop 157 = zt_X12_wrong_4 := dw_n (wl := zw_X12_wrong_3) ze_X12_wrong_3 rfl
theorem zb_X12_wrong_3 (j : Nat) {n : Nat} (e : zw_X12_wrong_3[j]? = some n) : dby cX12_wrong (119 + j) n := dw_b (t := zt_X12_wrong_4) ze_X12_wrong_3 j e
theorem dX12_wrong_119 : decode cX12_wrong 119 = .ok (.istore 9, 2) := dop_54 (zb_X12_wrong_3 0 rfl) (zb_X12_wrong_3 1 rfl)
theorem dX12_wrong_121 : decode cX12_wrong 121 = .ok (.iload 9, 2) := dop_21 (zb_X12_wrong_3 2 rfl) (zb_X12_wrong_3 3 rfl)
theorem dX12_wrong_123 : decode cX12_wrong 123 = .ok (.iload_n 2, 1) := dop_28 (zb_X12_wrong_3 4 rfl)
theorem dX12_wrong_124 : decode cX12_wrong 124 = .ok (.iconst (-1), 1) := dop_2 (zb_X12_wrong_3 5 rfl)
theorem dX12_wrong_125 : decode cX12_wrong 125 = .ok (.ixor, 1) := dop_130 (zb_X12_wrong_3 6 rfl)
theorem dX12_wrong_126 : decode cX12_wrong 126 = .ok (.iand, 1) := dop_126 (zb_X12_wrong_3 7 rfl)
theorem dX12_wrong_127 : decode cX12_wrong 127 = .ok (.ifCond .ne 20, 3) := dop_154 (zb_X12_wrong_3 8 rfl) (zb_X12_wrong_3 9 rfl) (zb_X12_wrong_3 10 rfl) rfl
theorem dX12_wrong_130 : decode cX12_wrong 130 = .ok (.aload_n 0, 1) := dop_42 (zb_X12_wrong_3 11 rfl)
theorem dX12_wrong_131 : decode cX12_wrong 131 = .ok (.iload_n 2, 1) := dop_28 (zb_X12_wrong_3 12 rfl)
theorem dX12_wrong_132 : decode cX12_wrong 132 = .ok (.iload 9, 2) := dop_21 (zb_X12_wrong_3 13 rfl) (zb_X12_wrong_3 14 rfl)
theorem dX12_wrong_134 : decode cX12_wrong 134 = .ok (.iconst (-1), 1) := dop_2 (zb_X12_wrong_3 15 rfl)
theorem dX12_wrong_135 : decode cX12_wrong 135 = .ok (.ixor, 1) := dop_130 (zb_X12_wrong_3 16 rfl)
theorem dX12_wrong_136 : decode cX12_wrong 136 = .ok (.iand, 1) := dop_126 (zb_X12_wrong_3 17 rfl)
theorem dX12_wrong_137 : decode cX12_wrong 137 = .ok (.invokevirtual 374, 3) := dop_182 (zb_X12_wrong_3 18 rfl) (zb_X12_wrong_3 19 rfl) (zb_X12_wrong_3 20 rfl) rfl
theorem dX12_wrong_140 : decode cX12_wrong 140 = .ok (.ifCond .eq 7, 3) := dop_153 (zb_X12_wrong_3 21 rfl) (zb_X12_wrong_3 22 rfl) (zb_X12_wrong_3 23 rfl) rfl
theorem dX12_wrong_143 : decode cX12_wrong 143 = .ok (.iconst 1, 1) := dop_4 (zb_X12_wrong_3 24 rfl)
theorem dX12_wrong_144 : decode cX12_wrong 144 = .ok (.goto 4, 3) := dop_167 (zb_X12_wrong_3 25 rfl) (zb_X12_wrong_3 26 rfl) (zb_X12_wrong_3 27 rfl) rfl
theorem dX12_wrong_147 : decode cX12_wrong 147 = .ok (.iconst 0, 1) := dop_3 (zb_X12_wrong_3 28 rfl)
theorem dX12_wrong_148 : decode cX12_wrong 148 = .ok (.istore 10, 2) := dop_54 (zb_X12_wrong_3 29 rfl) (zb_X12_wrong_3 30 rfl)
theorem dX12_wrong_150 : decode cX12_wrong 150 = .ok (.iload 10, 2) := dop_21 (zb_X12_wrong_3 31 rfl) (zb_X12_wrong_3 32 rfl)
theorem dX12_wrong_152 : decode cX12_wrong 152 = .ok (.ifCond .eq 13, 3) := dop_153 (zb_X12_wrong_3 33 rfl) (zb_X12_wrong_3 34 rfl) (zb_X12_wrong_3 35 rfl) rfl
theorem dX12_wrong_155 : decode cX12_wrong 155 = .ok (.iload 5, 2) := dop_21 (zb_X12_wrong_3 36 rfl) (zb_X12_wrong_3 37 rfl)
theorem ze_X12_wrong_5 : (dcn cX12_wrong).drop 196 = zt_X12_wrong_5 := dw_n (wl := zw_X12_wrong_4) ze_X12_wrong_4 rfl
theorem zb_X12_wrong_4 (j : Nat) {n : Nat} (e : zw_X12_wrong_4[j]? = some n) : dby cX12_wrong (157 + j) n := dw_b (t := zt_X12_wrong_5) ze_X12_wrong_4 j e
theorem dX12_wrong_157 : decode cX12_wrong 157 = .ok (.ifCond .ne 8, 3) := dop_154 (zb_X12_wrong_4 0 rfl) (zb_X12_wrong_4 1 rfl) (zb_X12_wrong_4 2 rfl) rfl
theorem dX12_wrong_160 : decode cX12_wrong 160 = .ok (.iload 9, 2) := dop_21 (zb_X12_wrong_4 3 rfl) (zb_X12_wrong_4 4 rfl)
theorem dX12_wrong_162 : decode cX12_wrong 162 = .ok (.goto 5, 3) := dop_167 (zb_X12_wrong_4 5 rfl) (zb_X12_wrong_4 6 rfl) (zb_X12_wrong_4 7 rfl) rfl
theorem dX12_wrong_165 : decode cX12_wrong 165 = .ok (.iload 6, 2) := dop_21 (zb_X12_wrong_4 8 rfl) (zb_X12_wrong_4 9 rfl)
theorem dX12_wrong_167 : decode cX12_wrong 167 = .ok (.istore 6, 2) := dop_54 (zb_X12_wrong_4 10 rfl) (zb_X12_wrong_4 11 rfl)
theorem dX12_wrong_169 : decode cX12_wrong 169 = .ok (.iload 5, 2) := dop_21 (zb_X12_wrong_4 12 rfl) (zb_X12_wrong_4 13 rfl)
theorem dX12_wrong_171 : decode cX12_wrong 171 = .ok (.iload 10, 2) := dop_21 (zb_X12_wrong_4 14 rfl) (zb_X12_wrong_4 15 rfl)
theorem dX12_wrong_173 : decode cX12_wrong 173 = .ok (.ifCond .eq 7, 3) := dop_153 (zb_X12_wrong_4 16 rfl) (zb_X12_wrong_4 17 rfl) (zb_X12_wrong_4 18 rfl) rfl
theorem dX12_wrong_176 : decode cX12_wrong 176 = .ok (.iconst 1, 1) := dop_4 (zb_X12_wrong_4 19 rfl)
theorem dX12_wrong_177 : decode cX12_wrong 177 = .ok (.goto 4, 3) := dop_167 (zb_X12_wrong_4 20 rfl) (zb_X12_wrong_4 21 rfl) (zb_X12_wrong_4 22 rfl) rfl
theorem dX12_wrong_180 : decode cX12_wrong 180 = .ok (.iconst 0, 1) := dop_3 (zb_X12_wrong_4 23 rfl)
theorem dX12_wrong_181 : decode cX12_wrong 181 = .ok (.iadd, 1) := dop_96 (zb_X12_wrong_4 24 rfl)
theorem dX12_wrong_182 : decode cX12_wrong 182 = .ok (.istore 5, 2) := dop_54 (zb_X12_wrong_4 25 rfl) (zb_X12_wrong_4 26 rfl)
theorem dX12_wrong_184 : decode cX12_wrong 184 = .ok (.iinc 8 1, 3) := dop_132 (zb_X12_wrong_4 27 rfl) (zb_X12_wrong_4 28 rfl) (zb_X12_wrong_4 29 rfl) rfl
theorem dX12_wrong_187 : decode cX12_wrong 187 = .ok (.goto (-116), 3) := dop_167 (zb_X12_wrong_4 30 rfl) (zb_X12_wrong_4 31 rfl) (zb_X12_wrong_4 32 rfl) rfl
theorem dX12_wrong_190 : decode cX12_wrong 190 = .ok (.iinc 7 1, 3) := dop_132 (zb_X12_wrong_4 33 rfl) (zb_X12_wrong_4 34 rfl) (zb_X12_wrong_4 35 rfl) rfl
theorem dX12_wrong_193 : decode cX12_wrong 193 = .ok (.goto (-140), 3) := dop_167 (zb_X12_wrong_4 36 rfl) (zb_X12_wrong_4 37 rfl) (zb_X12_wrong_4 38 rfl) rfl
theorem zb_X12_wrong_5 (j : Nat) {n : Nat} (e : zw_X12_wrong_5[j]? = some n) : dby cX12_wrong (196 + j) n := dw_b (t := []) ze_X12_wrong_5 j e
theorem dX12_wrong_196 : decode cX12_wrong 196 = .ok (.iload 5, 2) := dop_21 (zb_X12_wrong_5 0 rfl) (zb_X12_wrong_5 1 rfl)
theorem dX12_wrong_198 : decode cX12_wrong 198 = .ok (.ifCond .le 25, 3) := dop_158 (zb_X12_wrong_5 2 rfl) (zb_X12_wrong_5 3 rfl) (zb_X12_wrong_5 4 rfl) rfl
theorem dX12_wrong_201 : decode cX12_wrong 201 = .ok (.iload_n 1, 1) := dop_27 (zb_X12_wrong_5 5 rfl)
theorem dX12_wrong_202 : decode cX12_wrong 202 = .ok (.ifCond .ne 8, 3) := dop_154 (zb_X12_wrong_5 6 rfl) (zb_X12_wrong_5 7 rfl) (zb_X12_wrong_5 8 rfl) rfl
theorem dX12_wrong_205 : decode cX12_wrong 205 = .ok (.iload 4, 2) := dop_21 (zb_X12_wrong_5 9 rfl) (zb_X12_wrong_5 10 rfl)
theorem dX12_wrong_207 : decode cX12_wrong 207 = .ok (.goto 15, 3) := dop_167 (zb_X12_wrong_5 11 rfl) (zb_X12_wrong_5 12 rfl) (zb_X12_wrong_5 13 rfl) rfl
theorem dX12_wrong_210 : decode cX12_wrong 210 = .ok (.iload_n 1, 1) := dop_27 (zb_X12_wrong_5 14 rfl)
theorem dX12_wrong_211 : decode cX12_wrong 211 = .ok (.iconst 1, 1) := dop_4 (zb_X12_wrong_5 15 rfl)
theorem dX12_wrong_212 : decode cX12_wrong 212 = .ok (.if_icmp .ne 8, 3) := dop_160 (zb_X12_wrong_5 16 rfl) (zb_X12_wrong_5 17 rfl) (zb_X12_wrong_5 18 rfl) rfl
theorem dX12_wrong_215 : decode cX12_wrong 215 = .ok (.iload 5, 2) := dop_21 (zb_X12_wrong_5 19 rfl) (zb_X12_wrong_5 20 rfl)
theorem dX12_wrong_217 : decode cX12_wrong 217 = .ok (.goto 5, 3) := dop_167 (zb_X12_wrong_5 21 rfl) (zb_X12_wrong_5 22 rfl) (zb_X12_wrong_5 23 rfl) rfl
theorem dX12_wrong_220 : decode cX12_wrong 220 = .ok (.iload 6, 2) := dop_21 (zb_X12_wrong_5 24 rfl) (zb_X12_wrong_5 25 rfl)
theorem dX12_wrong_222 : decode cX12_wrong 222 = .ok (.ireturn, 1) := dop_172 (zb_X12_wrong_5 26 rfl)
theorem dX12_wrong_223 : decode cX12_wrong 223 = .ok (.iinc 4 1, 3) := dop_132 (zb_X12_wrong_5 27 rfl) (zb_X12_wrong_5 28 rfl) (zb_X12_wrong_5 29 rfl) rfl
theorem dX12_wrong_226 : decode cX12_wrong 226 = .ok (.goto (-188), 3) := dop_167 (zb_X12_wrong_5 30 rfl) (zb_X12_wrong_5 31 rfl) (zb_X12_wrong_5 32 rfl) rfl
theorem dX12_wrong_229 : decode cX12_wrong 229 = .ok (.iconst (-1), 1) := dop_2 (zb_X12_wrong_5 33 rfl)
theorem dX12_wrong_230 : decode cX12_wrong 230 = .ok (.ireturn, 1) := dop_172 (zb_X12_wrong_5 34 rfl)
def zw_X12_findAsked_3 : List Nat := [167, 255, 150, 4, 172]
def zt_X12_findAsked_3 : List Nat := zw_X12_findAsked_3 ++ []
def zw_X12_findAsked_2 : List Nat := [96, 46, 2, 160, 0, 33, 42, 180, 1, 231, 6, 160, 0, 5, 3, 172, 42, 180, 0, 127, 42, 180, 1, 231, 27, 79, 42, 89, 180, 1, 231, 4, 96, 181, 1, 231, 132, 1, 1]
def zt_X12_findAsked_2 : List Nat := zw_X12_findAsked_2 ++ zt_X12_findAsked_3
def zw_X12_findAsked_1 : List Nat := [182, 0, 195, 4, 160, 0, 17, 42, 29, 4, 182, 0, 195, 27, 160, 0, 7, 4, 167, 0, 4, 3, 61, 132, 3, 1, 167, 255, 213, 28, 153, 0, 46, 42, 180, 0, 13, 16, 10, 27]
def zt_X12_findAsked_1 : List Nat := zw_X12_findAsked_1 ++ zt_X12_findAsked_2
def zw_X12_findAsked_0 : List Nat := [42, 182, 1, 111, 42, 3, 181, 1, 231, 3, 60, 27, 16, 32, 162, 0, 106, 3, 61, 3, 62, 29, 42, 180, 0, 13, 3, 46, 162, 0, 39, 28, 154, 0, 23, 42, 29, 7]
def zt_X12_findAsked_0 : List Nat := zw_X12_findAsked_0 ++ zt_X12_findAsked_1
theorem ze_X12_findAsked_0 : (dcn cX12_findAsked).drop 0 = zt_X12_findAsked_0 := by decide +kernel
theorem ze_X12_findAsked_1 : (dcn cX12_findAsked).drop 38 = zt_X12_findAsked_1 := dw_n (wl := zw_X12_findAsked_0) ze_X12_findAsked_0 rfl
theorem zb_X12_findAsked_0 (j : Nat) {n : Nat} (e : zw_X12_findAsked_0[j]? = some n) : dby cX12_findAsked (0 + j) n := dw_b (t := zt_X12_findAsked_1) ze_X12_findAsked_0 j e
theorem dX12_findAsked_0 : decode cX12_findAsked 0 = .ok (.aload_n 0, 1) := dop_42 (zb_X12_findAsked_0 0 rfl)
theorem dX12_findAsked_1 : decode cX12_findAsked 1 = .ok (.invokevirtual 367, 3) := dop_182 (zb_X12_findAsked_0 1 rfl) (zb_X12_findAsked_0 2 rfl) (zb_X12_findAsked_0 3 rfl) rfl
theorem dX12_findAsked_4 : decode cX12_findAsked 4 = .ok (.aload_n 0, 1) := dop_42 (zb_X12_findAsked_0 4 rfl)
theorem dX12_findAsked_5 : decode cX12_findAsked 5 = .ok (.iconst 0, 1) := dop_3 (zb_X12_findAsked_0 5 rfl)
theorem dX12_findAsked_6 : decode cX12_findAsked 6 = .ok (.putfield 487, 3) := dop_181 (zb_X12_findAsked_0 6 rfl) (zb_X12_findAsked_0 7 rfl) (zb_X12_findAsked_0 8 rfl) rfl
theorem dX12_findAsked_9 : decode cX12_findAsked 9 = .ok (.iconst 0, 1) := dop_3 (zb_X12_findAsked_0 9 rfl)
theorem dX12_findAsked_10 : decode cX12_findAsked 10 = .ok (.istore_n 1, 1) := dop_60 (zb_X12_findAsked_0 10 rfl)
theorem dX12_findAsked_11 : decode cX12_findAsked 11 = .ok (.iload_n 1, 1) := dop_27 (zb_X12_findAsked_0 11 rfl)
theorem dX12_findAsked_12 : decode cX12_findAsked 12 = .ok (.bipush 32, 2) := dop_16 (zb_X12_findAsked_0 12 rfl) (zb_X12_findAsked_0 13 rfl) rfl
theorem dX12_findAsked_14 : decode cX12_findAsked 14 = .ok (.if_icmp .ge 106, 3) := dop_162 (zb_X12_findAsked_0 14 rfl) (zb_X12_findAsked_0 15 rfl) (zb_X12_findAsked_0 16 rfl) rfl
theorem dX12_findAsked_17 : decode cX12_findAsked 17 = .ok (.iconst 0, 1) := dop_3 (zb_X12_findAsked_0 17 rfl)
theorem dX12_findAsked_18 : decode cX12_findAsked 18 = .ok (.istore_n 2, 1) := dop_61 (zb_X12_findAsked_0 18 rfl)
theorem dX12_findAsked_19 : decode cX12_findAsked 19 = .ok (.iconst 0, 1) := dop_3 (zb_X12_findAsked_0 19 rfl)
theorem dX12_findAsked_20 : decode cX12_findAsked 20 = .ok (.istore_n 3, 1) := dop_62 (zb_X12_findAsked_0 20 rfl)
theorem dX12_findAsked_21 : decode cX12_findAsked 21 = .ok (.iload_n 3, 1) := dop_29 (zb_X12_findAsked_0 21 rfl)
theorem dX12_findAsked_22 : decode cX12_findAsked 22 = .ok (.aload_n 0, 1) := dop_42 (zb_X12_findAsked_0 22 rfl)
theorem dX12_findAsked_23 : decode cX12_findAsked 23 = .ok (.getfield 13, 3) := dop_180 (zb_X12_findAsked_0 23 rfl) (zb_X12_findAsked_0 24 rfl) (zb_X12_findAsked_0 25 rfl) rfl
theorem dX12_findAsked_26 : decode cX12_findAsked 26 = .ok (.iconst 0, 1) := dop_3 (zb_X12_findAsked_0 26 rfl)
theorem dX12_findAsked_27 : decode cX12_findAsked 27 = .ok (.iaload, 1) := dop_46 (zb_X12_findAsked_0 27 rfl)
theorem dX12_findAsked_28 : decode cX12_findAsked 28 = .ok (.if_icmp .ge 39, 3) := dop_162 (zb_X12_findAsked_0 28 rfl) (zb_X12_findAsked_0 29 rfl) (zb_X12_findAsked_0 30 rfl) rfl
theorem dX12_findAsked_31 : decode cX12_findAsked 31 = .ok (.iload_n 2, 1) := dop_28 (zb_X12_findAsked_0 31 rfl)
theorem dX12_findAsked_32 : decode cX12_findAsked 32 = .ok (.ifCond .ne 23, 3) := dop_154 (zb_X12_findAsked_0 32 rfl) (zb_X12_findAsked_0 33 rfl) (zb_X12_findAsked_0 34 rfl) rfl
theorem dX12_findAsked_35 : decode cX12_findAsked 35 = .ok (.aload_n 0, 1) := dop_42 (zb_X12_findAsked_0 35 rfl)
theorem dX12_findAsked_36 : decode cX12_findAsked 36 = .ok (.iload_n 3, 1) := dop_29 (zb_X12_findAsked_0 36 rfl)
theorem dX12_findAsked_37 : decode cX12_findAsked 37 = .ok (.iconst 4, 1) := dop_7 (zb_X12_findAsked_0 37 rfl)
theorem ze_X12_findAsked_2 : (dcn cX12_findAsked).drop 78 = zt_X12_findAsked_2 := dw_n (wl := zw_X12_findAsked_1) ze_X12_findAsked_1 rfl
theorem zb_X12_findAsked_1 (j : Nat) {n : Nat} (e : zw_X12_findAsked_1[j]? = some n) : dby cX12_findAsked (38 + j) n := dw_b (t := zt_X12_findAsked_2) ze_X12_findAsked_1 j e
theorem dX12_findAsked_38 : decode cX12_findAsked 38 = .ok (.invokevirtual 195, 3) := dop_182 (zb_X12_findAsked_1 0 rfl) (zb_X12_findAsked_1 1 rfl) (zb_X12_findAsked_1 2 rfl) rfl
theorem dX12_findAsked_41 : decode cX12_findAsked 41 = .ok (.iconst 1, 1) := dop_4 (zb_X12_findAsked_1 3 rfl)
theorem dX12_findAsked_42 : decode cX12_findAsked 42 = .ok (.if_icmp .ne 17, 3) := dop_160 (zb_X12_findAsked_1 4 rfl) (zb_X12_findAsked_1 5 rfl) (zb_X12_findAsked_1 6 rfl) rfl
theorem dX12_findAsked_45 : decode cX12_findAsked 45 = .ok (.aload_n 0, 1) := dop_42 (zb_X12_findAsked_1 7 rfl)
theorem dX12_findAsked_46 : decode cX12_findAsked 46 = .ok (.iload_n 3, 1) := dop_29 (zb_X12_findAsked_1 8 rfl)
theorem dX12_findAsked_47 : decode cX12_findAsked 47 = .ok (.iconst 1, 1) := dop_4 (zb_X12_findAsked_1 9 rfl)
theorem dX12_findAsked_48 : decode cX12_findAsked 48 = .ok (.invokevirtual 195, 3) := dop_182 (zb_X12_findAsked_1 10 rfl) (zb_X12_findAsked_1 11 rfl) (zb_X12_findAsked_1 12 rfl) rfl
theorem dX12_findAsked_51 : decode cX12_findAsked 51 = .ok (.iload_n 1, 1) := dop_27 (zb_X12_findAsked_1 13 rfl)
theorem dX12_findAsked_52 : decode cX12_findAsked 52 = .ok (.if_icmp .ne 7, 3) := dop_160 (zb_X12_findAsked_1 14 rfl) (zb_X12_findAsked_1 15 rfl) (zb_X12_findAsked_1 16 rfl) rfl
theorem dX12_findAsked_55 : decode cX12_findAsked 55 = .ok (.iconst 1, 1) := dop_4 (zb_X12_findAsked_1 17 rfl)
theorem dX12_findAsked_56 : decode cX12_findAsked 56 = .ok (.goto 4, 3) := dop_167 (zb_X12_findAsked_1 18 rfl) (zb_X12_findAsked_1 19 rfl) (zb_X12_findAsked_1 20 rfl) rfl
theorem dX12_findAsked_59 : decode cX12_findAsked 59 = .ok (.iconst 0, 1) := dop_3 (zb_X12_findAsked_1 21 rfl)
theorem dX12_findAsked_60 : decode cX12_findAsked 60 = .ok (.istore_n 2, 1) := dop_61 (zb_X12_findAsked_1 22 rfl)
theorem dX12_findAsked_61 : decode cX12_findAsked 61 = .ok (.iinc 3 1, 3) := dop_132 (zb_X12_findAsked_1 23 rfl) (zb_X12_findAsked_1 24 rfl) (zb_X12_findAsked_1 25 rfl) rfl
theorem dX12_findAsked_64 : decode cX12_findAsked 64 = .ok (.goto (-43), 3) := dop_167 (zb_X12_findAsked_1 26 rfl) (zb_X12_findAsked_1 27 rfl) (zb_X12_findAsked_1 28 rfl) rfl
theorem dX12_findAsked_67 : decode cX12_findAsked 67 = .ok (.iload_n 2, 1) := dop_28 (zb_X12_findAsked_1 29 rfl)
theorem dX12_findAsked_68 : decode cX12_findAsked 68 = .ok (.ifCond .eq 46, 3) := dop_153 (zb_X12_findAsked_1 30 rfl) (zb_X12_findAsked_1 31 rfl) (zb_X12_findAsked_1 32 rfl) rfl
theorem dX12_findAsked_71 : decode cX12_findAsked 71 = .ok (.aload_n 0, 1) := dop_42 (zb_X12_findAsked_1 33 rfl)
theorem dX12_findAsked_72 : decode cX12_findAsked 72 = .ok (.getfield 13, 3) := dop_180 (zb_X12_findAsked_1 34 rfl) (zb_X12_findAsked_1 35 rfl) (zb_X12_findAsked_1 36 rfl) rfl
theorem dX12_findAsked_75 : decode cX12_findAsked 75 = .ok (.bipush 10, 2) := dop_16 (zb_X12_findAsked_1 37 rfl) (zb_X12_findAsked_1 38 rfl) rfl
theorem dX12_findAsked_77 : decode cX12_findAsked 77 = .ok (.iload_n 1, 1) := dop_27 (zb_X12_findAsked_1 39 rfl)
theorem ze_X12_findAsked_3 : (dcn cX12_findAsked).drop 117 = zt_X12_findAsked_3 := dw_n (wl := zw_X12_findAsked_2) ze_X12_findAsked_2 rfl
theorem zb_X12_findAsked_2 (j : Nat) {n : Nat} (e : zw_X12_findAsked_2[j]? = some n) : dby cX12_findAsked (78 + j) n := dw_b (t := zt_X12_findAsked_3) ze_X12_findAsked_2 j e
theorem dX12_findAsked_78 : decode cX12_findAsked 78 = .ok (.iadd, 1) := dop_96 (zb_X12_findAsked_2 0 rfl)
theorem dX12_findAsked_79 : decode cX12_findAsked 79 = .ok (.iaload, 1) := dop_46 (zb_X12_findAsked_2 1 rfl)
theorem dX12_findAsked_80 : decode cX12_findAsked 80 = .ok (.iconst (-1), 1) := dop_2 (zb_X12_findAsked_2 2 rfl)
theorem dX12_findAsked_81 : decode cX12_findAsked 81 = .ok (.if_icmp .ne 33, 3) := dop_160 (zb_X12_findAsked_2 3 rfl) (zb_X12_findAsked_2 4 rfl) (zb_X12_findAsked_2 5 rfl) rfl
theorem dX12_findAsked_84 : decode cX12_findAsked 84 = .ok (.aload_n 0, 1) := dop_42 (zb_X12_findAsked_2 6 rfl)
theorem dX12_findAsked_85 : decode cX12_findAsked 85 = .ok (.getfield 487, 3) := dop_180 (zb_X12_findAsked_2 7 rfl) (zb_X12_findAsked_2 8 rfl) (zb_X12_findAsked_2 9 rfl) rfl
theorem dX12_findAsked_88 : decode cX12_findAsked 88 = .ok (.iconst 3, 1) := dop_6 (zb_X12_findAsked_2 10 rfl)
theorem dX12_findAsked_89 : decode cX12_findAsked 89 = .ok (.if_icmp .ne 5, 3) := dop_160 (zb_X12_findAsked_2 11 rfl) (zb_X12_findAsked_2 12 rfl) (zb_X12_findAsked_2 13 rfl) rfl
theorem dX12_findAsked_92 : decode cX12_findAsked 92 = .ok (.iconst 0, 1) := dop_3 (zb_X12_findAsked_2 14 rfl)
theorem dX12_findAsked_93 : decode cX12_findAsked 93 = .ok (.ireturn, 1) := dop_172 (zb_X12_findAsked_2 15 rfl)
theorem dX12_findAsked_94 : decode cX12_findAsked 94 = .ok (.aload_n 0, 1) := dop_42 (zb_X12_findAsked_2 16 rfl)
theorem dX12_findAsked_95 : decode cX12_findAsked 95 = .ok (.getfield 127, 3) := dop_180 (zb_X12_findAsked_2 17 rfl) (zb_X12_findAsked_2 18 rfl) (zb_X12_findAsked_2 19 rfl) rfl
theorem dX12_findAsked_98 : decode cX12_findAsked 98 = .ok (.aload_n 0, 1) := dop_42 (zb_X12_findAsked_2 20 rfl)
theorem dX12_findAsked_99 : decode cX12_findAsked 99 = .ok (.getfield 487, 3) := dop_180 (zb_X12_findAsked_2 21 rfl) (zb_X12_findAsked_2 22 rfl) (zb_X12_findAsked_2 23 rfl) rfl
theorem dX12_findAsked_102 : decode cX12_findAsked 102 = .ok (.iload_n 1, 1) := dop_27 (zb_X12_findAsked_2 24 rfl)
theorem dX12_findAsked_103 : decode cX12_findAsked 103 = .ok (.iastore, 1) := dop_79 (zb_X12_findAsked_2 25 rfl)
theorem dX12_findAsked_104 : decode cX12_findAsked 104 = .ok (.aload_n 0, 1) := dop_42 (zb_X12_findAsked_2 26 rfl)
theorem dX12_findAsked_105 : decode cX12_findAsked 105 = .ok (.dup, 1) := dop_89 (zb_X12_findAsked_2 27 rfl)
theorem dX12_findAsked_106 : decode cX12_findAsked 106 = .ok (.getfield 487, 3) := dop_180 (zb_X12_findAsked_2 28 rfl) (zb_X12_findAsked_2 29 rfl) (zb_X12_findAsked_2 30 rfl) rfl
theorem dX12_findAsked_109 : decode cX12_findAsked 109 = .ok (.iconst 1, 1) := dop_4 (zb_X12_findAsked_2 31 rfl)
theorem dX12_findAsked_110 : decode cX12_findAsked 110 = .ok (.iadd, 1) := dop_96 (zb_X12_findAsked_2 32 rfl)
theorem dX12_findAsked_111 : decode cX12_findAsked 111 = .ok (.putfield 487, 3) := dop_181 (zb_X12_findAsked_2 33 rfl) (zb_X12_findAsked_2 34 rfl) (zb_X12_findAsked_2 35 rfl) rfl
theorem dX12_findAsked_114 : decode cX12_findAsked 114 = .ok (.iinc 1 1, 3) := dop_132 (zb_X12_findAsked_2 36 rfl) (zb_X12_findAsked_2 37 rfl) (zb_X12_findAsked_2 38 rfl) rfl
theorem zb_X12_findAsked_3 (j : Nat) {n : Nat} (e : zw_X12_findAsked_3[j]? = some n) : dby cX12_findAsked (117 + j) n := dw_b (t := []) ze_X12_findAsked_3 j e
theorem dX12_findAsked_117 : decode cX12_findAsked 117 = .ok (.goto (-106), 3) := dop_167 (zb_X12_findAsked_3 0 rfl) (zb_X12_findAsked_3 1 rfl) (zb_X12_findAsked_3 2 rfl) rfl
theorem dX12_findAsked_120 : decode cX12_findAsked 120 = .ok (.iconst 1, 1) := dop_4 (zb_X12_findAsked_3 3 rfl)
theorem dX12_findAsked_121 : decode cX12_findAsked 121 = .ok (.ireturn, 1) := dop_172 (zb_X12_findAsked_3 4 rfl)
def zw_X12_waysWith_2 : List Nat := [182, 1, 118, 153, 0, 7, 4, 167, 0, 4, 3, 96, 62, 132, 4, 1, 167, 255, 165, 29, 172]
def zt_X12_waysWith_2 : List Nat := zw_X12_waysWith_2 ++ []
def zw_X12_waysWith_1 : List Nat := [42, 180, 1, 231, 162, 0, 30, 42, 180, 0, 55, 42, 180, 0, 127, 21, 5, 46, 21, 4, 5, 21, 5, 104, 122, 6, 126, 79, 132, 5, 1, 167, 255, 223, 29, 42, 42, 182, 1, 114]
def zt_X12_waysWith_1 : List Nat := zw_X12_waysWith_1 ++ zt_X12_waysWith_2
def zw_X12_waysWith_0 : List Nat := [3, 62, 3, 54, 4, 21, 4, 4, 5, 42, 180, 1, 231, 104, 120, 162, 0, 84, 28, 2, 159, 0, 15, 21, 4, 5, 27, 104, 122, 6, 126, 28, 160, 0, 61, 3, 54, 5, 21, 5]
def zt_X12_waysWith_0 : List Nat := zw_X12_waysWith_0 ++ zt_X12_waysWith_1
theorem ze_X12_waysWith_0 : (dcn cX12_waysWith).drop 0 = zt_X12_waysWith_0 := by decide +kernel
theorem ze_X12_waysWith_1 : (dcn cX12_waysWith).drop 40 = zt_X12_waysWith_1 := dw_n (wl := zw_X12_waysWith_0) ze_X12_waysWith_0 rfl
theorem zb_X12_waysWith_0 (j : Nat) {n : Nat} (e : zw_X12_waysWith_0[j]? = some n) : dby cX12_waysWith (0 + j) n := dw_b (t := zt_X12_waysWith_1) ze_X12_waysWith_0 j e
theorem dX12_waysWith_0 : decode cX12_waysWith 0 = .ok (.iconst 0, 1) := dop_3 (zb_X12_waysWith_0 0 rfl)
theorem dX12_waysWith_1 : decode cX12_waysWith 1 = .ok (.istore_n 3, 1) := dop_62 (zb_X12_waysWith_0 1 rfl)
theorem dX12_waysWith_2 : decode cX12_waysWith 2 = .ok (.iconst 0, 1) := dop_3 (zb_X12_waysWith_0 2 rfl)
theorem dX12_waysWith_3 : decode cX12_waysWith 3 = .ok (.istore 4, 2) := dop_54 (zb_X12_waysWith_0 3 rfl) (zb_X12_waysWith_0 4 rfl)
theorem dX12_waysWith_5 : decode cX12_waysWith 5 = .ok (.iload 4, 2) := dop_21 (zb_X12_waysWith_0 5 rfl) (zb_X12_waysWith_0 6 rfl)
theorem dX12_waysWith_7 : decode cX12_waysWith 7 = .ok (.iconst 1, 1) := dop_4 (zb_X12_waysWith_0 7 rfl)
theorem dX12_waysWith_8 : decode cX12_waysWith 8 = .ok (.iconst 2, 1) := dop_5 (zb_X12_waysWith_0 8 rfl)
theorem dX12_waysWith_9 : decode cX12_waysWith 9 = .ok (.aload_n 0, 1) := dop_42 (zb_X12_waysWith_0 9 rfl)
theorem dX12_waysWith_10 : decode cX12_waysWith 10 = .ok (.getfield 487, 3) := dop_180 (zb_X12_waysWith_0 10 rfl) (zb_X12_waysWith_0 11 rfl) (zb_X12_waysWith_0 12 rfl) rfl
theorem dX12_waysWith_13 : decode cX12_waysWith 13 = .ok (.imul, 1) := dop_104 (zb_X12_waysWith_0 13 rfl)
theorem dX12_waysWith_14 : decode cX12_waysWith 14 = .ok (.ishl, 1) := dop_120 (zb_X12_waysWith_0 14 rfl)
theorem dX12_waysWith_15 : decode cX12_waysWith 15 = .ok (.if_icmp .ge 84, 3) := dop_162 (zb_X12_waysWith_0 15 rfl) (zb_X12_waysWith_0 16 rfl) (zb_X12_waysWith_0 17 rfl) rfl
theorem dX12_waysWith_18 : decode cX12_waysWith 18 = .ok (.iload_n 2, 1) := dop_28 (zb_X12_waysWith_0 18 rfl)
theorem dX12_waysWith_19 : decode cX12_waysWith 19 = .ok (.iconst (-1), 1) := dop_2 (zb_X12_waysWith_0 19 rfl)
theorem dX12_waysWith_20 : decode cX12_waysWith 20 = .ok (.if_icmp .eq 15, 3) := dop_159 (zb_X12_waysWith_0 20 rfl) (zb_X12_waysWith_0 21 rfl) (zb_X12_waysWith_0 22 rfl) rfl
theorem dX12_waysWith_23 : decode cX12_waysWith 23 = .ok (.iload 4, 2) := dop_21 (zb_X12_waysWith_0 23 rfl) (zb_X12_waysWith_0 24 rfl)
theorem dX12_waysWith_25 : decode cX12_waysWith 25 = .ok (.iconst 2, 1) := dop_5 (zb_X12_waysWith_0 25 rfl)
theorem dX12_waysWith_26 : decode cX12_waysWith 26 = .ok (.iload_n 1, 1) := dop_27 (zb_X12_waysWith_0 26 rfl)
theorem dX12_waysWith_27 : decode cX12_waysWith 27 = .ok (.imul, 1) := dop_104 (zb_X12_waysWith_0 27 rfl)
theorem dX12_waysWith_28 : decode cX12_waysWith 28 = .ok (.ishr, 1) := dop_122 (zb_X12_waysWith_0 28 rfl)
theorem dX12_waysWith_29 : decode cX12_waysWith 29 = .ok (.iconst 3, 1) := dop_6 (zb_X12_waysWith_0 29 rfl)
theorem dX12_waysWith_30 : decode cX12_waysWith 30 = .ok (.iand, 1) := dop_126 (zb_X12_waysWith_0 30 rfl)
theorem dX12_waysWith_31 : decode cX12_waysWith 31 = .ok (.iload_n 2, 1) := dop_28 (zb_X12_waysWith_0 31 rfl)
theorem dX12_waysWith_32 : decode cX12_waysWith 32 = .ok (.if_icmp .ne 61, 3) := dop_160 (zb_X12_waysWith_0 32 rfl) (zb_X12_waysWith_0 33 rfl) (zb_X12_waysWith_0 34 rfl) rfl
theorem dX12_waysWith_35 : decode cX12_waysWith 35 = .ok (.iconst 0, 1) := dop_3 (zb_X12_waysWith_0 35 rfl)
theorem dX12_waysWith_36 : decode cX12_waysWith 36 = .ok (.istore 5, 2) := dop_54 (zb_X12_waysWith_0 36 rfl) (zb_X12_waysWith_0 37 rfl)
theorem dX12_waysWith_38 : decode cX12_waysWith 38 = .ok (.iload 5, 2) := dop_21 (zb_X12_waysWith_0 38 rfl) (zb_X12_waysWith_0 39 rfl)
theorem ze_X12_waysWith_2 : (dcn cX12_waysWith).drop 80 = zt_X12_waysWith_2 := dw_n (wl := zw_X12_waysWith_1) ze_X12_waysWith_1 rfl
theorem zb_X12_waysWith_1 (j : Nat) {n : Nat} (e : zw_X12_waysWith_1[j]? = some n) : dby cX12_waysWith (40 + j) n := dw_b (t := zt_X12_waysWith_2) ze_X12_waysWith_1 j e
theorem dX12_waysWith_40 : decode cX12_waysWith 40 = .ok (.aload_n 0, 1) := dop_42 (zb_X12_waysWith_1 0 rfl)
theorem dX12_waysWith_41 : decode cX12_waysWith 41 = .ok (.getfield 487, 3) := dop_180 (zb_X12_waysWith_1 1 rfl) (zb_X12_waysWith_1 2 rfl) (zb_X12_waysWith_1 3 rfl) rfl
theorem dX12_waysWith_44 : decode cX12_waysWith 44 = .ok (.if_icmp .ge 30, 3) := dop_162 (zb_X12_waysWith_1 4 rfl) (zb_X12_waysWith_1 5 rfl) (zb_X12_waysWith_1 6 rfl) rfl
theorem dX12_waysWith_47 : decode cX12_waysWith 47 = .ok (.aload_n 0, 1) := dop_42 (zb_X12_waysWith_1 7 rfl)
theorem dX12_waysWith_48 : decode cX12_waysWith 48 = .ok (.getfield 55, 3) := dop_180 (zb_X12_waysWith_1 8 rfl) (zb_X12_waysWith_1 9 rfl) (zb_X12_waysWith_1 10 rfl) rfl
theorem dX12_waysWith_51 : decode cX12_waysWith 51 = .ok (.aload_n 0, 1) := dop_42 (zb_X12_waysWith_1 11 rfl)
theorem dX12_waysWith_52 : decode cX12_waysWith 52 = .ok (.getfield 127, 3) := dop_180 (zb_X12_waysWith_1 12 rfl) (zb_X12_waysWith_1 13 rfl) (zb_X12_waysWith_1 14 rfl) rfl
theorem dX12_waysWith_55 : decode cX12_waysWith 55 = .ok (.iload 5, 2) := dop_21 (zb_X12_waysWith_1 15 rfl) (zb_X12_waysWith_1 16 rfl)
theorem dX12_waysWith_57 : decode cX12_waysWith 57 = .ok (.iaload, 1) := dop_46 (zb_X12_waysWith_1 17 rfl)
theorem dX12_waysWith_58 : decode cX12_waysWith 58 = .ok (.iload 4, 2) := dop_21 (zb_X12_waysWith_1 18 rfl) (zb_X12_waysWith_1 19 rfl)
theorem dX12_waysWith_60 : decode cX12_waysWith 60 = .ok (.iconst 2, 1) := dop_5 (zb_X12_waysWith_1 20 rfl)
theorem dX12_waysWith_61 : decode cX12_waysWith 61 = .ok (.iload 5, 2) := dop_21 (zb_X12_waysWith_1 21 rfl) (zb_X12_waysWith_1 22 rfl)
theorem dX12_waysWith_63 : decode cX12_waysWith 63 = .ok (.imul, 1) := dop_104 (zb_X12_waysWith_1 23 rfl)
theorem dX12_waysWith_64 : decode cX12_waysWith 64 = .ok (.ishr, 1) := dop_122 (zb_X12_waysWith_1 24 rfl)
theorem dX12_waysWith_65 : decode cX12_waysWith 65 = .ok (.iconst 3, 1) := dop_6 (zb_X12_waysWith_1 25 rfl)
theorem dX12_waysWith_66 : decode cX12_waysWith 66 = .ok (.iand, 1) := dop_126 (zb_X12_waysWith_1 26 rfl)
theorem dX12_waysWith_67 : decode cX12_waysWith 67 = .ok (.iastore, 1) := dop_79 (zb_X12_waysWith_1 27 rfl)
theorem dX12_waysWith_68 : decode cX12_waysWith 68 = .ok (.iinc 5 1, 3) := dop_132 (zb_X12_waysWith_1 28 rfl) (zb_X12_waysWith_1 29 rfl) (zb_X12_waysWith_1 30 rfl) rfl
theorem dX12_waysWith_71 : decode cX12_waysWith 71 = .ok (.goto (-33), 3) := dop_167 (zb_X12_waysWith_1 31 rfl) (zb_X12_waysWith_1 32 rfl) (zb_X12_waysWith_1 33 rfl) rfl
theorem dX12_waysWith_74 : decode cX12_waysWith 74 = .ok (.iload_n 3, 1) := dop_29 (zb_X12_waysWith_1 34 rfl)
theorem dX12_waysWith_75 : decode cX12_waysWith 75 = .ok (.aload_n 0, 1) := dop_42 (zb_X12_waysWith_1 35 rfl)
theorem dX12_waysWith_76 : decode cX12_waysWith 76 = .ok (.aload_n 0, 1) := dop_42 (zb_X12_waysWith_1 36 rfl)
theorem dX12_waysWith_77 : decode cX12_waysWith 77 = .ok (.invokevirtual 370, 3) := dop_182 (zb_X12_waysWith_1 37 rfl) (zb_X12_waysWith_1 38 rfl) (zb_X12_waysWith_1 39 rfl) rfl
theorem zb_X12_waysWith_2 (j : Nat) {n : Nat} (e : zw_X12_waysWith_2[j]? = some n) : dby cX12_waysWith (80 + j) n := dw_b (t := []) ze_X12_waysWith_2 j e
theorem dX12_waysWith_80 : decode cX12_waysWith 80 = .ok (.invokevirtual 374, 3) := dop_182 (zb_X12_waysWith_2 0 rfl) (zb_X12_waysWith_2 1 rfl) (zb_X12_waysWith_2 2 rfl) rfl
theorem dX12_waysWith_83 : decode cX12_waysWith 83 = .ok (.ifCond .eq 7, 3) := dop_153 (zb_X12_waysWith_2 3 rfl) (zb_X12_waysWith_2 4 rfl) (zb_X12_waysWith_2 5 rfl) rfl
theorem dX12_waysWith_86 : decode cX12_waysWith 86 = .ok (.iconst 1, 1) := dop_4 (zb_X12_waysWith_2 6 rfl)
theorem dX12_waysWith_87 : decode cX12_waysWith 87 = .ok (.goto 4, 3) := dop_167 (zb_X12_waysWith_2 7 rfl) (zb_X12_waysWith_2 8 rfl) (zb_X12_waysWith_2 9 rfl) rfl
theorem dX12_waysWith_90 : decode cX12_waysWith 90 = .ok (.iconst 0, 1) := dop_3 (zb_X12_waysWith_2 10 rfl)
theorem dX12_waysWith_91 : decode cX12_waysWith 91 = .ok (.iadd, 1) := dop_96 (zb_X12_waysWith_2 11 rfl)
theorem dX12_waysWith_92 : decode cX12_waysWith 92 = .ok (.istore_n 3, 1) := dop_62 (zb_X12_waysWith_2 12 rfl)
theorem dX12_waysWith_93 : decode cX12_waysWith 93 = .ok (.iinc 4 1, 3) := dop_132 (zb_X12_waysWith_2 13 rfl) (zb_X12_waysWith_2 14 rfl) (zb_X12_waysWith_2 15 rfl) rfl
theorem dX12_waysWith_96 : decode cX12_waysWith 96 = .ok (.goto (-91), 3) := dop_167 (zb_X12_waysWith_2 16 rfl) (zb_X12_waysWith_2 17 rfl) (zb_X12_waysWith_2 18 rfl) rfl
theorem dX12_waysWith_99 : decode cX12_waysWith 99 = .ok (.iload_n 3, 1) := dop_29 (zb_X12_waysWith_2 19 rfl)
theorem dX12_waysWith_100 : decode cX12_waysWith 100 = .ok (.ireturn, 1) := dop_172 (zb_X12_waysWith_2 20 rfl)
def zw_X12_whichOf_0 : List Nat := [2, 61, 3, 62, 29, 42, 180, 1, 231, 162, 0, 25, 42, 180, 0, 127, 29, 46, 27, 160, 0, 7, 29, 167, 0, 4, 28, 61, 132, 3, 1, 167, 255, 229, 28, 172]
def zt_X12_whichOf_0 : List Nat := zw_X12_whichOf_0 ++ []
theorem ze_X12_whichOf_0 : (dcn cX12_whichOf).drop 0 = zt_X12_whichOf_0 := by decide +kernel
theorem zb_X12_whichOf_0 (j : Nat) {n : Nat} (e : zw_X12_whichOf_0[j]? = some n) : dby cX12_whichOf (0 + j) n := dw_b (t := []) ze_X12_whichOf_0 j e
theorem dX12_whichOf_0 : decode cX12_whichOf 0 = .ok (.iconst (-1), 1) := dop_2 (zb_X12_whichOf_0 0 rfl)
theorem dX12_whichOf_1 : decode cX12_whichOf 1 = .ok (.istore_n 2, 1) := dop_61 (zb_X12_whichOf_0 1 rfl)
theorem dX12_whichOf_2 : decode cX12_whichOf 2 = .ok (.iconst 0, 1) := dop_3 (zb_X12_whichOf_0 2 rfl)
theorem dX12_whichOf_3 : decode cX12_whichOf 3 = .ok (.istore_n 3, 1) := dop_62 (zb_X12_whichOf_0 3 rfl)
theorem dX12_whichOf_4 : decode cX12_whichOf 4 = .ok (.iload_n 3, 1) := dop_29 (zb_X12_whichOf_0 4 rfl)
theorem dX12_whichOf_5 : decode cX12_whichOf 5 = .ok (.aload_n 0, 1) := dop_42 (zb_X12_whichOf_0 5 rfl)
theorem dX12_whichOf_6 : decode cX12_whichOf 6 = .ok (.getfield 487, 3) := dop_180 (zb_X12_whichOf_0 6 rfl) (zb_X12_whichOf_0 7 rfl) (zb_X12_whichOf_0 8 rfl) rfl
theorem dX12_whichOf_9 : decode cX12_whichOf 9 = .ok (.if_icmp .ge 25, 3) := dop_162 (zb_X12_whichOf_0 9 rfl) (zb_X12_whichOf_0 10 rfl) (zb_X12_whichOf_0 11 rfl) rfl
theorem dX12_whichOf_12 : decode cX12_whichOf 12 = .ok (.aload_n 0, 1) := dop_42 (zb_X12_whichOf_0 12 rfl)
theorem dX12_whichOf_13 : decode cX12_whichOf 13 = .ok (.getfield 127, 3) := dop_180 (zb_X12_whichOf_0 13 rfl) (zb_X12_whichOf_0 14 rfl) (zb_X12_whichOf_0 15 rfl) rfl
theorem dX12_whichOf_16 : decode cX12_whichOf 16 = .ok (.iload_n 3, 1) := dop_29 (zb_X12_whichOf_0 16 rfl)
theorem dX12_whichOf_17 : decode cX12_whichOf 17 = .ok (.iaload, 1) := dop_46 (zb_X12_whichOf_0 17 rfl)
theorem dX12_whichOf_18 : decode cX12_whichOf 18 = .ok (.iload_n 1, 1) := dop_27 (zb_X12_whichOf_0 18 rfl)
theorem dX12_whichOf_19 : decode cX12_whichOf 19 = .ok (.if_icmp .ne 7, 3) := dop_160 (zb_X12_whichOf_0 19 rfl) (zb_X12_whichOf_0 20 rfl) (zb_X12_whichOf_0 21 rfl) rfl
theorem dX12_whichOf_22 : decode cX12_whichOf 22 = .ok (.iload_n 3, 1) := dop_29 (zb_X12_whichOf_0 22 rfl)
theorem dX12_whichOf_23 : decode cX12_whichOf 23 = .ok (.goto 4, 3) := dop_167 (zb_X12_whichOf_0 23 rfl) (zb_X12_whichOf_0 24 rfl) (zb_X12_whichOf_0 25 rfl) rfl
theorem dX12_whichOf_26 : decode cX12_whichOf 26 = .ok (.iload_n 2, 1) := dop_28 (zb_X12_whichOf_0 26 rfl)
theorem dX12_whichOf_27 : decode cX12_whichOf 27 = .ok (.istore_n 2, 1) := dop_61 (zb_X12_whichOf_0 27 rfl)
theorem dX12_whichOf_28 : decode cX12_whichOf 28 = .ok (.iinc 3 1, 3) := dop_132 (zb_X12_whichOf_0 28 rfl) (zb_X12_whichOf_0 29 rfl) (zb_X12_whichOf_0 30 rfl) rfl
theorem dX12_whichOf_31 : decode cX12_whichOf 31 = .ok (.goto (-27), 3) := dop_167 (zb_X12_whichOf_0 31 rfl) (zb_X12_whichOf_0 32 rfl) (zb_X12_whichOf_0 33 rfl) rfl
theorem dX12_whichOf_34 : decode cX12_whichOf 34 = .ok (.iload_n 2, 1) := dop_28 (zb_X12_whichOf_0 34 rfl)
theorem dX12_whichOf_35 : decode cX12_whichOf 35 = .ok (.ireturn, 1) := dop_172 (zb_X12_whichOf_0 35 rfl)
def zw_X12_whose_1 : List Nat := [62, 3, 54, 4, 21, 4, 7, 162, 0, 31, 42, 28, 21, 4, 182, 1, 237, 158, 0, 15, 29, 2, 160, 0, 8, 21, 4, 167, 0, 4, 8, 62, 132, 4, 1, 167, 255, 225, 29, 172]
def zt_X12_whose_1 : List Nat := zw_X12_whose_1 ++ []
def zw_X12_whose_0 : List Nat := [42, 3, 181, 0, 133, 42, 182, 1, 234, 154, 0, 5, 2, 172, 27, 2, 160, 0, 10, 42, 3, 2, 182, 1, 237, 172, 42, 27, 182, 1, 240, 61, 28, 2, 160, 0, 5, 2, 172, 2]
def zt_X12_whose_0 : List Nat := zw_X12_whose_0 ++ zt_X12_whose_1
theorem ze_X12_whose_0 : (dcn cX12_whose).drop 0 = zt_X12_whose_0 := by decide +kernel
theorem ze_X12_whose_1 : (dcn cX12_whose).drop 40 = zt_X12_whose_1 := dw_n (wl := zw_X12_whose_0) ze_X12_whose_0 rfl
theorem zb_X12_whose_0 (j : Nat) {n : Nat} (e : zw_X12_whose_0[j]? = some n) : dby cX12_whose (0 + j) n := dw_b (t := zt_X12_whose_1) ze_X12_whose_0 j e
theorem dX12_whose_0 : decode cX12_whose 0 = .ok (.aload_n 0, 1) := dop_42 (zb_X12_whose_0 0 rfl)
theorem dX12_whose_1 : decode cX12_whose 1 = .ok (.iconst 0, 1) := dop_3 (zb_X12_whose_0 1 rfl)
theorem dX12_whose_2 : decode cX12_whose 2 = .ok (.putfield 133, 3) := dop_181 (zb_X12_whose_0 2 rfl) (zb_X12_whose_0 3 rfl) (zb_X12_whose_0 4 rfl) rfl
theorem dX12_whose_5 : decode cX12_whose 5 = .ok (.aload_n 0, 1) := dop_42 (zb_X12_whose_0 5 rfl)
theorem dX12_whose_6 : decode cX12_whose 6 = .ok (.invokevirtual 490, 3) := dop_182 (zb_X12_whose_0 6 rfl) (zb_X12_whose_0 7 rfl) (zb_X12_whose_0 8 rfl) rfl
theorem dX12_whose_9 : decode cX12_whose 9 = .ok (.ifCond .ne 5, 3) := dop_154 (zb_X12_whose_0 9 rfl) (zb_X12_whose_0 10 rfl) (zb_X12_whose_0 11 rfl) rfl
theorem dX12_whose_12 : decode cX12_whose 12 = .ok (.iconst (-1), 1) := dop_2 (zb_X12_whose_0 12 rfl)
theorem dX12_whose_13 : decode cX12_whose 13 = .ok (.ireturn, 1) := dop_172 (zb_X12_whose_0 13 rfl)
theorem dX12_whose_14 : decode cX12_whose 14 = .ok (.iload_n 1, 1) := dop_27 (zb_X12_whose_0 14 rfl)
theorem dX12_whose_15 : decode cX12_whose 15 = .ok (.iconst (-1), 1) := dop_2 (zb_X12_whose_0 15 rfl)
theorem dX12_whose_16 : decode cX12_whose 16 = .ok (.if_icmp .ne 10, 3) := dop_160 (zb_X12_whose_0 16 rfl) (zb_X12_whose_0 17 rfl) (zb_X12_whose_0 18 rfl) rfl
theorem dX12_whose_19 : decode cX12_whose 19 = .ok (.aload_n 0, 1) := dop_42 (zb_X12_whose_0 19 rfl)
theorem dX12_whose_20 : decode cX12_whose 20 = .ok (.iconst 0, 1) := dop_3 (zb_X12_whose_0 20 rfl)
theorem dX12_whose_21 : decode cX12_whose 21 = .ok (.iconst (-1), 1) := dop_2 (zb_X12_whose_0 21 rfl)
theorem dX12_whose_22 : decode cX12_whose 22 = .ok (.invokevirtual 493, 3) := dop_182 (zb_X12_whose_0 22 rfl) (zb_X12_whose_0 23 rfl) (zb_X12_whose_0 24 rfl) rfl
theorem dX12_whose_25 : decode cX12_whose 25 = .ok (.ireturn, 1) := dop_172 (zb_X12_whose_0 25 rfl)
theorem dX12_whose_26 : decode cX12_whose 26 = .ok (.aload_n 0, 1) := dop_42 (zb_X12_whose_0 26 rfl)
theorem dX12_whose_27 : decode cX12_whose 27 = .ok (.iload_n 1, 1) := dop_27 (zb_X12_whose_0 27 rfl)
theorem dX12_whose_28 : decode cX12_whose 28 = .ok (.invokevirtual 496, 3) := dop_182 (zb_X12_whose_0 28 rfl) (zb_X12_whose_0 29 rfl) (zb_X12_whose_0 30 rfl) rfl
theorem dX12_whose_31 : decode cX12_whose 31 = .ok (.istore_n 2, 1) := dop_61 (zb_X12_whose_0 31 rfl)
theorem dX12_whose_32 : decode cX12_whose 32 = .ok (.iload_n 2, 1) := dop_28 (zb_X12_whose_0 32 rfl)
theorem dX12_whose_33 : decode cX12_whose 33 = .ok (.iconst (-1), 1) := dop_2 (zb_X12_whose_0 33 rfl)
theorem dX12_whose_34 : decode cX12_whose 34 = .ok (.if_icmp .ne 5, 3) := dop_160 (zb_X12_whose_0 34 rfl) (zb_X12_whose_0 35 rfl) (zb_X12_whose_0 36 rfl) rfl
theorem dX12_whose_37 : decode cX12_whose 37 = .ok (.iconst (-1), 1) := dop_2 (zb_X12_whose_0 37 rfl)
theorem dX12_whose_38 : decode cX12_whose 38 = .ok (.ireturn, 1) := dop_172 (zb_X12_whose_0 38 rfl)
theorem dX12_whose_39 : decode cX12_whose 39 = .ok (.iconst (-1), 1) := dop_2 (zb_X12_whose_0 39 rfl)
theorem zb_X12_whose_1 (j : Nat) {n : Nat} (e : zw_X12_whose_1[j]? = some n) : dby cX12_whose (40 + j) n := dw_b (t := []) ze_X12_whose_1 j e
theorem dX12_whose_40 : decode cX12_whose 40 = .ok (.istore_n 3, 1) := dop_62 (zb_X12_whose_1 0 rfl)
theorem dX12_whose_41 : decode cX12_whose 41 = .ok (.iconst 0, 1) := dop_3 (zb_X12_whose_1 1 rfl)
theorem dX12_whose_42 : decode cX12_whose 42 = .ok (.istore 4, 2) := dop_54 (zb_X12_whose_1 2 rfl) (zb_X12_whose_1 3 rfl)
theorem dX12_whose_44 : decode cX12_whose 44 = .ok (.iload 4, 2) := dop_21 (zb_X12_whose_1 4 rfl) (zb_X12_whose_1 5 rfl)
theorem dX12_whose_46 : decode cX12_whose 46 = .ok (.iconst 4, 1) := dop_7 (zb_X12_whose_1 6 rfl)
theorem dX12_whose_47 : decode cX12_whose 47 = .ok (.if_icmp .ge 31, 3) := dop_162 (zb_X12_whose_1 7 rfl) (zb_X12_whose_1 8 rfl) (zb_X12_whose_1 9 rfl) rfl
theorem dX12_whose_50 : decode cX12_whose 50 = .ok (.aload_n 0, 1) := dop_42 (zb_X12_whose_1 10 rfl)
theorem dX12_whose_51 : decode cX12_whose 51 = .ok (.iload_n 2, 1) := dop_28 (zb_X12_whose_1 11 rfl)
theorem dX12_whose_52 : decode cX12_whose 52 = .ok (.iload 4, 2) := dop_21 (zb_X12_whose_1 12 rfl) (zb_X12_whose_1 13 rfl)
theorem dX12_whose_54 : decode cX12_whose 54 = .ok (.invokevirtual 493, 3) := dop_182 (zb_X12_whose_1 14 rfl) (zb_X12_whose_1 15 rfl) (zb_X12_whose_1 16 rfl) rfl
theorem dX12_whose_57 : decode cX12_whose 57 = .ok (.ifCond .le 15, 3) := dop_158 (zb_X12_whose_1 17 rfl) (zb_X12_whose_1 18 rfl) (zb_X12_whose_1 19 rfl) rfl
theorem dX12_whose_60 : decode cX12_whose 60 = .ok (.iload_n 3, 1) := dop_29 (zb_X12_whose_1 20 rfl)
theorem dX12_whose_61 : decode cX12_whose 61 = .ok (.iconst (-1), 1) := dop_2 (zb_X12_whose_1 21 rfl)
theorem dX12_whose_62 : decode cX12_whose 62 = .ok (.if_icmp .ne 8, 3) := dop_160 (zb_X12_whose_1 22 rfl) (zb_X12_whose_1 23 rfl) (zb_X12_whose_1 24 rfl) rfl
theorem dX12_whose_65 : decode cX12_whose 65 = .ok (.iload 4, 2) := dop_21 (zb_X12_whose_1 25 rfl) (zb_X12_whose_1 26 rfl)
theorem dX12_whose_67 : decode cX12_whose 67 = .ok (.goto 4, 3) := dop_167 (zb_X12_whose_1 27 rfl) (zb_X12_whose_1 28 rfl) (zb_X12_whose_1 29 rfl) rfl
theorem dX12_whose_70 : decode cX12_whose 70 = .ok (.iconst 5, 1) := dop_8 (zb_X12_whose_1 30 rfl)
theorem dX12_whose_71 : decode cX12_whose 71 = .ok (.istore_n 3, 1) := dop_62 (zb_X12_whose_1 31 rfl)
theorem dX12_whose_72 : decode cX12_whose 72 = .ok (.iinc 4 1, 3) := dop_132 (zb_X12_whose_1 32 rfl) (zb_X12_whose_1 33 rfl) (zb_X12_whose_1 34 rfl) rfl
theorem dX12_whose_75 : decode cX12_whose 75 = .ok (.goto (-31), 3) := dop_167 (zb_X12_whose_1 35 rfl) (zb_X12_whose_1 36 rfl) (zb_X12_whose_1 37 rfl) rfl
theorem dX12_whose_78 : decode cX12_whose 78 = .ok (.iload_n 3, 1) := dop_29 (zb_X12_whose_1 38 rfl)
theorem dX12_whose_79 : decode cX12_whose 79 = .ok (.ireturn, 1) := dop_172 (zb_X12_whose_1 39 rfl)
def zw_X12_could_1 : List Nat := [182, 1, 237, 172]
def zt_X12_could_1 : List Nat := zw_X12_could_1 ++ []
def zw_X12_could_0 : List Nat := [42, 3, 181, 0, 133, 28, 184, 0, 169, 153, 0, 10, 42, 182, 1, 234, 154, 0, 5, 2, 172, 42, 27, 182, 1, 240, 62, 29, 2, 160, 0, 7, 2, 167, 0, 9, 42, 29, 28]
def zt_X12_could_0 : List Nat := zw_X12_could_0 ++ zt_X12_could_1
theorem ze_X12_could_0 : (dcn cX12_could).drop 0 = zt_X12_could_0 := by decide +kernel
theorem ze_X12_could_1 : (dcn cX12_could).drop 39 = zt_X12_could_1 := dw_n (wl := zw_X12_could_0) ze_X12_could_0 rfl
theorem zb_X12_could_0 (j : Nat) {n : Nat} (e : zw_X12_could_0[j]? = some n) : dby cX12_could (0 + j) n := dw_b (t := zt_X12_could_1) ze_X12_could_0 j e
theorem dX12_could_0 : decode cX12_could 0 = .ok (.aload_n 0, 1) := dop_42 (zb_X12_could_0 0 rfl)
theorem dX12_could_1 : decode cX12_could 1 = .ok (.iconst 0, 1) := dop_3 (zb_X12_could_0 1 rfl)
theorem dX12_could_2 : decode cX12_could 2 = .ok (.putfield 133, 3) := dop_181 (zb_X12_could_0 2 rfl) (zb_X12_could_0 3 rfl) (zb_X12_could_0 4 rfl) rfl
theorem dX12_could_5 : decode cX12_could 5 = .ok (.iload_n 2, 1) := dop_28 (zb_X12_could_0 5 rfl)
theorem dX12_could_6 : decode cX12_could 6 = .ok (.invokestatic 169, 3) := dop_184 (zb_X12_could_0 6 rfl) (zb_X12_could_0 7 rfl) (zb_X12_could_0 8 rfl) rfl
theorem dX12_could_9 : decode cX12_could 9 = .ok (.ifCond .eq 10, 3) := dop_153 (zb_X12_could_0 9 rfl) (zb_X12_could_0 10 rfl) (zb_X12_could_0 11 rfl) rfl
theorem dX12_could_12 : decode cX12_could 12 = .ok (.aload_n 0, 1) := dop_42 (zb_X12_could_0 12 rfl)
theorem dX12_could_13 : decode cX12_could 13 = .ok (.invokevirtual 490, 3) := dop_182 (zb_X12_could_0 13 rfl) (zb_X12_could_0 14 rfl) (zb_X12_could_0 15 rfl) rfl
theorem dX12_could_16 : decode cX12_could 16 = .ok (.ifCond .ne 5, 3) := dop_154 (zb_X12_could_0 16 rfl) (zb_X12_could_0 17 rfl) (zb_X12_could_0 18 rfl) rfl
theorem dX12_could_19 : decode cX12_could 19 = .ok (.iconst (-1), 1) := dop_2 (zb_X12_could_0 19 rfl)
theorem dX12_could_20 : decode cX12_could 20 = .ok (.ireturn, 1) := dop_172 (zb_X12_could_0 20 rfl)
theorem dX12_could_21 : decode cX12_could 21 = .ok (.aload_n 0, 1) := dop_42 (zb_X12_could_0 21 rfl)
theorem dX12_could_22 : decode cX12_could 22 = .ok (.iload_n 1, 1) := dop_27 (zb_X12_could_0 22 rfl)
theorem dX12_could_23 : decode cX12_could 23 = .ok (.invokevirtual 496, 3) := dop_182 (zb_X12_could_0 23 rfl) (zb_X12_could_0 24 rfl) (zb_X12_could_0 25 rfl) rfl
theorem dX12_could_26 : decode cX12_could 26 = .ok (.istore_n 3, 1) := dop_62 (zb_X12_could_0 26 rfl)
theorem dX12_could_27 : decode cX12_could 27 = .ok (.iload_n 3, 1) := dop_29 (zb_X12_could_0 27 rfl)
theorem dX12_could_28 : decode cX12_could 28 = .ok (.iconst (-1), 1) := dop_2 (zb_X12_could_0 28 rfl)
theorem dX12_could_29 : decode cX12_could 29 = .ok (.if_icmp .ne 7, 3) := dop_160 (zb_X12_could_0 29 rfl) (zb_X12_could_0 30 rfl) (zb_X12_could_0 31 rfl) rfl
theorem dX12_could_32 : decode cX12_could 32 = .ok (.iconst (-1), 1) := dop_2 (zb_X12_could_0 32 rfl)
theorem dX12_could_33 : decode cX12_could 33 = .ok (.goto 9, 3) := dop_167 (zb_X12_could_0 33 rfl) (zb_X12_could_0 34 rfl) (zb_X12_could_0 35 rfl) rfl
theorem dX12_could_36 : decode cX12_could 36 = .ok (.aload_n 0, 1) := dop_42 (zb_X12_could_0 36 rfl)
theorem dX12_could_37 : decode cX12_could 37 = .ok (.iload_n 3, 1) := dop_29 (zb_X12_could_0 37 rfl)
theorem dX12_could_38 : decode cX12_could 38 = .ok (.iload_n 2, 1) := dop_28 (zb_X12_could_0 38 rfl)
theorem zb_X12_could_1 (j : Nat) {n : Nat} (e : zw_X12_could_1[j]? = some n) : dby cX12_could (39 + j) n := dw_b (t := []) ze_X12_could_1 j e
theorem dX12_could_39 : decode cX12_could 39 = .ok (.invokevirtual 493, 3) := dop_182 (zb_X12_could_1 0 rfl) (zb_X12_could_1 1 rfl) (zb_X12_could_1 2 rfl) rfl
theorem dX12_could_42 : decode cX12_could 42 = .ok (.ireturn, 1) := dop_172 (zb_X12_could_1 3 rfl)
def zw_X12_when_3 : List Nat := [167, 255, 205, 28, 154, 0, 7, 29, 167, 0, 15, 28, 4, 160, 0, 8, 21, 4, 167, 0, 5, 21, 5, 172]
def zt_X12_when_3 : List Nat := zw_X12_when_3 ++ []
def zw_X12_when_2 : List Nat := [21, 6, 79, 42, 42, 182, 1, 114, 182, 1, 118, 153, 0, 25, 132, 3, 1, 21, 4, 2, 160, 0, 8, 21, 6, 167, 0, 5, 21, 4, 54, 4, 21, 6, 54, 5, 132, 6, 1]
def zt_X12_when_2 : List Nat := zw_X12_when_2 ++ zt_X12_when_3
def zw_X12_when_1 : List Nat := [167, 0, 4, 3, 96, 46, 2, 159, 0, 5, 2, 172, 42, 182, 1, 111, 3, 62, 2, 54, 4, 2, 54, 5, 4, 54, 6, 21, 6, 16, 32, 162, 0, 50, 42, 180, 0, 58, 27]
def zt_X12_when_1 : List Nat := zw_X12_when_1 ++ zt_X12_when_2
def zw_X12_when_0 : List Nat := [42, 3, 181, 0, 133, 27, 184, 0, 166, 153, 0, 39, 28, 133, 9, 20, 0, 182, 184, 0, 143, 153, 0, 27, 42, 180, 0, 13, 16, 42, 27, 184, 0, 166, 153, 0, 7, 27]
def zt_X12_when_0 : List Nat := zw_X12_when_0 ++ zt_X12_when_1
theorem ze_X12_when_0 : (dcn cX12_when).drop 0 = zt_X12_when_0 := by decide +kernel
theorem ze_X12_when_1 : (dcn cX12_when).drop 38 = zt_X12_when_1 := dw_n (wl := zw_X12_when_0) ze_X12_when_0 rfl
theorem zb_X12_when_0 (j : Nat) {n : Nat} (e : zw_X12_when_0[j]? = some n) : dby cX12_when (0 + j) n := dw_b (t := zt_X12_when_1) ze_X12_when_0 j e
theorem dX12_when_0 : decode cX12_when 0 = .ok (.aload_n 0, 1) := dop_42 (zb_X12_when_0 0 rfl)
theorem dX12_when_1 : decode cX12_when 1 = .ok (.iconst 0, 1) := dop_3 (zb_X12_when_0 1 rfl)
theorem dX12_when_2 : decode cX12_when 2 = .ok (.putfield 133, 3) := dop_181 (zb_X12_when_0 2 rfl) (zb_X12_when_0 3 rfl) (zb_X12_when_0 4 rfl) rfl
theorem dX12_when_5 : decode cX12_when 5 = .ok (.iload_n 1, 1) := dop_27 (zb_X12_when_0 5 rfl)
theorem dX12_when_6 : decode cX12_when 6 = .ok (.invokestatic 166, 3) := dop_184 (zb_X12_when_0 6 rfl) (zb_X12_when_0 7 rfl) (zb_X12_when_0 8 rfl) rfl
theorem dX12_when_9 : decode cX12_when 9 = .ok (.ifCond .eq 39, 3) := dop_153 (zb_X12_when_0 9 rfl) (zb_X12_when_0 10 rfl) (zb_X12_when_0 11 rfl) rfl
theorem dX12_when_12 : decode cX12_when 12 = .ok (.iload_n 2, 1) := dop_28 (zb_X12_when_0 12 rfl)
theorem dX12_when_13 : decode cX12_when 13 = .ok (.i2l, 1) := dop_133 (zb_X12_when_0 13 rfl)
theorem dX12_when_14 : decode cX12_when 14 = .ok (.lconst 0, 1) := dop_9 (zb_X12_when_0 14 rfl)
theorem dX12_when_15 : decode cX12_when 15 = .ok (.ldc2_w 182, 3) := dop_20 (zb_X12_when_0 15 rfl) (zb_X12_when_0 16 rfl) (zb_X12_when_0 17 rfl) rfl
theorem dX12_when_18 : decode cX12_when 18 = .ok (.invokestatic 143, 3) := dop_184 (zb_X12_when_0 18 rfl) (zb_X12_when_0 19 rfl) (zb_X12_when_0 20 rfl) rfl
theorem dX12_when_21 : decode cX12_when 21 = .ok (.ifCond .eq 27, 3) := dop_153 (zb_X12_when_0 21 rfl) (zb_X12_when_0 22 rfl) (zb_X12_when_0 23 rfl) rfl
theorem dX12_when_24 : decode cX12_when 24 = .ok (.aload_n 0, 1) := dop_42 (zb_X12_when_0 24 rfl)
theorem dX12_when_25 : decode cX12_when 25 = .ok (.getfield 13, 3) := dop_180 (zb_X12_when_0 25 rfl) (zb_X12_when_0 26 rfl) (zb_X12_when_0 27 rfl) rfl
theorem dX12_when_28 : decode cX12_when 28 = .ok (.bipush 42, 2) := dop_16 (zb_X12_when_0 28 rfl) (zb_X12_when_0 29 rfl) rfl
theorem dX12_when_30 : decode cX12_when 30 = .ok (.iload_n 1, 1) := dop_27 (zb_X12_when_0 30 rfl)
theorem dX12_when_31 : decode cX12_when 31 = .ok (.invokestatic 166, 3) := dop_184 (zb_X12_when_0 31 rfl) (zb_X12_when_0 32 rfl) (zb_X12_when_0 33 rfl) rfl
theorem dX12_when_34 : decode cX12_when 34 = .ok (.ifCond .eq 7, 3) := dop_153 (zb_X12_when_0 34 rfl) (zb_X12_when_0 35 rfl) (zb_X12_when_0 36 rfl) rfl
theorem dX12_when_37 : decode cX12_when 37 = .ok (.iload_n 1, 1) := dop_27 (zb_X12_when_0 37 rfl)
theorem ze_X12_when_2 : (dcn cX12_when).drop 77 = zt_X12_when_2 := dw_n (wl := zw_X12_when_1) ze_X12_when_1 rfl
theorem zb_X12_when_1 (j : Nat) {n : Nat} (e : zw_X12_when_1[j]? = some n) : dby cX12_when (38 + j) n := dw_b (t := zt_X12_when_2) ze_X12_when_1 j e
theorem dX12_when_38 : decode cX12_when 38 = .ok (.goto 4, 3) := dop_167 (zb_X12_when_1 0 rfl) (zb_X12_when_1 1 rfl) (zb_X12_when_1 2 rfl) rfl
theorem dX12_when_41 : decode cX12_when 41 = .ok (.iconst 0, 1) := dop_3 (zb_X12_when_1 3 rfl)
theorem dX12_when_42 : decode cX12_when 42 = .ok (.iadd, 1) := dop_96 (zb_X12_when_1 4 rfl)
theorem dX12_when_43 : decode cX12_when 43 = .ok (.iaload, 1) := dop_46 (zb_X12_when_1 5 rfl)
theorem dX12_when_44 : decode cX12_when 44 = .ok (.iconst (-1), 1) := dop_2 (zb_X12_when_1 6 rfl)
theorem dX12_when_45 : decode cX12_when 45 = .ok (.if_icmp .eq 5, 3) := dop_159 (zb_X12_when_1 7 rfl) (zb_X12_when_1 8 rfl) (zb_X12_when_1 9 rfl) rfl
theorem dX12_when_48 : decode cX12_when 48 = .ok (.iconst (-1), 1) := dop_2 (zb_X12_when_1 10 rfl)
theorem dX12_when_49 : decode cX12_when 49 = .ok (.ireturn, 1) := dop_172 (zb_X12_when_1 11 rfl)
theorem dX12_when_50 : decode cX12_when 50 = .ok (.aload_n 0, 1) := dop_42 (zb_X12_when_1 12 rfl)
theorem dX12_when_51 : decode cX12_when 51 = .ok (.invokevirtual 367, 3) := dop_182 (zb_X12_when_1 13 rfl) (zb_X12_when_1 14 rfl) (zb_X12_when_1 15 rfl) rfl
theorem dX12_when_54 : decode cX12_when 54 = .ok (.iconst 0, 1) := dop_3 (zb_X12_when_1 16 rfl)
theorem dX12_when_55 : decode cX12_when 55 = .ok (.istore_n 3, 1) := dop_62 (zb_X12_when_1 17 rfl)
theorem dX12_when_56 : decode cX12_when 56 = .ok (.iconst (-1), 1) := dop_2 (zb_X12_when_1 18 rfl)
theorem dX12_when_57 : decode cX12_when 57 = .ok (.istore 4, 2) := dop_54 (zb_X12_when_1 19 rfl) (zb_X12_when_1 20 rfl)
theorem dX12_when_59 : decode cX12_when 59 = .ok (.iconst (-1), 1) := dop_2 (zb_X12_when_1 21 rfl)
theorem dX12_when_60 : decode cX12_when 60 = .ok (.istore 5, 2) := dop_54 (zb_X12_when_1 22 rfl) (zb_X12_when_1 23 rfl)
theorem dX12_when_62 : decode cX12_when 62 = .ok (.iconst 1, 1) := dop_4 (zb_X12_when_1 24 rfl)
theorem dX12_when_63 : decode cX12_when 63 = .ok (.istore 6, 2) := dop_54 (zb_X12_when_1 25 rfl) (zb_X12_when_1 26 rfl)
theorem dX12_when_65 : decode cX12_when 65 = .ok (.iload 6, 2) := dop_21 (zb_X12_when_1 27 rfl) (zb_X12_when_1 28 rfl)
theorem dX12_when_67 : decode cX12_when 67 = .ok (.bipush 32, 2) := dop_16 (zb_X12_when_1 29 rfl) (zb_X12_when_1 30 rfl) rfl
theorem dX12_when_69 : decode cX12_when 69 = .ok (.if_icmp .ge 50, 3) := dop_162 (zb_X12_when_1 31 rfl) (zb_X12_when_1 32 rfl) (zb_X12_when_1 33 rfl) rfl
theorem dX12_when_72 : decode cX12_when 72 = .ok (.aload_n 0, 1) := dop_42 (zb_X12_when_1 34 rfl)
theorem dX12_when_73 : decode cX12_when 73 = .ok (.getfield 58, 3) := dop_180 (zb_X12_when_1 35 rfl) (zb_X12_when_1 36 rfl) (zb_X12_when_1 37 rfl) rfl
theorem dX12_when_76 : decode cX12_when 76 = .ok (.iload_n 1, 1) := dop_27 (zb_X12_when_1 38 rfl)
theorem ze_X12_when_3 : (dcn cX12_when).drop 116 = zt_X12_when_3 := dw_n (wl := zw_X12_when_2) ze_X12_when_2 rfl
theorem zb_X12_when_2 (j : Nat) {n : Nat} (e : zw_X12_when_2[j]? = some n) : dby cX12_when (77 + j) n := dw_b (t := zt_X12_when_3) ze_X12_when_2 j e
theorem dX12_when_77 : decode cX12_when 77 = .ok (.iload 6, 2) := dop_21 (zb_X12_when_2 0 rfl) (zb_X12_when_2 1 rfl)
theorem dX12_when_79 : decode cX12_when 79 = .ok (.iastore, 1) := dop_79 (zb_X12_when_2 2 rfl)
theorem dX12_when_80 : decode cX12_when 80 = .ok (.aload_n 0, 1) := dop_42 (zb_X12_when_2 3 rfl)
theorem dX12_when_81 : decode cX12_when 81 = .ok (.aload_n 0, 1) := dop_42 (zb_X12_when_2 4 rfl)
theorem dX12_when_82 : decode cX12_when 82 = .ok (.invokevirtual 370, 3) := dop_182 (zb_X12_when_2 5 rfl) (zb_X12_when_2 6 rfl) (zb_X12_when_2 7 rfl) rfl
theorem dX12_when_85 : decode cX12_when 85 = .ok (.invokevirtual 374, 3) := dop_182 (zb_X12_when_2 8 rfl) (zb_X12_when_2 9 rfl) (zb_X12_when_2 10 rfl) rfl
theorem dX12_when_88 : decode cX12_when 88 = .ok (.ifCond .eq 25, 3) := dop_153 (zb_X12_when_2 11 rfl) (zb_X12_when_2 12 rfl) (zb_X12_when_2 13 rfl) rfl
theorem dX12_when_91 : decode cX12_when 91 = .ok (.iinc 3 1, 3) := dop_132 (zb_X12_when_2 14 rfl) (zb_X12_when_2 15 rfl) (zb_X12_when_2 16 rfl) rfl
theorem dX12_when_94 : decode cX12_when 94 = .ok (.iload 4, 2) := dop_21 (zb_X12_when_2 17 rfl) (zb_X12_when_2 18 rfl)
theorem dX12_when_96 : decode cX12_when 96 = .ok (.iconst (-1), 1) := dop_2 (zb_X12_when_2 19 rfl)
theorem dX12_when_97 : decode cX12_when 97 = .ok (.if_icmp .ne 8, 3) := dop_160 (zb_X12_when_2 20 rfl) (zb_X12_when_2 21 rfl) (zb_X12_when_2 22 rfl) rfl
theorem dX12_when_100 : decode cX12_when 100 = .ok (.iload 6, 2) := dop_21 (zb_X12_when_2 23 rfl) (zb_X12_when_2 24 rfl)
theorem dX12_when_102 : decode cX12_when 102 = .ok (.goto 5, 3) := dop_167 (zb_X12_when_2 25 rfl) (zb_X12_when_2 26 rfl) (zb_X12_when_2 27 rfl) rfl
theorem dX12_when_105 : decode cX12_when 105 = .ok (.iload 4, 2) := dop_21 (zb_X12_when_2 28 rfl) (zb_X12_when_2 29 rfl)
theorem dX12_when_107 : decode cX12_when 107 = .ok (.istore 4, 2) := dop_54 (zb_X12_when_2 30 rfl) (zb_X12_when_2 31 rfl)
theorem dX12_when_109 : decode cX12_when 109 = .ok (.iload 6, 2) := dop_21 (zb_X12_when_2 32 rfl) (zb_X12_when_2 33 rfl)
theorem dX12_when_111 : decode cX12_when 111 = .ok (.istore 5, 2) := dop_54 (zb_X12_when_2 34 rfl) (zb_X12_when_2 35 rfl)
theorem dX12_when_113 : decode cX12_when 113 = .ok (.iinc 6 1, 3) := dop_132 (zb_X12_when_2 36 rfl) (zb_X12_when_2 37 rfl) (zb_X12_when_2 38 rfl) rfl
theorem zb_X12_when_3 (j : Nat) {n : Nat} (e : zw_X12_when_3[j]? = some n) : dby cX12_when (116 + j) n := dw_b (t := []) ze_X12_when_3 j e
theorem dX12_when_116 : decode cX12_when 116 = .ok (.goto (-51), 3) := dop_167 (zb_X12_when_3 0 rfl) (zb_X12_when_3 1 rfl) (zb_X12_when_3 2 rfl) rfl
theorem dX12_when_119 : decode cX12_when 119 = .ok (.iload_n 2, 1) := dop_28 (zb_X12_when_3 3 rfl)
theorem dX12_when_120 : decode cX12_when 120 = .ok (.ifCond .ne 7, 3) := dop_154 (zb_X12_when_3 4 rfl) (zb_X12_when_3 5 rfl) (zb_X12_when_3 6 rfl) rfl
theorem dX12_when_123 : decode cX12_when 123 = .ok (.iload_n 3, 1) := dop_29 (zb_X12_when_3 7 rfl)
theorem dX12_when_124 : decode cX12_when 124 = .ok (.goto 15, 3) := dop_167 (zb_X12_when_3 8 rfl) (zb_X12_when_3 9 rfl) (zb_X12_when_3 10 rfl) rfl
theorem dX12_when_127 : decode cX12_when 127 = .ok (.iload_n 2, 1) := dop_28 (zb_X12_when_3 11 rfl)
theorem dX12_when_128 : decode cX12_when 128 = .ok (.iconst 1, 1) := dop_4 (zb_X12_when_3 12 rfl)
theorem dX12_when_129 : decode cX12_when 129 = .ok (.if_icmp .ne 8, 3) := dop_160 (zb_X12_when_3 13 rfl) (zb_X12_when_3 14 rfl) (zb_X12_when_3 15 rfl) rfl
theorem dX12_when_132 : decode cX12_when 132 = .ok (.iload 4, 2) := dop_21 (zb_X12_when_3 16 rfl) (zb_X12_when_3 17 rfl)
theorem dX12_when_134 : decode cX12_when 134 = .ok (.goto 5, 3) := dop_167 (zb_X12_when_3 18 rfl) (zb_X12_when_3 19 rfl) (zb_X12_when_3 20 rfl) rfl
theorem dX12_when_137 : decode cX12_when 137 = .ok (.iload 5, 2) := dop_21 (zb_X12_when_3 21 rfl) (zb_X12_when_3 22 rfl)
theorem dX12_when_139 : decode cX12_when 139 = .ok (.ireturn, 1) := dop_172 (zb_X12_when_3 23 rfl)
def zw_X12_tell_1 : List Nat := [167, 0, 8, 42, 2, 182, 0, 147, 172]
def zt_X12_tell_1 : List Nat := zw_X12_tell_1 ++ []
def zw_X12_tell_0 : List Nat := [42, 3, 181, 0, 133, 27, 133, 9, 20, 1, 125, 184, 0, 143, 153, 0, 27, 28, 133, 10, 20, 1, 243, 184, 0, 143, 153, 0, 15, 42, 16, 60, 27, 96, 28, 182, 0, 162]
def zt_X12_tell_0 : List Nat := zw_X12_tell_0 ++ zt_X12_tell_1
theorem ze_X12_tell_0 : (dcn cX12_tell).drop 0 = zt_X12_tell_0 := by decide +kernel
theorem ze_X12_tell_1 : (dcn cX12_tell).drop 38 = zt_X12_tell_1 := dw_n (wl := zw_X12_tell_0) ze_X12_tell_0 rfl
theorem zb_X12_tell_0 (j : Nat) {n : Nat} (e : zw_X12_tell_0[j]? = some n) : dby cX12_tell (0 + j) n := dw_b (t := zt_X12_tell_1) ze_X12_tell_0 j e
theorem dX12_tell_0 : decode cX12_tell 0 = .ok (.aload_n 0, 1) := dop_42 (zb_X12_tell_0 0 rfl)
theorem dX12_tell_1 : decode cX12_tell 1 = .ok (.iconst 0, 1) := dop_3 (zb_X12_tell_0 1 rfl)
theorem dX12_tell_2 : decode cX12_tell 2 = .ok (.putfield 133, 3) := dop_181 (zb_X12_tell_0 2 rfl) (zb_X12_tell_0 3 rfl) (zb_X12_tell_0 4 rfl) rfl
theorem dX12_tell_5 : decode cX12_tell 5 = .ok (.iload_n 1, 1) := dop_27 (zb_X12_tell_0 5 rfl)
theorem dX12_tell_6 : decode cX12_tell 6 = .ok (.i2l, 1) := dop_133 (zb_X12_tell_0 6 rfl)
theorem dX12_tell_7 : decode cX12_tell 7 = .ok (.lconst 0, 1) := dop_9 (zb_X12_tell_0 7 rfl)
theorem dX12_tell_8 : decode cX12_tell 8 = .ok (.ldc2_w 381, 3) := dop_20 (zb_X12_tell_0 8 rfl) (zb_X12_tell_0 9 rfl) (zb_X12_tell_0 10 rfl) rfl
theorem dX12_tell_11 : decode cX12_tell 11 = .ok (.invokestatic 143, 3) := dop_184 (zb_X12_tell_0 11 rfl) (zb_X12_tell_0 12 rfl) (zb_X12_tell_0 13 rfl) rfl
theorem dX12_tell_14 : decode cX12_tell 14 = .ok (.ifCond .eq 27, 3) := dop_153 (zb_X12_tell_0 14 rfl) (zb_X12_tell_0 15 rfl) (zb_X12_tell_0 16 rfl) rfl
theorem dX12_tell_17 : decode cX12_tell 17 = .ok (.iload_n 2, 1) := dop_28 (zb_X12_tell_0 17 rfl)
theorem dX12_tell_18 : decode cX12_tell 18 = .ok (.i2l, 1) := dop_133 (zb_X12_tell_0 18 rfl)
theorem dX12_tell_19 : decode cX12_tell 19 = .ok (.lconst 1, 1) := dop_10 (zb_X12_tell_0 19 rfl)
theorem dX12_tell_20 : decode cX12_tell 20 = .ok (.ldc2_w 499, 3) := dop_20 (zb_X12_tell_0 20 rfl) (zb_X12_tell_0 21 rfl) (zb_X12_tell_0 22 rfl) rfl
theorem dX12_tell_23 : decode cX12_tell 23 = .ok (.invokestatic 143, 3) := dop_184 (zb_X12_tell_0 23 rfl) (zb_X12_tell_0 24 rfl) (zb_X12_tell_0 25 rfl) rfl
theorem dX12_tell_26 : decode cX12_tell 26 = .ok (.ifCond .eq 15, 3) := dop_153 (zb_X12_tell_0 26 rfl) (zb_X12_tell_0 27 rfl) (zb_X12_tell_0 28 rfl) rfl
theorem dX12_tell_29 : decode cX12_tell 29 = .ok (.aload_n 0, 1) := dop_42 (zb_X12_tell_0 29 rfl)
theorem dX12_tell_30 : decode cX12_tell 30 = .ok (.bipush 60, 2) := dop_16 (zb_X12_tell_0 30 rfl) (zb_X12_tell_0 31 rfl) rfl
theorem dX12_tell_32 : decode cX12_tell 32 = .ok (.iload_n 1, 1) := dop_27 (zb_X12_tell_0 32 rfl)
theorem dX12_tell_33 : decode cX12_tell 33 = .ok (.iadd, 1) := dop_96 (zb_X12_tell_0 33 rfl)
theorem dX12_tell_34 : decode cX12_tell 34 = .ok (.iload_n 2, 1) := dop_28 (zb_X12_tell_0 34 rfl)
theorem dX12_tell_35 : decode cX12_tell 35 = .ok (.invokevirtual 162, 3) := dop_182 (zb_X12_tell_0 35 rfl) (zb_X12_tell_0 36 rfl) (zb_X12_tell_0 37 rfl) rfl
theorem zb_X12_tell_1 (j : Nat) {n : Nat} (e : zw_X12_tell_1[j]? = some n) : dby cX12_tell (38 + j) n := dw_b (t := []) ze_X12_tell_1 j e
theorem dX12_tell_38 : decode cX12_tell 38 = .ok (.goto 8, 3) := dop_167 (zb_X12_tell_1 0 rfl) (zb_X12_tell_1 1 rfl) (zb_X12_tell_1 2 rfl) rfl
theorem dX12_tell_41 : decode cX12_tell 41 = .ok (.aload_n 0, 1) := dop_42 (zb_X12_tell_1 3 rfl)
theorem dX12_tell_42 : decode cX12_tell 42 = .ok (.iconst (-1), 1) := dop_2 (zb_X12_tell_1 4 rfl)
theorem dX12_tell_43 : decode cX12_tell 43 = .ok (.invokevirtual 147, 3) := dop_182 (zb_X12_tell_1 5 rfl) (zb_X12_tell_1 6 rfl) (zb_X12_tell_1 7 rfl) rfl
theorem dX12_tell_46 : decode cX12_tell 46 = .ok (.ireturn, 1) := dop_172 (zb_X12_tell_1 8 rfl)
def zw_X12_feetOf_0 : List Nat := [42, 180, 0, 13, 16, 60, 27, 96, 46, 42, 180, 0, 13, 16, 72, 28, 96, 46, 108, 172]
def zt_X12_feetOf_0 : List Nat := zw_X12_feetOf_0 ++ []
theorem ze_X12_feetOf_0 : (dcn cX12_feetOf).drop 0 = zt_X12_feetOf_0 := by decide +kernel
theorem zb_X12_feetOf_0 (j : Nat) {n : Nat} (e : zw_X12_feetOf_0[j]? = some n) : dby cX12_feetOf (0 + j) n := dw_b (t := []) ze_X12_feetOf_0 j e
theorem dX12_feetOf_0 : decode cX12_feetOf 0 = .ok (.aload_n 0, 1) := dop_42 (zb_X12_feetOf_0 0 rfl)
theorem dX12_feetOf_1 : decode cX12_feetOf 1 = .ok (.getfield 13, 3) := dop_180 (zb_X12_feetOf_0 1 rfl) (zb_X12_feetOf_0 2 rfl) (zb_X12_feetOf_0 3 rfl) rfl
theorem dX12_feetOf_4 : decode cX12_feetOf 4 = .ok (.bipush 60, 2) := dop_16 (zb_X12_feetOf_0 4 rfl) (zb_X12_feetOf_0 5 rfl) rfl
theorem dX12_feetOf_6 : decode cX12_feetOf 6 = .ok (.iload_n 1, 1) := dop_27 (zb_X12_feetOf_0 6 rfl)
theorem dX12_feetOf_7 : decode cX12_feetOf 7 = .ok (.iadd, 1) := dop_96 (zb_X12_feetOf_0 7 rfl)
theorem dX12_feetOf_8 : decode cX12_feetOf 8 = .ok (.iaload, 1) := dop_46 (zb_X12_feetOf_0 8 rfl)
theorem dX12_feetOf_9 : decode cX12_feetOf 9 = .ok (.aload_n 0, 1) := dop_42 (zb_X12_feetOf_0 9 rfl)
theorem dX12_feetOf_10 : decode cX12_feetOf 10 = .ok (.getfield 13, 3) := dop_180 (zb_X12_feetOf_0 10 rfl) (zb_X12_feetOf_0 11 rfl) (zb_X12_feetOf_0 12 rfl) rfl
theorem dX12_feetOf_13 : decode cX12_feetOf 13 = .ok (.bipush 72, 2) := dop_16 (zb_X12_feetOf_0 13 rfl) (zb_X12_feetOf_0 14 rfl) rfl
theorem dX12_feetOf_15 : decode cX12_feetOf 15 = .ok (.iload_n 2, 1) := dop_28 (zb_X12_feetOf_0 15 rfl)
theorem dX12_feetOf_16 : decode cX12_feetOf 16 = .ok (.iadd, 1) := dop_96 (zb_X12_feetOf_0 16 rfl)
theorem dX12_feetOf_17 : decode cX12_feetOf 17 = .ok (.iaload, 1) := dop_46 (zb_X12_feetOf_0 17 rfl)
theorem dX12_feetOf_18 : decode cX12_feetOf 18 = .ok (.idiv, 1) := dop_108 (zb_X12_feetOf_0 18 rfl)
theorem dX12_feetOf_19 : decode cX12_feetOf 19 = .ok (.ireturn, 1) := dop_172 (zb_X12_feetOf_0 19 rfl)
def zw_X12_says_2 : List Nat := [160, 0, 11, 21, 4, 21, 5, 108, 167, 0, 15, 5, 21, 4, 104, 21, 5, 96, 5, 21, 5, 104, 108, 172]
def zt_X12_says_2 : List Nat := zw_X12_says_2 ++ []
def zw_X12_says_1 : List Nat := [180, 0, 13, 16, 60, 27, 96, 46, 54, 4, 42, 180, 0, 13, 16, 72, 28, 96, 46, 54, 5, 29, 154, 0, 14, 16, 100, 21, 4, 104, 21, 5, 108, 167, 0, 28, 29, 4]
def zt_X12_says_1 : List Nat := zw_X12_says_1 ++ zt_X12_says_2
def zw_X12_says_0 : List Nat := [42, 3, 181, 0, 133, 27, 133, 9, 20, 1, 129, 184, 0, 143, 153, 0, 22, 28, 184, 0, 169, 153, 0, 15, 29, 133, 9, 20, 0, 182, 184, 0, 143, 154, 0, 5, 2, 172, 42]
def zt_X12_says_0 : List Nat := zw_X12_says_0 ++ zt_X12_says_1
theorem ze_X12_says_0 : (dcn cX12_says).drop 0 = zt_X12_says_0 := by decide +kernel
theorem ze_X12_says_1 : (dcn cX12_says).drop 39 = zt_X12_says_1 := dw_n (wl := zw_X12_says_0) ze_X12_says_0 rfl
theorem zb_X12_says_0 (j : Nat) {n : Nat} (e : zw_X12_says_0[j]? = some n) : dby cX12_says (0 + j) n := dw_b (t := zt_X12_says_1) ze_X12_says_0 j e
theorem dX12_says_0 : decode cX12_says 0 = .ok (.aload_n 0, 1) := dop_42 (zb_X12_says_0 0 rfl)
theorem dX12_says_1 : decode cX12_says 1 = .ok (.iconst 0, 1) := dop_3 (zb_X12_says_0 1 rfl)
theorem dX12_says_2 : decode cX12_says 2 = .ok (.putfield 133, 3) := dop_181 (zb_X12_says_0 2 rfl) (zb_X12_says_0 3 rfl) (zb_X12_says_0 4 rfl) rfl
theorem dX12_says_5 : decode cX12_says 5 = .ok (.iload_n 1, 1) := dop_27 (zb_X12_says_0 5 rfl)
theorem dX12_says_6 : decode cX12_says 6 = .ok (.i2l, 1) := dop_133 (zb_X12_says_0 6 rfl)
theorem dX12_says_7 : decode cX12_says 7 = .ok (.lconst 0, 1) := dop_9 (zb_X12_says_0 7 rfl)
theorem dX12_says_8 : decode cX12_says 8 = .ok (.ldc2_w 385, 3) := dop_20 (zb_X12_says_0 8 rfl) (zb_X12_says_0 9 rfl) (zb_X12_says_0 10 rfl) rfl
theorem dX12_says_11 : decode cX12_says 11 = .ok (.invokestatic 143, 3) := dop_184 (zb_X12_says_0 11 rfl) (zb_X12_says_0 12 rfl) (zb_X12_says_0 13 rfl) rfl
theorem dX12_says_14 : decode cX12_says 14 = .ok (.ifCond .eq 22, 3) := dop_153 (zb_X12_says_0 14 rfl) (zb_X12_says_0 15 rfl) (zb_X12_says_0 16 rfl) rfl
theorem dX12_says_17 : decode cX12_says 17 = .ok (.iload_n 2, 1) := dop_28 (zb_X12_says_0 17 rfl)
theorem dX12_says_18 : decode cX12_says 18 = .ok (.invokestatic 169, 3) := dop_184 (zb_X12_says_0 18 rfl) (zb_X12_says_0 19 rfl) (zb_X12_says_0 20 rfl) rfl
theorem dX12_says_21 : decode cX12_says 21 = .ok (.ifCond .eq 15, 3) := dop_153 (zb_X12_says_0 21 rfl) (zb_X12_says_0 22 rfl) (zb_X12_says_0 23 rfl) rfl
theorem dX12_says_24 : decode cX12_says 24 = .ok (.iload_n 3, 1) := dop_29 (zb_X12_says_0 24 rfl)
theorem dX12_says_25 : decode cX12_says 25 = .ok (.i2l, 1) := dop_133 (zb_X12_says_0 25 rfl)
theorem dX12_says_26 : decode cX12_says 26 = .ok (.lconst 0, 1) := dop_9 (zb_X12_says_0 26 rfl)
theorem dX12_says_27 : decode cX12_says 27 = .ok (.ldc2_w 182, 3) := dop_20 (zb_X12_says_0 27 rfl) (zb_X12_says_0 28 rfl) (zb_X12_says_0 29 rfl) rfl
theorem dX12_says_30 : decode cX12_says 30 = .ok (.invokestatic 143, 3) := dop_184 (zb_X12_says_0 30 rfl) (zb_X12_says_0 31 rfl) (zb_X12_says_0 32 rfl) rfl
theorem dX12_says_33 : decode cX12_says 33 = .ok (.ifCond .ne 5, 3) := dop_154 (zb_X12_says_0 33 rfl) (zb_X12_says_0 34 rfl) (zb_X12_says_0 35 rfl) rfl
theorem dX12_says_36 : decode cX12_says 36 = .ok (.iconst (-1), 1) := dop_2 (zb_X12_says_0 36 rfl)
theorem dX12_says_37 : decode cX12_says 37 = .ok (.ireturn, 1) := dop_172 (zb_X12_says_0 37 rfl)
theorem dX12_says_38 : decode cX12_says 38 = .ok (.aload_n 0, 1) := dop_42 (zb_X12_says_0 38 rfl)
theorem ze_X12_says_2 : (dcn cX12_says).drop 77 = zt_X12_says_2 := dw_n (wl := zw_X12_says_1) ze_X12_says_1 rfl
theorem zb_X12_says_1 (j : Nat) {n : Nat} (e : zw_X12_says_1[j]? = some n) : dby cX12_says (39 + j) n := dw_b (t := zt_X12_says_2) ze_X12_says_1 j e
theorem dX12_says_39 : decode cX12_says 39 = .ok (.getfield 13, 3) := dop_180 (zb_X12_says_1 0 rfl) (zb_X12_says_1 1 rfl) (zb_X12_says_1 2 rfl) rfl
theorem dX12_says_42 : decode cX12_says 42 = .ok (.bipush 60, 2) := dop_16 (zb_X12_says_1 3 rfl) (zb_X12_says_1 4 rfl) rfl
theorem dX12_says_44 : decode cX12_says 44 = .ok (.iload_n 1, 1) := dop_27 (zb_X12_says_1 5 rfl)
theorem dX12_says_45 : decode cX12_says 45 = .ok (.iadd, 1) := dop_96 (zb_X12_says_1 6 rfl)
theorem dX12_says_46 : decode cX12_says 46 = .ok (.iaload, 1) := dop_46 (zb_X12_says_1 7 rfl)
theorem dX12_says_47 : decode cX12_says 47 = .ok (.istore 4, 2) := dop_54 (zb_X12_says_1 8 rfl) (zb_X12_says_1 9 rfl)
theorem dX12_says_49 : decode cX12_says 49 = .ok (.aload_n 0, 1) := dop_42 (zb_X12_says_1 10 rfl)
theorem dX12_says_50 : decode cX12_says 50 = .ok (.getfield 13, 3) := dop_180 (zb_X12_says_1 11 rfl) (zb_X12_says_1 12 rfl) (zb_X12_says_1 13 rfl) rfl
theorem dX12_says_53 : decode cX12_says 53 = .ok (.bipush 72, 2) := dop_16 (zb_X12_says_1 14 rfl) (zb_X12_says_1 15 rfl) rfl
theorem dX12_says_55 : decode cX12_says 55 = .ok (.iload_n 2, 1) := dop_28 (zb_X12_says_1 16 rfl)
theorem dX12_says_56 : decode cX12_says 56 = .ok (.iadd, 1) := dop_96 (zb_X12_says_1 17 rfl)
theorem dX12_says_57 : decode cX12_says 57 = .ok (.iaload, 1) := dop_46 (zb_X12_says_1 18 rfl)
theorem dX12_says_58 : decode cX12_says 58 = .ok (.istore 5, 2) := dop_54 (zb_X12_says_1 19 rfl) (zb_X12_says_1 20 rfl)
theorem dX12_says_60 : decode cX12_says 60 = .ok (.iload_n 3, 1) := dop_29 (zb_X12_says_1 21 rfl)
theorem dX12_says_61 : decode cX12_says 61 = .ok (.ifCond .ne 14, 3) := dop_154 (zb_X12_says_1 22 rfl) (zb_X12_says_1 23 rfl) (zb_X12_says_1 24 rfl) rfl
theorem dX12_says_64 : decode cX12_says 64 = .ok (.bipush 100, 2) := dop_16 (zb_X12_says_1 25 rfl) (zb_X12_says_1 26 rfl) rfl
theorem dX12_says_66 : decode cX12_says 66 = .ok (.iload 4, 2) := dop_21 (zb_X12_says_1 27 rfl) (zb_X12_says_1 28 rfl)
theorem dX12_says_68 : decode cX12_says 68 = .ok (.imul, 1) := dop_104 (zb_X12_says_1 29 rfl)
theorem dX12_says_69 : decode cX12_says 69 = .ok (.iload 5, 2) := dop_21 (zb_X12_says_1 30 rfl) (zb_X12_says_1 31 rfl)
theorem dX12_says_71 : decode cX12_says 71 = .ok (.idiv, 1) := dop_108 (zb_X12_says_1 32 rfl)
theorem dX12_says_72 : decode cX12_says 72 = .ok (.goto 28, 3) := dop_167 (zb_X12_says_1 33 rfl) (zb_X12_says_1 34 rfl) (zb_X12_says_1 35 rfl) rfl
theorem dX12_says_75 : decode cX12_says 75 = .ok (.iload_n 3, 1) := dop_29 (zb_X12_says_1 36 rfl)
theorem dX12_says_76 : decode cX12_says 76 = .ok (.iconst 1, 1) := dop_4 (zb_X12_says_1 37 rfl)
theorem zb_X12_says_2 (j : Nat) {n : Nat} (e : zw_X12_says_2[j]? = some n) : dby cX12_says (77 + j) n := dw_b (t := []) ze_X12_says_2 j e
theorem dX12_says_77 : decode cX12_says 77 = .ok (.if_icmp .ne 11, 3) := dop_160 (zb_X12_says_2 0 rfl) (zb_X12_says_2 1 rfl) (zb_X12_says_2 2 rfl) rfl
theorem dX12_says_80 : decode cX12_says 80 = .ok (.iload 4, 2) := dop_21 (zb_X12_says_2 3 rfl) (zb_X12_says_2 4 rfl)
theorem dX12_says_82 : decode cX12_says 82 = .ok (.iload 5, 2) := dop_21 (zb_X12_says_2 5 rfl) (zb_X12_says_2 6 rfl)
theorem dX12_says_84 : decode cX12_says 84 = .ok (.idiv, 1) := dop_108 (zb_X12_says_2 7 rfl)
theorem dX12_says_85 : decode cX12_says 85 = .ok (.goto 15, 3) := dop_167 (zb_X12_says_2 8 rfl) (zb_X12_says_2 9 rfl) (zb_X12_says_2 10 rfl) rfl
theorem dX12_says_88 : decode cX12_says 88 = .ok (.iconst 2, 1) := dop_5 (zb_X12_says_2 11 rfl)
theorem dX12_says_89 : decode cX12_says 89 = .ok (.iload 4, 2) := dop_21 (zb_X12_says_2 12 rfl) (zb_X12_says_2 13 rfl)
theorem dX12_says_91 : decode cX12_says 91 = .ok (.imul, 1) := dop_104 (zb_X12_says_2 14 rfl)
theorem dX12_says_92 : decode cX12_says 92 = .ok (.iload 5, 2) := dop_21 (zb_X12_says_2 15 rfl) (zb_X12_says_2 16 rfl)
theorem dX12_says_94 : decode cX12_says 94 = .ok (.iadd, 1) := dop_96 (zb_X12_says_2 17 rfl)
theorem dX12_says_95 : decode cX12_says 95 = .ok (.iconst 2, 1) := dop_5 (zb_X12_says_2 18 rfl)
theorem dX12_says_96 : decode cX12_says 96 = .ok (.iload 5, 2) := dop_21 (zb_X12_says_2 19 rfl) (zb_X12_says_2 20 rfl)
theorem dX12_says_98 : decode cX12_says 98 = .ok (.imul, 1) := dop_104 (zb_X12_says_2 21 rfl)
theorem dX12_says_99 : decode cX12_says 99 = .ok (.idiv, 1) := dop_108 (zb_X12_says_2 22 rfl)
theorem dX12_says_100 : decode cX12_says 100 = .ok (.ireturn, 1) := dop_172 (zb_X12_says_2 23 rfl)
def zw_X12_isSo_3 : List Nat := [104, 4, 100, 29, 104, 161, 0, 21, 5, 28, 104, 5, 21, 4, 104, 4, 96, 29, 104, 162, 0, 7, 4, 167, 0, 4, 3, 172]
def zt_X12_isSo_3 : List Nat := zw_X12_isSo_3 ++ []
def zw_X12_isSo_2 : List Nat := [104, 160, 0, 7, 4, 167, 0, 4, 3, 172, 28, 21, 4, 29, 104, 161, 0, 17, 28, 21, 4, 4, 96, 29, 104, 162, 0, 7, 4, 167, 0, 4, 3, 172, 5, 28, 104, 5, 21, 4]
def zt_X12_isSo_2 : List Nat := zw_X12_isSo_2 ++ zt_X12_isSo_3
def zw_X12_isSo_1 : List Nat := [182, 0, 195, 54, 4, 42, 27, 6, 182, 0, 195, 171, 0, 0, 0, 63, 0, 0, 0, 2, 0, 0, 0, 0, 0, 0, 0, 25, 0, 0, 0, 1, 0, 0, 0, 39, 28, 21, 4, 29]
def zt_X12_isSo_1 : List Nat := zw_X12_isSo_1 ++ zt_X12_isSo_2
def zw_X12_isSo_0 : List Nat := [42, 180, 0, 13, 16, 60, 42, 27, 182, 0, 198, 96, 46, 61, 42, 180, 0, 13, 16, 72, 42, 180, 0, 13, 16, 10, 42, 27, 4, 182, 0, 195, 96, 46, 96, 46, 62, 42, 27, 5]
def zt_X12_isSo_0 : List Nat := zw_X12_isSo_0 ++ zt_X12_isSo_1
theorem ze_X12_isSo_0 : (dcn cX12_isSo).drop 0 = zt_X12_isSo_0 := by decide +kernel
theorem ze_X12_isSo_1 : (dcn cX12_isSo).drop 40 = zt_X12_isSo_1 := dw_n (wl := zw_X12_isSo_0) ze_X12_isSo_0 rfl
theorem zb_X12_isSo_0 (j : Nat) {n : Nat} (e : zw_X12_isSo_0[j]? = some n) : dby cX12_isSo (0 + j) n := dw_b (t := zt_X12_isSo_1) ze_X12_isSo_0 j e
theorem dX12_isSo_0 : decode cX12_isSo 0 = .ok (.aload_n 0, 1) := dop_42 (zb_X12_isSo_0 0 rfl)
theorem dX12_isSo_1 : decode cX12_isSo 1 = .ok (.getfield 13, 3) := dop_180 (zb_X12_isSo_0 1 rfl) (zb_X12_isSo_0 2 rfl) (zb_X12_isSo_0 3 rfl) rfl
theorem dX12_isSo_4 : decode cX12_isSo 4 = .ok (.bipush 60, 2) := dop_16 (zb_X12_isSo_0 4 rfl) (zb_X12_isSo_0 5 rfl) rfl
theorem dX12_isSo_6 : decode cX12_isSo 6 = .ok (.aload_n 0, 1) := dop_42 (zb_X12_isSo_0 6 rfl)
theorem dX12_isSo_7 : decode cX12_isSo 7 = .ok (.iload_n 1, 1) := dop_27 (zb_X12_isSo_0 7 rfl)
theorem dX12_isSo_8 : decode cX12_isSo 8 = .ok (.invokevirtual 198, 3) := dop_182 (zb_X12_isSo_0 8 rfl) (zb_X12_isSo_0 9 rfl) (zb_X12_isSo_0 10 rfl) rfl
theorem dX12_isSo_11 : decode cX12_isSo 11 = .ok (.iadd, 1) := dop_96 (zb_X12_isSo_0 11 rfl)
theorem dX12_isSo_12 : decode cX12_isSo 12 = .ok (.iaload, 1) := dop_46 (zb_X12_isSo_0 12 rfl)
theorem dX12_isSo_13 : decode cX12_isSo 13 = .ok (.istore_n 2, 1) := dop_61 (zb_X12_isSo_0 13 rfl)
theorem dX12_isSo_14 : decode cX12_isSo 14 = .ok (.aload_n 0, 1) := dop_42 (zb_X12_isSo_0 14 rfl)
theorem dX12_isSo_15 : decode cX12_isSo 15 = .ok (.getfield 13, 3) := dop_180 (zb_X12_isSo_0 15 rfl) (zb_X12_isSo_0 16 rfl) (zb_X12_isSo_0 17 rfl) rfl
theorem dX12_isSo_18 : decode cX12_isSo 18 = .ok (.bipush 72, 2) := dop_16 (zb_X12_isSo_0 18 rfl) (zb_X12_isSo_0 19 rfl) rfl
theorem dX12_isSo_20 : decode cX12_isSo 20 = .ok (.aload_n 0, 1) := dop_42 (zb_X12_isSo_0 20 rfl)
theorem dX12_isSo_21 : decode cX12_isSo 21 = .ok (.getfield 13, 3) := dop_180 (zb_X12_isSo_0 21 rfl) (zb_X12_isSo_0 22 rfl) (zb_X12_isSo_0 23 rfl) rfl
theorem dX12_isSo_24 : decode cX12_isSo 24 = .ok (.bipush 10, 2) := dop_16 (zb_X12_isSo_0 24 rfl) (zb_X12_isSo_0 25 rfl) rfl
theorem dX12_isSo_26 : decode cX12_isSo 26 = .ok (.aload_n 0, 1) := dop_42 (zb_X12_isSo_0 26 rfl)
theorem dX12_isSo_27 : decode cX12_isSo 27 = .ok (.iload_n 1, 1) := dop_27 (zb_X12_isSo_0 27 rfl)
theorem dX12_isSo_28 : decode cX12_isSo 28 = .ok (.iconst 1, 1) := dop_4 (zb_X12_isSo_0 28 rfl)
theorem dX12_isSo_29 : decode cX12_isSo 29 = .ok (.invokevirtual 195, 3) := dop_182 (zb_X12_isSo_0 29 rfl) (zb_X12_isSo_0 30 rfl) (zb_X12_isSo_0 31 rfl) rfl
theorem dX12_isSo_32 : decode cX12_isSo 32 = .ok (.iadd, 1) := dop_96 (zb_X12_isSo_0 32 rfl)
theorem dX12_isSo_33 : decode cX12_isSo 33 = .ok (.iaload, 1) := dop_46 (zb_X12_isSo_0 33 rfl)
theorem dX12_isSo_34 : decode cX12_isSo 34 = .ok (.iadd, 1) := dop_96 (zb_X12_isSo_0 34 rfl)
theorem dX12_isSo_35 : decode cX12_isSo 35 = .ok (.iaload, 1) := dop_46 (zb_X12_isSo_0 35 rfl)
theorem dX12_isSo_36 : decode cX12_isSo 36 = .ok (.istore_n 3, 1) := dop_62 (zb_X12_isSo_0 36 rfl)
theorem dX12_isSo_37 : decode cX12_isSo 37 = .ok (.aload_n 0, 1) := dop_42 (zb_X12_isSo_0 37 rfl)
theorem dX12_isSo_38 : decode cX12_isSo 38 = .ok (.iload_n 1, 1) := dop_27 (zb_X12_isSo_0 38 rfl)
theorem dX12_isSo_39 : decode cX12_isSo 39 = .ok (.iconst 2, 1) := dop_5 (zb_X12_isSo_0 39 rfl)
theorem ze_X12_isSo_2 : (dcn cX12_isSo).drop 80 = zt_X12_isSo_2 := dw_n (wl := zw_X12_isSo_1) ze_X12_isSo_1 rfl
theorem zb_X12_isSo_1 (j : Nat) {n : Nat} (e : zw_X12_isSo_1[j]? = some n) : dby cX12_isSo (40 + j) n := dw_b (t := zt_X12_isSo_2) ze_X12_isSo_1 j e
theorem dX12_isSo_40 : decode cX12_isSo 40 = .ok (.invokevirtual 195, 3) := dop_182 (zb_X12_isSo_1 0 rfl) (zb_X12_isSo_1 1 rfl) (zb_X12_isSo_1 2 rfl) rfl
theorem dX12_isSo_43 : decode cX12_isSo 43 = .ok (.istore 4, 2) := dop_54 (zb_X12_isSo_1 3 rfl) (zb_X12_isSo_1 4 rfl)
theorem dX12_isSo_45 : decode cX12_isSo 45 = .ok (.aload_n 0, 1) := dop_42 (zb_X12_isSo_1 5 rfl)
theorem dX12_isSo_46 : decode cX12_isSo 46 = .ok (.iload_n 1, 1) := dop_27 (zb_X12_isSo_1 6 rfl)
theorem dX12_isSo_47 : decode cX12_isSo 47 = .ok (.iconst 3, 1) := dop_6 (zb_X12_isSo_1 7 rfl)
theorem dX12_isSo_48 : decode cX12_isSo 48 = .ok (.invokevirtual 195, 3) := dop_182 (zb_X12_isSo_1 8 rfl) (zb_X12_isSo_1 9 rfl) (zb_X12_isSo_1 10 rfl) rfl
theorem dX12_isSo_51 : decode cX12_isSo 51 = .ok (.lookupswitch 63 #[(0, 25), (1, 39)], 25) := by decide +kernel
theorem dX12_isSo_76 : decode cX12_isSo 76 = .ok (.iload_n 2, 1) := dop_28 (zb_X12_isSo_1 36 rfl)
theorem dX12_isSo_77 : decode cX12_isSo 77 = .ok (.iload 4, 2) := dop_21 (zb_X12_isSo_1 37 rfl) (zb_X12_isSo_1 38 rfl)
theorem dX12_isSo_79 : decode cX12_isSo 79 = .ok (.iload_n 3, 1) := dop_29 (zb_X12_isSo_1 39 rfl)
theorem ze_X12_isSo_3 : (dcn cX12_isSo).drop 120 = zt_X12_isSo_3 := dw_n (wl := zw_X12_isSo_2) ze_X12_isSo_2 rfl
theorem zb_X12_isSo_2 (j : Nat) {n : Nat} (e : zw_X12_isSo_2[j]? = some n) : dby cX12_isSo (80 + j) n := dw_b (t := zt_X12_isSo_3) ze_X12_isSo_2 j e
theorem dX12_isSo_80 : decode cX12_isSo 80 = .ok (.imul, 1) := dop_104 (zb_X12_isSo_2 0 rfl)
theorem dX12_isSo_81 : decode cX12_isSo 81 = .ok (.if_icmp .ne 7, 3) := dop_160 (zb_X12_isSo_2 1 rfl) (zb_X12_isSo_2 2 rfl) (zb_X12_isSo_2 3 rfl) rfl
theorem dX12_isSo_84 : decode cX12_isSo 84 = .ok (.iconst 1, 1) := dop_4 (zb_X12_isSo_2 4 rfl)
theorem dX12_isSo_85 : decode cX12_isSo 85 = .ok (.goto 4, 3) := dop_167 (zb_X12_isSo_2 5 rfl) (zb_X12_isSo_2 6 rfl) (zb_X12_isSo_2 7 rfl) rfl
theorem dX12_isSo_88 : decode cX12_isSo 88 = .ok (.iconst 0, 1) := dop_3 (zb_X12_isSo_2 8 rfl)
theorem dX12_isSo_89 : decode cX12_isSo 89 = .ok (.ireturn, 1) := dop_172 (zb_X12_isSo_2 9 rfl)
theorem dX12_isSo_90 : decode cX12_isSo 90 = .ok (.iload_n 2, 1) := dop_28 (zb_X12_isSo_2 10 rfl)
theorem dX12_isSo_91 : decode cX12_isSo 91 = .ok (.iload 4, 2) := dop_21 (zb_X12_isSo_2 11 rfl) (zb_X12_isSo_2 12 rfl)
theorem dX12_isSo_93 : decode cX12_isSo 93 = .ok (.iload_n 3, 1) := dop_29 (zb_X12_isSo_2 13 rfl)
theorem dX12_isSo_94 : decode cX12_isSo 94 = .ok (.imul, 1) := dop_104 (zb_X12_isSo_2 14 rfl)
theorem dX12_isSo_95 : decode cX12_isSo 95 = .ok (.if_icmp .lt 17, 3) := dop_161 (zb_X12_isSo_2 15 rfl) (zb_X12_isSo_2 16 rfl) (zb_X12_isSo_2 17 rfl) rfl
theorem dX12_isSo_98 : decode cX12_isSo 98 = .ok (.iload_n 2, 1) := dop_28 (zb_X12_isSo_2 18 rfl)
theorem dX12_isSo_99 : decode cX12_isSo 99 = .ok (.iload 4, 2) := dop_21 (zb_X12_isSo_2 19 rfl) (zb_X12_isSo_2 20 rfl)
theorem dX12_isSo_101 : decode cX12_isSo 101 = .ok (.iconst 1, 1) := dop_4 (zb_X12_isSo_2 21 rfl)
theorem dX12_isSo_102 : decode cX12_isSo 102 = .ok (.iadd, 1) := dop_96 (zb_X12_isSo_2 22 rfl)
theorem dX12_isSo_103 : decode cX12_isSo 103 = .ok (.iload_n 3, 1) := dop_29 (zb_X12_isSo_2 23 rfl)
theorem dX12_isSo_104 : decode cX12_isSo 104 = .ok (.imul, 1) := dop_104 (zb_X12_isSo_2 24 rfl)
theorem dX12_isSo_105 : decode cX12_isSo 105 = .ok (.if_icmp .ge 7, 3) := dop_162 (zb_X12_isSo_2 25 rfl) (zb_X12_isSo_2 26 rfl) (zb_X12_isSo_2 27 rfl) rfl
theorem dX12_isSo_108 : decode cX12_isSo 108 = .ok (.iconst 1, 1) := dop_4 (zb_X12_isSo_2 28 rfl)
theorem dX12_isSo_109 : decode cX12_isSo 109 = .ok (.goto 4, 3) := dop_167 (zb_X12_isSo_2 29 rfl) (zb_X12_isSo_2 30 rfl) (zb_X12_isSo_2 31 rfl) rfl
theorem dX12_isSo_112 : decode cX12_isSo 112 = .ok (.iconst 0, 1) := dop_3 (zb_X12_isSo_2 32 rfl)
theorem dX12_isSo_113 : decode cX12_isSo 113 = .ok (.ireturn, 1) := dop_172 (zb_X12_isSo_2 33 rfl)
theorem dX12_isSo_114 : decode cX12_isSo 114 = .ok (.iconst 2, 1) := dop_5 (zb_X12_isSo_2 34 rfl)
theorem dX12_isSo_115 : decode cX12_isSo 115 = .ok (.iload_n 2, 1) := dop_28 (zb_X12_isSo_2 35 rfl)
theorem dX12_isSo_116 : decode cX12_isSo 116 = .ok (.imul, 1) := dop_104 (zb_X12_isSo_2 36 rfl)
theorem dX12_isSo_117 : decode cX12_isSo 117 = .ok (.iconst 2, 1) := dop_5 (zb_X12_isSo_2 37 rfl)
theorem dX12_isSo_118 : decode cX12_isSo 118 = .ok (.iload 4, 2) := dop_21 (zb_X12_isSo_2 38 rfl) (zb_X12_isSo_2 39 rfl)
theorem zb_X12_isSo_3 (j : Nat) {n : Nat} (e : zw_X12_isSo_3[j]? = some n) : dby cX12_isSo (120 + j) n := dw_b (t := []) ze_X12_isSo_3 j e
theorem dX12_isSo_120 : decode cX12_isSo 120 = .ok (.imul, 1) := dop_104 (zb_X12_isSo_3 0 rfl)
theorem dX12_isSo_121 : decode cX12_isSo 121 = .ok (.iconst 1, 1) := dop_4 (zb_X12_isSo_3 1 rfl)
theorem dX12_isSo_122 : decode cX12_isSo 122 = .ok (.isub, 1) := dop_100 (zb_X12_isSo_3 2 rfl)
theorem dX12_isSo_123 : decode cX12_isSo 123 = .ok (.iload_n 3, 1) := dop_29 (zb_X12_isSo_3 3 rfl)
theorem dX12_isSo_124 : decode cX12_isSo 124 = .ok (.imul, 1) := dop_104 (zb_X12_isSo_3 4 rfl)
theorem dX12_isSo_125 : decode cX12_isSo 125 = .ok (.if_icmp .lt 21, 3) := dop_161 (zb_X12_isSo_3 5 rfl) (zb_X12_isSo_3 6 rfl) (zb_X12_isSo_3 7 rfl) rfl
theorem dX12_isSo_128 : decode cX12_isSo 128 = .ok (.iconst 2, 1) := dop_5 (zb_X12_isSo_3 8 rfl)
theorem dX12_isSo_129 : decode cX12_isSo 129 = .ok (.iload_n 2, 1) := dop_28 (zb_X12_isSo_3 9 rfl)
theorem dX12_isSo_130 : decode cX12_isSo 130 = .ok (.imul, 1) := dop_104 (zb_X12_isSo_3 10 rfl)
theorem dX12_isSo_131 : decode cX12_isSo 131 = .ok (.iconst 2, 1) := dop_5 (zb_X12_isSo_3 11 rfl)
theorem dX12_isSo_132 : decode cX12_isSo 132 = .ok (.iload 4, 2) := dop_21 (zb_X12_isSo_3 12 rfl) (zb_X12_isSo_3 13 rfl)
theorem dX12_isSo_134 : decode cX12_isSo 134 = .ok (.imul, 1) := dop_104 (zb_X12_isSo_3 14 rfl)
theorem dX12_isSo_135 : decode cX12_isSo 135 = .ok (.iconst 1, 1) := dop_4 (zb_X12_isSo_3 15 rfl)
theorem dX12_isSo_136 : decode cX12_isSo 136 = .ok (.iadd, 1) := dop_96 (zb_X12_isSo_3 16 rfl)
theorem dX12_isSo_137 : decode cX12_isSo 137 = .ok (.iload_n 3, 1) := dop_29 (zb_X12_isSo_3 17 rfl)
theorem dX12_isSo_138 : decode cX12_isSo 138 = .ok (.imul, 1) := dop_104 (zb_X12_isSo_3 18 rfl)
theorem dX12_isSo_139 : decode cX12_isSo 139 = .ok (.if_icmp .ge 7, 3) := dop_162 (zb_X12_isSo_3 19 rfl) (zb_X12_isSo_3 20 rfl) (zb_X12_isSo_3 21 rfl) rfl
theorem dX12_isSo_142 : decode cX12_isSo 142 = .ok (.iconst 1, 1) := dop_4 (zb_X12_isSo_3 22 rfl)
theorem dX12_isSo_143 : decode cX12_isSo 143 = .ok (.goto 4, 3) := dop_167 (zb_X12_isSo_3 23 rfl) (zb_X12_isSo_3 24 rfl) (zb_X12_isSo_3 25 rfl) rfl
theorem dX12_isSo_146 : decode cX12_isSo 146 = .ok (.iconst 0, 1) := dop_3 (zb_X12_isSo_3 26 rfl)
theorem dX12_isSo_147 : decode cX12_isSo 147 = .ok (.ireturn, 1) := dop_172 (zb_X12_isSo_3 27 rfl)
def zw_X12_judge_6 : List Nat := [16, 60, 21, 5, 96, 46, 163, 0, 7, 4, 167, 0, 4, 3, 54, 4, 132, 5, 1, 167, 255, 197, 21, 4, 153, 0, 7, 4, 167, 0, 4, 3, 172]
def zt_X12_judge_6 : List Nat := zw_X12_judge_6 ++ []
def zw_X12_judge_5 : List Nat := [21, 5, 16, 6, 162, 0, 58, 21, 4, 153, 0, 44, 42, 180, 0, 13, 16, 42, 21, 5, 96, 46, 2, 159, 0, 26, 42, 180, 0, 13, 16, 66, 21, 5, 96, 46, 42, 180, 0, 13]
def zt_X12_judge_5 : List Nat := zw_X12_judge_5 ++ zt_X12_judge_6
def zw_X12_judge_4 : List Nat := [180, 0, 13, 16, 72, 42, 180, 0, 13, 16, 48, 5, 21, 5, 104, 96, 4, 96, 46, 96, 46, 162, 0, 7, 4, 167, 0, 4, 3, 54, 4, 132, 5, 1, 167, 255, 185, 3, 54, 5]
def zt_X12_judge_4 : List Nat := zw_X12_judge_4 ++ zt_X12_judge_5
def zw_X12_judge_3 : List Nat := [54, 5, 21, 5, 42, 180, 0, 13, 4, 46, 162, 0, 66, 21, 4, 153, 0, 52, 42, 180, 0, 13, 16, 72, 42, 180, 0, 13, 16, 48, 5, 21, 5, 104, 96, 46, 96, 46, 42]
def zt_X12_judge_3 : List Nat := zw_X12_judge_3 ++ zt_X12_judge_4
def zw_X12_judge_2 : List Nat := [132, 2, 1, 21, 4, 62, 132, 4, 255, 167, 255, 203, 27, 5, 162, 0, 13, 27, 154, 0, 7, 29, 167, 0, 4, 28, 172, 28, 154, 0, 7, 4, 167, 0, 4, 3, 54, 4, 3]
def zt_X12_judge_2 : List Nat := zw_X12_judge_2 ++ zt_X12_judge_3
def zw_X12_judge_1 : List Nat := [21, 4, 7, 182, 0, 195, 4, 160, 0, 37, 42, 180, 0, 13, 16, 10, 42, 21, 4, 4, 182, 0, 195, 96, 46, 2, 159, 0, 18, 42, 21, 4, 182, 1, 245, 154, 0, 9]
def zt_X12_judge_1 : List Nat := zw_X12_judge_1 ++ zt_X12_judge_2
def zw_X12_judge_0 : List Nat := [42, 3, 181, 0, 133, 27, 133, 9, 20, 0, 182, 184, 0, 143, 154, 0, 5, 2, 172, 3, 61, 2, 62, 42, 180, 0, 13, 3, 46, 4, 100, 54, 4, 21, 4, 155, 0, 54, 42]
def zt_X12_judge_0 : List Nat := zw_X12_judge_0 ++ zt_X12_judge_1
theorem ze_X12_judge_0 : (dcn cX12_judge).drop 0 = zt_X12_judge_0 := by decide +kernel
theorem ze_X12_judge_1 : (dcn cX12_judge).drop 39 = zt_X12_judge_1 := dw_n (wl := zw_X12_judge_0) ze_X12_judge_0 rfl
theorem zb_X12_judge_0 (j : Nat) {n : Nat} (e : zw_X12_judge_0[j]? = some n) : dby cX12_judge (0 + j) n := dw_b (t := zt_X12_judge_1) ze_X12_judge_0 j e
theorem dX12_judge_0 : decode cX12_judge 0 = .ok (.aload_n 0, 1) := dop_42 (zb_X12_judge_0 0 rfl)
theorem dX12_judge_1 : decode cX12_judge 1 = .ok (.iconst 0, 1) := dop_3 (zb_X12_judge_0 1 rfl)
theorem dX12_judge_2 : decode cX12_judge 2 = .ok (.putfield 133, 3) := dop_181 (zb_X12_judge_0 2 rfl) (zb_X12_judge_0 3 rfl) (zb_X12_judge_0 4 rfl) rfl
theorem dX12_judge_5 : decode cX12_judge 5 = .ok (.iload_n 1, 1) := dop_27 (zb_X12_judge_0 5 rfl)
theorem dX12_judge_6 : decode cX12_judge 6 = .ok (.i2l, 1) := dop_133 (zb_X12_judge_0 6 rfl)
theorem dX12_judge_7 : decode cX12_judge 7 = .ok (.lconst 0, 1) := dop_9 (zb_X12_judge_0 7 rfl)
theorem dX12_judge_8 : decode cX12_judge 8 = .ok (.ldc2_w 182, 3) := dop_20 (zb_X12_judge_0 8 rfl) (zb_X12_judge_0 9 rfl) (zb_X12_judge_0 10 rfl) rfl
theorem dX12_judge_11 : decode cX12_judge 11 = .ok (.invokestatic 143, 3) := dop_184 (zb_X12_judge_0 11 rfl) (zb_X12_judge_0 12 rfl) (zb_X12_judge_0 13 rfl) rfl
theorem dX12_judge_14 : decode cX12_judge 14 = .ok (.ifCond .ne 5, 3) := dop_154 (zb_X12_judge_0 14 rfl) (zb_X12_judge_0 15 rfl) (zb_X12_judge_0 16 rfl) rfl
theorem dX12_judge_17 : decode cX12_judge 17 = .ok (.iconst (-1), 1) := dop_2 (zb_X12_judge_0 17 rfl)
theorem dX12_judge_18 : decode cX12_judge 18 = .ok (.ireturn, 1) := dop_172 (zb_X12_judge_0 18 rfl)
theorem dX12_judge_19 : decode cX12_judge 19 = .ok (.iconst 0, 1) := dop_3 (zb_X12_judge_0 19 rfl)
theorem dX12_judge_20 : decode cX12_judge 20 = .ok (.istore_n 2, 1) := dop_61 (zb_X12_judge_0 20 rfl)
theorem dX12_judge_21 : decode cX12_judge 21 = .ok (.iconst (-1), 1) := dop_2 (zb_X12_judge_0 21 rfl)
theorem dX12_judge_22 : decode cX12_judge 22 = .ok (.istore_n 3, 1) := dop_62 (zb_X12_judge_0 22 rfl)
theorem dX12_judge_23 : decode cX12_judge 23 = .ok (.aload_n 0, 1) := dop_42 (zb_X12_judge_0 23 rfl)
theorem dX12_judge_24 : decode cX12_judge 24 = .ok (.getfield 13, 3) := dop_180 (zb_X12_judge_0 24 rfl) (zb_X12_judge_0 25 rfl) (zb_X12_judge_0 26 rfl) rfl
theorem dX12_judge_27 : decode cX12_judge 27 = .ok (.iconst 0, 1) := dop_3 (zb_X12_judge_0 27 rfl)
theorem dX12_judge_28 : decode cX12_judge 28 = .ok (.iaload, 1) := dop_46 (zb_X12_judge_0 28 rfl)
theorem dX12_judge_29 : decode cX12_judge 29 = .ok (.iconst 1, 1) := dop_4 (zb_X12_judge_0 29 rfl)
theorem dX12_judge_30 : decode cX12_judge 30 = .ok (.isub, 1) := dop_100 (zb_X12_judge_0 30 rfl)
theorem dX12_judge_31 : decode cX12_judge 31 = .ok (.istore 4, 2) := dop_54 (zb_X12_judge_0 31 rfl) (zb_X12_judge_0 32 rfl)
theorem dX12_judge_33 : decode cX12_judge 33 = .ok (.iload 4, 2) := dop_21 (zb_X12_judge_0 33 rfl) (zb_X12_judge_0 34 rfl)
theorem dX12_judge_35 : decode cX12_judge 35 = .ok (.ifCond .lt 54, 3) := dop_155 (zb_X12_judge_0 35 rfl) (zb_X12_judge_0 36 rfl) (zb_X12_judge_0 37 rfl) rfl
theorem dX12_judge_38 : decode cX12_judge 38 = .ok (.aload_n 0, 1) := dop_42 (zb_X12_judge_0 38 rfl)
theorem ze_X12_judge_2 : (dcn cX12_judge).drop 77 = zt_X12_judge_2 := dw_n (wl := zw_X12_judge_1) ze_X12_judge_1 rfl
theorem zb_X12_judge_1 (j : Nat) {n : Nat} (e : zw_X12_judge_1[j]? = some n) : dby cX12_judge (39 + j) n := dw_b (t := zt_X12_judge_2) ze_X12_judge_1 j e
theorem dX12_judge_39 : decode cX12_judge 39 = .ok (.iload 4, 2) := dop_21 (zb_X12_judge_1 0 rfl) (zb_X12_judge_1 1 rfl)
theorem dX12_judge_41 : decode cX12_judge 41 = .ok (.iconst 4, 1) := dop_7 (zb_X12_judge_1 2 rfl)
theorem dX12_judge_42 : decode cX12_judge 42 = .ok (.invokevirtual 195, 3) := dop_182 (zb_X12_judge_1 3 rfl) (zb_X12_judge_1 4 rfl) (zb_X12_judge_1 5 rfl) rfl
theorem dX12_judge_45 : decode cX12_judge 45 = .ok (.iconst 1, 1) := dop_4 (zb_X12_judge_1 6 rfl)
theorem dX12_judge_46 : decode cX12_judge 46 = .ok (.if_icmp .ne 37, 3) := dop_160 (zb_X12_judge_1 7 rfl) (zb_X12_judge_1 8 rfl) (zb_X12_judge_1 9 rfl) rfl
theorem dX12_judge_49 : decode cX12_judge 49 = .ok (.aload_n 0, 1) := dop_42 (zb_X12_judge_1 10 rfl)
theorem dX12_judge_50 : decode cX12_judge 50 = .ok (.getfield 13, 3) := dop_180 (zb_X12_judge_1 11 rfl) (zb_X12_judge_1 12 rfl) (zb_X12_judge_1 13 rfl) rfl
theorem dX12_judge_53 : decode cX12_judge 53 = .ok (.bipush 10, 2) := dop_16 (zb_X12_judge_1 14 rfl) (zb_X12_judge_1 15 rfl) rfl
theorem dX12_judge_55 : decode cX12_judge 55 = .ok (.aload_n 0, 1) := dop_42 (zb_X12_judge_1 16 rfl)
theorem dX12_judge_56 : decode cX12_judge 56 = .ok (.iload 4, 2) := dop_21 (zb_X12_judge_1 17 rfl) (zb_X12_judge_1 18 rfl)
theorem dX12_judge_58 : decode cX12_judge 58 = .ok (.iconst 1, 1) := dop_4 (zb_X12_judge_1 19 rfl)
theorem dX12_judge_59 : decode cX12_judge 59 = .ok (.invokevirtual 195, 3) := dop_182 (zb_X12_judge_1 20 rfl) (zb_X12_judge_1 21 rfl) (zb_X12_judge_1 22 rfl) rfl
theorem dX12_judge_62 : decode cX12_judge 62 = .ok (.iadd, 1) := dop_96 (zb_X12_judge_1 23 rfl)
theorem dX12_judge_63 : decode cX12_judge 63 = .ok (.iaload, 1) := dop_46 (zb_X12_judge_1 24 rfl)
theorem dX12_judge_64 : decode cX12_judge 64 = .ok (.iconst (-1), 1) := dop_2 (zb_X12_judge_1 25 rfl)
theorem dX12_judge_65 : decode cX12_judge 65 = .ok (.if_icmp .eq 18, 3) := dop_159 (zb_X12_judge_1 26 rfl) (zb_X12_judge_1 27 rfl) (zb_X12_judge_1 28 rfl) rfl
theorem dX12_judge_68 : decode cX12_judge 68 = .ok (.aload_n 0, 1) := dop_42 (zb_X12_judge_1 29 rfl)
theorem dX12_judge_69 : decode cX12_judge 69 = .ok (.iload 4, 2) := dop_21 (zb_X12_judge_1 30 rfl) (zb_X12_judge_1 31 rfl)
theorem dX12_judge_71 : decode cX12_judge 71 = .ok (.invokevirtual 501, 3) := dop_182 (zb_X12_judge_1 32 rfl) (zb_X12_judge_1 33 rfl) (zb_X12_judge_1 34 rfl) rfl
theorem dX12_judge_74 : decode cX12_judge 74 = .ok (.ifCond .ne 9, 3) := dop_154 (zb_X12_judge_1 35 rfl) (zb_X12_judge_1 36 rfl) (zb_X12_judge_1 37 rfl) rfl
theorem ze_X12_judge_3 : (dcn cX12_judge).drop 116 = zt_X12_judge_3 := dw_n (wl := zw_X12_judge_2) ze_X12_judge_2 rfl
theorem zb_X12_judge_2 (j : Nat) {n : Nat} (e : zw_X12_judge_2[j]? = some n) : dby cX12_judge (77 + j) n := dw_b (t := zt_X12_judge_3) ze_X12_judge_2 j e
theorem dX12_judge_77 : decode cX12_judge 77 = .ok (.iinc 2 1, 3) := dop_132 (zb_X12_judge_2 0 rfl) (zb_X12_judge_2 1 rfl) (zb_X12_judge_2 2 rfl) rfl
theorem dX12_judge_80 : decode cX12_judge 80 = .ok (.iload 4, 2) := dop_21 (zb_X12_judge_2 3 rfl) (zb_X12_judge_2 4 rfl)
theorem dX12_judge_82 : decode cX12_judge 82 = .ok (.istore_n 3, 1) := dop_62 (zb_X12_judge_2 5 rfl)
theorem dX12_judge_83 : decode cX12_judge 83 = .ok (.iinc 4 (-1), 3) := dop_132 (zb_X12_judge_2 6 rfl) (zb_X12_judge_2 7 rfl) (zb_X12_judge_2 8 rfl) rfl
theorem dX12_judge_86 : decode cX12_judge 86 = .ok (.goto (-53), 3) := dop_167 (zb_X12_judge_2 9 rfl) (zb_X12_judge_2 10 rfl) (zb_X12_judge_2 11 rfl) rfl
theorem dX12_judge_89 : decode cX12_judge 89 = .ok (.iload_n 1, 1) := dop_27 (zb_X12_judge_2 12 rfl)
theorem dX12_judge_90 : decode cX12_judge 90 = .ok (.iconst 2, 1) := dop_5 (zb_X12_judge_2 13 rfl)
theorem dX12_judge_91 : decode cX12_judge 91 = .ok (.if_icmp .ge 13, 3) := dop_162 (zb_X12_judge_2 14 rfl) (zb_X12_judge_2 15 rfl) (zb_X12_judge_2 16 rfl) rfl
theorem dX12_judge_94 : decode cX12_judge 94 = .ok (.iload_n 1, 1) := dop_27 (zb_X12_judge_2 17 rfl)
theorem dX12_judge_95 : decode cX12_judge 95 = .ok (.ifCond .ne 7, 3) := dop_154 (zb_X12_judge_2 18 rfl) (zb_X12_judge_2 19 rfl) (zb_X12_judge_2 20 rfl) rfl
theorem dX12_judge_98 : decode cX12_judge 98 = .ok (.iload_n 3, 1) := dop_29 (zb_X12_judge_2 21 rfl)
theorem dX12_judge_99 : decode cX12_judge 99 = .ok (.goto 4, 3) := dop_167 (zb_X12_judge_2 22 rfl) (zb_X12_judge_2 23 rfl) (zb_X12_judge_2 24 rfl) rfl
theorem dX12_judge_102 : decode cX12_judge 102 = .ok (.iload_n 2, 1) := dop_28 (zb_X12_judge_2 25 rfl)
theorem dX12_judge_103 : decode cX12_judge 103 = .ok (.ireturn, 1) := dop_172 (zb_X12_judge_2 26 rfl)
theorem dX12_judge_104 : decode cX12_judge 104 = .ok (.iload_n 2, 1) := dop_28 (zb_X12_judge_2 27 rfl)
theorem dX12_judge_105 : decode cX12_judge 105 = .ok (.ifCond .ne 7, 3) := dop_154 (zb_X12_judge_2 28 rfl) (zb_X12_judge_2 29 rfl) (zb_X12_judge_2 30 rfl) rfl
theorem dX12_judge_108 : decode cX12_judge 108 = .ok (.iconst 1, 1) := dop_4 (zb_X12_judge_2 31 rfl)
theorem dX12_judge_109 : decode cX12_judge 109 = .ok (.goto 4, 3) := dop_167 (zb_X12_judge_2 32 rfl) (zb_X12_judge_2 33 rfl) (zb_X12_judge_2 34 rfl) rfl
theorem dX12_judge_112 : decode cX12_judge 112 = .ok (.iconst 0, 1) := dop_3 (zb_X12_judge_2 35 rfl)
theorem dX12_judge_113 : decode cX12_judge 113 = .ok (.istore 4, 2) := dop_54 (zb_X12_judge_2 36 rfl) (zb_X12_judge_2 37 rfl)
theorem dX12_judge_115 : decode cX12_judge 115 = .ok (.iconst 0, 1) := dop_3 (zb_X12_judge_2 38 rfl)
theorem ze_X12_judge_4 : (dcn cX12_judge).drop 155 = zt_X12_judge_4 := dw_n (wl := zw_X12_judge_3) ze_X12_judge_3 rfl
theorem zb_X12_judge_3 (j : Nat) {n : Nat} (e : zw_X12_judge_3[j]? = some n) : dby cX12_judge (116 + j) n := dw_b (t := zt_X12_judge_4) ze_X12_judge_3 j e
theorem dX12_judge_116 : decode cX12_judge 116 = .ok (.istore 5, 2) := dop_54 (zb_X12_judge_3 0 rfl) (zb_X12_judge_3 1 rfl)
theorem dX12_judge_118 : decode cX12_judge 118 = .ok (.iload 5, 2) := dop_21 (zb_X12_judge_3 2 rfl) (zb_X12_judge_3 3 rfl)
theorem dX12_judge_120 : decode cX12_judge 120 = .ok (.aload_n 0, 1) := dop_42 (zb_X12_judge_3 4 rfl)
theorem dX12_judge_121 : decode cX12_judge 121 = .ok (.getfield 13, 3) := dop_180 (zb_X12_judge_3 5 rfl) (zb_X12_judge_3 6 rfl) (zb_X12_judge_3 7 rfl) rfl
theorem dX12_judge_124 : decode cX12_judge 124 = .ok (.iconst 1, 1) := dop_4 (zb_X12_judge_3 8 rfl)
theorem dX12_judge_125 : decode cX12_judge 125 = .ok (.iaload, 1) := dop_46 (zb_X12_judge_3 9 rfl)
theorem dX12_judge_126 : decode cX12_judge 126 = .ok (.if_icmp .ge 66, 3) := dop_162 (zb_X12_judge_3 10 rfl) (zb_X12_judge_3 11 rfl) (zb_X12_judge_3 12 rfl) rfl
theorem dX12_judge_129 : decode cX12_judge 129 = .ok (.iload 4, 2) := dop_21 (zb_X12_judge_3 13 rfl) (zb_X12_judge_3 14 rfl)
theorem dX12_judge_131 : decode cX12_judge 131 = .ok (.ifCond .eq 52, 3) := dop_153 (zb_X12_judge_3 15 rfl) (zb_X12_judge_3 16 rfl) (zb_X12_judge_3 17 rfl) rfl
theorem dX12_judge_134 : decode cX12_judge 134 = .ok (.aload_n 0, 1) := dop_42 (zb_X12_judge_3 18 rfl)
theorem dX12_judge_135 : decode cX12_judge 135 = .ok (.getfield 13, 3) := dop_180 (zb_X12_judge_3 19 rfl) (zb_X12_judge_3 20 rfl) (zb_X12_judge_3 21 rfl) rfl
theorem dX12_judge_138 : decode cX12_judge 138 = .ok (.bipush 72, 2) := dop_16 (zb_X12_judge_3 22 rfl) (zb_X12_judge_3 23 rfl) rfl
theorem dX12_judge_140 : decode cX12_judge 140 = .ok (.aload_n 0, 1) := dop_42 (zb_X12_judge_3 24 rfl)
theorem dX12_judge_141 : decode cX12_judge 141 = .ok (.getfield 13, 3) := dop_180 (zb_X12_judge_3 25 rfl) (zb_X12_judge_3 26 rfl) (zb_X12_judge_3 27 rfl) rfl
theorem dX12_judge_144 : decode cX12_judge 144 = .ok (.bipush 48, 2) := dop_16 (zb_X12_judge_3 28 rfl) (zb_X12_judge_3 29 rfl) rfl
theorem dX12_judge_146 : decode cX12_judge 146 = .ok (.iconst 2, 1) := dop_5 (zb_X12_judge_3 30 rfl)
theorem dX12_judge_147 : decode cX12_judge 147 = .ok (.iload 5, 2) := dop_21 (zb_X12_judge_3 31 rfl) (zb_X12_judge_3 32 rfl)
theorem dX12_judge_149 : decode cX12_judge 149 = .ok (.imul, 1) := dop_104 (zb_X12_judge_3 33 rfl)
theorem dX12_judge_150 : decode cX12_judge 150 = .ok (.iadd, 1) := dop_96 (zb_X12_judge_3 34 rfl)
theorem dX12_judge_151 : decode cX12_judge 151 = .ok (.iaload, 1) := dop_46 (zb_X12_judge_3 35 rfl)
theorem dX12_judge_152 : decode cX12_judge 152 = .ok (.iadd, 1) := dop_96 (zb_X12_judge_3 36 rfl)
theorem dX12_judge_153 : decode cX12_judge 153 = .ok (.iaload, 1) := dop_46 (zb_X12_judge_3 37 rfl)
theorem dX12_judge_154 : decode cX12_judge 154 = .ok (.aload_n 0, 1) := dop_42 (zb_X12_judge_3 38 rfl)
theorem ze_X12_judge_5 : (dcn cX12_judge).drop 195 = zt_X12_judge_5 := dw_n (wl := zw_X12_judge_4) ze_X12_judge_4 rfl
theorem zb_X12_judge_4 (j : Nat) {n : Nat} (e : zw_X12_judge_4[j]? = some n) : dby cX12_judge (155 + j) n := dw_b (t := zt_X12_judge_5) ze_X12_judge_4 j e
theorem dX12_judge_155 : decode cX12_judge 155 = .ok (.getfield 13, 3) := dop_180 (zb_X12_judge_4 0 rfl) (zb_X12_judge_4 1 rfl) (zb_X12_judge_4 2 rfl) rfl
theorem dX12_judge_158 : decode cX12_judge 158 = .ok (.bipush 72, 2) := dop_16 (zb_X12_judge_4 3 rfl) (zb_X12_judge_4 4 rfl) rfl
theorem dX12_judge_160 : decode cX12_judge 160 = .ok (.aload_n 0, 1) := dop_42 (zb_X12_judge_4 5 rfl)
theorem dX12_judge_161 : decode cX12_judge 161 = .ok (.getfield 13, 3) := dop_180 (zb_X12_judge_4 6 rfl) (zb_X12_judge_4 7 rfl) (zb_X12_judge_4 8 rfl) rfl
theorem dX12_judge_164 : decode cX12_judge 164 = .ok (.bipush 48, 2) := dop_16 (zb_X12_judge_4 9 rfl) (zb_X12_judge_4 10 rfl) rfl
theorem dX12_judge_166 : decode cX12_judge 166 = .ok (.iconst 2, 1) := dop_5 (zb_X12_judge_4 11 rfl)
theorem dX12_judge_167 : decode cX12_judge 167 = .ok (.iload 5, 2) := dop_21 (zb_X12_judge_4 12 rfl) (zb_X12_judge_4 13 rfl)
theorem dX12_judge_169 : decode cX12_judge 169 = .ok (.imul, 1) := dop_104 (zb_X12_judge_4 14 rfl)
theorem dX12_judge_170 : decode cX12_judge 170 = .ok (.iadd, 1) := dop_96 (zb_X12_judge_4 15 rfl)
theorem dX12_judge_171 : decode cX12_judge 171 = .ok (.iconst 1, 1) := dop_4 (zb_X12_judge_4 16 rfl)
theorem dX12_judge_172 : decode cX12_judge 172 = .ok (.iadd, 1) := dop_96 (zb_X12_judge_4 17 rfl)
theorem dX12_judge_173 : decode cX12_judge 173 = .ok (.iaload, 1) := dop_46 (zb_X12_judge_4 18 rfl)
theorem dX12_judge_174 : decode cX12_judge 174 = .ok (.iadd, 1) := dop_96 (zb_X12_judge_4 19 rfl)
theorem dX12_judge_175 : decode cX12_judge 175 = .ok (.iaload, 1) := dop_46 (zb_X12_judge_4 20 rfl)
theorem dX12_judge_176 : decode cX12_judge 176 = .ok (.if_icmp .ge 7, 3) := dop_162 (zb_X12_judge_4 21 rfl) (zb_X12_judge_4 22 rfl) (zb_X12_judge_4 23 rfl) rfl
theorem dX12_judge_179 : decode cX12_judge 179 = .ok (.iconst 1, 1) := dop_4 (zb_X12_judge_4 24 rfl)
theorem dX12_judge_180 : decode cX12_judge 180 = .ok (.goto 4, 3) := dop_167 (zb_X12_judge_4 25 rfl) (zb_X12_judge_4 26 rfl) (zb_X12_judge_4 27 rfl) rfl
theorem dX12_judge_183 : decode cX12_judge 183 = .ok (.iconst 0, 1) := dop_3 (zb_X12_judge_4 28 rfl)
theorem dX12_judge_184 : decode cX12_judge 184 = .ok (.istore 4, 2) := dop_54 (zb_X12_judge_4 29 rfl) (zb_X12_judge_4 30 rfl)
theorem dX12_judge_186 : decode cX12_judge 186 = .ok (.iinc 5 1, 3) := dop_132 (zb_X12_judge_4 31 rfl) (zb_X12_judge_4 32 rfl) (zb_X12_judge_4 33 rfl) rfl
theorem dX12_judge_189 : decode cX12_judge 189 = .ok (.goto (-71), 3) := dop_167 (zb_X12_judge_4 34 rfl) (zb_X12_judge_4 35 rfl) (zb_X12_judge_4 36 rfl) rfl
theorem dX12_judge_192 : decode cX12_judge 192 = .ok (.iconst 0, 1) := dop_3 (zb_X12_judge_4 37 rfl)
theorem dX12_judge_193 : decode cX12_judge 193 = .ok (.istore 5, 2) := dop_54 (zb_X12_judge_4 38 rfl) (zb_X12_judge_4 39 rfl)
theorem ze_X12_judge_6 : (dcn cX12_judge).drop 235 = zt_X12_judge_6 := dw_n (wl := zw_X12_judge_5) ze_X12_judge_5 rfl
theorem zb_X12_judge_5 (j : Nat) {n : Nat} (e : zw_X12_judge_5[j]? = some n) : dby cX12_judge (195 + j) n := dw_b (t := zt_X12_judge_6) ze_X12_judge_5 j e
theorem dX12_judge_195 : decode cX12_judge 195 = .ok (.iload 5, 2) := dop_21 (zb_X12_judge_5 0 rfl) (zb_X12_judge_5 1 rfl)
theorem dX12_judge_197 : decode cX12_judge 197 = .ok (.bipush 6, 2) := dop_16 (zb_X12_judge_5 2 rfl) (zb_X12_judge_5 3 rfl) rfl
theorem dX12_judge_199 : decode cX12_judge 199 = .ok (.if_icmp .ge 58, 3) := dop_162 (zb_X12_judge_5 4 rfl) (zb_X12_judge_5 5 rfl) (zb_X12_judge_5 6 rfl) rfl
theorem dX12_judge_202 : decode cX12_judge 202 = .ok (.iload 4, 2) := dop_21 (zb_X12_judge_5 7 rfl) (zb_X12_judge_5 8 rfl)
theorem dX12_judge_204 : decode cX12_judge 204 = .ok (.ifCond .eq 44, 3) := dop_153 (zb_X12_judge_5 9 rfl) (zb_X12_judge_5 10 rfl) (zb_X12_judge_5 11 rfl) rfl
theorem dX12_judge_207 : decode cX12_judge 207 = .ok (.aload_n 0, 1) := dop_42 (zb_X12_judge_5 12 rfl)
theorem dX12_judge_208 : decode cX12_judge 208 = .ok (.getfield 13, 3) := dop_180 (zb_X12_judge_5 13 rfl) (zb_X12_judge_5 14 rfl) (zb_X12_judge_5 15 rfl) rfl
theorem dX12_judge_211 : decode cX12_judge 211 = .ok (.bipush 42, 2) := dop_16 (zb_X12_judge_5 16 rfl) (zb_X12_judge_5 17 rfl) rfl
theorem dX12_judge_213 : decode cX12_judge 213 = .ok (.iload 5, 2) := dop_21 (zb_X12_judge_5 18 rfl) (zb_X12_judge_5 19 rfl)
theorem dX12_judge_215 : decode cX12_judge 215 = .ok (.iadd, 1) := dop_96 (zb_X12_judge_5 20 rfl)
theorem dX12_judge_216 : decode cX12_judge 216 = .ok (.iaload, 1) := dop_46 (zb_X12_judge_5 21 rfl)
theorem dX12_judge_217 : decode cX12_judge 217 = .ok (.iconst (-1), 1) := dop_2 (zb_X12_judge_5 22 rfl)
theorem dX12_judge_218 : decode cX12_judge 218 = .ok (.if_icmp .eq 26, 3) := dop_159 (zb_X12_judge_5 23 rfl) (zb_X12_judge_5 24 rfl) (zb_X12_judge_5 25 rfl) rfl
theorem dX12_judge_221 : decode cX12_judge 221 = .ok (.aload_n 0, 1) := dop_42 (zb_X12_judge_5 26 rfl)
theorem dX12_judge_222 : decode cX12_judge 222 = .ok (.getfield 13, 3) := dop_180 (zb_X12_judge_5 27 rfl) (zb_X12_judge_5 28 rfl) (zb_X12_judge_5 29 rfl) rfl
theorem dX12_judge_225 : decode cX12_judge 225 = .ok (.bipush 66, 2) := dop_16 (zb_X12_judge_5 30 rfl) (zb_X12_judge_5 31 rfl) rfl
theorem dX12_judge_227 : decode cX12_judge 227 = .ok (.iload 5, 2) := dop_21 (zb_X12_judge_5 32 rfl) (zb_X12_judge_5 33 rfl)
theorem dX12_judge_229 : decode cX12_judge 229 = .ok (.iadd, 1) := dop_96 (zb_X12_judge_5 34 rfl)
theorem dX12_judge_230 : decode cX12_judge 230 = .ok (.iaload, 1) := dop_46 (zb_X12_judge_5 35 rfl)
theorem dX12_judge_231 : decode cX12_judge 231 = .ok (.aload_n 0, 1) := dop_42 (zb_X12_judge_5 36 rfl)
theorem dX12_judge_232 : decode cX12_judge 232 = .ok (.getfield 13, 3) := dop_180 (zb_X12_judge_5 37 rfl) (zb_X12_judge_5 38 rfl) (zb_X12_judge_5 39 rfl) rfl
theorem zb_X12_judge_6 (j : Nat) {n : Nat} (e : zw_X12_judge_6[j]? = some n) : dby cX12_judge (235 + j) n := dw_b (t := []) ze_X12_judge_6 j e
theorem dX12_judge_235 : decode cX12_judge 235 = .ok (.bipush 60, 2) := dop_16 (zb_X12_judge_6 0 rfl) (zb_X12_judge_6 1 rfl) rfl
theorem dX12_judge_237 : decode cX12_judge 237 = .ok (.iload 5, 2) := dop_21 (zb_X12_judge_6 2 rfl) (zb_X12_judge_6 3 rfl)
theorem dX12_judge_239 : decode cX12_judge 239 = .ok (.iadd, 1) := dop_96 (zb_X12_judge_6 4 rfl)
theorem dX12_judge_240 : decode cX12_judge 240 = .ok (.iaload, 1) := dop_46 (zb_X12_judge_6 5 rfl)
theorem dX12_judge_241 : decode cX12_judge 241 = .ok (.if_icmp .gt 7, 3) := dop_163 (zb_X12_judge_6 6 rfl) (zb_X12_judge_6 7 rfl) (zb_X12_judge_6 8 rfl) rfl
theorem dX12_judge_244 : decode cX12_judge 244 = .ok (.iconst 1, 1) := dop_4 (zb_X12_judge_6 9 rfl)
theorem dX12_judge_245 : decode cX12_judge 245 = .ok (.goto 4, 3) := dop_167 (zb_X12_judge_6 10 rfl) (zb_X12_judge_6 11 rfl) (zb_X12_judge_6 12 rfl) rfl
theorem dX12_judge_248 : decode cX12_judge 248 = .ok (.iconst 0, 1) := dop_3 (zb_X12_judge_6 13 rfl)
theorem dX12_judge_249 : decode cX12_judge 249 = .ok (.istore 4, 2) := dop_54 (zb_X12_judge_6 14 rfl) (zb_X12_judge_6 15 rfl)
theorem dX12_judge_251 : decode cX12_judge 251 = .ok (.iinc 5 1, 3) := dop_132 (zb_X12_judge_6 16 rfl) (zb_X12_judge_6 17 rfl) (zb_X12_judge_6 18 rfl) rfl
theorem dX12_judge_254 : decode cX12_judge 254 = .ok (.goto (-59), 3) := dop_167 (zb_X12_judge_6 19 rfl) (zb_X12_judge_6 20 rfl) (zb_X12_judge_6 21 rfl) rfl
theorem dX12_judge_257 : decode cX12_judge 257 = .ok (.iload 4, 2) := dop_21 (zb_X12_judge_6 22 rfl) (zb_X12_judge_6 23 rfl)
theorem dX12_judge_259 : decode cX12_judge 259 = .ok (.ifCond .eq 7, 3) := dop_153 (zb_X12_judge_6 24 rfl) (zb_X12_judge_6 25 rfl) (zb_X12_judge_6 26 rfl) rfl
theorem dX12_judge_262 : decode cX12_judge 262 = .ok (.iconst 1, 1) := dop_4 (zb_X12_judge_6 27 rfl)
theorem dX12_judge_263 : decode cX12_judge 263 = .ok (.goto 4, 3) := dop_167 (zb_X12_judge_6 28 rfl) (zb_X12_judge_6 29 rfl) (zb_X12_judge_6 30 rfl) rfl
theorem dX12_judge_266 : decode cX12_judge 266 = .ok (.iconst 0, 1) := dop_3 (zb_X12_judge_6 31 rfl)
theorem dX12_judge_267 : decode cX12_judge 267 = .ok (.ireturn, 1) := dop_172 (zb_X12_judge_6 32 rfl)
def zw_X12_year_5 : List Nat := [167, 255, 175, 42, 21, 6, 182, 0, 147, 172]
def zt_X12_year_5 : List Nat := zw_X12_year_5 ++ []
def zw_X12_year_4 : List Nat := [182, 2, 9, 100, 104, 54, 9, 21, 9, 21, 6, 164, 0, 19, 21, 9, 54, 6, 42, 21, 7, 181, 2, 3, 42, 21, 8, 181, 2, 6, 132, 8, 1, 167, 255, 194, 132, 7, 1]
def zt_X12_year_4 : List Nat := zw_X12_year_4 ++ zt_X12_year_5
def zw_X12_year_3 : List Nat := [162, 0, 80, 21, 7, 4, 96, 54, 8, 21, 8, 16, 32, 162, 0, 61, 29, 42, 28, 42, 180, 0, 130, 21, 8, 46, 182, 2, 9, 42, 28, 42, 180, 0, 130, 21, 7, 46]
def zt_X12_year_3 : List Nat := zw_X12_year_3 ++ zt_X12_year_4
def zw_X12_year_2 : List Nat := [22, 4, 20, 1, 254, 113, 136, 79, 132, 6, 1, 167, 255, 216, 42, 4, 181, 2, 0, 42, 2, 181, 2, 3, 42, 2, 181, 2, 6, 3, 54, 6, 3, 54, 7, 21, 7, 16, 32]
def zt_X12_year_2 : List Nat := zw_X12_year_2 ++ zt_X12_year_3
def zw_X12_year_1 : List Nat := [182, 0, 147, 172, 27, 133, 55, 4, 3, 54, 6, 21, 6, 16, 32, 162, 0, 39, 22, 4, 20, 1, 248, 105, 20, 1, 250, 97, 20, 1, 252, 113, 55, 4, 42, 180, 0, 130, 21, 6]
def zt_X12_year_1 : List Nat := zw_X12_year_1 ++ zt_X12_year_2
def zw_X12_year_0 : List Nat := [42, 3, 181, 0, 133, 27, 133, 9, 20, 0, 241, 184, 0, 143, 153, 0, 22, 28, 184, 0, 166, 153, 0, 15, 29, 133, 10, 20, 0, 180, 184, 0, 143, 154, 0, 9, 42, 2]
def zt_X12_year_0 : List Nat := zw_X12_year_0 ++ zt_X12_year_1
theorem ze_X12_year_0 : (dcn cX12_year).drop 0 = zt_X12_year_0 := by decide +kernel
theorem ze_X12_year_1 : (dcn cX12_year).drop 38 = zt_X12_year_1 := dw_n (wl := zw_X12_year_0) ze_X12_year_0 rfl
theorem zb_X12_year_0 (j : Nat) {n : Nat} (e : zw_X12_year_0[j]? = some n) : dby cX12_year (0 + j) n := dw_b (t := zt_X12_year_1) ze_X12_year_0 j e
theorem dX12_year_0 : decode cX12_year 0 = .ok (.aload_n 0, 1) := dop_42 (zb_X12_year_0 0 rfl)
theorem dX12_year_1 : decode cX12_year 1 = .ok (.iconst 0, 1) := dop_3 (zb_X12_year_0 1 rfl)
theorem dX12_year_2 : decode cX12_year 2 = .ok (.putfield 133, 3) := dop_181 (zb_X12_year_0 2 rfl) (zb_X12_year_0 3 rfl) (zb_X12_year_0 4 rfl) rfl
theorem dX12_year_5 : decode cX12_year 5 = .ok (.iload_n 1, 1) := dop_27 (zb_X12_year_0 5 rfl)
theorem dX12_year_6 : decode cX12_year 6 = .ok (.i2l, 1) := dop_133 (zb_X12_year_0 6 rfl)
theorem dX12_year_7 : decode cX12_year 7 = .ok (.lconst 0, 1) := dop_9 (zb_X12_year_0 7 rfl)
theorem dX12_year_8 : decode cX12_year 8 = .ok (.ldc2_w 241, 3) := dop_20 (zb_X12_year_0 8 rfl) (zb_X12_year_0 9 rfl) (zb_X12_year_0 10 rfl) rfl
theorem dX12_year_11 : decode cX12_year 11 = .ok (.invokestatic 143, 3) := dop_184 (zb_X12_year_0 11 rfl) (zb_X12_year_0 12 rfl) (zb_X12_year_0 13 rfl) rfl
theorem dX12_year_14 : decode cX12_year 14 = .ok (.ifCond .eq 22, 3) := dop_153 (zb_X12_year_0 14 rfl) (zb_X12_year_0 15 rfl) (zb_X12_year_0 16 rfl) rfl
theorem dX12_year_17 : decode cX12_year 17 = .ok (.iload_n 2, 1) := dop_28 (zb_X12_year_0 17 rfl)
theorem dX12_year_18 : decode cX12_year 18 = .ok (.invokestatic 166, 3) := dop_184 (zb_X12_year_0 18 rfl) (zb_X12_year_0 19 rfl) (zb_X12_year_0 20 rfl) rfl
theorem dX12_year_21 : decode cX12_year 21 = .ok (.ifCond .eq 15, 3) := dop_153 (zb_X12_year_0 21 rfl) (zb_X12_year_0 22 rfl) (zb_X12_year_0 23 rfl) rfl
theorem dX12_year_24 : decode cX12_year 24 = .ok (.iload_n 3, 1) := dop_29 (zb_X12_year_0 24 rfl)
theorem dX12_year_25 : decode cX12_year 25 = .ok (.i2l, 1) := dop_133 (zb_X12_year_0 25 rfl)
theorem dX12_year_26 : decode cX12_year 26 = .ok (.lconst 1, 1) := dop_10 (zb_X12_year_0 26 rfl)
theorem dX12_year_27 : decode cX12_year 27 = .ok (.ldc2_w 180, 3) := dop_20 (zb_X12_year_0 27 rfl) (zb_X12_year_0 28 rfl) (zb_X12_year_0 29 rfl) rfl
theorem dX12_year_30 : decode cX12_year 30 = .ok (.invokestatic 143, 3) := dop_184 (zb_X12_year_0 30 rfl) (zb_X12_year_0 31 rfl) (zb_X12_year_0 32 rfl) rfl
theorem dX12_year_33 : decode cX12_year 33 = .ok (.ifCond .ne 9, 3) := dop_154 (zb_X12_year_0 33 rfl) (zb_X12_year_0 34 rfl) (zb_X12_year_0 35 rfl) rfl
theorem dX12_year_36 : decode cX12_year 36 = .ok (.aload_n 0, 1) := dop_42 (zb_X12_year_0 36 rfl)
theorem dX12_year_37 : decode cX12_year 37 = .ok (.iconst (-1), 1) := dop_2 (zb_X12_year_0 37 rfl)
theorem ze_X12_year_2 : (dcn cX12_year).drop 78 = zt_X12_year_2 := dw_n (wl := zw_X12_year_1) ze_X12_year_1 rfl
theorem zb_X12_year_1 (j : Nat) {n : Nat} (e : zw_X12_year_1[j]? = some n) : dby cX12_year (38 + j) n := dw_b (t := zt_X12_year_2) ze_X12_year_1 j e
theorem dX12_year_38 : decode cX12_year 38 = .ok (.invokevirtual 147, 3) := dop_182 (zb_X12_year_1 0 rfl) (zb_X12_year_1 1 rfl) (zb_X12_year_1 2 rfl) rfl
theorem dX12_year_41 : decode cX12_year 41 = .ok (.ireturn, 1) := dop_172 (zb_X12_year_1 3 rfl)
theorem dX12_year_42 : decode cX12_year 42 = .ok (.iload_n 1, 1) := dop_27 (zb_X12_year_1 4 rfl)
theorem dX12_year_43 : decode cX12_year 43 = .ok (.i2l, 1) := dop_133 (zb_X12_year_1 5 rfl)
theorem dX12_year_44 : decode cX12_year 44 = .ok (.lstore 4, 2) := dop_55 (zb_X12_year_1 6 rfl) (zb_X12_year_1 7 rfl)
theorem dX12_year_46 : decode cX12_year 46 = .ok (.iconst 0, 1) := dop_3 (zb_X12_year_1 8 rfl)
theorem dX12_year_47 : decode cX12_year 47 = .ok (.istore 6, 2) := dop_54 (zb_X12_year_1 9 rfl) (zb_X12_year_1 10 rfl)
theorem dX12_year_49 : decode cX12_year 49 = .ok (.iload 6, 2) := dop_21 (zb_X12_year_1 11 rfl) (zb_X12_year_1 12 rfl)
theorem dX12_year_51 : decode cX12_year 51 = .ok (.bipush 32, 2) := dop_16 (zb_X12_year_1 13 rfl) (zb_X12_year_1 14 rfl) rfl
theorem dX12_year_53 : decode cX12_year 53 = .ok (.if_icmp .ge 39, 3) := dop_162 (zb_X12_year_1 15 rfl) (zb_X12_year_1 16 rfl) (zb_X12_year_1 17 rfl) rfl
theorem dX12_year_56 : decode cX12_year 56 = .ok (.lload 4, 2) := dop_22 (zb_X12_year_1 18 rfl) (zb_X12_year_1 19 rfl)
theorem dX12_year_58 : decode cX12_year 58 = .ok (.ldc2_w 504, 3) := dop_20 (zb_X12_year_1 20 rfl) (zb_X12_year_1 21 rfl) (zb_X12_year_1 22 rfl) rfl
theorem dX12_year_61 : decode cX12_year 61 = .ok (.lmul, 1) := dop_105 (zb_X12_year_1 23 rfl)
theorem dX12_year_62 : decode cX12_year 62 = .ok (.ldc2_w 506, 3) := dop_20 (zb_X12_year_1 24 rfl) (zb_X12_year_1 25 rfl) (zb_X12_year_1 26 rfl) rfl
theorem dX12_year_65 : decode cX12_year 65 = .ok (.ladd, 1) := dop_97 (zb_X12_year_1 27 rfl)
theorem dX12_year_66 : decode cX12_year 66 = .ok (.ldc2_w 508, 3) := dop_20 (zb_X12_year_1 28 rfl) (zb_X12_year_1 29 rfl) (zb_X12_year_1 30 rfl) rfl
theorem dX12_year_69 : decode cX12_year 69 = .ok (.lrem, 1) := dop_113 (zb_X12_year_1 31 rfl)
theorem dX12_year_70 : decode cX12_year 70 = .ok (.lstore 4, 2) := dop_55 (zb_X12_year_1 32 rfl) (zb_X12_year_1 33 rfl)
theorem dX12_year_72 : decode cX12_year 72 = .ok (.aload_n 0, 1) := dop_42 (zb_X12_year_1 34 rfl)
theorem dX12_year_73 : decode cX12_year 73 = .ok (.getfield 130, 3) := dop_180 (zb_X12_year_1 35 rfl) (zb_X12_year_1 36 rfl) (zb_X12_year_1 37 rfl) rfl
theorem dX12_year_76 : decode cX12_year 76 = .ok (.iload 6, 2) := dop_21 (zb_X12_year_1 38 rfl) (zb_X12_year_1 39 rfl)
theorem ze_X12_year_3 : (dcn cX12_year).drop 117 = zt_X12_year_3 := dw_n (wl := zw_X12_year_2) ze_X12_year_2 rfl
theorem zb_X12_year_2 (j : Nat) {n : Nat} (e : zw_X12_year_2[j]? = some n) : dby cX12_year (78 + j) n := dw_b (t := zt_X12_year_3) ze_X12_year_2 j e
theorem dX12_year_78 : decode cX12_year 78 = .ok (.lload 4, 2) := dop_22 (zb_X12_year_2 0 rfl) (zb_X12_year_2 1 rfl)
theorem dX12_year_80 : decode cX12_year 80 = .ok (.ldc2_w 510, 3) := dop_20 (zb_X12_year_2 2 rfl) (zb_X12_year_2 3 rfl) (zb_X12_year_2 4 rfl) rfl
theorem dX12_year_83 : decode cX12_year 83 = .ok (.lrem, 1) := dop_113 (zb_X12_year_2 5 rfl)
theorem dX12_year_84 : decode cX12_year 84 = .ok (.l2i, 1) := dop_136 (zb_X12_year_2 6 rfl)
theorem dX12_year_85 : decode cX12_year 85 = .ok (.iastore, 1) := dop_79 (zb_X12_year_2 7 rfl)
theorem dX12_year_86 : decode cX12_year 86 = .ok (.iinc 6 1, 3) := dop_132 (zb_X12_year_2 8 rfl) (zb_X12_year_2 9 rfl) (zb_X12_year_2 10 rfl) rfl
theorem dX12_year_89 : decode cX12_year 89 = .ok (.goto (-40), 3) := dop_167 (zb_X12_year_2 11 rfl) (zb_X12_year_2 12 rfl) (zb_X12_year_2 13 rfl) rfl
theorem dX12_year_92 : decode cX12_year 92 = .ok (.aload_n 0, 1) := dop_42 (zb_X12_year_2 14 rfl)
theorem dX12_year_93 : decode cX12_year 93 = .ok (.iconst 1, 1) := dop_4 (zb_X12_year_2 15 rfl)
theorem dX12_year_94 : decode cX12_year 94 = .ok (.putfield 512, 3) := dop_181 (zb_X12_year_2 16 rfl) (zb_X12_year_2 17 rfl) (zb_X12_year_2 18 rfl) rfl
theorem dX12_year_97 : decode cX12_year 97 = .ok (.aload_n 0, 1) := dop_42 (zb_X12_year_2 19 rfl)
theorem dX12_year_98 : decode cX12_year 98 = .ok (.iconst (-1), 1) := dop_2 (zb_X12_year_2 20 rfl)
theorem dX12_year_99 : decode cX12_year 99 = .ok (.putfield 515, 3) := dop_181 (zb_X12_year_2 21 rfl) (zb_X12_year_2 22 rfl) (zb_X12_year_2 23 rfl) rfl
theorem dX12_year_102 : decode cX12_year 102 = .ok (.aload_n 0, 1) := dop_42 (zb_X12_year_2 24 rfl)
theorem dX12_year_103 : decode cX12_year 103 = .ok (.iconst (-1), 1) := dop_2 (zb_X12_year_2 25 rfl)
theorem dX12_year_104 : decode cX12_year 104 = .ok (.putfield 518, 3) := dop_181 (zb_X12_year_2 26 rfl) (zb_X12_year_2 27 rfl) (zb_X12_year_2 28 rfl) rfl
theorem dX12_year_107 : decode cX12_year 107 = .ok (.iconst 0, 1) := dop_3 (zb_X12_year_2 29 rfl)
theorem dX12_year_108 : decode cX12_year 108 = .ok (.istore 6, 2) := dop_54 (zb_X12_year_2 30 rfl) (zb_X12_year_2 31 rfl)
theorem dX12_year_110 : decode cX12_year 110 = .ok (.iconst 0, 1) := dop_3 (zb_X12_year_2 32 rfl)
theorem dX12_year_111 : decode cX12_year 111 = .ok (.istore 7, 2) := dop_54 (zb_X12_year_2 33 rfl) (zb_X12_year_2 34 rfl)
theorem dX12_year_113 : decode cX12_year 113 = .ok (.iload 7, 2) := dop_21 (zb_X12_year_2 35 rfl) (zb_X12_year_2 36 rfl)
theorem dX12_year_115 : decode cX12_year 115 = .ok (.bipush 32, 2) := dop_16 (zb_X12_year_2 37 rfl) (zb_X12_year_2 38 rfl) rfl
theorem ze_X12_year_4 : (dcn cX12_year).drop 155 = zt_X12_year_4 := dw_n (wl := zw_X12_year_3) ze_X12_year_3 rfl
theorem zb_X12_year_3 (j : Nat) {n : Nat} (e : zw_X12_year_3[j]? = some n) : dby cX12_year (117 + j) n := dw_b (t := zt_X12_year_4) ze_X12_year_3 j e
theorem dX12_year_117 : decode cX12_year 117 = .ok (.if_icmp .ge 80, 3) := dop_162 (zb_X12_year_3 0 rfl) (zb_X12_year_3 1 rfl) (zb_X12_year_3 2 rfl) rfl
theorem dX12_year_120 : decode cX12_year 120 = .ok (.iload 7, 2) := dop_21 (zb_X12_year_3 3 rfl) (zb_X12_year_3 4 rfl)
theorem dX12_year_122 : decode cX12_year 122 = .ok (.iconst 1, 1) := dop_4 (zb_X12_year_3 5 rfl)
theorem dX12_year_123 : decode cX12_year 123 = .ok (.iadd, 1) := dop_96 (zb_X12_year_3 6 rfl)
theorem dX12_year_124 : decode cX12_year 124 = .ok (.istore 8, 2) := dop_54 (zb_X12_year_3 7 rfl) (zb_X12_year_3 8 rfl)
theorem dX12_year_126 : decode cX12_year 126 = .ok (.iload 8, 2) := dop_21 (zb_X12_year_3 9 rfl) (zb_X12_year_3 10 rfl)
theorem dX12_year_128 : decode cX12_year 128 = .ok (.bipush 32, 2) := dop_16 (zb_X12_year_3 11 rfl) (zb_X12_year_3 12 rfl) rfl
theorem dX12_year_130 : decode cX12_year 130 = .ok (.if_icmp .ge 61, 3) := dop_162 (zb_X12_year_3 13 rfl) (zb_X12_year_3 14 rfl) (zb_X12_year_3 15 rfl) rfl
theorem dX12_year_133 : decode cX12_year 133 = .ok (.iload_n 3, 1) := dop_29 (zb_X12_year_3 16 rfl)
theorem dX12_year_134 : decode cX12_year 134 = .ok (.aload_n 0, 1) := dop_42 (zb_X12_year_3 17 rfl)
theorem dX12_year_135 : decode cX12_year 135 = .ok (.iload_n 2, 1) := dop_28 (zb_X12_year_3 18 rfl)
theorem dX12_year_136 : decode cX12_year 136 = .ok (.aload_n 0, 1) := dop_42 (zb_X12_year_3 19 rfl)
theorem dX12_year_137 : decode cX12_year 137 = .ok (.getfield 130, 3) := dop_180 (zb_X12_year_3 20 rfl) (zb_X12_year_3 21 rfl) (zb_X12_year_3 22 rfl) rfl
theorem dX12_year_140 : decode cX12_year 140 = .ok (.iload 8, 2) := dop_21 (zb_X12_year_3 23 rfl) (zb_X12_year_3 24 rfl)
theorem dX12_year_142 : decode cX12_year 142 = .ok (.iaload, 1) := dop_46 (zb_X12_year_3 25 rfl)
theorem dX12_year_143 : decode cX12_year 143 = .ok (.invokevirtual 521, 3) := dop_182 (zb_X12_year_3 26 rfl) (zb_X12_year_3 27 rfl) (zb_X12_year_3 28 rfl) rfl
theorem dX12_year_146 : decode cX12_year 146 = .ok (.aload_n 0, 1) := dop_42 (zb_X12_year_3 29 rfl)
theorem dX12_year_147 : decode cX12_year 147 = .ok (.iload_n 2, 1) := dop_28 (zb_X12_year_3 30 rfl)
theorem dX12_year_148 : decode cX12_year 148 = .ok (.aload_n 0, 1) := dop_42 (zb_X12_year_3 31 rfl)
theorem dX12_year_149 : decode cX12_year 149 = .ok (.getfield 130, 3) := dop_180 (zb_X12_year_3 32 rfl) (zb_X12_year_3 33 rfl) (zb_X12_year_3 34 rfl) rfl
theorem dX12_year_152 : decode cX12_year 152 = .ok (.iload 7, 2) := dop_21 (zb_X12_year_3 35 rfl) (zb_X12_year_3 36 rfl)
theorem dX12_year_154 : decode cX12_year 154 = .ok (.iaload, 1) := dop_46 (zb_X12_year_3 37 rfl)
theorem ze_X12_year_5 : (dcn cX12_year).drop 194 = zt_X12_year_5 := dw_n (wl := zw_X12_year_4) ze_X12_year_4 rfl
theorem zb_X12_year_4 (j : Nat) {n : Nat} (e : zw_X12_year_4[j]? = some n) : dby cX12_year (155 + j) n := dw_b (t := zt_X12_year_5) ze_X12_year_4 j e
theorem dX12_year_155 : decode cX12_year 155 = .ok (.invokevirtual 521, 3) := dop_182 (zb_X12_year_4 0 rfl) (zb_X12_year_4 1 rfl) (zb_X12_year_4 2 rfl) rfl
theorem dX12_year_158 : decode cX12_year 158 = .ok (.isub, 1) := dop_100 (zb_X12_year_4 3 rfl)
theorem dX12_year_159 : decode cX12_year 159 = .ok (.imul, 1) := dop_104 (zb_X12_year_4 4 rfl)
theorem dX12_year_160 : decode cX12_year 160 = .ok (.istore 9, 2) := dop_54 (zb_X12_year_4 5 rfl) (zb_X12_year_4 6 rfl)
theorem dX12_year_162 : decode cX12_year 162 = .ok (.iload 9, 2) := dop_21 (zb_X12_year_4 7 rfl) (zb_X12_year_4 8 rfl)
theorem dX12_year_164 : decode cX12_year 164 = .ok (.iload 6, 2) := dop_21 (zb_X12_year_4 9 rfl) (zb_X12_year_4 10 rfl)
theorem dX12_year_166 : decode cX12_year 166 = .ok (.if_icmp .le 19, 3) := dop_164 (zb_X12_year_4 11 rfl) (zb_X12_year_4 12 rfl) (zb_X12_year_4 13 rfl) rfl
theorem dX12_year_169 : decode cX12_year 169 = .ok (.iload 9, 2) := dop_21 (zb_X12_year_4 14 rfl) (zb_X12_year_4 15 rfl)
theorem dX12_year_171 : decode cX12_year 171 = .ok (.istore 6, 2) := dop_54 (zb_X12_year_4 16 rfl) (zb_X12_year_4 17 rfl)
theorem dX12_year_173 : decode cX12_year 173 = .ok (.aload_n 0, 1) := dop_42 (zb_X12_year_4 18 rfl)
theorem dX12_year_174 : decode cX12_year 174 = .ok (.iload 7, 2) := dop_21 (zb_X12_year_4 19 rfl) (zb_X12_year_4 20 rfl)
theorem dX12_year_176 : decode cX12_year 176 = .ok (.putfield 515, 3) := dop_181 (zb_X12_year_4 21 rfl) (zb_X12_year_4 22 rfl) (zb_X12_year_4 23 rfl) rfl
theorem dX12_year_179 : decode cX12_year 179 = .ok (.aload_n 0, 1) := dop_42 (zb_X12_year_4 24 rfl)
theorem dX12_year_180 : decode cX12_year 180 = .ok (.iload 8, 2) := dop_21 (zb_X12_year_4 25 rfl) (zb_X12_year_4 26 rfl)
theorem dX12_year_182 : decode cX12_year 182 = .ok (.putfield 518, 3) := dop_181 (zb_X12_year_4 27 rfl) (zb_X12_year_4 28 rfl) (zb_X12_year_4 29 rfl) rfl
theorem dX12_year_185 : decode cX12_year 185 = .ok (.iinc 8 1, 3) := dop_132 (zb_X12_year_4 30 rfl) (zb_X12_year_4 31 rfl) (zb_X12_year_4 32 rfl) rfl
theorem dX12_year_188 : decode cX12_year 188 = .ok (.goto (-62), 3) := dop_167 (zb_X12_year_4 33 rfl) (zb_X12_year_4 34 rfl) (zb_X12_year_4 35 rfl) rfl
theorem dX12_year_191 : decode cX12_year 191 = .ok (.iinc 7 1, 3) := dop_132 (zb_X12_year_4 36 rfl) (zb_X12_year_4 37 rfl) (zb_X12_year_4 38 rfl) rfl
theorem zb_X12_year_5 (j : Nat) {n : Nat} (e : zw_X12_year_5[j]? = some n) : dby cX12_year (194 + j) n := dw_b (t := []) ze_X12_year_5 j e
theorem dX12_year_194 : decode cX12_year 194 = .ok (.goto (-81), 3) := dop_167 (zb_X12_year_5 0 rfl) (zb_X12_year_5 1 rfl) (zb_X12_year_5 2 rfl) rfl
theorem dX12_year_197 : decode cX12_year 197 = .ok (.aload_n 0, 1) := dop_42 (zb_X12_year_5 3 rfl)
theorem dX12_year_198 : decode cX12_year 198 = .ok (.iload 6, 2) := dop_21 (zb_X12_year_5 4 rfl) (zb_X12_year_5 5 rfl)
theorem dX12_year_200 : decode cX12_year 200 = .ok (.invokevirtual 147, 3) := dop_182 (zb_X12_year_5 6 rfl) (zb_X12_year_5 7 rfl) (zb_X12_year_5 8 rfl) rfl
theorem dX12_year_203 : decode cX12_year 203 = .ok (.ireturn, 1) := dop_172 (zb_X12_year_5 9 rfl)
def zw_X12_trade_1 : List Nat := [160, 0, 10, 42, 180, 2, 6, 167, 0, 11, 42, 180, 0, 130, 27, 5, 100, 46, 172]
def zt_X12_trade_1 : List Nat := zw_X12_trade_1 ++ []
def zw_X12_trade_0 : List Nat := [42, 3, 181, 0, 133, 42, 180, 2, 0, 153, 0, 15, 27, 133, 9, 20, 2, 12, 184, 0, 143, 154, 0, 5, 2, 172, 27, 154, 0, 10, 42, 180, 2, 3, 167, 0, 23, 27, 4]
def zt_X12_trade_0 : List Nat := zw_X12_trade_0 ++ zt_X12_trade_1
theorem ze_X12_trade_0 : (dcn cX12_trade).drop 0 = zt_X12_trade_0 := by decide +kernel
theorem ze_X12_trade_1 : (dcn cX12_trade).drop 39 = zt_X12_trade_1 := dw_n (wl := zw_X12_trade_0) ze_X12_trade_0 rfl
theorem zb_X12_trade_0 (j : Nat) {n : Nat} (e : zw_X12_trade_0[j]? = some n) : dby cX12_trade (0 + j) n := dw_b (t := zt_X12_trade_1) ze_X12_trade_0 j e
theorem dX12_trade_0 : decode cX12_trade 0 = .ok (.aload_n 0, 1) := dop_42 (zb_X12_trade_0 0 rfl)
theorem dX12_trade_1 : decode cX12_trade 1 = .ok (.iconst 0, 1) := dop_3 (zb_X12_trade_0 1 rfl)
theorem dX12_trade_2 : decode cX12_trade 2 = .ok (.putfield 133, 3) := dop_181 (zb_X12_trade_0 2 rfl) (zb_X12_trade_0 3 rfl) (zb_X12_trade_0 4 rfl) rfl
theorem dX12_trade_5 : decode cX12_trade 5 = .ok (.aload_n 0, 1) := dop_42 (zb_X12_trade_0 5 rfl)
theorem dX12_trade_6 : decode cX12_trade 6 = .ok (.getfield 512, 3) := dop_180 (zb_X12_trade_0 6 rfl) (zb_X12_trade_0 7 rfl) (zb_X12_trade_0 8 rfl) rfl
theorem dX12_trade_9 : decode cX12_trade 9 = .ok (.ifCond .eq 15, 3) := dop_153 (zb_X12_trade_0 9 rfl) (zb_X12_trade_0 10 rfl) (zb_X12_trade_0 11 rfl) rfl
theorem dX12_trade_12 : decode cX12_trade 12 = .ok (.iload_n 1, 1) := dop_27 (zb_X12_trade_0 12 rfl)
theorem dX12_trade_13 : decode cX12_trade 13 = .ok (.i2l, 1) := dop_133 (zb_X12_trade_0 13 rfl)
theorem dX12_trade_14 : decode cX12_trade 14 = .ok (.lconst 0, 1) := dop_9 (zb_X12_trade_0 14 rfl)
theorem dX12_trade_15 : decode cX12_trade 15 = .ok (.ldc2_w 524, 3) := dop_20 (zb_X12_trade_0 15 rfl) (zb_X12_trade_0 16 rfl) (zb_X12_trade_0 17 rfl) rfl
theorem dX12_trade_18 : decode cX12_trade 18 = .ok (.invokestatic 143, 3) := dop_184 (zb_X12_trade_0 18 rfl) (zb_X12_trade_0 19 rfl) (zb_X12_trade_0 20 rfl) rfl
theorem dX12_trade_21 : decode cX12_trade 21 = .ok (.ifCond .ne 5, 3) := dop_154 (zb_X12_trade_0 21 rfl) (zb_X12_trade_0 22 rfl) (zb_X12_trade_0 23 rfl) rfl
theorem dX12_trade_24 : decode cX12_trade 24 = .ok (.iconst (-1), 1) := dop_2 (zb_X12_trade_0 24 rfl)
theorem dX12_trade_25 : decode cX12_trade 25 = .ok (.ireturn, 1) := dop_172 (zb_X12_trade_0 25 rfl)
theorem dX12_trade_26 : decode cX12_trade 26 = .ok (.iload_n 1, 1) := dop_27 (zb_X12_trade_0 26 rfl)
theorem dX12_trade_27 : decode cX12_trade 27 = .ok (.ifCond .ne 10, 3) := dop_154 (zb_X12_trade_0 27 rfl) (zb_X12_trade_0 28 rfl) (zb_X12_trade_0 29 rfl) rfl
theorem dX12_trade_30 : decode cX12_trade 30 = .ok (.aload_n 0, 1) := dop_42 (zb_X12_trade_0 30 rfl)
theorem dX12_trade_31 : decode cX12_trade 31 = .ok (.getfield 515, 3) := dop_180 (zb_X12_trade_0 31 rfl) (zb_X12_trade_0 32 rfl) (zb_X12_trade_0 33 rfl) rfl
theorem dX12_trade_34 : decode cX12_trade 34 = .ok (.goto 23, 3) := dop_167 (zb_X12_trade_0 34 rfl) (zb_X12_trade_0 35 rfl) (zb_X12_trade_0 36 rfl) rfl
theorem dX12_trade_37 : decode cX12_trade 37 = .ok (.iload_n 1, 1) := dop_27 (zb_X12_trade_0 37 rfl)
theorem dX12_trade_38 : decode cX12_trade 38 = .ok (.iconst 1, 1) := dop_4 (zb_X12_trade_0 38 rfl)
theorem zb_X12_trade_1 (j : Nat) {n : Nat} (e : zw_X12_trade_1[j]? = some n) : dby cX12_trade (39 + j) n := dw_b (t := []) ze_X12_trade_1 j e
theorem dX12_trade_39 : decode cX12_trade 39 = .ok (.if_icmp .ne 10, 3) := dop_160 (zb_X12_trade_1 0 rfl) (zb_X12_trade_1 1 rfl) (zb_X12_trade_1 2 rfl) rfl
theorem dX12_trade_42 : decode cX12_trade 42 = .ok (.aload_n 0, 1) := dop_42 (zb_X12_trade_1 3 rfl)
theorem dX12_trade_43 : decode cX12_trade 43 = .ok (.getfield 518, 3) := dop_180 (zb_X12_trade_1 4 rfl) (zb_X12_trade_1 5 rfl) (zb_X12_trade_1 6 rfl) rfl
theorem dX12_trade_46 : decode cX12_trade 46 = .ok (.goto 11, 3) := dop_167 (zb_X12_trade_1 7 rfl) (zb_X12_trade_1 8 rfl) (zb_X12_trade_1 9 rfl) rfl
theorem dX12_trade_49 : decode cX12_trade 49 = .ok (.aload_n 0, 1) := dop_42 (zb_X12_trade_1 10 rfl)
theorem dX12_trade_50 : decode cX12_trade 50 = .ok (.getfield 130, 3) := dop_180 (zb_X12_trade_1 11 rfl) (zb_X12_trade_1 12 rfl) (zb_X12_trade_1 13 rfl) rfl
theorem dX12_trade_53 : decode cX12_trade 53 = .ok (.iload_n 1, 1) := dop_27 (zb_X12_trade_1 14 rfl)
theorem dX12_trade_54 : decode cX12_trade 54 = .ok (.iconst 2, 1) := dop_5 (zb_X12_trade_1 15 rfl)
theorem dX12_trade_55 : decode cX12_trade 55 = .ok (.isub, 1) := dop_100 (zb_X12_trade_1 16 rfl)
theorem dX12_trade_56 : decode cX12_trade 56 = .ok (.iaload, 1) := dop_46 (zb_X12_trade_1 17 rfl)
theorem dX12_trade_57 : decode cX12_trade 57 = .ok (.ireturn, 1) := dop_172 (zb_X12_trade_1 18 rfl)
def zw_X12_told_2 : List Nat := [96, 61, 132, 3, 1, 167, 255, 196, 28, 172]
def zt_X12_told_2 : List Nat := zw_X12_told_2 ++ []
def zw_X12_told_1 : List Nat := [2, 159, 0, 23, 29, 42, 180, 0, 13, 16, 42, 27, 96, 46, 161, 0, 10, 16, 6, 27, 96, 167, 0, 4, 27, 54, 4, 28, 42, 21, 4, 42, 180, 0, 130, 29, 46, 182, 2, 9]
def zt_X12_told_1 : List Nat := zw_X12_told_1 ++ zt_X12_told_2
def zw_X12_told_0 : List Nat := [42, 3, 181, 0, 133, 42, 180, 2, 0, 153, 0, 10, 27, 184, 0, 166, 154, 0, 5, 2, 172, 3, 61, 3, 62, 29, 16, 32, 162, 0, 60, 42, 180, 0, 13, 16, 42, 27, 96, 46]
def zt_X12_told_0 : List Nat := zw_X12_told_0 ++ zt_X12_told_1
theorem ze_X12_told_0 : (dcn cX12_told).drop 0 = zt_X12_told_0 := by decide +kernel
theorem ze_X12_told_1 : (dcn cX12_told).drop 40 = zt_X12_told_1 := dw_n (wl := zw_X12_told_0) ze_X12_told_0 rfl
theorem zb_X12_told_0 (j : Nat) {n : Nat} (e : zw_X12_told_0[j]? = some n) : dby cX12_told (0 + j) n := dw_b (t := zt_X12_told_1) ze_X12_told_0 j e
theorem dX12_told_0 : decode cX12_told 0 = .ok (.aload_n 0, 1) := dop_42 (zb_X12_told_0 0 rfl)
theorem dX12_told_1 : decode cX12_told 1 = .ok (.iconst 0, 1) := dop_3 (zb_X12_told_0 1 rfl)
theorem dX12_told_2 : decode cX12_told 2 = .ok (.putfield 133, 3) := dop_181 (zb_X12_told_0 2 rfl) (zb_X12_told_0 3 rfl) (zb_X12_told_0 4 rfl) rfl
theorem dX12_told_5 : decode cX12_told 5 = .ok (.aload_n 0, 1) := dop_42 (zb_X12_told_0 5 rfl)
theorem dX12_told_6 : decode cX12_told 6 = .ok (.getfield 512, 3) := dop_180 (zb_X12_told_0 6 rfl) (zb_X12_told_0 7 rfl) (zb_X12_told_0 8 rfl) rfl
theorem dX12_told_9 : decode cX12_told 9 = .ok (.ifCond .eq 10, 3) := dop_153 (zb_X12_told_0 9 rfl) (zb_X12_told_0 10 rfl) (zb_X12_told_0 11 rfl) rfl
theorem dX12_told_12 : decode cX12_told 12 = .ok (.iload_n 1, 1) := dop_27 (zb_X12_told_0 12 rfl)
theorem dX12_told_13 : decode cX12_told 13 = .ok (.invokestatic 166, 3) := dop_184 (zb_X12_told_0 13 rfl) (zb_X12_told_0 14 rfl) (zb_X12_told_0 15 rfl) rfl
theorem dX12_told_16 : decode cX12_told 16 = .ok (.ifCond .ne 5, 3) := dop_154 (zb_X12_told_0 16 rfl) (zb_X12_told_0 17 rfl) (zb_X12_told_0 18 rfl) rfl
theorem dX12_told_19 : decode cX12_told 19 = .ok (.iconst (-1), 1) := dop_2 (zb_X12_told_0 19 rfl)
theorem dX12_told_20 : decode cX12_told 20 = .ok (.ireturn, 1) := dop_172 (zb_X12_told_0 20 rfl)
theorem dX12_told_21 : decode cX12_told 21 = .ok (.iconst 0, 1) := dop_3 (zb_X12_told_0 21 rfl)
theorem dX12_told_22 : decode cX12_told 22 = .ok (.istore_n 2, 1) := dop_61 (zb_X12_told_0 22 rfl)
theorem dX12_told_23 : decode cX12_told 23 = .ok (.iconst 0, 1) := dop_3 (zb_X12_told_0 23 rfl)
theorem dX12_told_24 : decode cX12_told 24 = .ok (.istore_n 3, 1) := dop_62 (zb_X12_told_0 24 rfl)
theorem dX12_told_25 : decode cX12_told 25 = .ok (.iload_n 3, 1) := dop_29 (zb_X12_told_0 25 rfl)
theorem dX12_told_26 : decode cX12_told 26 = .ok (.bipush 32, 2) := dop_16 (zb_X12_told_0 26 rfl) (zb_X12_told_0 27 rfl) rfl
theorem dX12_told_28 : decode cX12_told 28 = .ok (.if_icmp .ge 60, 3) := dop_162 (zb_X12_told_0 28 rfl) (zb_X12_told_0 29 rfl) (zb_X12_told_0 30 rfl) rfl
theorem dX12_told_31 : decode cX12_told 31 = .ok (.aload_n 0, 1) := dop_42 (zb_X12_told_0 31 rfl)
theorem dX12_told_32 : decode cX12_told 32 = .ok (.getfield 13, 3) := dop_180 (zb_X12_told_0 32 rfl) (zb_X12_told_0 33 rfl) (zb_X12_told_0 34 rfl) rfl
theorem dX12_told_35 : decode cX12_told 35 = .ok (.bipush 42, 2) := dop_16 (zb_X12_told_0 35 rfl) (zb_X12_told_0 36 rfl) rfl
theorem dX12_told_37 : decode cX12_told 37 = .ok (.iload_n 1, 1) := dop_27 (zb_X12_told_0 37 rfl)
theorem dX12_told_38 : decode cX12_told 38 = .ok (.iadd, 1) := dop_96 (zb_X12_told_0 38 rfl)
theorem dX12_told_39 : decode cX12_told 39 = .ok (.iaload, 1) := dop_46 (zb_X12_told_0 39 rfl)
theorem ze_X12_told_2 : (dcn cX12_told).drop 80 = zt_X12_told_2 := dw_n (wl := zw_X12_told_1) ze_X12_told_1 rfl
theorem zb_X12_told_1 (j : Nat) {n : Nat} (e : zw_X12_told_1[j]? = some n) : dby cX12_told (40 + j) n := dw_b (t := zt_X12_told_2) ze_X12_told_1 j e
theorem dX12_told_40 : decode cX12_told 40 = .ok (.iconst (-1), 1) := dop_2 (zb_X12_told_1 0 rfl)
theorem dX12_told_41 : decode cX12_told 41 = .ok (.if_icmp .eq 23, 3) := dop_159 (zb_X12_told_1 1 rfl) (zb_X12_told_1 2 rfl) (zb_X12_told_1 3 rfl) rfl
theorem dX12_told_44 : decode cX12_told 44 = .ok (.iload_n 3, 1) := dop_29 (zb_X12_told_1 4 rfl)
theorem dX12_told_45 : decode cX12_told 45 = .ok (.aload_n 0, 1) := dop_42 (zb_X12_told_1 5 rfl)
theorem dX12_told_46 : decode cX12_told 46 = .ok (.getfield 13, 3) := dop_180 (zb_X12_told_1 6 rfl) (zb_X12_told_1 7 rfl) (zb_X12_told_1 8 rfl) rfl
theorem dX12_told_49 : decode cX12_told 49 = .ok (.bipush 42, 2) := dop_16 (zb_X12_told_1 9 rfl) (zb_X12_told_1 10 rfl) rfl
theorem dX12_told_51 : decode cX12_told 51 = .ok (.iload_n 1, 1) := dop_27 (zb_X12_told_1 11 rfl)
theorem dX12_told_52 : decode cX12_told 52 = .ok (.iadd, 1) := dop_96 (zb_X12_told_1 12 rfl)
theorem dX12_told_53 : decode cX12_told 53 = .ok (.iaload, 1) := dop_46 (zb_X12_told_1 13 rfl)
theorem dX12_told_54 : decode cX12_told 54 = .ok (.if_icmp .lt 10, 3) := dop_161 (zb_X12_told_1 14 rfl) (zb_X12_told_1 15 rfl) (zb_X12_told_1 16 rfl) rfl
theorem dX12_told_57 : decode cX12_told 57 = .ok (.bipush 6, 2) := dop_16 (zb_X12_told_1 17 rfl) (zb_X12_told_1 18 rfl) rfl
theorem dX12_told_59 : decode cX12_told 59 = .ok (.iload_n 1, 1) := dop_27 (zb_X12_told_1 19 rfl)
theorem dX12_told_60 : decode cX12_told 60 = .ok (.iadd, 1) := dop_96 (zb_X12_told_1 20 rfl)
theorem dX12_told_61 : decode cX12_told 61 = .ok (.goto 4, 3) := dop_167 (zb_X12_told_1 21 rfl) (zb_X12_told_1 22 rfl) (zb_X12_told_1 23 rfl) rfl
theorem dX12_told_64 : decode cX12_told 64 = .ok (.iload_n 1, 1) := dop_27 (zb_X12_told_1 24 rfl)
theorem dX12_told_65 : decode cX12_told 65 = .ok (.istore 4, 2) := dop_54 (zb_X12_told_1 25 rfl) (zb_X12_told_1 26 rfl)
theorem dX12_told_67 : decode cX12_told 67 = .ok (.iload_n 2, 1) := dop_28 (zb_X12_told_1 27 rfl)
theorem dX12_told_68 : decode cX12_told 68 = .ok (.aload_n 0, 1) := dop_42 (zb_X12_told_1 28 rfl)
theorem dX12_told_69 : decode cX12_told 69 = .ok (.iload 4, 2) := dop_21 (zb_X12_told_1 29 rfl) (zb_X12_told_1 30 rfl)
theorem dX12_told_71 : decode cX12_told 71 = .ok (.aload_n 0, 1) := dop_42 (zb_X12_told_1 31 rfl)
theorem dX12_told_72 : decode cX12_told 72 = .ok (.getfield 130, 3) := dop_180 (zb_X12_told_1 32 rfl) (zb_X12_told_1 33 rfl) (zb_X12_told_1 34 rfl) rfl
theorem dX12_told_75 : decode cX12_told 75 = .ok (.iload_n 3, 1) := dop_29 (zb_X12_told_1 35 rfl)
theorem dX12_told_76 : decode cX12_told 76 = .ok (.iaload, 1) := dop_46 (zb_X12_told_1 36 rfl)
theorem dX12_told_77 : decode cX12_told 77 = .ok (.invokevirtual 521, 3) := dop_182 (zb_X12_told_1 37 rfl) (zb_X12_told_1 38 rfl) (zb_X12_told_1 39 rfl) rfl
theorem zb_X12_told_2 (j : Nat) {n : Nat} (e : zw_X12_told_2[j]? = some n) : dby cX12_told (80 + j) n := dw_b (t := []) ze_X12_told_2 j e
theorem dX12_told_80 : decode cX12_told 80 = .ok (.iadd, 1) := dop_96 (zb_X12_told_2 0 rfl)
theorem dX12_told_81 : decode cX12_told 81 = .ok (.istore_n 2, 1) := dop_61 (zb_X12_told_2 1 rfl)
theorem dX12_told_82 : decode cX12_told 82 = .ok (.iinc 3 1, 3) := dop_132 (zb_X12_told_2 2 rfl) (zb_X12_told_2 3 rfl) (zb_X12_told_2 4 rfl) rfl
theorem dX12_told_85 : decode cX12_told 85 = .ok (.goto (-60), 3) := dop_167 (zb_X12_told_2 5 rfl) (zb_X12_told_2 6 rfl) (zb_X12_told_2 7 rfl) rfl
theorem dX12_told_88 : decode cX12_told 88 = .ok (.iload_n 2, 1) := dop_28 (zb_X12_told_2 8 rfl)
theorem dX12_told_89 : decode cX12_told 89 = .ok (.ireturn, 1) := dop_172 (zb_X12_told_2 9 rfl)
def zw_X12_count_5 : List Nat := [180, 0, 7, 5, 46, 172, 42, 180, 0, 7, 6, 46, 172, 42, 180, 0, 7, 8, 46, 172, 42, 180, 0, 7, 16, 6, 46, 172, 2, 172]
def zt_X12_count_5 : List Nat := zw_X12_count_5 ++ []
def zw_X12_count_4 : List Nat := [42, 180, 0, 13, 3, 46, 172, 42, 182, 1, 114, 184, 2, 14, 172, 42, 180, 0, 13, 4, 46, 172, 28, 172, 29, 172, 42, 180, 0, 201, 172, 42, 180, 0, 7, 4, 46, 172, 42]
def zt_X12_count_4 : List Nat := zw_X12_count_4 ++ zt_X12_count_5
def zw_X12_count_3 : List Nat := [170, 0, 0, 0, 0, 125, 0, 0, 0, 0, 0, 0, 0, 10, 0, 0, 0, 58, 0, 0, 0, 65, 0, 0, 0, 73, 0, 0, 0, 80, 0, 0, 0, 82, 0, 0, 0, 84, 0, 0, 0, 89, 0, 0, 0, 96, 0, 0, 0, 103, 0, 0, 0, 110, 0, 0, 0, 117]
def zt_X12_count_3 : List Nat := zw_X12_count_3 ++ zt_X12_count_4
def zw_X12_count_2 : List Nat := [132, 4, 1, 167, 255, 224, 27]
def zt_X12_count_2 : List Nat := zw_X12_count_2 ++ zt_X12_count_3
def zw_X12_count_1 : List Nat := [61, 132, 4, 1, 167, 255, 224, 3, 54, 4, 21, 4, 16, 6, 162, 0, 31, 29, 42, 180, 0, 13, 16, 42, 21, 4, 96, 46, 2, 159, 0, 7, 4, 167, 0, 4, 3, 96, 62]
def zt_X12_count_1 : List Nat := zw_X12_count_1 ++ zt_X12_count_2
def zw_X12_count_0 : List Nat := [42, 3, 181, 0, 133, 3, 61, 3, 62, 3, 54, 4, 21, 4, 16, 32, 162, 0, 31, 28, 42, 180, 0, 13, 16, 10, 21, 4, 96, 46, 2, 159, 0, 7, 4, 167, 0, 4, 3, 96]
def zt_X12_count_0 : List Nat := zw_X12_count_0 ++ zt_X12_count_1
theorem ze_X12_count_0 : (dcn cX12_count).drop 0 = zt_X12_count_0 := by decide +kernel
theorem ze_X12_count_1 : (dcn cX12_count).drop 40 = zt_X12_count_1 := dw_n (wl := zw_X12_count_0) ze_X12_count_0 rfl
theorem zb_X12_count_0 (j : Nat) {n : Nat} (e : zw_X12_count_0[j]? = some n) : dby cX12_count (0 + j) n := dw_b (t := zt_X12_count_1) ze_X12_count_0 j e
theorem dX12_count_0 : decode cX12_count 0 = .ok (.aload_n 0, 1) := dop_42 (zb_X12_count_0 0 rfl)
theorem dX12_count_1 : decode cX12_count 1 = .ok (.iconst 0, 1) := dop_3 (zb_X12_count_0 1 rfl)
theorem dX12_count_2 : decode cX12_count 2 = .ok (.putfield 133, 3) := dop_181 (zb_X12_count_0 2 rfl) (zb_X12_count_0 3 rfl) (zb_X12_count_0 4 rfl) rfl
theorem dX12_count_5 : decode cX12_count 5 = .ok (.iconst 0, 1) := dop_3 (zb_X12_count_0 5 rfl)
theorem dX12_count_6 : decode cX12_count 6 = .ok (.istore_n 2, 1) := dop_61 (zb_X12_count_0 6 rfl)
theorem dX12_count_7 : decode cX12_count 7 = .ok (.iconst 0, 1) := dop_3 (zb_X12_count_0 7 rfl)
theorem dX12_count_8 : decode cX12_count 8 = .ok (.istore_n 3, 1) := dop_62 (zb_X12_count_0 8 rfl)
theorem dX12_count_9 : decode cX12_count 9 = .ok (.iconst 0, 1) := dop_3 (zb_X12_count_0 9 rfl)
theorem dX12_count_10 : decode cX12_count 10 = .ok (.istore 4, 2) := dop_54 (zb_X12_count_0 10 rfl) (zb_X12_count_0 11 rfl)
theorem dX12_count_12 : decode cX12_count 12 = .ok (.iload 4, 2) := dop_21 (zb_X12_count_0 12 rfl) (zb_X12_count_0 13 rfl)
theorem dX12_count_14 : decode cX12_count 14 = .ok (.bipush 32, 2) := dop_16 (zb_X12_count_0 14 rfl) (zb_X12_count_0 15 rfl) rfl
theorem dX12_count_16 : decode cX12_count 16 = .ok (.if_icmp .ge 31, 3) := dop_162 (zb_X12_count_0 16 rfl) (zb_X12_count_0 17 rfl) (zb_X12_count_0 18 rfl) rfl
theorem dX12_count_19 : decode cX12_count 19 = .ok (.iload_n 2, 1) := dop_28 (zb_X12_count_0 19 rfl)
theorem dX12_count_20 : decode cX12_count 20 = .ok (.aload_n 0, 1) := dop_42 (zb_X12_count_0 20 rfl)
theorem dX12_count_21 : decode cX12_count 21 = .ok (.getfield 13, 3) := dop_180 (zb_X12_count_0 21 rfl) (zb_X12_count_0 22 rfl) (zb_X12_count_0 23 rfl) rfl
theorem dX12_count_24 : decode cX12_count 24 = .ok (.bipush 10, 2) := dop_16 (zb_X12_count_0 24 rfl) (zb_X12_count_0 25 rfl) rfl
theorem dX12_count_26 : decode cX12_count 26 = .ok (.iload 4, 2) := dop_21 (zb_X12_count_0 26 rfl) (zb_X12_count_0 27 rfl)
theorem dX12_count_28 : decode cX12_count 28 = .ok (.iadd, 1) := dop_96 (zb_X12_count_0 28 rfl)
theorem dX12_count_29 : decode cX12_count 29 = .ok (.iaload, 1) := dop_46 (zb_X12_count_0 29 rfl)
theorem dX12_count_30 : decode cX12_count 30 = .ok (.iconst (-1), 1) := dop_2 (zb_X12_count_0 30 rfl)
theorem dX12_count_31 : decode cX12_count 31 = .ok (.if_icmp .eq 7, 3) := dop_159 (zb_X12_count_0 31 rfl) (zb_X12_count_0 32 rfl) (zb_X12_count_0 33 rfl) rfl
theorem dX12_count_34 : decode cX12_count 34 = .ok (.iconst 1, 1) := dop_4 (zb_X12_count_0 34 rfl)
theorem dX12_count_35 : decode cX12_count 35 = .ok (.goto 4, 3) := dop_167 (zb_X12_count_0 35 rfl) (zb_X12_count_0 36 rfl) (zb_X12_count_0 37 rfl) rfl
theorem dX12_count_38 : decode cX12_count 38 = .ok (.iconst 0, 1) := dop_3 (zb_X12_count_0 38 rfl)
theorem dX12_count_39 : decode cX12_count 39 = .ok (.iadd, 1) := dop_96 (zb_X12_count_0 39 rfl)
theorem ze_X12_count_2 : (dcn cX12_count).drop 79 = zt_X12_count_2 := dw_n (wl := zw_X12_count_1) ze_X12_count_1 rfl
theorem zb_X12_count_1 (j : Nat) {n : Nat} (e : zw_X12_count_1[j]? = some n) : dby cX12_count (40 + j) n := dw_b (t := zt_X12_count_2) ze_X12_count_1 j e
theorem dX12_count_40 : decode cX12_count 40 = .ok (.istore_n 2, 1) := dop_61 (zb_X12_count_1 0 rfl)
theorem dX12_count_41 : decode cX12_count 41 = .ok (.iinc 4 1, 3) := dop_132 (zb_X12_count_1 1 rfl) (zb_X12_count_1 2 rfl) (zb_X12_count_1 3 rfl) rfl
theorem dX12_count_44 : decode cX12_count 44 = .ok (.goto (-32), 3) := dop_167 (zb_X12_count_1 4 rfl) (zb_X12_count_1 5 rfl) (zb_X12_count_1 6 rfl) rfl
theorem dX12_count_47 : decode cX12_count 47 = .ok (.iconst 0, 1) := dop_3 (zb_X12_count_1 7 rfl)
theorem dX12_count_48 : decode cX12_count 48 = .ok (.istore 4, 2) := dop_54 (zb_X12_count_1 8 rfl) (zb_X12_count_1 9 rfl)
theorem dX12_count_50 : decode cX12_count 50 = .ok (.iload 4, 2) := dop_21 (zb_X12_count_1 10 rfl) (zb_X12_count_1 11 rfl)
theorem dX12_count_52 : decode cX12_count 52 = .ok (.bipush 6, 2) := dop_16 (zb_X12_count_1 12 rfl) (zb_X12_count_1 13 rfl) rfl
theorem dX12_count_54 : decode cX12_count 54 = .ok (.if_icmp .ge 31, 3) := dop_162 (zb_X12_count_1 14 rfl) (zb_X12_count_1 15 rfl) (zb_X12_count_1 16 rfl) rfl
theorem dX12_count_57 : decode cX12_count 57 = .ok (.iload_n 3, 1) := dop_29 (zb_X12_count_1 17 rfl)
theorem dX12_count_58 : decode cX12_count 58 = .ok (.aload_n 0, 1) := dop_42 (zb_X12_count_1 18 rfl)
theorem dX12_count_59 : decode cX12_count 59 = .ok (.getfield 13, 3) := dop_180 (zb_X12_count_1 19 rfl) (zb_X12_count_1 20 rfl) (zb_X12_count_1 21 rfl) rfl
theorem dX12_count_62 : decode cX12_count 62 = .ok (.bipush 42, 2) := dop_16 (zb_X12_count_1 22 rfl) (zb_X12_count_1 23 rfl) rfl
theorem dX12_count_64 : decode cX12_count 64 = .ok (.iload 4, 2) := dop_21 (zb_X12_count_1 24 rfl) (zb_X12_count_1 25 rfl)
theorem dX12_count_66 : decode cX12_count 66 = .ok (.iadd, 1) := dop_96 (zb_X12_count_1 26 rfl)
theorem dX12_count_67 : decode cX12_count 67 = .ok (.iaload, 1) := dop_46 (zb_X12_count_1 27 rfl)
theorem dX12_count_68 : decode cX12_count 68 = .ok (.iconst (-1), 1) := dop_2 (zb_X12_count_1 28 rfl)
theorem dX12_count_69 : decode cX12_count 69 = .ok (.if_icmp .eq 7, 3) := dop_159 (zb_X12_count_1 29 rfl) (zb_X12_count_1 30 rfl) (zb_X12_count_1 31 rfl) rfl
theorem dX12_count_72 : decode cX12_count 72 = .ok (.iconst 1, 1) := dop_4 (zb_X12_count_1 32 rfl)
theorem dX12_count_73 : decode cX12_count 73 = .ok (.goto 4, 3) := dop_167 (zb_X12_count_1 33 rfl) (zb_X12_count_1 34 rfl) (zb_X12_count_1 35 rfl) rfl
theorem dX12_count_76 : decode cX12_count 76 = .ok (.iconst 0, 1) := dop_3 (zb_X12_count_1 36 rfl)
theorem dX12_count_77 : decode cX12_count 77 = .ok (.iadd, 1) := dop_96 (zb_X12_count_1 37 rfl)
theorem dX12_count_78 : decode cX12_count 78 = .ok (.istore_n 3, 1) := dop_62 (zb_X12_count_1 38 rfl)
theorem ze_X12_count_3 : (dcn cX12_count).drop 86 = zt_X12_count_3 := dw_n (wl := zw_X12_count_2) ze_X12_count_2 rfl
theorem zb_X12_count_2 (j : Nat) {n : Nat} (e : zw_X12_count_2[j]? = some n) : dby cX12_count (79 + j) n := dw_b (t := zt_X12_count_3) ze_X12_count_2 j e
theorem dX12_count_79 : decode cX12_count 79 = .ok (.iinc 4 1, 3) := dop_132 (zb_X12_count_2 0 rfl) (zb_X12_count_2 1 rfl) (zb_X12_count_2 2 rfl) rfl
theorem dX12_count_82 : decode cX12_count 82 = .ok (.goto (-32), 3) := dop_167 (zb_X12_count_2 3 rfl) (zb_X12_count_2 4 rfl) (zb_X12_count_2 5 rfl) rfl
theorem dX12_count_85 : decode cX12_count 85 = .ok (.iload_n 1, 1) := dop_27 (zb_X12_count_2 6 rfl)
theorem ze_X12_count_4 : (dcn cX12_count).drop 144 = zt_X12_count_4 := dw_n (wl := zw_X12_count_3) ze_X12_count_3 rfl
theorem zb_X12_count_3 (j : Nat) {n : Nat} (e : zw_X12_count_3[j]? = some n) : dby cX12_count (86 + j) n := dw_b (t := zt_X12_count_4) ze_X12_count_3 j e
theorem dX12_count_86 : decode cX12_count 86 = .ok (.tableswitch 125 0 10 #[58, 65, 73, 80, 82, 84, 89, 96, 103, 110, 117], 58) := by decide +kernel
theorem ze_X12_count_5 : (dcn cX12_count).drop 183 = zt_X12_count_5 := dw_n (wl := zw_X12_count_4) ze_X12_count_4 rfl
theorem zb_X12_count_4 (j : Nat) {n : Nat} (e : zw_X12_count_4[j]? = some n) : dby cX12_count (144 + j) n := dw_b (t := zt_X12_count_5) ze_X12_count_4 j e
theorem dX12_count_144 : decode cX12_count 144 = .ok (.aload_n 0, 1) := dop_42 (zb_X12_count_4 0 rfl)
theorem dX12_count_145 : decode cX12_count 145 = .ok (.getfield 13, 3) := dop_180 (zb_X12_count_4 1 rfl) (zb_X12_count_4 2 rfl) (zb_X12_count_4 3 rfl) rfl
theorem dX12_count_148 : decode cX12_count 148 = .ok (.iconst 0, 1) := dop_3 (zb_X12_count_4 4 rfl)
theorem dX12_count_149 : decode cX12_count 149 = .ok (.iaload, 1) := dop_46 (zb_X12_count_4 5 rfl)
theorem dX12_count_150 : decode cX12_count 150 = .ok (.ireturn, 1) := dop_172 (zb_X12_count_4 6 rfl)
theorem dX12_count_151 : decode cX12_count 151 = .ok (.aload_n 0, 1) := dop_42 (zb_X12_count_4 7 rfl)
theorem dX12_count_152 : decode cX12_count 152 = .ok (.invokevirtual 370, 3) := dop_182 (zb_X12_count_4 8 rfl) (zb_X12_count_4 9 rfl) (zb_X12_count_4 10 rfl) rfl
theorem dX12_count_155 : decode cX12_count 155 = .ok (.invokestatic 526, 3) := dop_184 (zb_X12_count_4 11 rfl) (zb_X12_count_4 12 rfl) (zb_X12_count_4 13 rfl) rfl
theorem dX12_count_158 : decode cX12_count 158 = .ok (.ireturn, 1) := dop_172 (zb_X12_count_4 14 rfl)
theorem dX12_count_159 : decode cX12_count 159 = .ok (.aload_n 0, 1) := dop_42 (zb_X12_count_4 15 rfl)
theorem dX12_count_160 : decode cX12_count 160 = .ok (.getfield 13, 3) := dop_180 (zb_X12_count_4 16 rfl) (zb_X12_count_4 17 rfl) (zb_X12_count_4 18 rfl) rfl
theorem dX12_count_163 : decode cX12_count 163 = .ok (.iconst 1, 1) := dop_4 (zb_X12_count_4 19 rfl)
theorem dX12_count_164 : decode cX12_count 164 = .ok (.iaload, 1) := dop_46 (zb_X12_count_4 20 rfl)
theorem dX12_count_165 : decode cX12_count 165 = .ok (.ireturn, 1) := dop_172 (zb_X12_count_4 21 rfl)
theorem dX12_count_166 : decode cX12_count 166 = .ok (.iload_n 2, 1) := dop_28 (zb_X12_count_4 22 rfl)
theorem dX12_count_167 : decode cX12_count 167 = .ok (.ireturn, 1) := dop_172 (zb_X12_count_4 23 rfl)
theorem dX12_count_168 : decode cX12_count 168 = .ok (.iload_n 3, 1) := dop_29 (zb_X12_count_4 24 rfl)
theorem dX12_count_169 : decode cX12_count 169 = .ok (.ireturn, 1) := dop_172 (zb_X12_count_4 25 rfl)
theorem dX12_count_170 : decode cX12_count 170 = .ok (.aload_n 0, 1) := dop_42 (zb_X12_count_4 26 rfl)
theorem dX12_count_171 : decode cX12_count 171 = .ok (.getfield 201, 3) := dop_180 (zb_X12_count_4 27 rfl) (zb_X12_count_4 28 rfl) (zb_X12_count_4 29 rfl) rfl
theorem dX12_count_174 : decode cX12_count 174 = .ok (.ireturn, 1) := dop_172 (zb_X12_count_4 30 rfl)
theorem dX12_count_175 : decode cX12_count 175 = .ok (.aload_n 0, 1) := dop_42 (zb_X12_count_4 31 rfl)
theorem dX12_count_176 : decode cX12_count 176 = .ok (.getfield 7, 3) := dop_180 (zb_X12_count_4 32 rfl) (zb_X12_count_4 33 rfl) (zb_X12_count_4 34 rfl) rfl
theorem dX12_count_179 : decode cX12_count 179 = .ok (.iconst 1, 1) := dop_4 (zb_X12_count_4 35 rfl)
theorem dX12_count_180 : decode cX12_count 180 = .ok (.iaload, 1) := dop_46 (zb_X12_count_4 36 rfl)
theorem dX12_count_181 : decode cX12_count 181 = .ok (.ireturn, 1) := dop_172 (zb_X12_count_4 37 rfl)
theorem dX12_count_182 : decode cX12_count 182 = .ok (.aload_n 0, 1) := dop_42 (zb_X12_count_4 38 rfl)
theorem zb_X12_count_5 (j : Nat) {n : Nat} (e : zw_X12_count_5[j]? = some n) : dby cX12_count (183 + j) n := dw_b (t := []) ze_X12_count_5 j e
theorem dX12_count_183 : decode cX12_count 183 = .ok (.getfield 7, 3) := dop_180 (zb_X12_count_5 0 rfl) (zb_X12_count_5 1 rfl) (zb_X12_count_5 2 rfl) rfl
theorem dX12_count_186 : decode cX12_count 186 = .ok (.iconst 2, 1) := dop_5 (zb_X12_count_5 3 rfl)
theorem dX12_count_187 : decode cX12_count 187 = .ok (.iaload, 1) := dop_46 (zb_X12_count_5 4 rfl)
theorem dX12_count_188 : decode cX12_count 188 = .ok (.ireturn, 1) := dop_172 (zb_X12_count_5 5 rfl)
theorem dX12_count_189 : decode cX12_count 189 = .ok (.aload_n 0, 1) := dop_42 (zb_X12_count_5 6 rfl)
theorem dX12_count_190 : decode cX12_count 190 = .ok (.getfield 7, 3) := dop_180 (zb_X12_count_5 7 rfl) (zb_X12_count_5 8 rfl) (zb_X12_count_5 9 rfl) rfl
theorem dX12_count_193 : decode cX12_count 193 = .ok (.iconst 3, 1) := dop_6 (zb_X12_count_5 10 rfl)
theorem dX12_count_194 : decode cX12_count 194 = .ok (.iaload, 1) := dop_46 (zb_X12_count_5 11 rfl)
theorem dX12_count_195 : decode cX12_count 195 = .ok (.ireturn, 1) := dop_172 (zb_X12_count_5 12 rfl)
theorem dX12_count_196 : decode cX12_count 196 = .ok (.aload_n 0, 1) := dop_42 (zb_X12_count_5 13 rfl)
theorem dX12_count_197 : decode cX12_count 197 = .ok (.getfield 7, 3) := dop_180 (zb_X12_count_5 14 rfl) (zb_X12_count_5 15 rfl) (zb_X12_count_5 16 rfl) rfl
theorem dX12_count_200 : decode cX12_count 200 = .ok (.iconst 5, 1) := dop_8 (zb_X12_count_5 17 rfl)
theorem dX12_count_201 : decode cX12_count 201 = .ok (.iaload, 1) := dop_46 (zb_X12_count_5 18 rfl)
theorem dX12_count_202 : decode cX12_count 202 = .ok (.ireturn, 1) := dop_172 (zb_X12_count_5 19 rfl)
theorem dX12_count_203 : decode cX12_count 203 = .ok (.aload_n 0, 1) := dop_42 (zb_X12_count_5 20 rfl)
theorem dX12_count_204 : decode cX12_count 204 = .ok (.getfield 7, 3) := dop_180 (zb_X12_count_5 21 rfl) (zb_X12_count_5 22 rfl) (zb_X12_count_5 23 rfl) rfl
theorem dX12_count_207 : decode cX12_count 207 = .ok (.bipush 6, 2) := dop_16 (zb_X12_count_5 24 rfl) (zb_X12_count_5 25 rfl) rfl
theorem dX12_count_209 : decode cX12_count 209 = .ok (.iaload, 1) := dop_46 (zb_X12_count_5 26 rfl)
theorem dX12_count_210 : decode cX12_count 210 = .ok (.ireturn, 1) := dop_172 (zb_X12_count_5 27 rfl)
theorem dX12_count_211 : decode cX12_count 211 = .ok (.iconst (-1), 1) := dop_2 (zb_X12_count_5 28 rfl)
theorem dX12_count_212 : decode cX12_count 212 = .ok (.ireturn, 1) := dop_172 (zb_X12_count_5 29 rfl)
def zw_X12_bits_0 : List Nat := [3, 60, 3, 61, 28, 16, 24, 162, 0, 17, 27, 26, 28, 122, 4, 126, 96, 60, 132, 2, 1, 167, 255, 239, 27, 172]
def zt_X12_bits_0 : List Nat := zw_X12_bits_0 ++ []
theorem ze_X12_bits_0 : (dcn cX12_bits).drop 0 = zt_X12_bits_0 := by decide +kernel
theorem zb_X12_bits_0 (j : Nat) {n : Nat} (e : zw_X12_bits_0[j]? = some n) : dby cX12_bits (0 + j) n := dw_b (t := []) ze_X12_bits_0 j e
theorem dX12_bits_0 : decode cX12_bits 0 = .ok (.iconst 0, 1) := dop_3 (zb_X12_bits_0 0 rfl)
theorem dX12_bits_1 : decode cX12_bits 1 = .ok (.istore_n 1, 1) := dop_60 (zb_X12_bits_0 1 rfl)
theorem dX12_bits_2 : decode cX12_bits 2 = .ok (.iconst 0, 1) := dop_3 (zb_X12_bits_0 2 rfl)
theorem dX12_bits_3 : decode cX12_bits 3 = .ok (.istore_n 2, 1) := dop_61 (zb_X12_bits_0 3 rfl)
theorem dX12_bits_4 : decode cX12_bits 4 = .ok (.iload_n 2, 1) := dop_28 (zb_X12_bits_0 4 rfl)
theorem dX12_bits_5 : decode cX12_bits 5 = .ok (.bipush 24, 2) := dop_16 (zb_X12_bits_0 5 rfl) (zb_X12_bits_0 6 rfl) rfl
theorem dX12_bits_7 : decode cX12_bits 7 = .ok (.if_icmp .ge 17, 3) := dop_162 (zb_X12_bits_0 7 rfl) (zb_X12_bits_0 8 rfl) (zb_X12_bits_0 9 rfl) rfl
theorem dX12_bits_10 : decode cX12_bits 10 = .ok (.iload_n 1, 1) := dop_27 (zb_X12_bits_0 10 rfl)
theorem dX12_bits_11 : decode cX12_bits 11 = .ok (.iload_n 0, 1) := dop_26 (zb_X12_bits_0 11 rfl)
theorem dX12_bits_12 : decode cX12_bits 12 = .ok (.iload_n 2, 1) := dop_28 (zb_X12_bits_0 12 rfl)
theorem dX12_bits_13 : decode cX12_bits 13 = .ok (.ishr, 1) := dop_122 (zb_X12_bits_0 13 rfl)
theorem dX12_bits_14 : decode cX12_bits 14 = .ok (.iconst 1, 1) := dop_4 (zb_X12_bits_0 14 rfl)
theorem dX12_bits_15 : decode cX12_bits 15 = .ok (.iand, 1) := dop_126 (zb_X12_bits_0 15 rfl)
theorem dX12_bits_16 : decode cX12_bits 16 = .ok (.iadd, 1) := dop_96 (zb_X12_bits_0 16 rfl)
theorem dX12_bits_17 : decode cX12_bits 17 = .ok (.istore_n 1, 1) := dop_60 (zb_X12_bits_0 17 rfl)
theorem dX12_bits_18 : decode cX12_bits 18 = .ok (.iinc 2 1, 3) := dop_132 (zb_X12_bits_0 18 rfl) (zb_X12_bits_0 19 rfl) (zb_X12_bits_0 20 rfl) rfl
theorem dX12_bits_21 : decode cX12_bits 21 = .ok (.goto (-17), 3) := dop_167 (zb_X12_bits_0 21 rfl) (zb_X12_bits_0 22 rfl) (zb_X12_bits_0 23 rfl) rfl
theorem dX12_bits_24 : decode cX12_bits 24 = .ok (.iload_n 1, 1) := dop_27 (zb_X12_bits_0 24 rfl)
theorem dX12_bits_25 : decode cX12_bits 25 = .ok (.ireturn, 1) := dop_172 (zb_X12_bits_0 25 rfl)
def zw_X12_status_0 : List Nat := [42, 3, 181, 0, 133, 42, 180, 0, 136, 172]
def zt_X12_status_0 : List Nat := zw_X12_status_0 ++ []
theorem ze_X12_status_0 : (dcn cX12_status).drop 0 = zt_X12_status_0 := by decide +kernel
theorem zb_X12_status_0 (j : Nat) {n : Nat} (e : zw_X12_status_0[j]? = some n) : dby cX12_status (0 + j) n := dw_b (t := []) ze_X12_status_0 j e
theorem dX12_status_0 : decode cX12_status 0 = .ok (.aload_n 0, 1) := dop_42 (zb_X12_status_0 0 rfl)
theorem dX12_status_1 : decode cX12_status 1 = .ok (.iconst 0, 1) := dop_3 (zb_X12_status_0 1 rfl)
theorem dX12_status_2 : decode cX12_status 2 = .ok (.putfield 133, 3) := dop_181 (zb_X12_status_0 2 rfl) (zb_X12_status_0 3 rfl) (zb_X12_status_0 4 rfl) rfl
theorem dX12_status_5 : decode cX12_status 5 = .ok (.aload_n 0, 1) := dop_42 (zb_X12_status_0 5 rfl)
theorem dX12_status_6 : decode cX12_status 6 = .ok (.getfield 136, 3) := dop_180 (zb_X12_status_0 6 rfl) (zb_X12_status_0 7 rfl) (zb_X12_status_0 8 rfl) rfl
theorem dX12_status_9 : decode cX12_status 9 = .ok (.ireturn, 1) := dop_172 (zb_X12_status_0 9 rfl)
