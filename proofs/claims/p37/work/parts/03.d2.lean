def zw_X12_init_10 : List Nat := [162, 0, 20, 42, 180, 0, 13, 16, 60, 27, 96, 16, 100, 79, 132, 1, 1, 167, 255, 236, 177]
def zt_X12_init_10 : List Nat := zw_X12_init_10 ++ []
def zw_X12_init_9 : List Nat := [27, 96, 2, 79, 132, 1, 1, 167, 255, 237, 3, 60, 27, 16, 6, 162, 0, 19, 42, 180, 0, 13, 16, 42, 27, 96, 2, 79, 132, 1, 1, 167, 255, 237, 3, 60, 27, 16, 16]
def zt_X12_init_9 : List Nat := zw_X12_init_9 ++ zt_X12_init_10
def zw_X12_init_8 : List Nat := [181, 0, 121, 42, 16, 16, 188, 10, 181, 0, 124, 42, 6, 188, 10, 181, 0, 127, 42, 16, 32, 188, 10, 181, 0, 130, 3, 60, 27, 16, 32, 162, 0, 19, 42, 180, 0, 13, 16, 10]
def zt_X12_init_8 : List Nat := zw_X12_init_8 ++ zt_X12_init_9
def zw_X12_init_7 : List Nat := [181, 0, 106, 42, 16, 10, 188, 11, 181, 0, 109, 42, 16, 10, 188, 11, 181, 0, 112, 42, 16, 10, 188, 11, 181, 0, 115, 42, 6, 188, 11, 181, 0, 118, 42, 6, 188, 11]
def zt_X12_init_7 : List Nat := zw_X12_init_7 ++ zt_X12_init_8
def zw_X12_init_6 : List Nat := [188, 11, 89, 3, 10, 80, 89, 4, 9, 80, 89, 5, 9, 80, 89, 6, 9, 80, 89, 7, 9, 80, 181, 0, 100, 42, 16, 20, 188, 11, 181, 0, 103, 42, 16, 10, 188, 11]
def zt_X12_init_6 : List Nat := zw_X12_init_6 ++ zt_X12_init_7
def zw_X12_init_5 : List Nat := [8, 188, 11, 181, 0, 85, 42, 8, 188, 11, 181, 0, 88, 42, 17, 1, 0, 188, 4, 181, 0, 91, 42, 16, 10, 188, 11, 181, 0, 94, 42, 16, 10, 188, 11, 181, 0, 97, 42, 8]
def zt_X12_init_5 : List Nat := zw_X12_init_5 ++ zt_X12_init_6
def zw_X12_init_4 : List Nat := [16, 16, 188, 4, 181, 0, 70, 42, 16, 80, 188, 11, 181, 0, 73, 42, 16, 80, 188, 11, 181, 0, 76, 42, 16, 16, 188, 4, 181, 0, 79, 42, 16, 16, 188, 4, 181, 0, 82, 42]
def zt_X12_init_4 : List Nat := zw_X12_init_4 ++ zt_X12_init_5
def zw_X12_init_3 : List Nat := [16, 32, 188, 10, 181, 0, 55, 42, 16, 6, 188, 10, 181, 0, 58, 42, 16, 80, 188, 11, 181, 0, 61, 42, 16, 80, 188, 11, 181, 0, 64, 42, 16, 16, 188, 4, 181, 0, 67, 42]
def zt_X12_init_3 : List Nat := zw_X12_init_3 ++ zt_X12_init_4
def zw_X12_init_2 : List Nat := [16, 60, 188, 10, 181, 0, 40, 42, 16, 60, 188, 10, 181, 0, 43, 42, 16, 60, 188, 10, 181, 0, 46, 42, 16, 60, 188, 10, 181, 0, 49, 42, 16, 60, 188, 4, 181, 0, 52, 42]
def zt_X12_init_2 : List Nat := zw_X12_init_2 ++ zt_X12_init_3
def zw_X12_init_1 : List Nat := [17, 1, 144, 188, 10, 181, 0, 23, 42, 2, 181, 0, 26, 42, 17, 3, 232, 188, 10, 181, 0, 30, 42, 16, 10, 188, 11, 181, 0, 33, 42, 16, 10, 188, 11, 181, 0, 37, 42]
def zt_X12_init_1 : List Nat := zw_X12_init_1 ++ zt_X12_init_2
def zw_X12_init_0 : List Nat := [42, 183, 0, 1, 42, 16, 7, 188, 10, 181, 0, 7, 42, 17, 0, 200, 188, 10, 181, 0, 13, 42, 17, 1, 144, 188, 10, 181, 0, 16, 42, 5, 188, 4, 181, 0, 19, 42]
def zt_X12_init_0 : List Nat := zw_X12_init_0 ++ zt_X12_init_1
theorem ze_X12_init_0 : (dcn cX12_init).drop 0 = zt_X12_init_0 := by decide +kernel
theorem ze_X12_init_1 : (dcn cX12_init).drop 38 = zt_X12_init_1 := dw_n (wl := zw_X12_init_0) ze_X12_init_0 rfl
theorem zb_X12_init_0 (j : Nat) {n : Nat} (e : zw_X12_init_0[j]? = some n) : dby cX12_init (0 + j) n := dw_b (t := zt_X12_init_1) ze_X12_init_0 j e
theorem dX12_init_0 : decode cX12_init 0 = .ok (.aload_n 0, 1) := dop_42 (zb_X12_init_0 0 rfl)
theorem dX12_init_1 : decode cX12_init 1 = .ok (.invokespecial 1, 3) := dop_183 (zb_X12_init_0 1 rfl) (zb_X12_init_0 2 rfl) (zb_X12_init_0 3 rfl) rfl
theorem dX12_init_4 : decode cX12_init 4 = .ok (.aload_n 0, 1) := dop_42 (zb_X12_init_0 4 rfl)
theorem dX12_init_5 : decode cX12_init 5 = .ok (.bipush 7, 2) := dop_16 (zb_X12_init_0 5 rfl) (zb_X12_init_0 6 rfl) rfl
theorem dX12_init_7 : decode cX12_init 7 = .ok (.newarray .int, 2) := dop_188_10 (zb_X12_init_0 7 rfl) (zb_X12_init_0 8 rfl)
theorem dX12_init_9 : decode cX12_init 9 = .ok (.putfield 7, 3) := dop_181 (zb_X12_init_0 9 rfl) (zb_X12_init_0 10 rfl) (zb_X12_init_0 11 rfl) rfl
theorem dX12_init_12 : decode cX12_init 12 = .ok (.aload_n 0, 1) := dop_42 (zb_X12_init_0 12 rfl)
theorem dX12_init_13 : decode cX12_init 13 = .ok (.sipush 200, 3) := dop_17 (zb_X12_init_0 13 rfl) (zb_X12_init_0 14 rfl) (zb_X12_init_0 15 rfl) rfl
theorem dX12_init_16 : decode cX12_init 16 = .ok (.newarray .int, 2) := dop_188_10 (zb_X12_init_0 16 rfl) (zb_X12_init_0 17 rfl)
theorem dX12_init_18 : decode cX12_init 18 = .ok (.putfield 13, 3) := dop_181 (zb_X12_init_0 18 rfl) (zb_X12_init_0 19 rfl) (zb_X12_init_0 20 rfl) rfl
theorem dX12_init_21 : decode cX12_init 21 = .ok (.aload_n 0, 1) := dop_42 (zb_X12_init_0 21 rfl)
theorem dX12_init_22 : decode cX12_init 22 = .ok (.sipush 400, 3) := dop_17 (zb_X12_init_0 22 rfl) (zb_X12_init_0 23 rfl) (zb_X12_init_0 24 rfl) rfl
theorem dX12_init_25 : decode cX12_init 25 = .ok (.newarray .int, 2) := dop_188_10 (zb_X12_init_0 25 rfl) (zb_X12_init_0 26 rfl)
theorem dX12_init_27 : decode cX12_init 27 = .ok (.putfield 16, 3) := dop_181 (zb_X12_init_0 27 rfl) (zb_X12_init_0 28 rfl) (zb_X12_init_0 29 rfl) rfl
theorem dX12_init_30 : decode cX12_init 30 = .ok (.aload_n 0, 1) := dop_42 (zb_X12_init_0 30 rfl)
theorem dX12_init_31 : decode cX12_init 31 = .ok (.iconst 2, 1) := dop_5 (zb_X12_init_0 31 rfl)
theorem dX12_init_32 : decode cX12_init 32 = .ok (.newarray .boolean, 2) := dop_188_4 (zb_X12_init_0 32 rfl) (zb_X12_init_0 33 rfl)
theorem dX12_init_34 : decode cX12_init 34 = .ok (.putfield 19, 3) := dop_181 (zb_X12_init_0 34 rfl) (zb_X12_init_0 35 rfl) (zb_X12_init_0 36 rfl) rfl
theorem dX12_init_37 : decode cX12_init 37 = .ok (.aload_n 0, 1) := dop_42 (zb_X12_init_0 37 rfl)
theorem ze_X12_init_2 : (dcn cX12_init).drop 77 = zt_X12_init_2 := dw_n (wl := zw_X12_init_1) ze_X12_init_1 rfl
theorem zb_X12_init_1 (j : Nat) {n : Nat} (e : zw_X12_init_1[j]? = some n) : dby cX12_init (38 + j) n := dw_b (t := zt_X12_init_2) ze_X12_init_1 j e
theorem dX12_init_38 : decode cX12_init 38 = .ok (.sipush 400, 3) := dop_17 (zb_X12_init_1 0 rfl) (zb_X12_init_1 1 rfl) (zb_X12_init_1 2 rfl) rfl
theorem dX12_init_41 : decode cX12_init 41 = .ok (.newarray .int, 2) := dop_188_10 (zb_X12_init_1 3 rfl) (zb_X12_init_1 4 rfl)
theorem dX12_init_43 : decode cX12_init 43 = .ok (.putfield 23, 3) := dop_181 (zb_X12_init_1 5 rfl) (zb_X12_init_1 6 rfl) (zb_X12_init_1 7 rfl) rfl
theorem dX12_init_46 : decode cX12_init 46 = .ok (.aload_n 0, 1) := dop_42 (zb_X12_init_1 8 rfl)
theorem dX12_init_47 : decode cX12_init 47 = .ok (.iconst (-1), 1) := dop_2 (zb_X12_init_1 9 rfl)
theorem dX12_init_48 : decode cX12_init 48 = .ok (.putfield 26, 3) := dop_181 (zb_X12_init_1 10 rfl) (zb_X12_init_1 11 rfl) (zb_X12_init_1 12 rfl) rfl
theorem dX12_init_51 : decode cX12_init 51 = .ok (.aload_n 0, 1) := dop_42 (zb_X12_init_1 13 rfl)
theorem dX12_init_52 : decode cX12_init 52 = .ok (.sipush 1000, 3) := dop_17 (zb_X12_init_1 14 rfl) (zb_X12_init_1 15 rfl) (zb_X12_init_1 16 rfl) rfl
theorem dX12_init_55 : decode cX12_init 55 = .ok (.newarray .int, 2) := dop_188_10 (zb_X12_init_1 17 rfl) (zb_X12_init_1 18 rfl)
theorem dX12_init_57 : decode cX12_init 57 = .ok (.putfield 30, 3) := dop_181 (zb_X12_init_1 19 rfl) (zb_X12_init_1 20 rfl) (zb_X12_init_1 21 rfl) rfl
theorem dX12_init_60 : decode cX12_init 60 = .ok (.aload_n 0, 1) := dop_42 (zb_X12_init_1 22 rfl)
theorem dX12_init_61 : decode cX12_init 61 = .ok (.bipush 10, 2) := dop_16 (zb_X12_init_1 23 rfl) (zb_X12_init_1 24 rfl) rfl
theorem dX12_init_63 : decode cX12_init 63 = .ok (.newarray .long, 2) := dop_188_11 (zb_X12_init_1 25 rfl) (zb_X12_init_1 26 rfl)
theorem dX12_init_65 : decode cX12_init 65 = .ok (.putfield 33, 3) := dop_181 (zb_X12_init_1 27 rfl) (zb_X12_init_1 28 rfl) (zb_X12_init_1 29 rfl) rfl
theorem dX12_init_68 : decode cX12_init 68 = .ok (.aload_n 0, 1) := dop_42 (zb_X12_init_1 30 rfl)
theorem dX12_init_69 : decode cX12_init 69 = .ok (.bipush 10, 2) := dop_16 (zb_X12_init_1 31 rfl) (zb_X12_init_1 32 rfl) rfl
theorem dX12_init_71 : decode cX12_init 71 = .ok (.newarray .long, 2) := dop_188_11 (zb_X12_init_1 33 rfl) (zb_X12_init_1 34 rfl)
theorem dX12_init_73 : decode cX12_init 73 = .ok (.putfield 37, 3) := dop_181 (zb_X12_init_1 35 rfl) (zb_X12_init_1 36 rfl) (zb_X12_init_1 37 rfl) rfl
theorem dX12_init_76 : decode cX12_init 76 = .ok (.aload_n 0, 1) := dop_42 (zb_X12_init_1 38 rfl)
theorem ze_X12_init_3 : (dcn cX12_init).drop 117 = zt_X12_init_3 := dw_n (wl := zw_X12_init_2) ze_X12_init_2 rfl
theorem zb_X12_init_2 (j : Nat) {n : Nat} (e : zw_X12_init_2[j]? = some n) : dby cX12_init (77 + j) n := dw_b (t := zt_X12_init_3) ze_X12_init_2 j e
theorem dX12_init_77 : decode cX12_init 77 = .ok (.bipush 60, 2) := dop_16 (zb_X12_init_2 0 rfl) (zb_X12_init_2 1 rfl) rfl
theorem dX12_init_79 : decode cX12_init 79 = .ok (.newarray .int, 2) := dop_188_10 (zb_X12_init_2 2 rfl) (zb_X12_init_2 3 rfl)
theorem dX12_init_81 : decode cX12_init 81 = .ok (.putfield 40, 3) := dop_181 (zb_X12_init_2 4 rfl) (zb_X12_init_2 5 rfl) (zb_X12_init_2 6 rfl) rfl
theorem dX12_init_84 : decode cX12_init 84 = .ok (.aload_n 0, 1) := dop_42 (zb_X12_init_2 7 rfl)
theorem dX12_init_85 : decode cX12_init 85 = .ok (.bipush 60, 2) := dop_16 (zb_X12_init_2 8 rfl) (zb_X12_init_2 9 rfl) rfl
theorem dX12_init_87 : decode cX12_init 87 = .ok (.newarray .int, 2) := dop_188_10 (zb_X12_init_2 10 rfl) (zb_X12_init_2 11 rfl)
theorem dX12_init_89 : decode cX12_init 89 = .ok (.putfield 43, 3) := dop_181 (zb_X12_init_2 12 rfl) (zb_X12_init_2 13 rfl) (zb_X12_init_2 14 rfl) rfl
theorem dX12_init_92 : decode cX12_init 92 = .ok (.aload_n 0, 1) := dop_42 (zb_X12_init_2 15 rfl)
theorem dX12_init_93 : decode cX12_init 93 = .ok (.bipush 60, 2) := dop_16 (zb_X12_init_2 16 rfl) (zb_X12_init_2 17 rfl) rfl
theorem dX12_init_95 : decode cX12_init 95 = .ok (.newarray .int, 2) := dop_188_10 (zb_X12_init_2 18 rfl) (zb_X12_init_2 19 rfl)
theorem dX12_init_97 : decode cX12_init 97 = .ok (.putfield 46, 3) := dop_181 (zb_X12_init_2 20 rfl) (zb_X12_init_2 21 rfl) (zb_X12_init_2 22 rfl) rfl
theorem dX12_init_100 : decode cX12_init 100 = .ok (.aload_n 0, 1) := dop_42 (zb_X12_init_2 23 rfl)
theorem dX12_init_101 : decode cX12_init 101 = .ok (.bipush 60, 2) := dop_16 (zb_X12_init_2 24 rfl) (zb_X12_init_2 25 rfl) rfl
theorem dX12_init_103 : decode cX12_init 103 = .ok (.newarray .int, 2) := dop_188_10 (zb_X12_init_2 26 rfl) (zb_X12_init_2 27 rfl)
theorem dX12_init_105 : decode cX12_init 105 = .ok (.putfield 49, 3) := dop_181 (zb_X12_init_2 28 rfl) (zb_X12_init_2 29 rfl) (zb_X12_init_2 30 rfl) rfl
theorem dX12_init_108 : decode cX12_init 108 = .ok (.aload_n 0, 1) := dop_42 (zb_X12_init_2 31 rfl)
theorem dX12_init_109 : decode cX12_init 109 = .ok (.bipush 60, 2) := dop_16 (zb_X12_init_2 32 rfl) (zb_X12_init_2 33 rfl) rfl
theorem dX12_init_111 : decode cX12_init 111 = .ok (.newarray .boolean, 2) := dop_188_4 (zb_X12_init_2 34 rfl) (zb_X12_init_2 35 rfl)
theorem dX12_init_113 : decode cX12_init 113 = .ok (.putfield 52, 3) := dop_181 (zb_X12_init_2 36 rfl) (zb_X12_init_2 37 rfl) (zb_X12_init_2 38 rfl) rfl
theorem dX12_init_116 : decode cX12_init 116 = .ok (.aload_n 0, 1) := dop_42 (zb_X12_init_2 39 rfl)
theorem ze_X12_init_4 : (dcn cX12_init).drop 157 = zt_X12_init_4 := dw_n (wl := zw_X12_init_3) ze_X12_init_3 rfl
theorem zb_X12_init_3 (j : Nat) {n : Nat} (e : zw_X12_init_3[j]? = some n) : dby cX12_init (117 + j) n := dw_b (t := zt_X12_init_4) ze_X12_init_3 j e
theorem dX12_init_117 : decode cX12_init 117 = .ok (.bipush 32, 2) := dop_16 (zb_X12_init_3 0 rfl) (zb_X12_init_3 1 rfl) rfl
theorem dX12_init_119 : decode cX12_init 119 = .ok (.newarray .int, 2) := dop_188_10 (zb_X12_init_3 2 rfl) (zb_X12_init_3 3 rfl)
theorem dX12_init_121 : decode cX12_init 121 = .ok (.putfield 55, 3) := dop_181 (zb_X12_init_3 4 rfl) (zb_X12_init_3 5 rfl) (zb_X12_init_3 6 rfl) rfl
theorem dX12_init_124 : decode cX12_init 124 = .ok (.aload_n 0, 1) := dop_42 (zb_X12_init_3 7 rfl)
theorem dX12_init_125 : decode cX12_init 125 = .ok (.bipush 6, 2) := dop_16 (zb_X12_init_3 8 rfl) (zb_X12_init_3 9 rfl) rfl
theorem dX12_init_127 : decode cX12_init 127 = .ok (.newarray .int, 2) := dop_188_10 (zb_X12_init_3 10 rfl) (zb_X12_init_3 11 rfl)
theorem dX12_init_129 : decode cX12_init 129 = .ok (.putfield 58, 3) := dop_181 (zb_X12_init_3 12 rfl) (zb_X12_init_3 13 rfl) (zb_X12_init_3 14 rfl) rfl
theorem dX12_init_132 : decode cX12_init 132 = .ok (.aload_n 0, 1) := dop_42 (zb_X12_init_3 15 rfl)
theorem dX12_init_133 : decode cX12_init 133 = .ok (.bipush 80, 2) := dop_16 (zb_X12_init_3 16 rfl) (zb_X12_init_3 17 rfl) rfl
theorem dX12_init_135 : decode cX12_init 135 = .ok (.newarray .long, 2) := dop_188_11 (zb_X12_init_3 18 rfl) (zb_X12_init_3 19 rfl)
theorem dX12_init_137 : decode cX12_init 137 = .ok (.putfield 61, 3) := dop_181 (zb_X12_init_3 20 rfl) (zb_X12_init_3 21 rfl) (zb_X12_init_3 22 rfl) rfl
theorem dX12_init_140 : decode cX12_init 140 = .ok (.aload_n 0, 1) := dop_42 (zb_X12_init_3 23 rfl)
theorem dX12_init_141 : decode cX12_init 141 = .ok (.bipush 80, 2) := dop_16 (zb_X12_init_3 24 rfl) (zb_X12_init_3 25 rfl) rfl
theorem dX12_init_143 : decode cX12_init 143 = .ok (.newarray .long, 2) := dop_188_11 (zb_X12_init_3 26 rfl) (zb_X12_init_3 27 rfl)
theorem dX12_init_145 : decode cX12_init 145 = .ok (.putfield 64, 3) := dop_181 (zb_X12_init_3 28 rfl) (zb_X12_init_3 29 rfl) (zb_X12_init_3 30 rfl) rfl
theorem dX12_init_148 : decode cX12_init 148 = .ok (.aload_n 0, 1) := dop_42 (zb_X12_init_3 31 rfl)
theorem dX12_init_149 : decode cX12_init 149 = .ok (.bipush 16, 2) := dop_16 (zb_X12_init_3 32 rfl) (zb_X12_init_3 33 rfl) rfl
theorem dX12_init_151 : decode cX12_init 151 = .ok (.newarray .boolean, 2) := dop_188_4 (zb_X12_init_3 34 rfl) (zb_X12_init_3 35 rfl)
theorem dX12_init_153 : decode cX12_init 153 = .ok (.putfield 67, 3) := dop_181 (zb_X12_init_3 36 rfl) (zb_X12_init_3 37 rfl) (zb_X12_init_3 38 rfl) rfl
theorem dX12_init_156 : decode cX12_init 156 = .ok (.aload_n 0, 1) := dop_42 (zb_X12_init_3 39 rfl)
theorem ze_X12_init_5 : (dcn cX12_init).drop 197 = zt_X12_init_5 := dw_n (wl := zw_X12_init_4) ze_X12_init_4 rfl
theorem zb_X12_init_4 (j : Nat) {n : Nat} (e : zw_X12_init_4[j]? = some n) : dby cX12_init (157 + j) n := dw_b (t := zt_X12_init_5) ze_X12_init_4 j e
theorem dX12_init_157 : decode cX12_init 157 = .ok (.bipush 16, 2) := dop_16 (zb_X12_init_4 0 rfl) (zb_X12_init_4 1 rfl) rfl
theorem dX12_init_159 : decode cX12_init 159 = .ok (.newarray .boolean, 2) := dop_188_4 (zb_X12_init_4 2 rfl) (zb_X12_init_4 3 rfl)
theorem dX12_init_161 : decode cX12_init 161 = .ok (.putfield 70, 3) := dop_181 (zb_X12_init_4 4 rfl) (zb_X12_init_4 5 rfl) (zb_X12_init_4 6 rfl) rfl
theorem dX12_init_164 : decode cX12_init 164 = .ok (.aload_n 0, 1) := dop_42 (zb_X12_init_4 7 rfl)
theorem dX12_init_165 : decode cX12_init 165 = .ok (.bipush 80, 2) := dop_16 (zb_X12_init_4 8 rfl) (zb_X12_init_4 9 rfl) rfl
theorem dX12_init_167 : decode cX12_init 167 = .ok (.newarray .long, 2) := dop_188_11 (zb_X12_init_4 10 rfl) (zb_X12_init_4 11 rfl)
theorem dX12_init_169 : decode cX12_init 169 = .ok (.putfield 73, 3) := dop_181 (zb_X12_init_4 12 rfl) (zb_X12_init_4 13 rfl) (zb_X12_init_4 14 rfl) rfl
theorem dX12_init_172 : decode cX12_init 172 = .ok (.aload_n 0, 1) := dop_42 (zb_X12_init_4 15 rfl)
theorem dX12_init_173 : decode cX12_init 173 = .ok (.bipush 80, 2) := dop_16 (zb_X12_init_4 16 rfl) (zb_X12_init_4 17 rfl) rfl
theorem dX12_init_175 : decode cX12_init 175 = .ok (.newarray .long, 2) := dop_188_11 (zb_X12_init_4 18 rfl) (zb_X12_init_4 19 rfl)
theorem dX12_init_177 : decode cX12_init 177 = .ok (.putfield 76, 3) := dop_181 (zb_X12_init_4 20 rfl) (zb_X12_init_4 21 rfl) (zb_X12_init_4 22 rfl) rfl
theorem dX12_init_180 : decode cX12_init 180 = .ok (.aload_n 0, 1) := dop_42 (zb_X12_init_4 23 rfl)
theorem dX12_init_181 : decode cX12_init 181 = .ok (.bipush 16, 2) := dop_16 (zb_X12_init_4 24 rfl) (zb_X12_init_4 25 rfl) rfl
theorem dX12_init_183 : decode cX12_init 183 = .ok (.newarray .boolean, 2) := dop_188_4 (zb_X12_init_4 26 rfl) (zb_X12_init_4 27 rfl)
theorem dX12_init_185 : decode cX12_init 185 = .ok (.putfield 79, 3) := dop_181 (zb_X12_init_4 28 rfl) (zb_X12_init_4 29 rfl) (zb_X12_init_4 30 rfl) rfl
theorem dX12_init_188 : decode cX12_init 188 = .ok (.aload_n 0, 1) := dop_42 (zb_X12_init_4 31 rfl)
theorem dX12_init_189 : decode cX12_init 189 = .ok (.bipush 16, 2) := dop_16 (zb_X12_init_4 32 rfl) (zb_X12_init_4 33 rfl) rfl
theorem dX12_init_191 : decode cX12_init 191 = .ok (.newarray .boolean, 2) := dop_188_4 (zb_X12_init_4 34 rfl) (zb_X12_init_4 35 rfl)
theorem dX12_init_193 : decode cX12_init 193 = .ok (.putfield 82, 3) := dop_181 (zb_X12_init_4 36 rfl) (zb_X12_init_4 37 rfl) (zb_X12_init_4 38 rfl) rfl
theorem dX12_init_196 : decode cX12_init 196 = .ok (.aload_n 0, 1) := dop_42 (zb_X12_init_4 39 rfl)
theorem ze_X12_init_6 : (dcn cX12_init).drop 237 = zt_X12_init_6 := dw_n (wl := zw_X12_init_5) ze_X12_init_5 rfl
theorem zb_X12_init_5 (j : Nat) {n : Nat} (e : zw_X12_init_5[j]? = some n) : dby cX12_init (197 + j) n := dw_b (t := zt_X12_init_6) ze_X12_init_5 j e
theorem dX12_init_197 : decode cX12_init 197 = .ok (.iconst 5, 1) := dop_8 (zb_X12_init_5 0 rfl)
theorem dX12_init_198 : decode cX12_init 198 = .ok (.newarray .long, 2) := dop_188_11 (zb_X12_init_5 1 rfl) (zb_X12_init_5 2 rfl)
theorem dX12_init_200 : decode cX12_init 200 = .ok (.putfield 85, 3) := dop_181 (zb_X12_init_5 3 rfl) (zb_X12_init_5 4 rfl) (zb_X12_init_5 5 rfl) rfl
theorem dX12_init_203 : decode cX12_init 203 = .ok (.aload_n 0, 1) := dop_42 (zb_X12_init_5 6 rfl)
theorem dX12_init_204 : decode cX12_init 204 = .ok (.iconst 5, 1) := dop_8 (zb_X12_init_5 7 rfl)
theorem dX12_init_205 : decode cX12_init 205 = .ok (.newarray .long, 2) := dop_188_11 (zb_X12_init_5 8 rfl) (zb_X12_init_5 9 rfl)
theorem dX12_init_207 : decode cX12_init 207 = .ok (.putfield 88, 3) := dop_181 (zb_X12_init_5 10 rfl) (zb_X12_init_5 11 rfl) (zb_X12_init_5 12 rfl) rfl
theorem dX12_init_210 : decode cX12_init 210 = .ok (.aload_n 0, 1) := dop_42 (zb_X12_init_5 13 rfl)
theorem dX12_init_211 : decode cX12_init 211 = .ok (.sipush 256, 3) := dop_17 (zb_X12_init_5 14 rfl) (zb_X12_init_5 15 rfl) (zb_X12_init_5 16 rfl) rfl
theorem dX12_init_214 : decode cX12_init 214 = .ok (.newarray .boolean, 2) := dop_188_4 (zb_X12_init_5 17 rfl) (zb_X12_init_5 18 rfl)
theorem dX12_init_216 : decode cX12_init 216 = .ok (.putfield 91, 3) := dop_181 (zb_X12_init_5 19 rfl) (zb_X12_init_5 20 rfl) (zb_X12_init_5 21 rfl) rfl
theorem dX12_init_219 : decode cX12_init 219 = .ok (.aload_n 0, 1) := dop_42 (zb_X12_init_5 22 rfl)
theorem dX12_init_220 : decode cX12_init 220 = .ok (.bipush 10, 2) := dop_16 (zb_X12_init_5 23 rfl) (zb_X12_init_5 24 rfl) rfl
theorem dX12_init_222 : decode cX12_init 222 = .ok (.newarray .long, 2) := dop_188_11 (zb_X12_init_5 25 rfl) (zb_X12_init_5 26 rfl)
theorem dX12_init_224 : decode cX12_init 224 = .ok (.putfield 94, 3) := dop_181 (zb_X12_init_5 27 rfl) (zb_X12_init_5 28 rfl) (zb_X12_init_5 29 rfl) rfl
theorem dX12_init_227 : decode cX12_init 227 = .ok (.aload_n 0, 1) := dop_42 (zb_X12_init_5 30 rfl)
theorem dX12_init_228 : decode cX12_init 228 = .ok (.bipush 10, 2) := dop_16 (zb_X12_init_5 31 rfl) (zb_X12_init_5 32 rfl) rfl
theorem dX12_init_230 : decode cX12_init 230 = .ok (.newarray .long, 2) := dop_188_11 (zb_X12_init_5 33 rfl) (zb_X12_init_5 34 rfl)
theorem dX12_init_232 : decode cX12_init 232 = .ok (.putfield 97, 3) := dop_181 (zb_X12_init_5 35 rfl) (zb_X12_init_5 36 rfl) (zb_X12_init_5 37 rfl) rfl
theorem dX12_init_235 : decode cX12_init 235 = .ok (.aload_n 0, 1) := dop_42 (zb_X12_init_5 38 rfl)
theorem dX12_init_236 : decode cX12_init 236 = .ok (.iconst 5, 1) := dop_8 (zb_X12_init_5 39 rfl)
theorem ze_X12_init_7 : (dcn cX12_init).drop 275 = zt_X12_init_7 := dw_n (wl := zw_X12_init_6) ze_X12_init_6 rfl
theorem zb_X12_init_6 (j : Nat) {n : Nat} (e : zw_X12_init_6[j]? = some n) : dby cX12_init (237 + j) n := dw_b (t := zt_X12_init_7) ze_X12_init_6 j e
theorem dX12_init_237 : decode cX12_init 237 = .ok (.newarray .long, 2) := dop_188_11 (zb_X12_init_6 0 rfl) (zb_X12_init_6 1 rfl)
theorem dX12_init_239 : decode cX12_init 239 = .ok (.dup, 1) := dop_89 (zb_X12_init_6 2 rfl)
theorem dX12_init_240 : decode cX12_init 240 = .ok (.iconst 0, 1) := dop_3 (zb_X12_init_6 3 rfl)
theorem dX12_init_241 : decode cX12_init 241 = .ok (.lconst 1, 1) := dop_10 (zb_X12_init_6 4 rfl)
theorem dX12_init_242 : decode cX12_init 242 = .ok (.lastore, 1) := dop_80 (zb_X12_init_6 5 rfl)
theorem dX12_init_243 : decode cX12_init 243 = .ok (.dup, 1) := dop_89 (zb_X12_init_6 6 rfl)
theorem dX12_init_244 : decode cX12_init 244 = .ok (.iconst 1, 1) := dop_4 (zb_X12_init_6 7 rfl)
theorem dX12_init_245 : decode cX12_init 245 = .ok (.lconst 0, 1) := dop_9 (zb_X12_init_6 8 rfl)
theorem dX12_init_246 : decode cX12_init 246 = .ok (.lastore, 1) := dop_80 (zb_X12_init_6 9 rfl)
theorem dX12_init_247 : decode cX12_init 247 = .ok (.dup, 1) := dop_89 (zb_X12_init_6 10 rfl)
theorem dX12_init_248 : decode cX12_init 248 = .ok (.iconst 2, 1) := dop_5 (zb_X12_init_6 11 rfl)
theorem dX12_init_249 : decode cX12_init 249 = .ok (.lconst 0, 1) := dop_9 (zb_X12_init_6 12 rfl)
theorem dX12_init_250 : decode cX12_init 250 = .ok (.lastore, 1) := dop_80 (zb_X12_init_6 13 rfl)
theorem dX12_init_251 : decode cX12_init 251 = .ok (.dup, 1) := dop_89 (zb_X12_init_6 14 rfl)
theorem dX12_init_252 : decode cX12_init 252 = .ok (.iconst 3, 1) := dop_6 (zb_X12_init_6 15 rfl)
theorem dX12_init_253 : decode cX12_init 253 = .ok (.lconst 0, 1) := dop_9 (zb_X12_init_6 16 rfl)
theorem dX12_init_254 : decode cX12_init 254 = .ok (.lastore, 1) := dop_80 (zb_X12_init_6 17 rfl)
theorem dX12_init_255 : decode cX12_init 255 = .ok (.dup, 1) := dop_89 (zb_X12_init_6 18 rfl)
theorem dX12_init_256 : decode cX12_init 256 = .ok (.iconst 4, 1) := dop_7 (zb_X12_init_6 19 rfl)
theorem dX12_init_257 : decode cX12_init 257 = .ok (.lconst 0, 1) := dop_9 (zb_X12_init_6 20 rfl)
theorem dX12_init_258 : decode cX12_init 258 = .ok (.lastore, 1) := dop_80 (zb_X12_init_6 21 rfl)
theorem dX12_init_259 : decode cX12_init 259 = .ok (.putfield 100, 3) := dop_181 (zb_X12_init_6 22 rfl) (zb_X12_init_6 23 rfl) (zb_X12_init_6 24 rfl) rfl
theorem dX12_init_262 : decode cX12_init 262 = .ok (.aload_n 0, 1) := dop_42 (zb_X12_init_6 25 rfl)
theorem dX12_init_263 : decode cX12_init 263 = .ok (.bipush 20, 2) := dop_16 (zb_X12_init_6 26 rfl) (zb_X12_init_6 27 rfl) rfl
theorem dX12_init_265 : decode cX12_init 265 = .ok (.newarray .long, 2) := dop_188_11 (zb_X12_init_6 28 rfl) (zb_X12_init_6 29 rfl)
theorem dX12_init_267 : decode cX12_init 267 = .ok (.putfield 103, 3) := dop_181 (zb_X12_init_6 30 rfl) (zb_X12_init_6 31 rfl) (zb_X12_init_6 32 rfl) rfl
theorem dX12_init_270 : decode cX12_init 270 = .ok (.aload_n 0, 1) := dop_42 (zb_X12_init_6 33 rfl)
theorem dX12_init_271 : decode cX12_init 271 = .ok (.bipush 10, 2) := dop_16 (zb_X12_init_6 34 rfl) (zb_X12_init_6 35 rfl) rfl
theorem dX12_init_273 : decode cX12_init 273 = .ok (.newarray .long, 2) := dop_188_11 (zb_X12_init_6 36 rfl) (zb_X12_init_6 37 rfl)
theorem ze_X12_init_8 : (dcn cX12_init).drop 313 = zt_X12_init_8 := dw_n (wl := zw_X12_init_7) ze_X12_init_7 rfl
theorem zb_X12_init_7 (j : Nat) {n : Nat} (e : zw_X12_init_7[j]? = some n) : dby cX12_init (275 + j) n := dw_b (t := zt_X12_init_8) ze_X12_init_7 j e
theorem dX12_init_275 : decode cX12_init 275 = .ok (.putfield 106, 3) := dop_181 (zb_X12_init_7 0 rfl) (zb_X12_init_7 1 rfl) (zb_X12_init_7 2 rfl) rfl
theorem dX12_init_278 : decode cX12_init 278 = .ok (.aload_n 0, 1) := dop_42 (zb_X12_init_7 3 rfl)
theorem dX12_init_279 : decode cX12_init 279 = .ok (.bipush 10, 2) := dop_16 (zb_X12_init_7 4 rfl) (zb_X12_init_7 5 rfl) rfl
theorem dX12_init_281 : decode cX12_init 281 = .ok (.newarray .long, 2) := dop_188_11 (zb_X12_init_7 6 rfl) (zb_X12_init_7 7 rfl)
theorem dX12_init_283 : decode cX12_init 283 = .ok (.putfield 109, 3) := dop_181 (zb_X12_init_7 8 rfl) (zb_X12_init_7 9 rfl) (zb_X12_init_7 10 rfl) rfl
theorem dX12_init_286 : decode cX12_init 286 = .ok (.aload_n 0, 1) := dop_42 (zb_X12_init_7 11 rfl)
theorem dX12_init_287 : decode cX12_init 287 = .ok (.bipush 10, 2) := dop_16 (zb_X12_init_7 12 rfl) (zb_X12_init_7 13 rfl) rfl
theorem dX12_init_289 : decode cX12_init 289 = .ok (.newarray .long, 2) := dop_188_11 (zb_X12_init_7 14 rfl) (zb_X12_init_7 15 rfl)
theorem dX12_init_291 : decode cX12_init 291 = .ok (.putfield 112, 3) := dop_181 (zb_X12_init_7 16 rfl) (zb_X12_init_7 17 rfl) (zb_X12_init_7 18 rfl) rfl
theorem dX12_init_294 : decode cX12_init 294 = .ok (.aload_n 0, 1) := dop_42 (zb_X12_init_7 19 rfl)
theorem dX12_init_295 : decode cX12_init 295 = .ok (.bipush 10, 2) := dop_16 (zb_X12_init_7 20 rfl) (zb_X12_init_7 21 rfl) rfl
theorem dX12_init_297 : decode cX12_init 297 = .ok (.newarray .long, 2) := dop_188_11 (zb_X12_init_7 22 rfl) (zb_X12_init_7 23 rfl)
theorem dX12_init_299 : decode cX12_init 299 = .ok (.putfield 115, 3) := dop_181 (zb_X12_init_7 24 rfl) (zb_X12_init_7 25 rfl) (zb_X12_init_7 26 rfl) rfl
theorem dX12_init_302 : decode cX12_init 302 = .ok (.aload_n 0, 1) := dop_42 (zb_X12_init_7 27 rfl)
theorem dX12_init_303 : decode cX12_init 303 = .ok (.iconst 3, 1) := dop_6 (zb_X12_init_7 28 rfl)
theorem dX12_init_304 : decode cX12_init 304 = .ok (.newarray .long, 2) := dop_188_11 (zb_X12_init_7 29 rfl) (zb_X12_init_7 30 rfl)
theorem dX12_init_306 : decode cX12_init 306 = .ok (.putfield 118, 3) := dop_181 (zb_X12_init_7 31 rfl) (zb_X12_init_7 32 rfl) (zb_X12_init_7 33 rfl) rfl
theorem dX12_init_309 : decode cX12_init 309 = .ok (.aload_n 0, 1) := dop_42 (zb_X12_init_7 34 rfl)
theorem dX12_init_310 : decode cX12_init 310 = .ok (.iconst 3, 1) := dop_6 (zb_X12_init_7 35 rfl)
theorem dX12_init_311 : decode cX12_init 311 = .ok (.newarray .long, 2) := dop_188_11 (zb_X12_init_7 36 rfl) (zb_X12_init_7 37 rfl)
theorem ze_X12_init_9 : (dcn cX12_init).drop 353 = zt_X12_init_9 := dw_n (wl := zw_X12_init_8) ze_X12_init_8 rfl
theorem zb_X12_init_8 (j : Nat) {n : Nat} (e : zw_X12_init_8[j]? = some n) : dby cX12_init (313 + j) n := dw_b (t := zt_X12_init_9) ze_X12_init_8 j e
theorem dX12_init_313 : decode cX12_init 313 = .ok (.putfield 121, 3) := dop_181 (zb_X12_init_8 0 rfl) (zb_X12_init_8 1 rfl) (zb_X12_init_8 2 rfl) rfl
theorem dX12_init_316 : decode cX12_init 316 = .ok (.aload_n 0, 1) := dop_42 (zb_X12_init_8 3 rfl)
theorem dX12_init_317 : decode cX12_init 317 = .ok (.bipush 16, 2) := dop_16 (zb_X12_init_8 4 rfl) (zb_X12_init_8 5 rfl) rfl
theorem dX12_init_319 : decode cX12_init 319 = .ok (.newarray .int, 2) := dop_188_10 (zb_X12_init_8 6 rfl) (zb_X12_init_8 7 rfl)
theorem dX12_init_321 : decode cX12_init 321 = .ok (.putfield 124, 3) := dop_181 (zb_X12_init_8 8 rfl) (zb_X12_init_8 9 rfl) (zb_X12_init_8 10 rfl) rfl
theorem dX12_init_324 : decode cX12_init 324 = .ok (.aload_n 0, 1) := dop_42 (zb_X12_init_8 11 rfl)
theorem dX12_init_325 : decode cX12_init 325 = .ok (.iconst 3, 1) := dop_6 (zb_X12_init_8 12 rfl)
theorem dX12_init_326 : decode cX12_init 326 = .ok (.newarray .int, 2) := dop_188_10 (zb_X12_init_8 13 rfl) (zb_X12_init_8 14 rfl)
theorem dX12_init_328 : decode cX12_init 328 = .ok (.putfield 127, 3) := dop_181 (zb_X12_init_8 15 rfl) (zb_X12_init_8 16 rfl) (zb_X12_init_8 17 rfl) rfl
theorem dX12_init_331 : decode cX12_init 331 = .ok (.aload_n 0, 1) := dop_42 (zb_X12_init_8 18 rfl)
theorem dX12_init_332 : decode cX12_init 332 = .ok (.bipush 32, 2) := dop_16 (zb_X12_init_8 19 rfl) (zb_X12_init_8 20 rfl) rfl
theorem dX12_init_334 : decode cX12_init 334 = .ok (.newarray .int, 2) := dop_188_10 (zb_X12_init_8 21 rfl) (zb_X12_init_8 22 rfl)
theorem dX12_init_336 : decode cX12_init 336 = .ok (.putfield 130, 3) := dop_181 (zb_X12_init_8 23 rfl) (zb_X12_init_8 24 rfl) (zb_X12_init_8 25 rfl) rfl
theorem dX12_init_339 : decode cX12_init 339 = .ok (.iconst 0, 1) := dop_3 (zb_X12_init_8 26 rfl)
theorem dX12_init_340 : decode cX12_init 340 = .ok (.istore_n 1, 1) := dop_60 (zb_X12_init_8 27 rfl)
theorem dX12_init_341 : decode cX12_init 341 = .ok (.iload_n 1, 1) := dop_27 (zb_X12_init_8 28 rfl)
theorem dX12_init_342 : decode cX12_init 342 = .ok (.bipush 32, 2) := dop_16 (zb_X12_init_8 29 rfl) (zb_X12_init_8 30 rfl) rfl
theorem dX12_init_344 : decode cX12_init 344 = .ok (.if_icmp .ge 19, 3) := dop_162 (zb_X12_init_8 31 rfl) (zb_X12_init_8 32 rfl) (zb_X12_init_8 33 rfl) rfl
theorem dX12_init_347 : decode cX12_init 347 = .ok (.aload_n 0, 1) := dop_42 (zb_X12_init_8 34 rfl)
theorem dX12_init_348 : decode cX12_init 348 = .ok (.getfield 13, 3) := dop_180 (zb_X12_init_8 35 rfl) (zb_X12_init_8 36 rfl) (zb_X12_init_8 37 rfl) rfl
theorem dX12_init_351 : decode cX12_init 351 = .ok (.bipush 10, 2) := dop_16 (zb_X12_init_8 38 rfl) (zb_X12_init_8 39 rfl) rfl
theorem ze_X12_init_10 : (dcn cX12_init).drop 392 = zt_X12_init_10 := dw_n (wl := zw_X12_init_9) ze_X12_init_9 rfl
theorem zb_X12_init_9 (j : Nat) {n : Nat} (e : zw_X12_init_9[j]? = some n) : dby cX12_init (353 + j) n := dw_b (t := zt_X12_init_10) ze_X12_init_9 j e
theorem dX12_init_353 : decode cX12_init 353 = .ok (.iload_n 1, 1) := dop_27 (zb_X12_init_9 0 rfl)
theorem dX12_init_354 : decode cX12_init 354 = .ok (.iadd, 1) := dop_96 (zb_X12_init_9 1 rfl)
theorem dX12_init_355 : decode cX12_init 355 = .ok (.iconst (-1), 1) := dop_2 (zb_X12_init_9 2 rfl)
theorem dX12_init_356 : decode cX12_init 356 = .ok (.iastore, 1) := dop_79 (zb_X12_init_9 3 rfl)
theorem dX12_init_357 : decode cX12_init 357 = .ok (.iinc 1 1, 3) := dop_132 (zb_X12_init_9 4 rfl) (zb_X12_init_9 5 rfl) (zb_X12_init_9 6 rfl) rfl
theorem dX12_init_360 : decode cX12_init 360 = .ok (.goto (-19), 3) := dop_167 (zb_X12_init_9 7 rfl) (zb_X12_init_9 8 rfl) (zb_X12_init_9 9 rfl) rfl
theorem dX12_init_363 : decode cX12_init 363 = .ok (.iconst 0, 1) := dop_3 (zb_X12_init_9 10 rfl)
theorem dX12_init_364 : decode cX12_init 364 = .ok (.istore_n 1, 1) := dop_60 (zb_X12_init_9 11 rfl)
theorem dX12_init_365 : decode cX12_init 365 = .ok (.iload_n 1, 1) := dop_27 (zb_X12_init_9 12 rfl)
theorem dX12_init_366 : decode cX12_init 366 = .ok (.bipush 6, 2) := dop_16 (zb_X12_init_9 13 rfl) (zb_X12_init_9 14 rfl) rfl
theorem dX12_init_368 : decode cX12_init 368 = .ok (.if_icmp .ge 19, 3) := dop_162 (zb_X12_init_9 15 rfl) (zb_X12_init_9 16 rfl) (zb_X12_init_9 17 rfl) rfl
theorem dX12_init_371 : decode cX12_init 371 = .ok (.aload_n 0, 1) := dop_42 (zb_X12_init_9 18 rfl)
theorem dX12_init_372 : decode cX12_init 372 = .ok (.getfield 13, 3) := dop_180 (zb_X12_init_9 19 rfl) (zb_X12_init_9 20 rfl) (zb_X12_init_9 21 rfl) rfl
theorem dX12_init_375 : decode cX12_init 375 = .ok (.bipush 42, 2) := dop_16 (zb_X12_init_9 22 rfl) (zb_X12_init_9 23 rfl) rfl
theorem dX12_init_377 : decode cX12_init 377 = .ok (.iload_n 1, 1) := dop_27 (zb_X12_init_9 24 rfl)
theorem dX12_init_378 : decode cX12_init 378 = .ok (.iadd, 1) := dop_96 (zb_X12_init_9 25 rfl)
theorem dX12_init_379 : decode cX12_init 379 = .ok (.iconst (-1), 1) := dop_2 (zb_X12_init_9 26 rfl)
theorem dX12_init_380 : decode cX12_init 380 = .ok (.iastore, 1) := dop_79 (zb_X12_init_9 27 rfl)
theorem dX12_init_381 : decode cX12_init 381 = .ok (.iinc 1 1, 3) := dop_132 (zb_X12_init_9 28 rfl) (zb_X12_init_9 29 rfl) (zb_X12_init_9 30 rfl) rfl
theorem dX12_init_384 : decode cX12_init 384 = .ok (.goto (-19), 3) := dop_167 (zb_X12_init_9 31 rfl) (zb_X12_init_9 32 rfl) (zb_X12_init_9 33 rfl) rfl
theorem dX12_init_387 : decode cX12_init 387 = .ok (.iconst 0, 1) := dop_3 (zb_X12_init_9 34 rfl)
theorem dX12_init_388 : decode cX12_init 388 = .ok (.istore_n 1, 1) := dop_60 (zb_X12_init_9 35 rfl)
theorem dX12_init_389 : decode cX12_init 389 = .ok (.iload_n 1, 1) := dop_27 (zb_X12_init_9 36 rfl)
theorem dX12_init_390 : decode cX12_init 390 = .ok (.bipush 16, 2) := dop_16 (zb_X12_init_9 37 rfl) (zb_X12_init_9 38 rfl) rfl
theorem zb_X12_init_10 (j : Nat) {n : Nat} (e : zw_X12_init_10[j]? = some n) : dby cX12_init (392 + j) n := dw_b (t := []) ze_X12_init_10 j e
theorem dX12_init_392 : decode cX12_init 392 = .ok (.if_icmp .ge 20, 3) := dop_162 (zb_X12_init_10 0 rfl) (zb_X12_init_10 1 rfl) (zb_X12_init_10 2 rfl) rfl
theorem dX12_init_395 : decode cX12_init 395 = .ok (.aload_n 0, 1) := dop_42 (zb_X12_init_10 3 rfl)
theorem dX12_init_396 : decode cX12_init 396 = .ok (.getfield 13, 3) := dop_180 (zb_X12_init_10 4 rfl) (zb_X12_init_10 5 rfl) (zb_X12_init_10 6 rfl) rfl
theorem dX12_init_399 : decode cX12_init 399 = .ok (.bipush 60, 2) := dop_16 (zb_X12_init_10 7 rfl) (zb_X12_init_10 8 rfl) rfl
theorem dX12_init_401 : decode cX12_init 401 = .ok (.iload_n 1, 1) := dop_27 (zb_X12_init_10 9 rfl)
theorem dX12_init_402 : decode cX12_init 402 = .ok (.iadd, 1) := dop_96 (zb_X12_init_10 10 rfl)
theorem dX12_init_403 : decode cX12_init 403 = .ok (.bipush 100, 2) := dop_16 (zb_X12_init_10 11 rfl) (zb_X12_init_10 12 rfl) rfl
theorem dX12_init_405 : decode cX12_init 405 = .ok (.iastore, 1) := dop_79 (zb_X12_init_10 13 rfl)
theorem dX12_init_406 : decode cX12_init 406 = .ok (.iinc 1 1, 3) := dop_132 (zb_X12_init_10 14 rfl) (zb_X12_init_10 15 rfl) (zb_X12_init_10 16 rfl) rfl
theorem dX12_init_409 : decode cX12_init 409 = .ok (.goto (-20), 3) := dop_167 (zb_X12_init_10 17 rfl) (zb_X12_init_10 18 rfl) (zb_X12_init_10 19 rfl) rfl
theorem dX12_init_412 : decode cX12_init 412 = .ok (.return_, 1) := dop_177 (zb_X12_init_10 20 rfl)
def zw_X12_in_0 : List Nat := [30, 32, 148, 155, 0, 14, 30, 22, 4, 148, 157, 0, 7, 4, 167, 0, 4, 3, 172]
def zt_X12_in_0 : List Nat := zw_X12_in_0 ++ []
theorem ze_X12_in_0 : (dcn cX12_in).drop 0 = zt_X12_in_0 := by decide +kernel
theorem zb_X12_in_0 (j : Nat) {n : Nat} (e : zw_X12_in_0[j]? = some n) : dby cX12_in (0 + j) n := dw_b (t := []) ze_X12_in_0 j e
theorem dX12_in_0 : decode cX12_in 0 = .ok (.lload_n 0, 1) := dop_30 (zb_X12_in_0 0 rfl)
theorem dX12_in_1 : decode cX12_in 1 = .ok (.lload_n 2, 1) := dop_32 (zb_X12_in_0 1 rfl)
theorem dX12_in_2 : decode cX12_in 2 = .ok (.lcmp, 1) := dop_148 (zb_X12_in_0 2 rfl)
theorem dX12_in_3 : decode cX12_in 3 = .ok (.ifCond .lt 14, 3) := dop_155 (zb_X12_in_0 3 rfl) (zb_X12_in_0 4 rfl) (zb_X12_in_0 5 rfl) rfl
theorem dX12_in_6 : decode cX12_in 6 = .ok (.lload_n 0, 1) := dop_30 (zb_X12_in_0 6 rfl)
theorem dX12_in_7 : decode cX12_in 7 = .ok (.lload 4, 2) := dop_22 (zb_X12_in_0 7 rfl) (zb_X12_in_0 8 rfl)
theorem dX12_in_9 : decode cX12_in 9 = .ok (.lcmp, 1) := dop_148 (zb_X12_in_0 9 rfl)
theorem dX12_in_10 : decode cX12_in 10 = .ok (.ifCond .gt 7, 3) := dop_157 (zb_X12_in_0 10 rfl) (zb_X12_in_0 11 rfl) (zb_X12_in_0 12 rfl) rfl
theorem dX12_in_13 : decode cX12_in 13 = .ok (.iconst 1, 1) := dop_4 (zb_X12_in_0 13 rfl)
theorem dX12_in_14 : decode cX12_in 14 = .ok (.goto 4, 3) := dop_167 (zb_X12_in_0 14 rfl) (zb_X12_in_0 15 rfl) (zb_X12_in_0 16 rfl) rfl
theorem dX12_in_17 : decode cX12_in 17 = .ok (.iconst 0, 1) := dop_3 (zb_X12_in_0 17 rfl)
theorem dX12_in_18 : decode cX12_in 18 = .ok (.ireturn, 1) := dop_172 (zb_X12_in_0 18 rfl)
def zw_X12_is_0 : List Nat := [26, 27, 122, 4, 126, 4, 160, 0, 7, 4, 167, 0, 4, 3, 172]
def zt_X12_is_0 : List Nat := zw_X12_is_0 ++ []
theorem ze_X12_is_0 : (dcn cX12_is).drop 0 = zt_X12_is_0 := by decide +kernel
theorem zb_X12_is_0 (j : Nat) {n : Nat} (e : zw_X12_is_0[j]? = some n) : dby cX12_is (0 + j) n := dw_b (t := []) ze_X12_is_0 j e
theorem dX12_is_0 : decode cX12_is 0 = .ok (.iload_n 0, 1) := dop_26 (zb_X12_is_0 0 rfl)
theorem dX12_is_1 : decode cX12_is 1 = .ok (.iload_n 1, 1) := dop_27 (zb_X12_is_0 1 rfl)
theorem dX12_is_2 : decode cX12_is 2 = .ok (.ishr, 1) := dop_122 (zb_X12_is_0 2 rfl)
theorem dX12_is_3 : decode cX12_is 3 = .ok (.iconst 1, 1) := dop_4 (zb_X12_is_0 3 rfl)
theorem dX12_is_4 : decode cX12_is 4 = .ok (.iand, 1) := dop_126 (zb_X12_is_0 4 rfl)
theorem dX12_is_5 : decode cX12_is 5 = .ok (.iconst 1, 1) := dop_4 (zb_X12_is_0 5 rfl)
theorem dX12_is_6 : decode cX12_is 6 = .ok (.if_icmp .ne 7, 3) := dop_160 (zb_X12_is_0 6 rfl) (zb_X12_is_0 7 rfl) (zb_X12_is_0 8 rfl) rfl
theorem dX12_is_9 : decode cX12_is 9 = .ok (.iconst 1, 1) := dop_4 (zb_X12_is_0 9 rfl)
theorem dX12_is_10 : decode cX12_is 10 = .ok (.goto 4, 3) := dop_167 (zb_X12_is_0 10 rfl) (zb_X12_is_0 11 rfl) (zb_X12_is_0 12 rfl) rfl
theorem dX12_is_13 : decode cX12_is 13 = .ok (.iconst 0, 1) := dop_3 (zb_X12_is_0 13 rfl)
theorem dX12_is_14 : decode cX12_is 14 = .ok (.ireturn, 1) := dop_172 (zb_X12_is_0 14 rfl)
def zw_X12_answer_0 : List Nat := [42, 27, 156, 0, 7, 27, 167, 0, 4, 3, 181, 0, 136, 27, 156, 0, 14, 42, 180, 0, 7, 27, 116, 92, 46, 4, 96, 79, 27, 172]
def zt_X12_answer_0 : List Nat := zw_X12_answer_0 ++ []
theorem ze_X12_answer_0 : (dcn cX12_answer).drop 0 = zt_X12_answer_0 := by decide +kernel
theorem zb_X12_answer_0 (j : Nat) {n : Nat} (e : zw_X12_answer_0[j]? = some n) : dby cX12_answer (0 + j) n := dw_b (t := []) ze_X12_answer_0 j e
theorem dX12_answer_0 : decode cX12_answer 0 = .ok (.aload_n 0, 1) := dop_42 (zb_X12_answer_0 0 rfl)
theorem dX12_answer_1 : decode cX12_answer 1 = .ok (.iload_n 1, 1) := dop_27 (zb_X12_answer_0 1 rfl)
theorem dX12_answer_2 : decode cX12_answer 2 = .ok (.ifCond .ge 7, 3) := dop_156 (zb_X12_answer_0 2 rfl) (zb_X12_answer_0 3 rfl) (zb_X12_answer_0 4 rfl) rfl
theorem dX12_answer_5 : decode cX12_answer 5 = .ok (.iload_n 1, 1) := dop_27 (zb_X12_answer_0 5 rfl)
theorem dX12_answer_6 : decode cX12_answer 6 = .ok (.goto 4, 3) := dop_167 (zb_X12_answer_0 6 rfl) (zb_X12_answer_0 7 rfl) (zb_X12_answer_0 8 rfl) rfl
theorem dX12_answer_9 : decode cX12_answer 9 = .ok (.iconst 0, 1) := dop_3 (zb_X12_answer_0 9 rfl)
theorem dX12_answer_10 : decode cX12_answer 10 = .ok (.putfield 136, 3) := dop_181 (zb_X12_answer_0 10 rfl) (zb_X12_answer_0 11 rfl) (zb_X12_answer_0 12 rfl) rfl
theorem dX12_answer_13 : decode cX12_answer 13 = .ok (.iload_n 1, 1) := dop_27 (zb_X12_answer_0 13 rfl)
theorem dX12_answer_14 : decode cX12_answer 14 = .ok (.ifCond .ge 14, 3) := dop_156 (zb_X12_answer_0 14 rfl) (zb_X12_answer_0 15 rfl) (zb_X12_answer_0 16 rfl) rfl
theorem dX12_answer_17 : decode cX12_answer 17 = .ok (.aload_n 0, 1) := dop_42 (zb_X12_answer_0 17 rfl)
theorem dX12_answer_18 : decode cX12_answer 18 = .ok (.getfield 7, 3) := dop_180 (zb_X12_answer_0 18 rfl) (zb_X12_answer_0 19 rfl) (zb_X12_answer_0 20 rfl) rfl
theorem dX12_answer_21 : decode cX12_answer 21 = .ok (.iload_n 1, 1) := dop_27 (zb_X12_answer_0 21 rfl)
theorem dX12_answer_22 : decode cX12_answer 22 = .ok (.ineg, 1) := dop_116 (zb_X12_answer_0 22 rfl)
theorem dX12_answer_23 : decode cX12_answer 23 = .ok (.dup2, 1) := dop_92 (zb_X12_answer_0 23 rfl)
theorem dX12_answer_24 : decode cX12_answer 24 = .ok (.iaload, 1) := dop_46 (zb_X12_answer_0 24 rfl)
theorem dX12_answer_25 : decode cX12_answer 25 = .ok (.iconst 1, 1) := dop_4 (zb_X12_answer_0 25 rfl)
theorem dX12_answer_26 : decode cX12_answer 26 = .ok (.iadd, 1) := dop_96 (zb_X12_answer_0 26 rfl)
theorem dX12_answer_27 : decode cX12_answer 27 = .ok (.iastore, 1) := dop_79 (zb_X12_answer_0 27 rfl)
theorem dX12_answer_28 : decode cX12_answer 28 = .ok (.iload_n 1, 1) := dop_27 (zb_X12_answer_0 28 rfl)
theorem dX12_answer_29 : decode cX12_answer 29 = .ok (.ireturn, 1) := dop_172 (zb_X12_answer_0 29 rfl)
def zw_X12_was_0 : List Nat := [42, 3, 181, 0, 136, 27, 172]
def zt_X12_was_0 : List Nat := zw_X12_was_0 ++ []
theorem ze_X12_was_0 : (dcn cX12_was).drop 0 = zt_X12_was_0 := by decide +kernel
theorem zb_X12_was_0 (j : Nat) {n : Nat} (e : zw_X12_was_0[j]? = some n) : dby cX12_was (0 + j) n := dw_b (t := []) ze_X12_was_0 j e
theorem dX12_was_0 : decode cX12_was 0 = .ok (.aload_n 0, 1) := dop_42 (zb_X12_was_0 0 rfl)
theorem dX12_was_1 : decode cX12_was 1 = .ok (.iconst 0, 1) := dop_3 (zb_X12_was_0 1 rfl)
theorem dX12_was_2 : decode cX12_was 2 = .ok (.putfield 136, 3) := dop_181 (zb_X12_was_0 2 rfl) (zb_X12_was_0 3 rfl) (zb_X12_was_0 4 rfl) rfl
theorem dX12_was_5 : decode cX12_was 5 = .ok (.iload_n 1, 1) := dop_27 (zb_X12_was_0 5 rfl)
theorem dX12_was_6 : decode cX12_was 6 = .ok (.ireturn, 1) := dop_172 (zb_X12_was_0 6 rfl)
def zw_X12_change_0 : List Nat := [42, 180, 0, 13, 27, 46, 62, 42, 180, 0, 13, 27, 28, 79, 42, 29, 182, 0, 139, 172]
def zt_X12_change_0 : List Nat := zw_X12_change_0 ++ []
theorem ze_X12_change_0 : (dcn cX12_change).drop 0 = zt_X12_change_0 := by decide +kernel
theorem zb_X12_change_0 (j : Nat) {n : Nat} (e : zw_X12_change_0[j]? = some n) : dby cX12_change (0 + j) n := dw_b (t := []) ze_X12_change_0 j e
theorem dX12_change_0 : decode cX12_change 0 = .ok (.aload_n 0, 1) := dop_42 (zb_X12_change_0 0 rfl)
theorem dX12_change_1 : decode cX12_change 1 = .ok (.getfield 13, 3) := dop_180 (zb_X12_change_0 1 rfl) (zb_X12_change_0 2 rfl) (zb_X12_change_0 3 rfl) rfl
theorem dX12_change_4 : decode cX12_change 4 = .ok (.iload_n 1, 1) := dop_27 (zb_X12_change_0 4 rfl)
theorem dX12_change_5 : decode cX12_change 5 = .ok (.iaload, 1) := dop_46 (zb_X12_change_0 5 rfl)
theorem dX12_change_6 : decode cX12_change 6 = .ok (.istore_n 3, 1) := dop_62 (zb_X12_change_0 6 rfl)
theorem dX12_change_7 : decode cX12_change 7 = .ok (.aload_n 0, 1) := dop_42 (zb_X12_change_0 7 rfl)
theorem dX12_change_8 : decode cX12_change 8 = .ok (.getfield 13, 3) := dop_180 (zb_X12_change_0 8 rfl) (zb_X12_change_0 9 rfl) (zb_X12_change_0 10 rfl) rfl
theorem dX12_change_11 : decode cX12_change 11 = .ok (.iload_n 1, 1) := dop_27 (zb_X12_change_0 11 rfl)
theorem dX12_change_12 : decode cX12_change 12 = .ok (.iload_n 2, 1) := dop_28 (zb_X12_change_0 12 rfl)
theorem dX12_change_13 : decode cX12_change 13 = .ok (.iastore, 1) := dop_79 (zb_X12_change_0 13 rfl)
theorem dX12_change_14 : decode cX12_change 14 = .ok (.aload_n 0, 1) := dop_42 (zb_X12_change_0 14 rfl)
theorem dX12_change_15 : decode cX12_change 15 = .ok (.iload_n 3, 1) := dop_29 (zb_X12_change_0 15 rfl)
theorem dX12_change_16 : decode cX12_change 16 = .ok (.invokevirtual 139, 3) := dop_182 (zb_X12_change_0 16 rfl) (zb_X12_change_0 17 rfl) (zb_X12_change_0 18 rfl) rfl
theorem dX12_change_19 : decode cX12_change 19 = .ok (.ireturn, 1) := dop_172 (zb_X12_change_0 19 rfl)
def zw_X12_image_1 : List Nat := [96, 42, 180, 0, 13, 28, 46, 79, 132, 2, 1, 167, 255, 228, 42, 180, 0, 19, 27, 4, 84, 42, 3, 182, 0, 147, 172]
def zt_X12_image_1 : List Nat := zw_X12_image_1 ++ []
def zw_X12_image_0 : List Nat := [42, 3, 181, 0, 133, 27, 133, 9, 10, 184, 0, 143, 154, 0, 9, 42, 2, 182, 0, 147, 172, 3, 61, 28, 17, 0, 200, 162, 0, 27, 42, 180, 0, 16, 17, 0, 200, 27, 104, 28]
def zt_X12_image_0 : List Nat := zw_X12_image_0 ++ zt_X12_image_1
theorem ze_X12_image_0 : (dcn cX12_image).drop 0 = zt_X12_image_0 := by decide +kernel
theorem ze_X12_image_1 : (dcn cX12_image).drop 40 = zt_X12_image_1 := dw_n (wl := zw_X12_image_0) ze_X12_image_0 rfl
theorem zb_X12_image_0 (j : Nat) {n : Nat} (e : zw_X12_image_0[j]? = some n) : dby cX12_image (0 + j) n := dw_b (t := zt_X12_image_1) ze_X12_image_0 j e
theorem dX12_image_0 : decode cX12_image 0 = .ok (.aload_n 0, 1) := dop_42 (zb_X12_image_0 0 rfl)
theorem dX12_image_1 : decode cX12_image 1 = .ok (.iconst 0, 1) := dop_3 (zb_X12_image_0 1 rfl)
theorem dX12_image_2 : decode cX12_image 2 = .ok (.putfield 133, 3) := dop_181 (zb_X12_image_0 2 rfl) (zb_X12_image_0 3 rfl) (zb_X12_image_0 4 rfl) rfl
theorem dX12_image_5 : decode cX12_image 5 = .ok (.iload_n 1, 1) := dop_27 (zb_X12_image_0 5 rfl)
theorem dX12_image_6 : decode cX12_image 6 = .ok (.i2l, 1) := dop_133 (zb_X12_image_0 6 rfl)
theorem dX12_image_7 : decode cX12_image 7 = .ok (.lconst 0, 1) := dop_9 (zb_X12_image_0 7 rfl)
theorem dX12_image_8 : decode cX12_image 8 = .ok (.lconst 1, 1) := dop_10 (zb_X12_image_0 8 rfl)
theorem dX12_image_9 : decode cX12_image 9 = .ok (.invokestatic 143, 3) := dop_184 (zb_X12_image_0 9 rfl) (zb_X12_image_0 10 rfl) (zb_X12_image_0 11 rfl) rfl
theorem dX12_image_12 : decode cX12_image 12 = .ok (.ifCond .ne 9, 3) := dop_154 (zb_X12_image_0 12 rfl) (zb_X12_image_0 13 rfl) (zb_X12_image_0 14 rfl) rfl
theorem dX12_image_15 : decode cX12_image 15 = .ok (.aload_n 0, 1) := dop_42 (zb_X12_image_0 15 rfl)
theorem dX12_image_16 : decode cX12_image 16 = .ok (.iconst (-1), 1) := dop_2 (zb_X12_image_0 16 rfl)
theorem dX12_image_17 : decode cX12_image 17 = .ok (.invokevirtual 147, 3) := dop_182 (zb_X12_image_0 17 rfl) (zb_X12_image_0 18 rfl) (zb_X12_image_0 19 rfl) rfl
theorem dX12_image_20 : decode cX12_image 20 = .ok (.ireturn, 1) := dop_172 (zb_X12_image_0 20 rfl)
theorem dX12_image_21 : decode cX12_image 21 = .ok (.iconst 0, 1) := dop_3 (zb_X12_image_0 21 rfl)
theorem dX12_image_22 : decode cX12_image 22 = .ok (.istore_n 2, 1) := dop_61 (zb_X12_image_0 22 rfl)
theorem dX12_image_23 : decode cX12_image 23 = .ok (.iload_n 2, 1) := dop_28 (zb_X12_image_0 23 rfl)
theorem dX12_image_24 : decode cX12_image 24 = .ok (.sipush 200, 3) := dop_17 (zb_X12_image_0 24 rfl) (zb_X12_image_0 25 rfl) (zb_X12_image_0 26 rfl) rfl
theorem dX12_image_27 : decode cX12_image 27 = .ok (.if_icmp .ge 27, 3) := dop_162 (zb_X12_image_0 27 rfl) (zb_X12_image_0 28 rfl) (zb_X12_image_0 29 rfl) rfl
theorem dX12_image_30 : decode cX12_image 30 = .ok (.aload_n 0, 1) := dop_42 (zb_X12_image_0 30 rfl)
theorem dX12_image_31 : decode cX12_image 31 = .ok (.getfield 16, 3) := dop_180 (zb_X12_image_0 31 rfl) (zb_X12_image_0 32 rfl) (zb_X12_image_0 33 rfl) rfl
theorem dX12_image_34 : decode cX12_image 34 = .ok (.sipush 200, 3) := dop_17 (zb_X12_image_0 34 rfl) (zb_X12_image_0 35 rfl) (zb_X12_image_0 36 rfl) rfl
theorem dX12_image_37 : decode cX12_image 37 = .ok (.iload_n 1, 1) := dop_27 (zb_X12_image_0 37 rfl)
theorem dX12_image_38 : decode cX12_image 38 = .ok (.imul, 1) := dop_104 (zb_X12_image_0 38 rfl)
theorem dX12_image_39 : decode cX12_image 39 = .ok (.iload_n 2, 1) := dop_28 (zb_X12_image_0 39 rfl)
theorem zb_X12_image_1 (j : Nat) {n : Nat} (e : zw_X12_image_1[j]? = some n) : dby cX12_image (40 + j) n := dw_b (t := []) ze_X12_image_1 j e
theorem dX12_image_40 : decode cX12_image 40 = .ok (.iadd, 1) := dop_96 (zb_X12_image_1 0 rfl)
theorem dX12_image_41 : decode cX12_image 41 = .ok (.aload_n 0, 1) := dop_42 (zb_X12_image_1 1 rfl)
theorem dX12_image_42 : decode cX12_image 42 = .ok (.getfield 13, 3) := dop_180 (zb_X12_image_1 2 rfl) (zb_X12_image_1 3 rfl) (zb_X12_image_1 4 rfl) rfl
theorem dX12_image_45 : decode cX12_image 45 = .ok (.iload_n 2, 1) := dop_28 (zb_X12_image_1 5 rfl)
theorem dX12_image_46 : decode cX12_image 46 = .ok (.iaload, 1) := dop_46 (zb_X12_image_1 6 rfl)
theorem dX12_image_47 : decode cX12_image 47 = .ok (.iastore, 1) := dop_79 (zb_X12_image_1 7 rfl)
theorem dX12_image_48 : decode cX12_image 48 = .ok (.iinc 2 1, 3) := dop_132 (zb_X12_image_1 8 rfl) (zb_X12_image_1 9 rfl) (zb_X12_image_1 10 rfl) rfl
theorem dX12_image_51 : decode cX12_image 51 = .ok (.goto (-28), 3) := dop_167 (zb_X12_image_1 11 rfl) (zb_X12_image_1 12 rfl) (zb_X12_image_1 13 rfl) rfl
theorem dX12_image_54 : decode cX12_image 54 = .ok (.aload_n 0, 1) := dop_42 (zb_X12_image_1 14 rfl)
theorem dX12_image_55 : decode cX12_image 55 = .ok (.getfield 19, 3) := dop_180 (zb_X12_image_1 15 rfl) (zb_X12_image_1 16 rfl) (zb_X12_image_1 17 rfl) rfl
theorem dX12_image_58 : decode cX12_image 58 = .ok (.iload_n 1, 1) := dop_27 (zb_X12_image_1 18 rfl)
theorem dX12_image_59 : decode cX12_image 59 = .ok (.iconst 1, 1) := dop_4 (zb_X12_image_1 19 rfl)
theorem dX12_image_60 : decode cX12_image 60 = .ok (.bastore, 1) := dop_84 (zb_X12_image_1 20 rfl)
theorem dX12_image_61 : decode cX12_image 61 = .ok (.aload_n 0, 1) := dop_42 (zb_X12_image_1 21 rfl)
theorem dX12_image_62 : decode cX12_image 62 = .ok (.iconst 0, 1) := dop_3 (zb_X12_image_1 22 rfl)
theorem dX12_image_63 : decode cX12_image 63 = .ok (.invokevirtual 147, 3) := dop_182 (zb_X12_image_1 23 rfl) (zb_X12_image_1 24 rfl) (zb_X12_image_1 25 rfl) rfl
theorem dX12_image_66 : decode cX12_image 66 = .ok (.ireturn, 1) := dop_172 (zb_X12_image_1 26 rfl)
def zw_X12_back_1 : List Nat := [17, 0, 200, 162, 0, 27, 42, 180, 0, 13, 28, 42, 180, 0, 16, 17, 0, 200, 27, 104, 28, 96, 46, 79, 132, 2, 1, 167, 255, 228, 42, 3, 182, 0, 147, 172]
def zt_X12_back_1 : List Nat := zw_X12_back_1 ++ []
def zw_X12_back_0 : List Nat := [42, 3, 181, 0, 133, 27, 133, 9, 10, 184, 0, 143, 154, 0, 9, 42, 2, 182, 0, 147, 172, 42, 180, 0, 19, 27, 51, 154, 0, 10, 42, 16, 254, 182, 0, 147, 172, 3, 61, 28]
def zt_X12_back_0 : List Nat := zw_X12_back_0 ++ zt_X12_back_1
theorem ze_X12_back_0 : (dcn cX12_back).drop 0 = zt_X12_back_0 := by decide +kernel
theorem ze_X12_back_1 : (dcn cX12_back).drop 40 = zt_X12_back_1 := dw_n (wl := zw_X12_back_0) ze_X12_back_0 rfl
theorem zb_X12_back_0 (j : Nat) {n : Nat} (e : zw_X12_back_0[j]? = some n) : dby cX12_back (0 + j) n := dw_b (t := zt_X12_back_1) ze_X12_back_0 j e
theorem dX12_back_0 : decode cX12_back 0 = .ok (.aload_n 0, 1) := dop_42 (zb_X12_back_0 0 rfl)
theorem dX12_back_1 : decode cX12_back 1 = .ok (.iconst 0, 1) := dop_3 (zb_X12_back_0 1 rfl)
theorem dX12_back_2 : decode cX12_back 2 = .ok (.putfield 133, 3) := dop_181 (zb_X12_back_0 2 rfl) (zb_X12_back_0 3 rfl) (zb_X12_back_0 4 rfl) rfl
theorem dX12_back_5 : decode cX12_back 5 = .ok (.iload_n 1, 1) := dop_27 (zb_X12_back_0 5 rfl)
theorem dX12_back_6 : decode cX12_back 6 = .ok (.i2l, 1) := dop_133 (zb_X12_back_0 6 rfl)
theorem dX12_back_7 : decode cX12_back 7 = .ok (.lconst 0, 1) := dop_9 (zb_X12_back_0 7 rfl)
theorem dX12_back_8 : decode cX12_back 8 = .ok (.lconst 1, 1) := dop_10 (zb_X12_back_0 8 rfl)
theorem dX12_back_9 : decode cX12_back 9 = .ok (.invokestatic 143, 3) := dop_184 (zb_X12_back_0 9 rfl) (zb_X12_back_0 10 rfl) (zb_X12_back_0 11 rfl) rfl
theorem dX12_back_12 : decode cX12_back 12 = .ok (.ifCond .ne 9, 3) := dop_154 (zb_X12_back_0 12 rfl) (zb_X12_back_0 13 rfl) (zb_X12_back_0 14 rfl) rfl
theorem dX12_back_15 : decode cX12_back 15 = .ok (.aload_n 0, 1) := dop_42 (zb_X12_back_0 15 rfl)
theorem dX12_back_16 : decode cX12_back 16 = .ok (.iconst (-1), 1) := dop_2 (zb_X12_back_0 16 rfl)
theorem dX12_back_17 : decode cX12_back 17 = .ok (.invokevirtual 147, 3) := dop_182 (zb_X12_back_0 17 rfl) (zb_X12_back_0 18 rfl) (zb_X12_back_0 19 rfl) rfl
theorem dX12_back_20 : decode cX12_back 20 = .ok (.ireturn, 1) := dop_172 (zb_X12_back_0 20 rfl)
theorem dX12_back_21 : decode cX12_back 21 = .ok (.aload_n 0, 1) := dop_42 (zb_X12_back_0 21 rfl)
theorem dX12_back_22 : decode cX12_back 22 = .ok (.getfield 19, 3) := dop_180 (zb_X12_back_0 22 rfl) (zb_X12_back_0 23 rfl) (zb_X12_back_0 24 rfl) rfl
theorem dX12_back_25 : decode cX12_back 25 = .ok (.iload_n 1, 1) := dop_27 (zb_X12_back_0 25 rfl)
theorem dX12_back_26 : decode cX12_back 26 = .ok (.baload, 1) := dop_51 (zb_X12_back_0 26 rfl)
theorem dX12_back_27 : decode cX12_back 27 = .ok (.ifCond .ne 10, 3) := dop_154 (zb_X12_back_0 27 rfl) (zb_X12_back_0 28 rfl) (zb_X12_back_0 29 rfl) rfl
theorem dX12_back_30 : decode cX12_back 30 = .ok (.aload_n 0, 1) := dop_42 (zb_X12_back_0 30 rfl)
theorem dX12_back_31 : decode cX12_back 31 = .ok (.bipush (-2), 2) := dop_16 (zb_X12_back_0 31 rfl) (zb_X12_back_0 32 rfl) rfl
theorem dX12_back_33 : decode cX12_back 33 = .ok (.invokevirtual 147, 3) := dop_182 (zb_X12_back_0 33 rfl) (zb_X12_back_0 34 rfl) (zb_X12_back_0 35 rfl) rfl
theorem dX12_back_36 : decode cX12_back 36 = .ok (.ireturn, 1) := dop_172 (zb_X12_back_0 36 rfl)
theorem dX12_back_37 : decode cX12_back 37 = .ok (.iconst 0, 1) := dop_3 (zb_X12_back_0 37 rfl)
theorem dX12_back_38 : decode cX12_back 38 = .ok (.istore_n 2, 1) := dop_61 (zb_X12_back_0 38 rfl)
theorem dX12_back_39 : decode cX12_back 39 = .ok (.iload_n 2, 1) := dop_28 (zb_X12_back_0 39 rfl)
theorem zb_X12_back_1 (j : Nat) {n : Nat} (e : zw_X12_back_1[j]? = some n) : dby cX12_back (40 + j) n := dw_b (t := []) ze_X12_back_1 j e
theorem dX12_back_40 : decode cX12_back 40 = .ok (.sipush 200, 3) := dop_17 (zb_X12_back_1 0 rfl) (zb_X12_back_1 1 rfl) (zb_X12_back_1 2 rfl) rfl
theorem dX12_back_43 : decode cX12_back 43 = .ok (.if_icmp .ge 27, 3) := dop_162 (zb_X12_back_1 3 rfl) (zb_X12_back_1 4 rfl) (zb_X12_back_1 5 rfl) rfl
theorem dX12_back_46 : decode cX12_back 46 = .ok (.aload_n 0, 1) := dop_42 (zb_X12_back_1 6 rfl)
theorem dX12_back_47 : decode cX12_back 47 = .ok (.getfield 13, 3) := dop_180 (zb_X12_back_1 7 rfl) (zb_X12_back_1 8 rfl) (zb_X12_back_1 9 rfl) rfl
theorem dX12_back_50 : decode cX12_back 50 = .ok (.iload_n 2, 1) := dop_28 (zb_X12_back_1 10 rfl)
theorem dX12_back_51 : decode cX12_back 51 = .ok (.aload_n 0, 1) := dop_42 (zb_X12_back_1 11 rfl)
theorem dX12_back_52 : decode cX12_back 52 = .ok (.getfield 16, 3) := dop_180 (zb_X12_back_1 12 rfl) (zb_X12_back_1 13 rfl) (zb_X12_back_1 14 rfl) rfl
theorem dX12_back_55 : decode cX12_back 55 = .ok (.sipush 200, 3) := dop_17 (zb_X12_back_1 15 rfl) (zb_X12_back_1 16 rfl) (zb_X12_back_1 17 rfl) rfl
theorem dX12_back_58 : decode cX12_back 58 = .ok (.iload_n 1, 1) := dop_27 (zb_X12_back_1 18 rfl)
theorem dX12_back_59 : decode cX12_back 59 = .ok (.imul, 1) := dop_104 (zb_X12_back_1 19 rfl)
theorem dX12_back_60 : decode cX12_back 60 = .ok (.iload_n 2, 1) := dop_28 (zb_X12_back_1 20 rfl)
theorem dX12_back_61 : decode cX12_back 61 = .ok (.iadd, 1) := dop_96 (zb_X12_back_1 21 rfl)
theorem dX12_back_62 : decode cX12_back 62 = .ok (.iaload, 1) := dop_46 (zb_X12_back_1 22 rfl)
theorem dX12_back_63 : decode cX12_back 63 = .ok (.iastore, 1) := dop_79 (zb_X12_back_1 23 rfl)
theorem dX12_back_64 : decode cX12_back 64 = .ok (.iinc 2 1, 3) := dop_132 (zb_X12_back_1 24 rfl) (zb_X12_back_1 25 rfl) (zb_X12_back_1 26 rfl) rfl
theorem dX12_back_67 : decode cX12_back 67 = .ok (.goto (-28), 3) := dop_167 (zb_X12_back_1 27 rfl) (zb_X12_back_1 28 rfl) (zb_X12_back_1 29 rfl) rfl
theorem dX12_back_70 : decode cX12_back 70 = .ok (.aload_n 0, 1) := dop_42 (zb_X12_back_1 30 rfl)
theorem dX12_back_71 : decode cX12_back 71 = .ok (.iconst 0, 1) := dop_3 (zb_X12_back_1 31 rfl)
theorem dX12_back_72 : decode cX12_back 72 = .ok (.invokevirtual 147, 3) := dop_182 (zb_X12_back_1 32 rfl) (zb_X12_back_1 33 rfl) (zb_X12_back_1 34 rfl) rfl
theorem dX12_back_75 : decode cX12_back 75 = .ok (.ireturn, 1) := dop_172 (zb_X12_back_1 35 rfl)
def zw_X12_isThing_0 : List Nat := [26, 133, 9, 20, 0, 150, 184, 0, 143, 172]
def zt_X12_isThing_0 : List Nat := zw_X12_isThing_0 ++ []
theorem ze_X12_isThing_0 : (dcn cX12_isThing).drop 0 = zt_X12_isThing_0 := by decide +kernel
theorem zb_X12_isThing_0 (j : Nat) {n : Nat} (e : zw_X12_isThing_0[j]? = some n) : dby cX12_isThing (0 + j) n := dw_b (t := []) ze_X12_isThing_0 j e
theorem dX12_isThing_0 : decode cX12_isThing 0 = .ok (.iload_n 0, 1) := dop_26 (zb_X12_isThing_0 0 rfl)
theorem dX12_isThing_1 : decode cX12_isThing 1 = .ok (.i2l, 1) := dop_133 (zb_X12_isThing_0 1 rfl)
theorem dX12_isThing_2 : decode cX12_isThing 2 = .ok (.lconst 0, 1) := dop_9 (zb_X12_isThing_0 2 rfl)
theorem dX12_isThing_3 : decode cX12_isThing 3 = .ok (.ldc2_w 150, 3) := dop_20 (zb_X12_isThing_0 3 rfl) (zb_X12_isThing_0 4 rfl) (zb_X12_isThing_0 5 rfl) rfl
theorem dX12_isThing_6 : decode cX12_isThing 6 = .ok (.invokestatic 143, 3) := dop_184 (zb_X12_isThing_0 6 rfl) (zb_X12_isThing_0 7 rfl) (zb_X12_isThing_0 8 rfl) rfl
theorem dX12_isThing_9 : decode cX12_isThing 9 = .ok (.ireturn, 1) := dop_172 (zb_X12_isThing_0 9 rfl)
def zw_X12_isKeeper_0 : List Nat := [26, 133, 9, 20, 0, 152, 184, 0, 143, 172]
def zt_X12_isKeeper_0 : List Nat := zw_X12_isKeeper_0 ++ []
theorem ze_X12_isKeeper_0 : (dcn cX12_isKeeper).drop 0 = zt_X12_isKeeper_0 := by decide +kernel
theorem zb_X12_isKeeper_0 (j : Nat) {n : Nat} (e : zw_X12_isKeeper_0[j]? = some n) : dby cX12_isKeeper (0 + j) n := dw_b (t := []) ze_X12_isKeeper_0 j e
theorem dX12_isKeeper_0 : decode cX12_isKeeper 0 = .ok (.iload_n 0, 1) := dop_26 (zb_X12_isKeeper_0 0 rfl)
theorem dX12_isKeeper_1 : decode cX12_isKeeper 1 = .ok (.i2l, 1) := dop_133 (zb_X12_isKeeper_0 1 rfl)
theorem dX12_isKeeper_2 : decode cX12_isKeeper 2 = .ok (.lconst 0, 1) := dop_9 (zb_X12_isKeeper_0 2 rfl)
theorem dX12_isKeeper_3 : decode cX12_isKeeper 3 = .ok (.ldc2_w 152, 3) := dop_20 (zb_X12_isKeeper_0 3 rfl) (zb_X12_isKeeper_0 4 rfl) (zb_X12_isKeeper_0 5 rfl) rfl
theorem dX12_isKeeper_6 : decode cX12_isKeeper 6 = .ok (.invokestatic 143, 3) := dop_184 (zb_X12_isKeeper_0 6 rfl) (zb_X12_isKeeper_0 7 rfl) (zb_X12_isKeeper_0 8 rfl) rfl
theorem dX12_isKeeper_9 : decode cX12_isKeeper 9 = .ok (.ireturn, 1) := dop_172 (zb_X12_isKeeper_0 9 rfl)
def zw_X12_isWeek_0 : List Nat := [26, 133, 9, 20, 0, 154, 184, 0, 143, 172]
def zt_X12_isWeek_0 : List Nat := zw_X12_isWeek_0 ++ []
theorem ze_X12_isWeek_0 : (dcn cX12_isWeek).drop 0 = zt_X12_isWeek_0 := by decide +kernel
theorem zb_X12_isWeek_0 (j : Nat) {n : Nat} (e : zw_X12_isWeek_0[j]? = some n) : dby cX12_isWeek (0 + j) n := dw_b (t := []) ze_X12_isWeek_0 j e
theorem dX12_isWeek_0 : decode cX12_isWeek 0 = .ok (.iload_n 0, 1) := dop_26 (zb_X12_isWeek_0 0 rfl)
theorem dX12_isWeek_1 : decode cX12_isWeek 1 = .ok (.i2l, 1) := dop_133 (zb_X12_isWeek_0 1 rfl)
theorem dX12_isWeek_2 : decode cX12_isWeek 2 = .ok (.lconst 0, 1) := dop_9 (zb_X12_isWeek_0 2 rfl)
theorem dX12_isWeek_3 : decode cX12_isWeek 3 = .ok (.ldc2_w 154, 3) := dop_20 (zb_X12_isWeek_0 3 rfl) (zb_X12_isWeek_0 4 rfl) (zb_X12_isWeek_0 5 rfl) rfl
theorem dX12_isWeek_6 : decode cX12_isWeek 6 = .ok (.invokestatic 143, 3) := dop_184 (zb_X12_isWeek_0 6 rfl) (zb_X12_isWeek_0 7 rfl) (zb_X12_isWeek_0 8 rfl) rfl
theorem dX12_isWeek_9 : decode cX12_isWeek 9 = .ok (.ireturn, 1) := dop_172 (zb_X12_isWeek_0 9 rfl)
def zw_X12_week_1 : List Nat := [182, 0, 147, 172]
def zt_X12_week_1 : List Nat := zw_X12_week_1 ++ []
def zw_X12_week_0 : List Nat := [42, 3, 181, 0, 133, 27, 184, 0, 156, 153, 0, 29, 28, 133, 20, 0, 160, 20, 0, 152, 184, 0, 143, 153, 0, 15, 42, 16, 10, 27, 96, 28, 182, 0, 162, 167, 0, 8, 42, 2]
def zt_X12_week_0 : List Nat := zw_X12_week_0 ++ zt_X12_week_1
theorem ze_X12_week_0 : (dcn cX12_week).drop 0 = zt_X12_week_0 := by decide +kernel
theorem ze_X12_week_1 : (dcn cX12_week).drop 40 = zt_X12_week_1 := dw_n (wl := zw_X12_week_0) ze_X12_week_0 rfl
theorem zb_X12_week_0 (j : Nat) {n : Nat} (e : zw_X12_week_0[j]? = some n) : dby cX12_week (0 + j) n := dw_b (t := zt_X12_week_1) ze_X12_week_0 j e
theorem dX12_week_0 : decode cX12_week 0 = .ok (.aload_n 0, 1) := dop_42 (zb_X12_week_0 0 rfl)
theorem dX12_week_1 : decode cX12_week 1 = .ok (.iconst 0, 1) := dop_3 (zb_X12_week_0 1 rfl)
theorem dX12_week_2 : decode cX12_week 2 = .ok (.putfield 133, 3) := dop_181 (zb_X12_week_0 2 rfl) (zb_X12_week_0 3 rfl) (zb_X12_week_0 4 rfl) rfl
theorem dX12_week_5 : decode cX12_week 5 = .ok (.iload_n 1, 1) := dop_27 (zb_X12_week_0 5 rfl)
theorem dX12_week_6 : decode cX12_week 6 = .ok (.invokestatic 156, 3) := dop_184 (zb_X12_week_0 6 rfl) (zb_X12_week_0 7 rfl) (zb_X12_week_0 8 rfl) rfl
theorem dX12_week_9 : decode cX12_week 9 = .ok (.ifCond .eq 29, 3) := dop_153 (zb_X12_week_0 9 rfl) (zb_X12_week_0 10 rfl) (zb_X12_week_0 11 rfl) rfl
theorem dX12_week_12 : decode cX12_week 12 = .ok (.iload_n 2, 1) := dop_28 (zb_X12_week_0 12 rfl)
theorem dX12_week_13 : decode cX12_week 13 = .ok (.i2l, 1) := dop_133 (zb_X12_week_0 13 rfl)
theorem dX12_week_14 : decode cX12_week 14 = .ok (.ldc2_w 160, 3) := dop_20 (zb_X12_week_0 14 rfl) (zb_X12_week_0 15 rfl) (zb_X12_week_0 16 rfl) rfl
theorem dX12_week_17 : decode cX12_week 17 = .ok (.ldc2_w 152, 3) := dop_20 (zb_X12_week_0 17 rfl) (zb_X12_week_0 18 rfl) (zb_X12_week_0 19 rfl) rfl
theorem dX12_week_20 : decode cX12_week 20 = .ok (.invokestatic 143, 3) := dop_184 (zb_X12_week_0 20 rfl) (zb_X12_week_0 21 rfl) (zb_X12_week_0 22 rfl) rfl
theorem dX12_week_23 : decode cX12_week 23 = .ok (.ifCond .eq 15, 3) := dop_153 (zb_X12_week_0 23 rfl) (zb_X12_week_0 24 rfl) (zb_X12_week_0 25 rfl) rfl
theorem dX12_week_26 : decode cX12_week 26 = .ok (.aload_n 0, 1) := dop_42 (zb_X12_week_0 26 rfl)
theorem dX12_week_27 : decode cX12_week 27 = .ok (.bipush 10, 2) := dop_16 (zb_X12_week_0 27 rfl) (zb_X12_week_0 28 rfl) rfl
theorem dX12_week_29 : decode cX12_week 29 = .ok (.iload_n 1, 1) := dop_27 (zb_X12_week_0 29 rfl)
theorem dX12_week_30 : decode cX12_week 30 = .ok (.iadd, 1) := dop_96 (zb_X12_week_0 30 rfl)
theorem dX12_week_31 : decode cX12_week 31 = .ok (.iload_n 2, 1) := dop_28 (zb_X12_week_0 31 rfl)
theorem dX12_week_32 : decode cX12_week 32 = .ok (.invokevirtual 162, 3) := dop_182 (zb_X12_week_0 32 rfl) (zb_X12_week_0 33 rfl) (zb_X12_week_0 34 rfl) rfl
theorem dX12_week_35 : decode cX12_week 35 = .ok (.goto 8, 3) := dop_167 (zb_X12_week_0 35 rfl) (zb_X12_week_0 36 rfl) (zb_X12_week_0 37 rfl) rfl
theorem dX12_week_38 : decode cX12_week 38 = .ok (.aload_n 0, 1) := dop_42 (zb_X12_week_0 38 rfl)
theorem dX12_week_39 : decode cX12_week 39 = .ok (.iconst (-1), 1) := dop_2 (zb_X12_week_0 39 rfl)
theorem zb_X12_week_1 (j : Nat) {n : Nat} (e : zw_X12_week_1[j]? = some n) : dby cX12_week (40 + j) n := dw_b (t := []) ze_X12_week_1 j e
theorem dX12_week_40 : decode cX12_week 40 = .ok (.invokevirtual 147, 3) := dop_182 (zb_X12_week_1 0 rfl) (zb_X12_week_1 1 rfl) (zb_X12_week_1 2 rfl) rfl
theorem dX12_week_43 : decode cX12_week 43 = .ok (.ireturn, 1) := dop_172 (zb_X12_week_1 3 rfl)
def zw_X12_cut_1 : List Nat := [167, 0, 8, 42, 2, 182, 0, 147, 172]
def zt_X12_cut_1 : List Nat := zw_X12_cut_1 ++ []
def zw_X12_cut_0 : List Nat := [42, 3, 181, 0, 133, 27, 184, 0, 166, 153, 0, 32, 28, 2, 159, 0, 15, 28, 133, 10, 20, 0, 154, 184, 0, 143, 153, 0, 15, 42, 16, 42, 27, 96, 28, 182, 0, 162]
def zt_X12_cut_0 : List Nat := zw_X12_cut_0 ++ zt_X12_cut_1
theorem ze_X12_cut_0 : (dcn cX12_cut).drop 0 = zt_X12_cut_0 := by decide +kernel
theorem ze_X12_cut_1 : (dcn cX12_cut).drop 38 = zt_X12_cut_1 := dw_n (wl := zw_X12_cut_0) ze_X12_cut_0 rfl
theorem zb_X12_cut_0 (j : Nat) {n : Nat} (e : zw_X12_cut_0[j]? = some n) : dby cX12_cut (0 + j) n := dw_b (t := zt_X12_cut_1) ze_X12_cut_0 j e
theorem dX12_cut_0 : decode cX12_cut 0 = .ok (.aload_n 0, 1) := dop_42 (zb_X12_cut_0 0 rfl)
theorem dX12_cut_1 : decode cX12_cut 1 = .ok (.iconst 0, 1) := dop_3 (zb_X12_cut_0 1 rfl)
theorem dX12_cut_2 : decode cX12_cut 2 = .ok (.putfield 133, 3) := dop_181 (zb_X12_cut_0 2 rfl) (zb_X12_cut_0 3 rfl) (zb_X12_cut_0 4 rfl) rfl
theorem dX12_cut_5 : decode cX12_cut 5 = .ok (.iload_n 1, 1) := dop_27 (zb_X12_cut_0 5 rfl)
theorem dX12_cut_6 : decode cX12_cut 6 = .ok (.invokestatic 166, 3) := dop_184 (zb_X12_cut_0 6 rfl) (zb_X12_cut_0 7 rfl) (zb_X12_cut_0 8 rfl) rfl
theorem dX12_cut_9 : decode cX12_cut 9 = .ok (.ifCond .eq 32, 3) := dop_153 (zb_X12_cut_0 9 rfl) (zb_X12_cut_0 10 rfl) (zb_X12_cut_0 11 rfl) rfl
theorem dX12_cut_12 : decode cX12_cut 12 = .ok (.iload_n 2, 1) := dop_28 (zb_X12_cut_0 12 rfl)
theorem dX12_cut_13 : decode cX12_cut 13 = .ok (.iconst (-1), 1) := dop_2 (zb_X12_cut_0 13 rfl)
theorem dX12_cut_14 : decode cX12_cut 14 = .ok (.if_icmp .eq 15, 3) := dop_159 (zb_X12_cut_0 14 rfl) (zb_X12_cut_0 15 rfl) (zb_X12_cut_0 16 rfl) rfl
theorem dX12_cut_17 : decode cX12_cut 17 = .ok (.iload_n 2, 1) := dop_28 (zb_X12_cut_0 17 rfl)
theorem dX12_cut_18 : decode cX12_cut 18 = .ok (.i2l, 1) := dop_133 (zb_X12_cut_0 18 rfl)
theorem dX12_cut_19 : decode cX12_cut 19 = .ok (.lconst 1, 1) := dop_10 (zb_X12_cut_0 19 rfl)
theorem dX12_cut_20 : decode cX12_cut 20 = .ok (.ldc2_w 154, 3) := dop_20 (zb_X12_cut_0 20 rfl) (zb_X12_cut_0 21 rfl) (zb_X12_cut_0 22 rfl) rfl
theorem dX12_cut_23 : decode cX12_cut 23 = .ok (.invokestatic 143, 3) := dop_184 (zb_X12_cut_0 23 rfl) (zb_X12_cut_0 24 rfl) (zb_X12_cut_0 25 rfl) rfl
theorem dX12_cut_26 : decode cX12_cut 26 = .ok (.ifCond .eq 15, 3) := dop_153 (zb_X12_cut_0 26 rfl) (zb_X12_cut_0 27 rfl) (zb_X12_cut_0 28 rfl) rfl
theorem dX12_cut_29 : decode cX12_cut 29 = .ok (.aload_n 0, 1) := dop_42 (zb_X12_cut_0 29 rfl)
theorem dX12_cut_30 : decode cX12_cut 30 = .ok (.bipush 42, 2) := dop_16 (zb_X12_cut_0 30 rfl) (zb_X12_cut_0 31 rfl) rfl
theorem dX12_cut_32 : decode cX12_cut 32 = .ok (.iload_n 1, 1) := dop_27 (zb_X12_cut_0 32 rfl)
theorem dX12_cut_33 : decode cX12_cut 33 = .ok (.iadd, 1) := dop_96 (zb_X12_cut_0 33 rfl)
theorem dX12_cut_34 : decode cX12_cut 34 = .ok (.iload_n 2, 1) := dop_28 (zb_X12_cut_0 34 rfl)
theorem dX12_cut_35 : decode cX12_cut 35 = .ok (.invokevirtual 162, 3) := dop_182 (zb_X12_cut_0 35 rfl) (zb_X12_cut_0 36 rfl) (zb_X12_cut_0 37 rfl) rfl
theorem zb_X12_cut_1 (j : Nat) {n : Nat} (e : zw_X12_cut_1[j]? = some n) : dby cX12_cut (38 + j) n := dw_b (t := []) ze_X12_cut_1 j e
theorem dX12_cut_38 : decode cX12_cut 38 = .ok (.goto 8, 3) := dop_167 (zb_X12_cut_1 0 rfl) (zb_X12_cut_1 1 rfl) (zb_X12_cut_1 2 rfl) rfl
theorem dX12_cut_41 : decode cX12_cut 41 = .ok (.aload_n 0, 1) := dop_42 (zb_X12_cut_1 3 rfl)
theorem dX12_cut_42 : decode cX12_cut 42 = .ok (.iconst (-1), 1) := dop_2 (zb_X12_cut_1 4 rfl)
theorem dX12_cut_43 : decode cX12_cut 43 = .ok (.invokevirtual 147, 3) := dop_182 (zb_X12_cut_1 5 rfl) (zb_X12_cut_1 6 rfl) (zb_X12_cut_1 7 rfl) rfl
theorem dX12_cut_46 : decode cX12_cut 46 = .ok (.ireturn, 1) := dop_172 (zb_X12_cut_1 8 rfl)
def zw_X12_isShorter_1 : List Nat := [28, 160, 0, 5, 4, 172, 132, 3, 1, 167, 255, 209, 3, 172]
def zt_X12_isShorter_1 : List Nat := zw_X12_isShorter_1 ++ []
def zw_X12_isShorter_0 : List Nat := [3, 62, 29, 42, 180, 0, 13, 4, 46, 162, 0, 43, 42, 180, 0, 13, 16, 48, 5, 29, 104, 96, 46, 27, 160, 0, 22, 42, 180, 0, 13, 16, 48, 5, 29, 104, 96, 4, 96, 46]
def zt_X12_isShorter_0 : List Nat := zw_X12_isShorter_0 ++ zt_X12_isShorter_1
theorem ze_X12_isShorter_0 : (dcn cX12_isShorter).drop 0 = zt_X12_isShorter_0 := by decide +kernel
theorem ze_X12_isShorter_1 : (dcn cX12_isShorter).drop 40 = zt_X12_isShorter_1 := dw_n (wl := zw_X12_isShorter_0) ze_X12_isShorter_0 rfl
theorem zb_X12_isShorter_0 (j : Nat) {n : Nat} (e : zw_X12_isShorter_0[j]? = some n) : dby cX12_isShorter (0 + j) n := dw_b (t := zt_X12_isShorter_1) ze_X12_isShorter_0 j e
theorem dX12_isShorter_0 : decode cX12_isShorter 0 = .ok (.iconst 0, 1) := dop_3 (zb_X12_isShorter_0 0 rfl)
theorem dX12_isShorter_1 : decode cX12_isShorter 1 = .ok (.istore_n 3, 1) := dop_62 (zb_X12_isShorter_0 1 rfl)
theorem dX12_isShorter_2 : decode cX12_isShorter 2 = .ok (.iload_n 3, 1) := dop_29 (zb_X12_isShorter_0 2 rfl)
theorem dX12_isShorter_3 : decode cX12_isShorter 3 = .ok (.aload_n 0, 1) := dop_42 (zb_X12_isShorter_0 3 rfl)
theorem dX12_isShorter_4 : decode cX12_isShorter 4 = .ok (.getfield 13, 3) := dop_180 (zb_X12_isShorter_0 4 rfl) (zb_X12_isShorter_0 5 rfl) (zb_X12_isShorter_0 6 rfl) rfl
theorem dX12_isShorter_7 : decode cX12_isShorter 7 = .ok (.iconst 1, 1) := dop_4 (zb_X12_isShorter_0 7 rfl)
theorem dX12_isShorter_8 : decode cX12_isShorter 8 = .ok (.iaload, 1) := dop_46 (zb_X12_isShorter_0 8 rfl)
theorem dX12_isShorter_9 : decode cX12_isShorter 9 = .ok (.if_icmp .ge 43, 3) := dop_162 (zb_X12_isShorter_0 9 rfl) (zb_X12_isShorter_0 10 rfl) (zb_X12_isShorter_0 11 rfl) rfl
theorem dX12_isShorter_12 : decode cX12_isShorter 12 = .ok (.aload_n 0, 1) := dop_42 (zb_X12_isShorter_0 12 rfl)
theorem dX12_isShorter_13 : decode cX12_isShorter 13 = .ok (.getfield 13, 3) := dop_180 (zb_X12_isShorter_0 13 rfl) (zb_X12_isShorter_0 14 rfl) (zb_X12_isShorter_0 15 rfl) rfl
theorem dX12_isShorter_16 : decode cX12_isShorter 16 = .ok (.bipush 48, 2) := dop_16 (zb_X12_isShorter_0 16 rfl) (zb_X12_isShorter_0 17 rfl) rfl
theorem dX12_isShorter_18 : decode cX12_isShorter 18 = .ok (.iconst 2, 1) := dop_5 (zb_X12_isShorter_0 18 rfl)
theorem dX12_isShorter_19 : decode cX12_isShorter 19 = .ok (.iload_n 3, 1) := dop_29 (zb_X12_isShorter_0 19 rfl)
theorem dX12_isShorter_20 : decode cX12_isShorter 20 = .ok (.imul, 1) := dop_104 (zb_X12_isShorter_0 20 rfl)
theorem dX12_isShorter_21 : decode cX12_isShorter 21 = .ok (.iadd, 1) := dop_96 (zb_X12_isShorter_0 21 rfl)
theorem dX12_isShorter_22 : decode cX12_isShorter 22 = .ok (.iaload, 1) := dop_46 (zb_X12_isShorter_0 22 rfl)
theorem dX12_isShorter_23 : decode cX12_isShorter 23 = .ok (.iload_n 1, 1) := dop_27 (zb_X12_isShorter_0 23 rfl)
theorem dX12_isShorter_24 : decode cX12_isShorter 24 = .ok (.if_icmp .ne 22, 3) := dop_160 (zb_X12_isShorter_0 24 rfl) (zb_X12_isShorter_0 25 rfl) (zb_X12_isShorter_0 26 rfl) rfl
theorem dX12_isShorter_27 : decode cX12_isShorter 27 = .ok (.aload_n 0, 1) := dop_42 (zb_X12_isShorter_0 27 rfl)
theorem dX12_isShorter_28 : decode cX12_isShorter 28 = .ok (.getfield 13, 3) := dop_180 (zb_X12_isShorter_0 28 rfl) (zb_X12_isShorter_0 29 rfl) (zb_X12_isShorter_0 30 rfl) rfl
theorem dX12_isShorter_31 : decode cX12_isShorter 31 = .ok (.bipush 48, 2) := dop_16 (zb_X12_isShorter_0 31 rfl) (zb_X12_isShorter_0 32 rfl) rfl
theorem dX12_isShorter_33 : decode cX12_isShorter 33 = .ok (.iconst 2, 1) := dop_5 (zb_X12_isShorter_0 33 rfl)
theorem dX12_isShorter_34 : decode cX12_isShorter 34 = .ok (.iload_n 3, 1) := dop_29 (zb_X12_isShorter_0 34 rfl)
theorem dX12_isShorter_35 : decode cX12_isShorter 35 = .ok (.imul, 1) := dop_104 (zb_X12_isShorter_0 35 rfl)
theorem dX12_isShorter_36 : decode cX12_isShorter 36 = .ok (.iadd, 1) := dop_96 (zb_X12_isShorter_0 36 rfl)
theorem dX12_isShorter_37 : decode cX12_isShorter 37 = .ok (.iconst 1, 1) := dop_4 (zb_X12_isShorter_0 37 rfl)
theorem dX12_isShorter_38 : decode cX12_isShorter 38 = .ok (.iadd, 1) := dop_96 (zb_X12_isShorter_0 38 rfl)
theorem dX12_isShorter_39 : decode cX12_isShorter 39 = .ok (.iaload, 1) := dop_46 (zb_X12_isShorter_0 39 rfl)
theorem zb_X12_isShorter_1 (j : Nat) {n : Nat} (e : zw_X12_isShorter_1[j]? = some n) : dby cX12_isShorter (40 + j) n := dw_b (t := []) ze_X12_isShorter_1 j e
theorem dX12_isShorter_40 : decode cX12_isShorter 40 = .ok (.iload_n 2, 1) := dop_28 (zb_X12_isShorter_1 0 rfl)
theorem dX12_isShorter_41 : decode cX12_isShorter 41 = .ok (.if_icmp .ne 5, 3) := dop_160 (zb_X12_isShorter_1 1 rfl) (zb_X12_isShorter_1 2 rfl) (zb_X12_isShorter_1 3 rfl) rfl
theorem dX12_isShorter_44 : decode cX12_isShorter 44 = .ok (.iconst 1, 1) := dop_4 (zb_X12_isShorter_1 4 rfl)
theorem dX12_isShorter_45 : decode cX12_isShorter 45 = .ok (.ireturn, 1) := dop_172 (zb_X12_isShorter_1 5 rfl)
theorem dX12_isShorter_46 : decode cX12_isShorter 46 = .ok (.iinc 3 1, 3) := dop_132 (zb_X12_isShorter_1 6 rfl) (zb_X12_isShorter_1 7 rfl) (zb_X12_isShorter_1 8 rfl) rfl
theorem dX12_isShorter_49 : decode cX12_isShorter 49 = .ok (.goto (-47), 3) := dop_167 (zb_X12_isShorter_1 9 rfl) (zb_X12_isShorter_1 10 rfl) (zb_X12_isShorter_1 11 rfl) rfl
theorem dX12_isShorter_52 : decode cX12_isShorter 52 = .ok (.iconst 0, 1) := dop_3 (zb_X12_isShorter_1 12 rfl)
theorem dX12_isShorter_53 : decode cX12_isShorter 53 = .ok (.ireturn, 1) := dop_172 (zb_X12_isShorter_1 13 rfl)
def zw_X12_addShorter_1 : List Nat := [4, 92, 46, 4, 96, 79, 177]
def zt_X12_addShorter_1 : List Nat := zw_X12_addShorter_1 ++ []
def zw_X12_addShorter_0 : List Nat := [42, 180, 0, 13, 16, 48, 5, 42, 180, 0, 13, 4, 46, 104, 96, 27, 79, 42, 180, 0, 13, 16, 48, 5, 42, 180, 0, 13, 4, 46, 104, 96, 4, 96, 28, 79, 42, 180, 0, 13]
def zt_X12_addShorter_0 : List Nat := zw_X12_addShorter_0 ++ zt_X12_addShorter_1
theorem ze_X12_addShorter_0 : (dcn cX12_addShorter).drop 0 = zt_X12_addShorter_0 := by decide +kernel
theorem ze_X12_addShorter_1 : (dcn cX12_addShorter).drop 40 = zt_X12_addShorter_1 := dw_n (wl := zw_X12_addShorter_0) ze_X12_addShorter_0 rfl
theorem zb_X12_addShorter_0 (j : Nat) {n : Nat} (e : zw_X12_addShorter_0[j]? = some n) : dby cX12_addShorter (0 + j) n := dw_b (t := zt_X12_addShorter_1) ze_X12_addShorter_0 j e
theorem dX12_addShorter_0 : decode cX12_addShorter 0 = .ok (.aload_n 0, 1) := dop_42 (zb_X12_addShorter_0 0 rfl)
theorem dX12_addShorter_1 : decode cX12_addShorter 1 = .ok (.getfield 13, 3) := dop_180 (zb_X12_addShorter_0 1 rfl) (zb_X12_addShorter_0 2 rfl) (zb_X12_addShorter_0 3 rfl) rfl
theorem dX12_addShorter_4 : decode cX12_addShorter 4 = .ok (.bipush 48, 2) := dop_16 (zb_X12_addShorter_0 4 rfl) (zb_X12_addShorter_0 5 rfl) rfl
theorem dX12_addShorter_6 : decode cX12_addShorter 6 = .ok (.iconst 2, 1) := dop_5 (zb_X12_addShorter_0 6 rfl)
theorem dX12_addShorter_7 : decode cX12_addShorter 7 = .ok (.aload_n 0, 1) := dop_42 (zb_X12_addShorter_0 7 rfl)
theorem dX12_addShorter_8 : decode cX12_addShorter 8 = .ok (.getfield 13, 3) := dop_180 (zb_X12_addShorter_0 8 rfl) (zb_X12_addShorter_0 9 rfl) (zb_X12_addShorter_0 10 rfl) rfl
theorem dX12_addShorter_11 : decode cX12_addShorter 11 = .ok (.iconst 1, 1) := dop_4 (zb_X12_addShorter_0 11 rfl)
theorem dX12_addShorter_12 : decode cX12_addShorter 12 = .ok (.iaload, 1) := dop_46 (zb_X12_addShorter_0 12 rfl)
theorem dX12_addShorter_13 : decode cX12_addShorter 13 = .ok (.imul, 1) := dop_104 (zb_X12_addShorter_0 13 rfl)
theorem dX12_addShorter_14 : decode cX12_addShorter 14 = .ok (.iadd, 1) := dop_96 (zb_X12_addShorter_0 14 rfl)
theorem dX12_addShorter_15 : decode cX12_addShorter 15 = .ok (.iload_n 1, 1) := dop_27 (zb_X12_addShorter_0 15 rfl)
theorem dX12_addShorter_16 : decode cX12_addShorter 16 = .ok (.iastore, 1) := dop_79 (zb_X12_addShorter_0 16 rfl)
theorem dX12_addShorter_17 : decode cX12_addShorter 17 = .ok (.aload_n 0, 1) := dop_42 (zb_X12_addShorter_0 17 rfl)
theorem dX12_addShorter_18 : decode cX12_addShorter 18 = .ok (.getfield 13, 3) := dop_180 (zb_X12_addShorter_0 18 rfl) (zb_X12_addShorter_0 19 rfl) (zb_X12_addShorter_0 20 rfl) rfl
theorem dX12_addShorter_21 : decode cX12_addShorter 21 = .ok (.bipush 48, 2) := dop_16 (zb_X12_addShorter_0 21 rfl) (zb_X12_addShorter_0 22 rfl) rfl
theorem dX12_addShorter_23 : decode cX12_addShorter 23 = .ok (.iconst 2, 1) := dop_5 (zb_X12_addShorter_0 23 rfl)
theorem dX12_addShorter_24 : decode cX12_addShorter 24 = .ok (.aload_n 0, 1) := dop_42 (zb_X12_addShorter_0 24 rfl)
theorem dX12_addShorter_25 : decode cX12_addShorter 25 = .ok (.getfield 13, 3) := dop_180 (zb_X12_addShorter_0 25 rfl) (zb_X12_addShorter_0 26 rfl) (zb_X12_addShorter_0 27 rfl) rfl
theorem dX12_addShorter_28 : decode cX12_addShorter 28 = .ok (.iconst 1, 1) := dop_4 (zb_X12_addShorter_0 28 rfl)
theorem dX12_addShorter_29 : decode cX12_addShorter 29 = .ok (.iaload, 1) := dop_46 (zb_X12_addShorter_0 29 rfl)
theorem dX12_addShorter_30 : decode cX12_addShorter 30 = .ok (.imul, 1) := dop_104 (zb_X12_addShorter_0 30 rfl)
theorem dX12_addShorter_31 : decode cX12_addShorter 31 = .ok (.iadd, 1) := dop_96 (zb_X12_addShorter_0 31 rfl)
theorem dX12_addShorter_32 : decode cX12_addShorter 32 = .ok (.iconst 1, 1) := dop_4 (zb_X12_addShorter_0 32 rfl)
theorem dX12_addShorter_33 : decode cX12_addShorter 33 = .ok (.iadd, 1) := dop_96 (zb_X12_addShorter_0 33 rfl)
theorem dX12_addShorter_34 : decode cX12_addShorter 34 = .ok (.iload_n 2, 1) := dop_28 (zb_X12_addShorter_0 34 rfl)
theorem dX12_addShorter_35 : decode cX12_addShorter 35 = .ok (.iastore, 1) := dop_79 (zb_X12_addShorter_0 35 rfl)
theorem dX12_addShorter_36 : decode cX12_addShorter 36 = .ok (.aload_n 0, 1) := dop_42 (zb_X12_addShorter_0 36 rfl)
theorem dX12_addShorter_37 : decode cX12_addShorter 37 = .ok (.getfield 13, 3) := dop_180 (zb_X12_addShorter_0 37 rfl) (zb_X12_addShorter_0 38 rfl) (zb_X12_addShorter_0 39 rfl) rfl
theorem zb_X12_addShorter_1 (j : Nat) {n : Nat} (e : zw_X12_addShorter_1[j]? = some n) : dby cX12_addShorter (40 + j) n := dw_b (t := []) ze_X12_addShorter_1 j e
theorem dX12_addShorter_40 : decode cX12_addShorter 40 = .ok (.iconst 1, 1) := dop_4 (zb_X12_addShorter_1 0 rfl)
theorem dX12_addShorter_41 : decode cX12_addShorter 41 = .ok (.dup2, 1) := dop_92 (zb_X12_addShorter_1 1 rfl)
theorem dX12_addShorter_42 : decode cX12_addShorter 42 = .ok (.iaload, 1) := dop_46 (zb_X12_addShorter_1 2 rfl)
theorem dX12_addShorter_43 : decode cX12_addShorter 43 = .ok (.iconst 1, 1) := dop_4 (zb_X12_addShorter_1 3 rfl)
theorem dX12_addShorter_44 : decode cX12_addShorter 44 = .ok (.iadd, 1) := dop_96 (zb_X12_addShorter_1 4 rfl)
theorem dX12_addShorter_45 : decode cX12_addShorter 45 = .ok (.iastore, 1) := dop_79 (zb_X12_addShorter_1 5 rfl)
theorem dX12_addShorter_46 : decode cX12_addShorter 46 = .ok (.return_, 1) := dop_177 (zb_X12_addShorter_1 6 rfl)
def zw_X12_shorter_2 : List Nat := [172]
def zt_X12_shorter_2 : List Nat := zw_X12_shorter_2 ++ []
def zw_X12_shorter_1 : List Nat := [16, 253, 182, 0, 147, 172, 42, 180, 0, 13, 4, 46, 16, 6, 160, 0, 10, 42, 16, 251, 182, 0, 147, 172, 42, 27, 28, 182, 0, 176, 42, 42, 180, 0, 13, 4, 46, 182, 0, 147]
def zt_X12_shorter_1 : List Nat := zw_X12_shorter_1 ++ zt_X12_shorter_2
def zw_X12_shorter_0 : List Nat := [42, 3, 181, 0, 133, 27, 184, 0, 169, 153, 0, 15, 28, 184, 0, 169, 153, 0, 8, 27, 28, 160, 0, 9, 42, 2, 182, 0, 147, 172, 42, 27, 28, 182, 0, 172, 153, 0, 10, 42]
def zt_X12_shorter_0 : List Nat := zw_X12_shorter_0 ++ zt_X12_shorter_1
theorem ze_X12_shorter_0 : (dcn cX12_shorter).drop 0 = zt_X12_shorter_0 := by decide +kernel
theorem ze_X12_shorter_1 : (dcn cX12_shorter).drop 40 = zt_X12_shorter_1 := dw_n (wl := zw_X12_shorter_0) ze_X12_shorter_0 rfl
theorem zb_X12_shorter_0 (j : Nat) {n : Nat} (e : zw_X12_shorter_0[j]? = some n) : dby cX12_shorter (0 + j) n := dw_b (t := zt_X12_shorter_1) ze_X12_shorter_0 j e
theorem dX12_shorter_0 : decode cX12_shorter 0 = .ok (.aload_n 0, 1) := dop_42 (zb_X12_shorter_0 0 rfl)
theorem dX12_shorter_1 : decode cX12_shorter 1 = .ok (.iconst 0, 1) := dop_3 (zb_X12_shorter_0 1 rfl)
theorem dX12_shorter_2 : decode cX12_shorter 2 = .ok (.putfield 133, 3) := dop_181 (zb_X12_shorter_0 2 rfl) (zb_X12_shorter_0 3 rfl) (zb_X12_shorter_0 4 rfl) rfl
theorem dX12_shorter_5 : decode cX12_shorter 5 = .ok (.iload_n 1, 1) := dop_27 (zb_X12_shorter_0 5 rfl)
theorem dX12_shorter_6 : decode cX12_shorter 6 = .ok (.invokestatic 169, 3) := dop_184 (zb_X12_shorter_0 6 rfl) (zb_X12_shorter_0 7 rfl) (zb_X12_shorter_0 8 rfl) rfl
theorem dX12_shorter_9 : decode cX12_shorter 9 = .ok (.ifCond .eq 15, 3) := dop_153 (zb_X12_shorter_0 9 rfl) (zb_X12_shorter_0 10 rfl) (zb_X12_shorter_0 11 rfl) rfl
theorem dX12_shorter_12 : decode cX12_shorter 12 = .ok (.iload_n 2, 1) := dop_28 (zb_X12_shorter_0 12 rfl)
theorem dX12_shorter_13 : decode cX12_shorter 13 = .ok (.invokestatic 169, 3) := dop_184 (zb_X12_shorter_0 13 rfl) (zb_X12_shorter_0 14 rfl) (zb_X12_shorter_0 15 rfl) rfl
theorem dX12_shorter_16 : decode cX12_shorter 16 = .ok (.ifCond .eq 8, 3) := dop_153 (zb_X12_shorter_0 16 rfl) (zb_X12_shorter_0 17 rfl) (zb_X12_shorter_0 18 rfl) rfl
theorem dX12_shorter_19 : decode cX12_shorter 19 = .ok (.iload_n 1, 1) := dop_27 (zb_X12_shorter_0 19 rfl)
theorem dX12_shorter_20 : decode cX12_shorter 20 = .ok (.iload_n 2, 1) := dop_28 (zb_X12_shorter_0 20 rfl)
theorem dX12_shorter_21 : decode cX12_shorter 21 = .ok (.if_icmp .ne 9, 3) := dop_160 (zb_X12_shorter_0 21 rfl) (zb_X12_shorter_0 22 rfl) (zb_X12_shorter_0 23 rfl) rfl
theorem dX12_shorter_24 : decode cX12_shorter 24 = .ok (.aload_n 0, 1) := dop_42 (zb_X12_shorter_0 24 rfl)
theorem dX12_shorter_25 : decode cX12_shorter 25 = .ok (.iconst (-1), 1) := dop_2 (zb_X12_shorter_0 25 rfl)
theorem dX12_shorter_26 : decode cX12_shorter 26 = .ok (.invokevirtual 147, 3) := dop_182 (zb_X12_shorter_0 26 rfl) (zb_X12_shorter_0 27 rfl) (zb_X12_shorter_0 28 rfl) rfl
theorem dX12_shorter_29 : decode cX12_shorter 29 = .ok (.ireturn, 1) := dop_172 (zb_X12_shorter_0 29 rfl)
theorem dX12_shorter_30 : decode cX12_shorter 30 = .ok (.aload_n 0, 1) := dop_42 (zb_X12_shorter_0 30 rfl)
theorem dX12_shorter_31 : decode cX12_shorter 31 = .ok (.iload_n 1, 1) := dop_27 (zb_X12_shorter_0 31 rfl)
theorem dX12_shorter_32 : decode cX12_shorter 32 = .ok (.iload_n 2, 1) := dop_28 (zb_X12_shorter_0 32 rfl)
theorem dX12_shorter_33 : decode cX12_shorter 33 = .ok (.invokevirtual 172, 3) := dop_182 (zb_X12_shorter_0 33 rfl) (zb_X12_shorter_0 34 rfl) (zb_X12_shorter_0 35 rfl) rfl
theorem dX12_shorter_36 : decode cX12_shorter 36 = .ok (.ifCond .eq 10, 3) := dop_153 (zb_X12_shorter_0 36 rfl) (zb_X12_shorter_0 37 rfl) (zb_X12_shorter_0 38 rfl) rfl
theorem dX12_shorter_39 : decode cX12_shorter 39 = .ok (.aload_n 0, 1) := dop_42 (zb_X12_shorter_0 39 rfl)
theorem ze_X12_shorter_2 : (dcn cX12_shorter).drop 80 = zt_X12_shorter_2 := dw_n (wl := zw_X12_shorter_1) ze_X12_shorter_1 rfl
theorem zb_X12_shorter_1 (j : Nat) {n : Nat} (e : zw_X12_shorter_1[j]? = some n) : dby cX12_shorter (40 + j) n := dw_b (t := zt_X12_shorter_2) ze_X12_shorter_1 j e
theorem dX12_shorter_40 : decode cX12_shorter 40 = .ok (.bipush (-3), 2) := dop_16 (zb_X12_shorter_1 0 rfl) (zb_X12_shorter_1 1 rfl) rfl
theorem dX12_shorter_42 : decode cX12_shorter 42 = .ok (.invokevirtual 147, 3) := dop_182 (zb_X12_shorter_1 2 rfl) (zb_X12_shorter_1 3 rfl) (zb_X12_shorter_1 4 rfl) rfl
theorem dX12_shorter_45 : decode cX12_shorter 45 = .ok (.ireturn, 1) := dop_172 (zb_X12_shorter_1 5 rfl)
theorem dX12_shorter_46 : decode cX12_shorter 46 = .ok (.aload_n 0, 1) := dop_42 (zb_X12_shorter_1 6 rfl)
theorem dX12_shorter_47 : decode cX12_shorter 47 = .ok (.getfield 13, 3) := dop_180 (zb_X12_shorter_1 7 rfl) (zb_X12_shorter_1 8 rfl) (zb_X12_shorter_1 9 rfl) rfl
theorem dX12_shorter_50 : decode cX12_shorter 50 = .ok (.iconst 1, 1) := dop_4 (zb_X12_shorter_1 10 rfl)
theorem dX12_shorter_51 : decode cX12_shorter 51 = .ok (.iaload, 1) := dop_46 (zb_X12_shorter_1 11 rfl)
theorem dX12_shorter_52 : decode cX12_shorter 52 = .ok (.bipush 6, 2) := dop_16 (zb_X12_shorter_1 12 rfl) (zb_X12_shorter_1 13 rfl) rfl
theorem dX12_shorter_54 : decode cX12_shorter 54 = .ok (.if_icmp .ne 10, 3) := dop_160 (zb_X12_shorter_1 14 rfl) (zb_X12_shorter_1 15 rfl) (zb_X12_shorter_1 16 rfl) rfl
theorem dX12_shorter_57 : decode cX12_shorter 57 = .ok (.aload_n 0, 1) := dop_42 (zb_X12_shorter_1 17 rfl)
theorem dX12_shorter_58 : decode cX12_shorter 58 = .ok (.bipush (-5), 2) := dop_16 (zb_X12_shorter_1 18 rfl) (zb_X12_shorter_1 19 rfl) rfl
theorem dX12_shorter_60 : decode cX12_shorter 60 = .ok (.invokevirtual 147, 3) := dop_182 (zb_X12_shorter_1 20 rfl) (zb_X12_shorter_1 21 rfl) (zb_X12_shorter_1 22 rfl) rfl
theorem dX12_shorter_63 : decode cX12_shorter 63 = .ok (.ireturn, 1) := dop_172 (zb_X12_shorter_1 23 rfl)
theorem dX12_shorter_64 : decode cX12_shorter 64 = .ok (.aload_n 0, 1) := dop_42 (zb_X12_shorter_1 24 rfl)
theorem dX12_shorter_65 : decode cX12_shorter 65 = .ok (.iload_n 1, 1) := dop_27 (zb_X12_shorter_1 25 rfl)
theorem dX12_shorter_66 : decode cX12_shorter 66 = .ok (.iload_n 2, 1) := dop_28 (zb_X12_shorter_1 26 rfl)
theorem dX12_shorter_67 : decode cX12_shorter 67 = .ok (.invokevirtual 176, 3) := dop_182 (zb_X12_shorter_1 27 rfl) (zb_X12_shorter_1 28 rfl) (zb_X12_shorter_1 29 rfl) rfl
theorem dX12_shorter_70 : decode cX12_shorter 70 = .ok (.aload_n 0, 1) := dop_42 (zb_X12_shorter_1 30 rfl)
theorem dX12_shorter_71 : decode cX12_shorter 71 = .ok (.aload_n 0, 1) := dop_42 (zb_X12_shorter_1 31 rfl)
theorem dX12_shorter_72 : decode cX12_shorter 72 = .ok (.getfield 13, 3) := dop_180 (zb_X12_shorter_1 32 rfl) (zb_X12_shorter_1 33 rfl) (zb_X12_shorter_1 34 rfl) rfl
theorem dX12_shorter_75 : decode cX12_shorter 75 = .ok (.iconst 1, 1) := dop_4 (zb_X12_shorter_1 35 rfl)
theorem dX12_shorter_76 : decode cX12_shorter 76 = .ok (.iaload, 1) := dop_46 (zb_X12_shorter_1 36 rfl)
theorem dX12_shorter_77 : decode cX12_shorter 77 = .ok (.invokevirtual 147, 3) := dop_182 (zb_X12_shorter_1 37 rfl) (zb_X12_shorter_1 38 rfl) (zb_X12_shorter_1 39 rfl) rfl
theorem zb_X12_shorter_2 (j : Nat) {n : Nat} (e : zw_X12_shorter_2[j]? = some n) : dby cX12_shorter (80 + j) n := dw_b (t := []) ze_X12_shorter_2 j e
theorem dX12_shorter_80 : decode cX12_shorter 80 = .ok (.ireturn, 1) := dop_172 (zb_X12_shorter_2 0 rfl)
def zw_X12_canEnter_1 : List Nat := [167, 0, 4, 3, 172]
def zt_X12_canEnter_1 : List Nat := zw_X12_canEnter_1 ++ []
def zw_X12_canEnter_0 : List Nat := [26, 184, 0, 166, 153, 0, 38, 27, 184, 0, 156, 153, 0, 31, 28, 133, 10, 20, 0, 180, 184, 0, 143, 153, 0, 19, 29, 133, 9, 20, 0, 182, 184, 0, 143, 153, 0, 7, 4]
def zt_X12_canEnter_0 : List Nat := zw_X12_canEnter_0 ++ zt_X12_canEnter_1
theorem ze_X12_canEnter_0 : (dcn cX12_canEnter).drop 0 = zt_X12_canEnter_0 := by decide +kernel
theorem ze_X12_canEnter_1 : (dcn cX12_canEnter).drop 39 = zt_X12_canEnter_1 := dw_n (wl := zw_X12_canEnter_0) ze_X12_canEnter_0 rfl
theorem zb_X12_canEnter_0 (j : Nat) {n : Nat} (e : zw_X12_canEnter_0[j]? = some n) : dby cX12_canEnter (0 + j) n := dw_b (t := zt_X12_canEnter_1) ze_X12_canEnter_0 j e
theorem dX12_canEnter_0 : decode cX12_canEnter 0 = .ok (.iload_n 0, 1) := dop_26 (zb_X12_canEnter_0 0 rfl)
theorem dX12_canEnter_1 : decode cX12_canEnter 1 = .ok (.invokestatic 166, 3) := dop_184 (zb_X12_canEnter_0 1 rfl) (zb_X12_canEnter_0 2 rfl) (zb_X12_canEnter_0 3 rfl) rfl
theorem dX12_canEnter_4 : decode cX12_canEnter 4 = .ok (.ifCond .eq 38, 3) := dop_153 (zb_X12_canEnter_0 4 rfl) (zb_X12_canEnter_0 5 rfl) (zb_X12_canEnter_0 6 rfl) rfl
theorem dX12_canEnter_7 : decode cX12_canEnter 7 = .ok (.iload_n 1, 1) := dop_27 (zb_X12_canEnter_0 7 rfl)
theorem dX12_canEnter_8 : decode cX12_canEnter 8 = .ok (.invokestatic 156, 3) := dop_184 (zb_X12_canEnter_0 8 rfl) (zb_X12_canEnter_0 9 rfl) (zb_X12_canEnter_0 10 rfl) rfl
theorem dX12_canEnter_11 : decode cX12_canEnter 11 = .ok (.ifCond .eq 31, 3) := dop_153 (zb_X12_canEnter_0 11 rfl) (zb_X12_canEnter_0 12 rfl) (zb_X12_canEnter_0 13 rfl) rfl
theorem dX12_canEnter_14 : decode cX12_canEnter 14 = .ok (.iload_n 2, 1) := dop_28 (zb_X12_canEnter_0 14 rfl)
theorem dX12_canEnter_15 : decode cX12_canEnter 15 = .ok (.i2l, 1) := dop_133 (zb_X12_canEnter_0 15 rfl)
theorem dX12_canEnter_16 : decode cX12_canEnter 16 = .ok (.lconst 1, 1) := dop_10 (zb_X12_canEnter_0 16 rfl)
theorem dX12_canEnter_17 : decode cX12_canEnter 17 = .ok (.ldc2_w 180, 3) := dop_20 (zb_X12_canEnter_0 17 rfl) (zb_X12_canEnter_0 18 rfl) (zb_X12_canEnter_0 19 rfl) rfl
theorem dX12_canEnter_20 : decode cX12_canEnter 20 = .ok (.invokestatic 143, 3) := dop_184 (zb_X12_canEnter_0 20 rfl) (zb_X12_canEnter_0 21 rfl) (zb_X12_canEnter_0 22 rfl) rfl
theorem dX12_canEnter_23 : decode cX12_canEnter 23 = .ok (.ifCond .eq 19, 3) := dop_153 (zb_X12_canEnter_0 23 rfl) (zb_X12_canEnter_0 24 rfl) (zb_X12_canEnter_0 25 rfl) rfl
theorem dX12_canEnter_26 : decode cX12_canEnter 26 = .ok (.iload_n 3, 1) := dop_29 (zb_X12_canEnter_0 26 rfl)
theorem dX12_canEnter_27 : decode cX12_canEnter 27 = .ok (.i2l, 1) := dop_133 (zb_X12_canEnter_0 27 rfl)
theorem dX12_canEnter_28 : decode cX12_canEnter 28 = .ok (.lconst 0, 1) := dop_9 (zb_X12_canEnter_0 28 rfl)
theorem dX12_canEnter_29 : decode cX12_canEnter 29 = .ok (.ldc2_w 182, 3) := dop_20 (zb_X12_canEnter_0 29 rfl) (zb_X12_canEnter_0 30 rfl) (zb_X12_canEnter_0 31 rfl) rfl
theorem dX12_canEnter_32 : decode cX12_canEnter 32 = .ok (.invokestatic 143, 3) := dop_184 (zb_X12_canEnter_0 32 rfl) (zb_X12_canEnter_0 33 rfl) (zb_X12_canEnter_0 34 rfl) rfl
theorem dX12_canEnter_35 : decode cX12_canEnter 35 = .ok (.ifCond .eq 7, 3) := dop_153 (zb_X12_canEnter_0 35 rfl) (zb_X12_canEnter_0 36 rfl) (zb_X12_canEnter_0 37 rfl) rfl
theorem dX12_canEnter_38 : decode cX12_canEnter 38 = .ok (.iconst 1, 1) := dop_4 (zb_X12_canEnter_0 38 rfl)
theorem zb_X12_canEnter_1 (j : Nat) {n : Nat} (e : zw_X12_canEnter_1[j]? = some n) : dby cX12_canEnter (39 + j) n := dw_b (t := []) ze_X12_canEnter_1 j e
theorem dX12_canEnter_39 : decode cX12_canEnter 39 = .ok (.goto 4, 3) := dop_167 (zb_X12_canEnter_1 0 rfl) (zb_X12_canEnter_1 1 rfl) (zb_X12_canEnter_1 2 rfl) rfl
theorem dX12_canEnter_42 : decode cX12_canEnter 42 = .ok (.iconst 0, 1) := dop_3 (zb_X12_canEnter_1 3 rfl)
theorem dX12_canEnter_43 : decode cX12_canEnter 43 = .ok (.ireturn, 1) := dop_172 (zb_X12_canEnter_1 4 rfl)
def zw_X12_addEntry_1 : List Nat := [96, 29, 79, 42, 180, 0, 13, 21, 5, 6, 96, 21, 4, 79, 42, 180, 0, 13, 21, 5, 7, 96, 4, 79, 42, 180, 0, 13, 3, 92, 46, 4, 96, 79, 177]
def zt_X12_addEntry_1 : List Nat := zw_X12_addEntry_1 ++ []
def zw_X12_addEntry_0 : List Nat := [16, 80, 8, 42, 180, 0, 13, 3, 46, 104, 96, 54, 5, 42, 180, 0, 13, 21, 5, 3, 96, 27, 79, 42, 180, 0, 13, 21, 5, 4, 96, 28, 79, 42, 180, 0, 13, 21, 5, 5]
def zt_X12_addEntry_0 : List Nat := zw_X12_addEntry_0 ++ zt_X12_addEntry_1
theorem ze_X12_addEntry_0 : (dcn cX12_addEntry).drop 0 = zt_X12_addEntry_0 := by decide +kernel
theorem ze_X12_addEntry_1 : (dcn cX12_addEntry).drop 40 = zt_X12_addEntry_1 := dw_n (wl := zw_X12_addEntry_0) ze_X12_addEntry_0 rfl
theorem zb_X12_addEntry_0 (j : Nat) {n : Nat} (e : zw_X12_addEntry_0[j]? = some n) : dby cX12_addEntry (0 + j) n := dw_b (t := zt_X12_addEntry_1) ze_X12_addEntry_0 j e
theorem dX12_addEntry_0 : decode cX12_addEntry 0 = .ok (.bipush 80, 2) := dop_16 (zb_X12_addEntry_0 0 rfl) (zb_X12_addEntry_0 1 rfl) rfl
theorem dX12_addEntry_2 : decode cX12_addEntry 2 = .ok (.iconst 5, 1) := dop_8 (zb_X12_addEntry_0 2 rfl)
theorem dX12_addEntry_3 : decode cX12_addEntry 3 = .ok (.aload_n 0, 1) := dop_42 (zb_X12_addEntry_0 3 rfl)
theorem dX12_addEntry_4 : decode cX12_addEntry 4 = .ok (.getfield 13, 3) := dop_180 (zb_X12_addEntry_0 4 rfl) (zb_X12_addEntry_0 5 rfl) (zb_X12_addEntry_0 6 rfl) rfl
theorem dX12_addEntry_7 : decode cX12_addEntry 7 = .ok (.iconst 0, 1) := dop_3 (zb_X12_addEntry_0 7 rfl)
theorem dX12_addEntry_8 : decode cX12_addEntry 8 = .ok (.iaload, 1) := dop_46 (zb_X12_addEntry_0 8 rfl)
theorem dX12_addEntry_9 : decode cX12_addEntry 9 = .ok (.imul, 1) := dop_104 (zb_X12_addEntry_0 9 rfl)
theorem dX12_addEntry_10 : decode cX12_addEntry 10 = .ok (.iadd, 1) := dop_96 (zb_X12_addEntry_0 10 rfl)
theorem dX12_addEntry_11 : decode cX12_addEntry 11 = .ok (.istore 5, 2) := dop_54 (zb_X12_addEntry_0 11 rfl) (zb_X12_addEntry_0 12 rfl)
theorem dX12_addEntry_13 : decode cX12_addEntry 13 = .ok (.aload_n 0, 1) := dop_42 (zb_X12_addEntry_0 13 rfl)
theorem dX12_addEntry_14 : decode cX12_addEntry 14 = .ok (.getfield 13, 3) := dop_180 (zb_X12_addEntry_0 14 rfl) (zb_X12_addEntry_0 15 rfl) (zb_X12_addEntry_0 16 rfl) rfl
theorem dX12_addEntry_17 : decode cX12_addEntry 17 = .ok (.iload 5, 2) := dop_21 (zb_X12_addEntry_0 17 rfl) (zb_X12_addEntry_0 18 rfl)
theorem dX12_addEntry_19 : decode cX12_addEntry 19 = .ok (.iconst 0, 1) := dop_3 (zb_X12_addEntry_0 19 rfl)
theorem dX12_addEntry_20 : decode cX12_addEntry 20 = .ok (.iadd, 1) := dop_96 (zb_X12_addEntry_0 20 rfl)
theorem dX12_addEntry_21 : decode cX12_addEntry 21 = .ok (.iload_n 1, 1) := dop_27 (zb_X12_addEntry_0 21 rfl)
theorem dX12_addEntry_22 : decode cX12_addEntry 22 = .ok (.iastore, 1) := dop_79 (zb_X12_addEntry_0 22 rfl)
theorem dX12_addEntry_23 : decode cX12_addEntry 23 = .ok (.aload_n 0, 1) := dop_42 (zb_X12_addEntry_0 23 rfl)
theorem dX12_addEntry_24 : decode cX12_addEntry 24 = .ok (.getfield 13, 3) := dop_180 (zb_X12_addEntry_0 24 rfl) (zb_X12_addEntry_0 25 rfl) (zb_X12_addEntry_0 26 rfl) rfl
theorem dX12_addEntry_27 : decode cX12_addEntry 27 = .ok (.iload 5, 2) := dop_21 (zb_X12_addEntry_0 27 rfl) (zb_X12_addEntry_0 28 rfl)
theorem dX12_addEntry_29 : decode cX12_addEntry 29 = .ok (.iconst 1, 1) := dop_4 (zb_X12_addEntry_0 29 rfl)
theorem dX12_addEntry_30 : decode cX12_addEntry 30 = .ok (.iadd, 1) := dop_96 (zb_X12_addEntry_0 30 rfl)
theorem dX12_addEntry_31 : decode cX12_addEntry 31 = .ok (.iload_n 2, 1) := dop_28 (zb_X12_addEntry_0 31 rfl)
theorem dX12_addEntry_32 : decode cX12_addEntry 32 = .ok (.iastore, 1) := dop_79 (zb_X12_addEntry_0 32 rfl)
theorem dX12_addEntry_33 : decode cX12_addEntry 33 = .ok (.aload_n 0, 1) := dop_42 (zb_X12_addEntry_0 33 rfl)
theorem dX12_addEntry_34 : decode cX12_addEntry 34 = .ok (.getfield 13, 3) := dop_180 (zb_X12_addEntry_0 34 rfl) (zb_X12_addEntry_0 35 rfl) (zb_X12_addEntry_0 36 rfl) rfl
theorem dX12_addEntry_37 : decode cX12_addEntry 37 = .ok (.iload 5, 2) := dop_21 (zb_X12_addEntry_0 37 rfl) (zb_X12_addEntry_0 38 rfl)
theorem dX12_addEntry_39 : decode cX12_addEntry 39 = .ok (.iconst 2, 1) := dop_5 (zb_X12_addEntry_0 39 rfl)
theorem zb_X12_addEntry_1 (j : Nat) {n : Nat} (e : zw_X12_addEntry_1[j]? = some n) : dby cX12_addEntry (40 + j) n := dw_b (t := []) ze_X12_addEntry_1 j e
theorem dX12_addEntry_40 : decode cX12_addEntry 40 = .ok (.iadd, 1) := dop_96 (zb_X12_addEntry_1 0 rfl)
theorem dX12_addEntry_41 : decode cX12_addEntry 41 = .ok (.iload_n 3, 1) := dop_29 (zb_X12_addEntry_1 1 rfl)
theorem dX12_addEntry_42 : decode cX12_addEntry 42 = .ok (.iastore, 1) := dop_79 (zb_X12_addEntry_1 2 rfl)
theorem dX12_addEntry_43 : decode cX12_addEntry 43 = .ok (.aload_n 0, 1) := dop_42 (zb_X12_addEntry_1 3 rfl)
theorem dX12_addEntry_44 : decode cX12_addEntry 44 = .ok (.getfield 13, 3) := dop_180 (zb_X12_addEntry_1 4 rfl) (zb_X12_addEntry_1 5 rfl) (zb_X12_addEntry_1 6 rfl) rfl
theorem dX12_addEntry_47 : decode cX12_addEntry 47 = .ok (.iload 5, 2) := dop_21 (zb_X12_addEntry_1 7 rfl) (zb_X12_addEntry_1 8 rfl)
theorem dX12_addEntry_49 : decode cX12_addEntry 49 = .ok (.iconst 3, 1) := dop_6 (zb_X12_addEntry_1 9 rfl)
theorem dX12_addEntry_50 : decode cX12_addEntry 50 = .ok (.iadd, 1) := dop_96 (zb_X12_addEntry_1 10 rfl)
theorem dX12_addEntry_51 : decode cX12_addEntry 51 = .ok (.iload 4, 2) := dop_21 (zb_X12_addEntry_1 11 rfl) (zb_X12_addEntry_1 12 rfl)
theorem dX12_addEntry_53 : decode cX12_addEntry 53 = .ok (.iastore, 1) := dop_79 (zb_X12_addEntry_1 13 rfl)
theorem dX12_addEntry_54 : decode cX12_addEntry 54 = .ok (.aload_n 0, 1) := dop_42 (zb_X12_addEntry_1 14 rfl)
theorem dX12_addEntry_55 : decode cX12_addEntry 55 = .ok (.getfield 13, 3) := dop_180 (zb_X12_addEntry_1 15 rfl) (zb_X12_addEntry_1 16 rfl) (zb_X12_addEntry_1 17 rfl) rfl
theorem dX12_addEntry_58 : decode cX12_addEntry 58 = .ok (.iload 5, 2) := dop_21 (zb_X12_addEntry_1 18 rfl) (zb_X12_addEntry_1 19 rfl)
theorem dX12_addEntry_60 : decode cX12_addEntry 60 = .ok (.iconst 4, 1) := dop_7 (zb_X12_addEntry_1 20 rfl)
theorem dX12_addEntry_61 : decode cX12_addEntry 61 = .ok (.iadd, 1) := dop_96 (zb_X12_addEntry_1 21 rfl)
theorem dX12_addEntry_62 : decode cX12_addEntry 62 = .ok (.iconst 1, 1) := dop_4 (zb_X12_addEntry_1 22 rfl)
theorem dX12_addEntry_63 : decode cX12_addEntry 63 = .ok (.iastore, 1) := dop_79 (zb_X12_addEntry_1 23 rfl)
theorem dX12_addEntry_64 : decode cX12_addEntry 64 = .ok (.aload_n 0, 1) := dop_42 (zb_X12_addEntry_1 24 rfl)
theorem dX12_addEntry_65 : decode cX12_addEntry 65 = .ok (.getfield 13, 3) := dop_180 (zb_X12_addEntry_1 25 rfl) (zb_X12_addEntry_1 26 rfl) (zb_X12_addEntry_1 27 rfl) rfl
theorem dX12_addEntry_68 : decode cX12_addEntry 68 = .ok (.iconst 0, 1) := dop_3 (zb_X12_addEntry_1 28 rfl)
theorem dX12_addEntry_69 : decode cX12_addEntry 69 = .ok (.dup2, 1) := dop_92 (zb_X12_addEntry_1 29 rfl)
theorem dX12_addEntry_70 : decode cX12_addEntry 70 = .ok (.iaload, 1) := dop_46 (zb_X12_addEntry_1 30 rfl)
theorem dX12_addEntry_71 : decode cX12_addEntry 71 = .ok (.iconst 1, 1) := dop_4 (zb_X12_addEntry_1 31 rfl)
theorem dX12_addEntry_72 : decode cX12_addEntry 72 = .ok (.iadd, 1) := dop_96 (zb_X12_addEntry_1 32 rfl)
theorem dX12_addEntry_73 : decode cX12_addEntry 73 = .ok (.iastore, 1) := dop_79 (zb_X12_addEntry_1 33 rfl)
theorem dX12_addEntry_74 : decode cX12_addEntry 74 = .ok (.return_, 1) := dop_177 (zb_X12_addEntry_1 34 rfl)
def zw_X12_entry_1 : List Nat := [42, 27, 28, 29, 21, 4, 182, 0, 188, 42, 42, 180, 0, 13, 3, 46, 4, 100, 182, 0, 147, 172]
def zt_X12_entry_1 : List Nat := zw_X12_entry_1 ++ []
def zw_X12_entry_0 : List Nat := [42, 3, 181, 0, 133, 27, 28, 29, 21, 4, 184, 0, 184, 154, 0, 9, 42, 2, 182, 0, 147, 172, 42, 180, 0, 13, 3, 46, 16, 24, 160, 0, 10, 42, 16, 251, 182, 0, 147, 172]
def zt_X12_entry_0 : List Nat := zw_X12_entry_0 ++ zt_X12_entry_1
theorem ze_X12_entry_0 : (dcn cX12_entry).drop 0 = zt_X12_entry_0 := by decide +kernel
theorem ze_X12_entry_1 : (dcn cX12_entry).drop 40 = zt_X12_entry_1 := dw_n (wl := zw_X12_entry_0) ze_X12_entry_0 rfl
theorem zb_X12_entry_0 (j : Nat) {n : Nat} (e : zw_X12_entry_0[j]? = some n) : dby cX12_entry (0 + j) n := dw_b (t := zt_X12_entry_1) ze_X12_entry_0 j e
theorem dX12_entry_0 : decode cX12_entry 0 = .ok (.aload_n 0, 1) := dop_42 (zb_X12_entry_0 0 rfl)
theorem dX12_entry_1 : decode cX12_entry 1 = .ok (.iconst 0, 1) := dop_3 (zb_X12_entry_0 1 rfl)
theorem dX12_entry_2 : decode cX12_entry 2 = .ok (.putfield 133, 3) := dop_181 (zb_X12_entry_0 2 rfl) (zb_X12_entry_0 3 rfl) (zb_X12_entry_0 4 rfl) rfl
theorem dX12_entry_5 : decode cX12_entry 5 = .ok (.iload_n 1, 1) := dop_27 (zb_X12_entry_0 5 rfl)
theorem dX12_entry_6 : decode cX12_entry 6 = .ok (.iload_n 2, 1) := dop_28 (zb_X12_entry_0 6 rfl)
theorem dX12_entry_7 : decode cX12_entry 7 = .ok (.iload_n 3, 1) := dop_29 (zb_X12_entry_0 7 rfl)
theorem dX12_entry_8 : decode cX12_entry 8 = .ok (.iload 4, 2) := dop_21 (zb_X12_entry_0 8 rfl) (zb_X12_entry_0 9 rfl)
theorem dX12_entry_10 : decode cX12_entry 10 = .ok (.invokestatic 184, 3) := dop_184 (zb_X12_entry_0 10 rfl) (zb_X12_entry_0 11 rfl) (zb_X12_entry_0 12 rfl) rfl
theorem dX12_entry_13 : decode cX12_entry 13 = .ok (.ifCond .ne 9, 3) := dop_154 (zb_X12_entry_0 13 rfl) (zb_X12_entry_0 14 rfl) (zb_X12_entry_0 15 rfl) rfl
theorem dX12_entry_16 : decode cX12_entry 16 = .ok (.aload_n 0, 1) := dop_42 (zb_X12_entry_0 16 rfl)
theorem dX12_entry_17 : decode cX12_entry 17 = .ok (.iconst (-1), 1) := dop_2 (zb_X12_entry_0 17 rfl)
theorem dX12_entry_18 : decode cX12_entry 18 = .ok (.invokevirtual 147, 3) := dop_182 (zb_X12_entry_0 18 rfl) (zb_X12_entry_0 19 rfl) (zb_X12_entry_0 20 rfl) rfl
theorem dX12_entry_21 : decode cX12_entry 21 = .ok (.ireturn, 1) := dop_172 (zb_X12_entry_0 21 rfl)
theorem dX12_entry_22 : decode cX12_entry 22 = .ok (.aload_n 0, 1) := dop_42 (zb_X12_entry_0 22 rfl)
theorem dX12_entry_23 : decode cX12_entry 23 = .ok (.getfield 13, 3) := dop_180 (zb_X12_entry_0 23 rfl) (zb_X12_entry_0 24 rfl) (zb_X12_entry_0 25 rfl) rfl
theorem dX12_entry_26 : decode cX12_entry 26 = .ok (.iconst 0, 1) := dop_3 (zb_X12_entry_0 26 rfl)
theorem dX12_entry_27 : decode cX12_entry 27 = .ok (.iaload, 1) := dop_46 (zb_X12_entry_0 27 rfl)
theorem dX12_entry_28 : decode cX12_entry 28 = .ok (.bipush 24, 2) := dop_16 (zb_X12_entry_0 28 rfl) (zb_X12_entry_0 29 rfl) rfl
theorem dX12_entry_30 : decode cX12_entry 30 = .ok (.if_icmp .ne 10, 3) := dop_160 (zb_X12_entry_0 30 rfl) (zb_X12_entry_0 31 rfl) (zb_X12_entry_0 32 rfl) rfl
theorem dX12_entry_33 : decode cX12_entry 33 = .ok (.aload_n 0, 1) := dop_42 (zb_X12_entry_0 33 rfl)
theorem dX12_entry_34 : decode cX12_entry 34 = .ok (.bipush (-5), 2) := dop_16 (zb_X12_entry_0 34 rfl) (zb_X12_entry_0 35 rfl) rfl
theorem dX12_entry_36 : decode cX12_entry 36 = .ok (.invokevirtual 147, 3) := dop_182 (zb_X12_entry_0 36 rfl) (zb_X12_entry_0 37 rfl) (zb_X12_entry_0 38 rfl) rfl
theorem dX12_entry_39 : decode cX12_entry 39 = .ok (.ireturn, 1) := dop_172 (zb_X12_entry_0 39 rfl)
theorem zb_X12_entry_1 (j : Nat) {n : Nat} (e : zw_X12_entry_1[j]? = some n) : dby cX12_entry (40 + j) n := dw_b (t := []) ze_X12_entry_1 j e
theorem dX12_entry_40 : decode cX12_entry 40 = .ok (.aload_n 0, 1) := dop_42 (zb_X12_entry_1 0 rfl)
theorem dX12_entry_41 : decode cX12_entry 41 = .ok (.iload_n 1, 1) := dop_27 (zb_X12_entry_1 1 rfl)
theorem dX12_entry_42 : decode cX12_entry 42 = .ok (.iload_n 2, 1) := dop_28 (zb_X12_entry_1 2 rfl)
theorem dX12_entry_43 : decode cX12_entry 43 = .ok (.iload_n 3, 1) := dop_29 (zb_X12_entry_1 3 rfl)
theorem dX12_entry_44 : decode cX12_entry 44 = .ok (.iload 4, 2) := dop_21 (zb_X12_entry_1 4 rfl) (zb_X12_entry_1 5 rfl)
theorem dX12_entry_46 : decode cX12_entry 46 = .ok (.invokevirtual 188, 3) := dop_182 (zb_X12_entry_1 6 rfl) (zb_X12_entry_1 7 rfl) (zb_X12_entry_1 8 rfl) rfl
theorem dX12_entry_49 : decode cX12_entry 49 = .ok (.aload_n 0, 1) := dop_42 (zb_X12_entry_1 9 rfl)
theorem dX12_entry_50 : decode cX12_entry 50 = .ok (.aload_n 0, 1) := dop_42 (zb_X12_entry_1 10 rfl)
theorem dX12_entry_51 : decode cX12_entry 51 = .ok (.getfield 13, 3) := dop_180 (zb_X12_entry_1 11 rfl) (zb_X12_entry_1 12 rfl) (zb_X12_entry_1 13 rfl) rfl
theorem dX12_entry_54 : decode cX12_entry 54 = .ok (.iconst 0, 1) := dop_3 (zb_X12_entry_1 14 rfl)
theorem dX12_entry_55 : decode cX12_entry 55 = .ok (.iaload, 1) := dop_46 (zb_X12_entry_1 15 rfl)
theorem dX12_entry_56 : decode cX12_entry 56 = .ok (.iconst 1, 1) := dop_4 (zb_X12_entry_1 16 rfl)
theorem dX12_entry_57 : decode cX12_entry 57 = .ok (.isub, 1) := dop_100 (zb_X12_entry_1 17 rfl)
theorem dX12_entry_58 : decode cX12_entry 58 = .ok (.invokevirtual 147, 3) := dop_182 (zb_X12_entry_1 18 rfl) (zb_X12_entry_1 19 rfl) (zb_X12_entry_1 20 rfl) rfl
theorem dX12_entry_61 : decode cX12_entry 61 = .ok (.ireturn, 1) := dop_172 (zb_X12_entry_1 21 rfl)
def zw_X12_isEntry_0 : List Nat := [27, 133, 9, 42, 180, 0, 13, 3, 46, 133, 10, 101, 184, 0, 143, 172]
def zt_X12_isEntry_0 : List Nat := zw_X12_isEntry_0 ++ []
theorem ze_X12_isEntry_0 : (dcn cX12_isEntry).drop 0 = zt_X12_isEntry_0 := by decide +kernel
theorem zb_X12_isEntry_0 (j : Nat) {n : Nat} (e : zw_X12_isEntry_0[j]? = some n) : dby cX12_isEntry (0 + j) n := dw_b (t := []) ze_X12_isEntry_0 j e
theorem dX12_isEntry_0 : decode cX12_isEntry 0 = .ok (.iload_n 1, 1) := dop_27 (zb_X12_isEntry_0 0 rfl)
theorem dX12_isEntry_1 : decode cX12_isEntry 1 = .ok (.i2l, 1) := dop_133 (zb_X12_isEntry_0 1 rfl)
theorem dX12_isEntry_2 : decode cX12_isEntry 2 = .ok (.lconst 0, 1) := dop_9 (zb_X12_isEntry_0 2 rfl)
theorem dX12_isEntry_3 : decode cX12_isEntry 3 = .ok (.aload_n 0, 1) := dop_42 (zb_X12_isEntry_0 3 rfl)
theorem dX12_isEntry_4 : decode cX12_isEntry 4 = .ok (.getfield 13, 3) := dop_180 (zb_X12_isEntry_0 4 rfl) (zb_X12_isEntry_0 5 rfl) (zb_X12_isEntry_0 6 rfl) rfl
theorem dX12_isEntry_7 : decode cX12_isEntry 7 = .ok (.iconst 0, 1) := dop_3 (zb_X12_isEntry_0 7 rfl)
theorem dX12_isEntry_8 : decode cX12_isEntry 8 = .ok (.iaload, 1) := dop_46 (zb_X12_isEntry_0 8 rfl)
theorem dX12_isEntry_9 : decode cX12_isEntry 9 = .ok (.i2l, 1) := dop_133 (zb_X12_isEntry_0 9 rfl)
theorem dX12_isEntry_10 : decode cX12_isEntry 10 = .ok (.lconst 1, 1) := dop_10 (zb_X12_isEntry_0 10 rfl)
theorem dX12_isEntry_11 : decode cX12_isEntry 11 = .ok (.lsub, 1) := dop_101 (zb_X12_isEntry_0 11 rfl)
theorem dX12_isEntry_12 : decode cX12_isEntry 12 = .ok (.invokestatic 143, 3) := dop_184 (zb_X12_isEntry_0 12 rfl) (zb_X12_isEntry_0 13 rfl) (zb_X12_isEntry_0 14 rfl) rfl
theorem dX12_isEntry_15 : decode cX12_isEntry 15 = .ok (.ireturn, 1) := dop_172 (zb_X12_isEntry_0 15 rfl)
def zw_X12_ofEntry_0 : List Nat := [42, 180, 0, 13, 16, 80, 8, 27, 104, 96, 28, 96, 46, 172]
def zt_X12_ofEntry_0 : List Nat := zw_X12_ofEntry_0 ++ []
theorem ze_X12_ofEntry_0 : (dcn cX12_ofEntry).drop 0 = zt_X12_ofEntry_0 := by decide +kernel
theorem zb_X12_ofEntry_0 (j : Nat) {n : Nat} (e : zw_X12_ofEntry_0[j]? = some n) : dby cX12_ofEntry (0 + j) n := dw_b (t := []) ze_X12_ofEntry_0 j e
theorem dX12_ofEntry_0 : decode cX12_ofEntry 0 = .ok (.aload_n 0, 1) := dop_42 (zb_X12_ofEntry_0 0 rfl)
theorem dX12_ofEntry_1 : decode cX12_ofEntry 1 = .ok (.getfield 13, 3) := dop_180 (zb_X12_ofEntry_0 1 rfl) (zb_X12_ofEntry_0 2 rfl) (zb_X12_ofEntry_0 3 rfl) rfl
theorem dX12_ofEntry_4 : decode cX12_ofEntry 4 = .ok (.bipush 80, 2) := dop_16 (zb_X12_ofEntry_0 4 rfl) (zb_X12_ofEntry_0 5 rfl) rfl
theorem dX12_ofEntry_6 : decode cX12_ofEntry 6 = .ok (.iconst 5, 1) := dop_8 (zb_X12_ofEntry_0 6 rfl)
theorem dX12_ofEntry_7 : decode cX12_ofEntry 7 = .ok (.iload_n 1, 1) := dop_27 (zb_X12_ofEntry_0 7 rfl)
theorem dX12_ofEntry_8 : decode cX12_ofEntry 8 = .ok (.imul, 1) := dop_104 (zb_X12_ofEntry_0 8 rfl)
theorem dX12_ofEntry_9 : decode cX12_ofEntry 9 = .ok (.iadd, 1) := dop_96 (zb_X12_ofEntry_0 9 rfl)
theorem dX12_ofEntry_10 : decode cX12_ofEntry 10 = .ok (.iload_n 2, 1) := dop_28 (zb_X12_ofEntry_0 10 rfl)
theorem dX12_ofEntry_11 : decode cX12_ofEntry 11 = .ok (.iadd, 1) := dop_96 (zb_X12_ofEntry_0 11 rfl)
theorem dX12_ofEntry_12 : decode cX12_ofEntry 12 = .ok (.iaload, 1) := dop_46 (zb_X12_ofEntry_0 12 rfl)
theorem dX12_ofEntry_13 : decode cX12_ofEntry 13 = .ok (.ireturn, 1) := dop_172 (zb_X12_ofEntry_0 13 rfl)
def zw_X12_counts_1 : List Nat := [182, 0, 162, 167, 0, 9, 42, 16, 254, 182, 0, 147, 172]
def zt_X12_counts_1 : List Nat := zw_X12_counts_1 ++ []
def zw_X12_counts_0 : List Nat := [42, 3, 181, 0, 133, 28, 133, 9, 10, 184, 0, 143, 154, 0, 9, 42, 2, 182, 0, 147, 172, 42, 27, 182, 0, 192, 153, 0, 19, 42, 16, 80, 8, 27, 104, 96, 7, 96, 28]
def zt_X12_counts_0 : List Nat := zw_X12_counts_0 ++ zt_X12_counts_1
theorem ze_X12_counts_0 : (dcn cX12_counts).drop 0 = zt_X12_counts_0 := by decide +kernel
theorem ze_X12_counts_1 : (dcn cX12_counts).drop 39 = zt_X12_counts_1 := dw_n (wl := zw_X12_counts_0) ze_X12_counts_0 rfl
theorem zb_X12_counts_0 (j : Nat) {n : Nat} (e : zw_X12_counts_0[j]? = some n) : dby cX12_counts (0 + j) n := dw_b (t := zt_X12_counts_1) ze_X12_counts_0 j e
theorem dX12_counts_0 : decode cX12_counts 0 = .ok (.aload_n 0, 1) := dop_42 (zb_X12_counts_0 0 rfl)
theorem dX12_counts_1 : decode cX12_counts 1 = .ok (.iconst 0, 1) := dop_3 (zb_X12_counts_0 1 rfl)
theorem dX12_counts_2 : decode cX12_counts 2 = .ok (.putfield 133, 3) := dop_181 (zb_X12_counts_0 2 rfl) (zb_X12_counts_0 3 rfl) (zb_X12_counts_0 4 rfl) rfl
theorem dX12_counts_5 : decode cX12_counts 5 = .ok (.iload_n 2, 1) := dop_28 (zb_X12_counts_0 5 rfl)
theorem dX12_counts_6 : decode cX12_counts 6 = .ok (.i2l, 1) := dop_133 (zb_X12_counts_0 6 rfl)
theorem dX12_counts_7 : decode cX12_counts 7 = .ok (.lconst 0, 1) := dop_9 (zb_X12_counts_0 7 rfl)
theorem dX12_counts_8 : decode cX12_counts 8 = .ok (.lconst 1, 1) := dop_10 (zb_X12_counts_0 8 rfl)
theorem dX12_counts_9 : decode cX12_counts 9 = .ok (.invokestatic 143, 3) := dop_184 (zb_X12_counts_0 9 rfl) (zb_X12_counts_0 10 rfl) (zb_X12_counts_0 11 rfl) rfl
theorem dX12_counts_12 : decode cX12_counts 12 = .ok (.ifCond .ne 9, 3) := dop_154 (zb_X12_counts_0 12 rfl) (zb_X12_counts_0 13 rfl) (zb_X12_counts_0 14 rfl) rfl
theorem dX12_counts_15 : decode cX12_counts 15 = .ok (.aload_n 0, 1) := dop_42 (zb_X12_counts_0 15 rfl)
theorem dX12_counts_16 : decode cX12_counts 16 = .ok (.iconst (-1), 1) := dop_2 (zb_X12_counts_0 16 rfl)
theorem dX12_counts_17 : decode cX12_counts 17 = .ok (.invokevirtual 147, 3) := dop_182 (zb_X12_counts_0 17 rfl) (zb_X12_counts_0 18 rfl) (zb_X12_counts_0 19 rfl) rfl
theorem dX12_counts_20 : decode cX12_counts 20 = .ok (.ireturn, 1) := dop_172 (zb_X12_counts_0 20 rfl)
theorem dX12_counts_21 : decode cX12_counts 21 = .ok (.aload_n 0, 1) := dop_42 (zb_X12_counts_0 21 rfl)
theorem dX12_counts_22 : decode cX12_counts 22 = .ok (.iload_n 1, 1) := dop_27 (zb_X12_counts_0 22 rfl)
theorem dX12_counts_23 : decode cX12_counts 23 = .ok (.invokevirtual 192, 3) := dop_182 (zb_X12_counts_0 23 rfl) (zb_X12_counts_0 24 rfl) (zb_X12_counts_0 25 rfl) rfl
theorem dX12_counts_26 : decode cX12_counts 26 = .ok (.ifCond .eq 19, 3) := dop_153 (zb_X12_counts_0 26 rfl) (zb_X12_counts_0 27 rfl) (zb_X12_counts_0 28 rfl) rfl
theorem dX12_counts_29 : decode cX12_counts 29 = .ok (.aload_n 0, 1) := dop_42 (zb_X12_counts_0 29 rfl)
theorem dX12_counts_30 : decode cX12_counts 30 = .ok (.bipush 80, 2) := dop_16 (zb_X12_counts_0 30 rfl) (zb_X12_counts_0 31 rfl) rfl
theorem dX12_counts_32 : decode cX12_counts 32 = .ok (.iconst 5, 1) := dop_8 (zb_X12_counts_0 32 rfl)
theorem dX12_counts_33 : decode cX12_counts 33 = .ok (.iload_n 1, 1) := dop_27 (zb_X12_counts_0 33 rfl)
theorem dX12_counts_34 : decode cX12_counts 34 = .ok (.imul, 1) := dop_104 (zb_X12_counts_0 34 rfl)
theorem dX12_counts_35 : decode cX12_counts 35 = .ok (.iadd, 1) := dop_96 (zb_X12_counts_0 35 rfl)
theorem dX12_counts_36 : decode cX12_counts 36 = .ok (.iconst 4, 1) := dop_7 (zb_X12_counts_0 36 rfl)
theorem dX12_counts_37 : decode cX12_counts 37 = .ok (.iadd, 1) := dop_96 (zb_X12_counts_0 37 rfl)
theorem dX12_counts_38 : decode cX12_counts 38 = .ok (.iload_n 2, 1) := dop_28 (zb_X12_counts_0 38 rfl)
theorem zb_X12_counts_1 (j : Nat) {n : Nat} (e : zw_X12_counts_1[j]? = some n) : dby cX12_counts (39 + j) n := dw_b (t := []) ze_X12_counts_1 j e
theorem dX12_counts_39 : decode cX12_counts 39 = .ok (.invokevirtual 162, 3) := dop_182 (zb_X12_counts_1 0 rfl) (zb_X12_counts_1 1 rfl) (zb_X12_counts_1 2 rfl) rfl
theorem dX12_counts_42 : decode cX12_counts 42 = .ok (.goto 9, 3) := dop_167 (zb_X12_counts_1 3 rfl) (zb_X12_counts_1 4 rfl) (zb_X12_counts_1 5 rfl) rfl
theorem dX12_counts_45 : decode cX12_counts 45 = .ok (.aload_n 0, 1) := dop_42 (zb_X12_counts_1 6 rfl)
theorem dX12_counts_46 : decode cX12_counts 46 = .ok (.bipush (-2), 2) := dop_16 (zb_X12_counts_1 7 rfl) (zb_X12_counts_1 8 rfl) rfl
theorem dX12_counts_48 : decode cX12_counts 48 = .ok (.invokevirtual 147, 3) := dop_182 (zb_X12_counts_1 9 rfl) (zb_X12_counts_1 10 rfl) (zb_X12_counts_1 11 rfl) rfl
theorem dX12_counts_51 : decode cX12_counts 51 = .ok (.ireturn, 1) := dop_172 (zb_X12_counts_1 12 rfl)
def zw_X12_lengthOf_1 : List Nat := [28, 96, 167, 0, 4, 28, 172]
def zt_X12_lengthOf_1 : List Nat := zw_X12_lengthOf_1 ++ []
def zw_X12_lengthOf_0 : List Nat := [42, 27, 3, 182, 0, 195, 61, 42, 180, 0, 13, 16, 42, 28, 96, 46, 2, 159, 0, 28, 42, 27, 4, 182, 0, 195, 42, 180, 0, 13, 16, 42, 28, 96, 46, 161, 0, 10, 16, 6]
def zt_X12_lengthOf_0 : List Nat := zw_X12_lengthOf_0 ++ zt_X12_lengthOf_1
theorem ze_X12_lengthOf_0 : (dcn cX12_lengthOf).drop 0 = zt_X12_lengthOf_0 := by decide +kernel
theorem ze_X12_lengthOf_1 : (dcn cX12_lengthOf).drop 40 = zt_X12_lengthOf_1 := dw_n (wl := zw_X12_lengthOf_0) ze_X12_lengthOf_0 rfl
theorem zb_X12_lengthOf_0 (j : Nat) {n : Nat} (e : zw_X12_lengthOf_0[j]? = some n) : dby cX12_lengthOf (0 + j) n := dw_b (t := zt_X12_lengthOf_1) ze_X12_lengthOf_0 j e
theorem dX12_lengthOf_0 : decode cX12_lengthOf 0 = .ok (.aload_n 0, 1) := dop_42 (zb_X12_lengthOf_0 0 rfl)
theorem dX12_lengthOf_1 : decode cX12_lengthOf 1 = .ok (.iload_n 1, 1) := dop_27 (zb_X12_lengthOf_0 1 rfl)
theorem dX12_lengthOf_2 : decode cX12_lengthOf 2 = .ok (.iconst 0, 1) := dop_3 (zb_X12_lengthOf_0 2 rfl)
theorem dX12_lengthOf_3 : decode cX12_lengthOf 3 = .ok (.invokevirtual 195, 3) := dop_182 (zb_X12_lengthOf_0 3 rfl) (zb_X12_lengthOf_0 4 rfl) (zb_X12_lengthOf_0 5 rfl) rfl
theorem dX12_lengthOf_6 : decode cX12_lengthOf 6 = .ok (.istore_n 2, 1) := dop_61 (zb_X12_lengthOf_0 6 rfl)
theorem dX12_lengthOf_7 : decode cX12_lengthOf 7 = .ok (.aload_n 0, 1) := dop_42 (zb_X12_lengthOf_0 7 rfl)
theorem dX12_lengthOf_8 : decode cX12_lengthOf 8 = .ok (.getfield 13, 3) := dop_180 (zb_X12_lengthOf_0 8 rfl) (zb_X12_lengthOf_0 9 rfl) (zb_X12_lengthOf_0 10 rfl) rfl
theorem dX12_lengthOf_11 : decode cX12_lengthOf 11 = .ok (.bipush 42, 2) := dop_16 (zb_X12_lengthOf_0 11 rfl) (zb_X12_lengthOf_0 12 rfl) rfl
theorem dX12_lengthOf_13 : decode cX12_lengthOf 13 = .ok (.iload_n 2, 1) := dop_28 (zb_X12_lengthOf_0 13 rfl)
theorem dX12_lengthOf_14 : decode cX12_lengthOf 14 = .ok (.iadd, 1) := dop_96 (zb_X12_lengthOf_0 14 rfl)
theorem dX12_lengthOf_15 : decode cX12_lengthOf 15 = .ok (.iaload, 1) := dop_46 (zb_X12_lengthOf_0 15 rfl)
theorem dX12_lengthOf_16 : decode cX12_lengthOf 16 = .ok (.iconst (-1), 1) := dop_2 (zb_X12_lengthOf_0 16 rfl)
theorem dX12_lengthOf_17 : decode cX12_lengthOf 17 = .ok (.if_icmp .eq 28, 3) := dop_159 (zb_X12_lengthOf_0 17 rfl) (zb_X12_lengthOf_0 18 rfl) (zb_X12_lengthOf_0 19 rfl) rfl
theorem dX12_lengthOf_20 : decode cX12_lengthOf 20 = .ok (.aload_n 0, 1) := dop_42 (zb_X12_lengthOf_0 20 rfl)
theorem dX12_lengthOf_21 : decode cX12_lengthOf 21 = .ok (.iload_n 1, 1) := dop_27 (zb_X12_lengthOf_0 21 rfl)
theorem dX12_lengthOf_22 : decode cX12_lengthOf 22 = .ok (.iconst 1, 1) := dop_4 (zb_X12_lengthOf_0 22 rfl)
theorem dX12_lengthOf_23 : decode cX12_lengthOf 23 = .ok (.invokevirtual 195, 3) := dop_182 (zb_X12_lengthOf_0 23 rfl) (zb_X12_lengthOf_0 24 rfl) (zb_X12_lengthOf_0 25 rfl) rfl
theorem dX12_lengthOf_26 : decode cX12_lengthOf 26 = .ok (.aload_n 0, 1) := dop_42 (zb_X12_lengthOf_0 26 rfl)
theorem dX12_lengthOf_27 : decode cX12_lengthOf 27 = .ok (.getfield 13, 3) := dop_180 (zb_X12_lengthOf_0 27 rfl) (zb_X12_lengthOf_0 28 rfl) (zb_X12_lengthOf_0 29 rfl) rfl
theorem dX12_lengthOf_30 : decode cX12_lengthOf 30 = .ok (.bipush 42, 2) := dop_16 (zb_X12_lengthOf_0 30 rfl) (zb_X12_lengthOf_0 31 rfl) rfl
theorem dX12_lengthOf_32 : decode cX12_lengthOf 32 = .ok (.iload_n 2, 1) := dop_28 (zb_X12_lengthOf_0 32 rfl)
theorem dX12_lengthOf_33 : decode cX12_lengthOf 33 = .ok (.iadd, 1) := dop_96 (zb_X12_lengthOf_0 33 rfl)
theorem dX12_lengthOf_34 : decode cX12_lengthOf 34 = .ok (.iaload, 1) := dop_46 (zb_X12_lengthOf_0 34 rfl)
theorem dX12_lengthOf_35 : decode cX12_lengthOf 35 = .ok (.if_icmp .lt 10, 3) := dop_161 (zb_X12_lengthOf_0 35 rfl) (zb_X12_lengthOf_0 36 rfl) (zb_X12_lengthOf_0 37 rfl) rfl
theorem dX12_lengthOf_38 : decode cX12_lengthOf 38 = .ok (.bipush 6, 2) := dop_16 (zb_X12_lengthOf_0 38 rfl) (zb_X12_lengthOf_0 39 rfl) rfl
theorem zb_X12_lengthOf_1 (j : Nat) {n : Nat} (e : zw_X12_lengthOf_1[j]? = some n) : dby cX12_lengthOf (40 + j) n := dw_b (t := []) ze_X12_lengthOf_1 j e
theorem dX12_lengthOf_40 : decode cX12_lengthOf 40 = .ok (.iload_n 2, 1) := dop_28 (zb_X12_lengthOf_1 0 rfl)
theorem dX12_lengthOf_41 : decode cX12_lengthOf 41 = .ok (.iadd, 1) := dop_96 (zb_X12_lengthOf_1 1 rfl)
theorem dX12_lengthOf_42 : decode cX12_lengthOf 42 = .ok (.goto 4, 3) := dop_167 (zb_X12_lengthOf_1 2 rfl) (zb_X12_lengthOf_1 3 rfl) (zb_X12_lengthOf_1 4 rfl) rfl
theorem dX12_lengthOf_45 : decode cX12_lengthOf 45 = .ok (.iload_n 2, 1) := dop_28 (zb_X12_lengthOf_1 5 rfl)
theorem dX12_lengthOf_46 : decode cX12_lengthOf 46 = .ok (.ireturn, 1) := dop_172 (zb_X12_lengthOf_1 6 rfl)
def zw_X12_of_1 : List Nat := [42, 27, 28, 182, 0, 195, 172]
def zt_X12_of_1 : List Nat := zw_X12_of_1 ++ []
def zw_X12_of_0 : List Nat := [42, 3, 181, 0, 133, 42, 27, 182, 0, 192, 153, 0, 15, 28, 133, 9, 20, 0, 150, 184, 0, 143, 154, 0, 5, 2, 172, 28, 8, 160, 0, 11, 42, 27, 182, 0, 198, 167, 0, 9]
def zt_X12_of_0 : List Nat := zw_X12_of_0 ++ zt_X12_of_1
theorem ze_X12_of_0 : (dcn cX12_of).drop 0 = zt_X12_of_0 := by decide +kernel
theorem ze_X12_of_1 : (dcn cX12_of).drop 40 = zt_X12_of_1 := dw_n (wl := zw_X12_of_0) ze_X12_of_0 rfl
theorem zb_X12_of_0 (j : Nat) {n : Nat} (e : zw_X12_of_0[j]? = some n) : dby cX12_of (0 + j) n := dw_b (t := zt_X12_of_1) ze_X12_of_0 j e
theorem dX12_of_0 : decode cX12_of 0 = .ok (.aload_n 0, 1) := dop_42 (zb_X12_of_0 0 rfl)
theorem dX12_of_1 : decode cX12_of 1 = .ok (.iconst 0, 1) := dop_3 (zb_X12_of_0 1 rfl)
theorem dX12_of_2 : decode cX12_of 2 = .ok (.putfield 133, 3) := dop_181 (zb_X12_of_0 2 rfl) (zb_X12_of_0 3 rfl) (zb_X12_of_0 4 rfl) rfl
theorem dX12_of_5 : decode cX12_of 5 = .ok (.aload_n 0, 1) := dop_42 (zb_X12_of_0 5 rfl)
theorem dX12_of_6 : decode cX12_of 6 = .ok (.iload_n 1, 1) := dop_27 (zb_X12_of_0 6 rfl)
theorem dX12_of_7 : decode cX12_of 7 = .ok (.invokevirtual 192, 3) := dop_182 (zb_X12_of_0 7 rfl) (zb_X12_of_0 8 rfl) (zb_X12_of_0 9 rfl) rfl
theorem dX12_of_10 : decode cX12_of 10 = .ok (.ifCond .eq 15, 3) := dop_153 (zb_X12_of_0 10 rfl) (zb_X12_of_0 11 rfl) (zb_X12_of_0 12 rfl) rfl
theorem dX12_of_13 : decode cX12_of 13 = .ok (.iload_n 2, 1) := dop_28 (zb_X12_of_0 13 rfl)
theorem dX12_of_14 : decode cX12_of 14 = .ok (.i2l, 1) := dop_133 (zb_X12_of_0 14 rfl)
theorem dX12_of_15 : decode cX12_of 15 = .ok (.lconst 0, 1) := dop_9 (zb_X12_of_0 15 rfl)
theorem dX12_of_16 : decode cX12_of 16 = .ok (.ldc2_w 150, 3) := dop_20 (zb_X12_of_0 16 rfl) (zb_X12_of_0 17 rfl) (zb_X12_of_0 18 rfl) rfl
theorem dX12_of_19 : decode cX12_of 19 = .ok (.invokestatic 143, 3) := dop_184 (zb_X12_of_0 19 rfl) (zb_X12_of_0 20 rfl) (zb_X12_of_0 21 rfl) rfl
theorem dX12_of_22 : decode cX12_of 22 = .ok (.ifCond .ne 5, 3) := dop_154 (zb_X12_of_0 22 rfl) (zb_X12_of_0 23 rfl) (zb_X12_of_0 24 rfl) rfl
theorem dX12_of_25 : decode cX12_of 25 = .ok (.iconst (-1), 1) := dop_2 (zb_X12_of_0 25 rfl)
theorem dX12_of_26 : decode cX12_of 26 = .ok (.ireturn, 1) := dop_172 (zb_X12_of_0 26 rfl)
theorem dX12_of_27 : decode cX12_of 27 = .ok (.iload_n 2, 1) := dop_28 (zb_X12_of_0 27 rfl)
theorem dX12_of_28 : decode cX12_of 28 = .ok (.iconst 5, 1) := dop_8 (zb_X12_of_0 28 rfl)
theorem dX12_of_29 : decode cX12_of 29 = .ok (.if_icmp .ne 11, 3) := dop_160 (zb_X12_of_0 29 rfl) (zb_X12_of_0 30 rfl) (zb_X12_of_0 31 rfl) rfl
theorem dX12_of_32 : decode cX12_of 32 = .ok (.aload_n 0, 1) := dop_42 (zb_X12_of_0 32 rfl)
theorem dX12_of_33 : decode cX12_of 33 = .ok (.iload_n 1, 1) := dop_27 (zb_X12_of_0 33 rfl)
theorem dX12_of_34 : decode cX12_of 34 = .ok (.invokevirtual 198, 3) := dop_182 (zb_X12_of_0 34 rfl) (zb_X12_of_0 35 rfl) (zb_X12_of_0 36 rfl) rfl
theorem dX12_of_37 : decode cX12_of 37 = .ok (.goto 9, 3) := dop_167 (zb_X12_of_0 37 rfl) (zb_X12_of_0 38 rfl) (zb_X12_of_0 39 rfl) rfl
theorem zb_X12_of_1 (j : Nat) {n : Nat} (e : zw_X12_of_1[j]? = some n) : dby cX12_of (40 + j) n := dw_b (t := []) ze_X12_of_1 j e
theorem dX12_of_40 : decode cX12_of 40 = .ok (.aload_n 0, 1) := dop_42 (zb_X12_of_1 0 rfl)
theorem dX12_of_41 : decode cX12_of 41 = .ok (.iload_n 1, 1) := dop_27 (zb_X12_of_1 1 rfl)
theorem dX12_of_42 : decode cX12_of 42 = .ok (.iload_n 2, 1) := dop_28 (zb_X12_of_1 2 rfl)
theorem dX12_of_43 : decode cX12_of 43 = .ok (.invokevirtual 195, 3) := dop_182 (zb_X12_of_1 3 rfl) (zb_X12_of_1 4 rfl) (zb_X12_of_1 5 rfl) rfl
theorem dX12_of_46 : decode cX12_of 46 = .ok (.ireturn, 1) := dop_172 (zb_X12_of_1 6 rfl)
def zw_X12_row_4 : List Nat := [180, 0, 204, 4, 96, 181, 0, 204, 132, 3, 4, 167, 255, 120, 42, 28, 182, 0, 147, 172]
def zt_X12_row_4 : List Nat := zw_X12_row_4 ++ []
def zw_X12_row_3 : List Nat := [180, 0, 23, 29, 46, 42, 180, 0, 23, 29, 4, 96, 46, 42, 180, 0, 23, 29, 5, 96, 46, 42, 180, 0, 23, 29, 6, 96, 46, 182, 0, 188, 132, 2, 1, 167, 0, 13, 42, 89]
def zt_X12_row_3 : List Nat := zw_X12_row_3 ++ zt_X12_row_4
def zw_X12_row_2 : List Nat := [29, 4, 96, 46, 42, 180, 0, 23, 29, 5, 96, 46, 42, 180, 0, 23, 29, 6, 96, 46, 184, 0, 184, 153, 0, 7, 4, 167, 0, 4, 3, 54, 4, 21, 4, 153, 0, 43, 42, 42]
def zt_X12_row_2 : List Nat := zw_X12_row_2 ++ zt_X12_row_3
def zw_X12_row_1 : List Nat := [29, 6, 96, 27, 162, 0, 18, 42, 180, 0, 13, 3, 46, 16, 24, 162, 0, 7, 4, 167, 0, 4, 3, 54, 4, 21, 4, 153, 0, 43, 42, 180, 0, 23, 29, 46, 42, 180, 0, 23]
def zt_X12_row_1 : List Nat := zw_X12_row_1 ++ zt_X12_row_2
def zw_X12_row_0 : List Nat := [42, 3, 181, 0, 133, 42, 180, 0, 201, 60, 42, 3, 181, 0, 201, 27, 154, 0, 10, 42, 16, 250, 182, 0, 147, 172, 42, 3, 181, 0, 204, 3, 61, 3, 62, 29, 27, 162, 0, 137]
def zt_X12_row_0 : List Nat := zw_X12_row_0 ++ zt_X12_row_1
theorem ze_X12_row_0 : (dcn cX12_row).drop 0 = zt_X12_row_0 := by decide +kernel
theorem ze_X12_row_1 : (dcn cX12_row).drop 40 = zt_X12_row_1 := dw_n (wl := zw_X12_row_0) ze_X12_row_0 rfl
theorem zb_X12_row_0 (j : Nat) {n : Nat} (e : zw_X12_row_0[j]? = some n) : dby cX12_row (0 + j) n := dw_b (t := zt_X12_row_1) ze_X12_row_0 j e
theorem dX12_row_0 : decode cX12_row 0 = .ok (.aload_n 0, 1) := dop_42 (zb_X12_row_0 0 rfl)
theorem dX12_row_1 : decode cX12_row 1 = .ok (.iconst 0, 1) := dop_3 (zb_X12_row_0 1 rfl)
theorem dX12_row_2 : decode cX12_row 2 = .ok (.putfield 133, 3) := dop_181 (zb_X12_row_0 2 rfl) (zb_X12_row_0 3 rfl) (zb_X12_row_0 4 rfl) rfl
theorem dX12_row_5 : decode cX12_row 5 = .ok (.aload_n 0, 1) := dop_42 (zb_X12_row_0 5 rfl)
theorem dX12_row_6 : decode cX12_row 6 = .ok (.getfield 201, 3) := dop_180 (zb_X12_row_0 6 rfl) (zb_X12_row_0 7 rfl) (zb_X12_row_0 8 rfl) rfl
theorem dX12_row_9 : decode cX12_row 9 = .ok (.istore_n 1, 1) := dop_60 (zb_X12_row_0 9 rfl)
theorem dX12_row_10 : decode cX12_row 10 = .ok (.aload_n 0, 1) := dop_42 (zb_X12_row_0 10 rfl)
theorem dX12_row_11 : decode cX12_row 11 = .ok (.iconst 0, 1) := dop_3 (zb_X12_row_0 11 rfl)
theorem dX12_row_12 : decode cX12_row 12 = .ok (.putfield 201, 3) := dop_181 (zb_X12_row_0 12 rfl) (zb_X12_row_0 13 rfl) (zb_X12_row_0 14 rfl) rfl
theorem dX12_row_15 : decode cX12_row 15 = .ok (.iload_n 1, 1) := dop_27 (zb_X12_row_0 15 rfl)
theorem dX12_row_16 : decode cX12_row 16 = .ok (.ifCond .ne 10, 3) := dop_154 (zb_X12_row_0 16 rfl) (zb_X12_row_0 17 rfl) (zb_X12_row_0 18 rfl) rfl
theorem dX12_row_19 : decode cX12_row 19 = .ok (.aload_n 0, 1) := dop_42 (zb_X12_row_0 19 rfl)
theorem dX12_row_20 : decode cX12_row 20 = .ok (.bipush (-6), 2) := dop_16 (zb_X12_row_0 20 rfl) (zb_X12_row_0 21 rfl) rfl
theorem dX12_row_22 : decode cX12_row 22 = .ok (.invokevirtual 147, 3) := dop_182 (zb_X12_row_0 22 rfl) (zb_X12_row_0 23 rfl) (zb_X12_row_0 24 rfl) rfl
theorem dX12_row_25 : decode cX12_row 25 = .ok (.ireturn, 1) := dop_172 (zb_X12_row_0 25 rfl)
theorem dX12_row_26 : decode cX12_row 26 = .ok (.aload_n 0, 1) := dop_42 (zb_X12_row_0 26 rfl)
theorem dX12_row_27 : decode cX12_row 27 = .ok (.iconst 0, 1) := dop_3 (zb_X12_row_0 27 rfl)
theorem dX12_row_28 : decode cX12_row 28 = .ok (.putfield 204, 3) := dop_181 (zb_X12_row_0 28 rfl) (zb_X12_row_0 29 rfl) (zb_X12_row_0 30 rfl) rfl
theorem dX12_row_31 : decode cX12_row 31 = .ok (.iconst 0, 1) := dop_3 (zb_X12_row_0 31 rfl)
theorem dX12_row_32 : decode cX12_row 32 = .ok (.istore_n 2, 1) := dop_61 (zb_X12_row_0 32 rfl)
theorem dX12_row_33 : decode cX12_row 33 = .ok (.iconst 0, 1) := dop_3 (zb_X12_row_0 33 rfl)
theorem dX12_row_34 : decode cX12_row 34 = .ok (.istore_n 3, 1) := dop_62 (zb_X12_row_0 34 rfl)
theorem dX12_row_35 : decode cX12_row 35 = .ok (.iload_n 3, 1) := dop_29 (zb_X12_row_0 35 rfl)
theorem dX12_row_36 : decode cX12_row 36 = .ok (.iload_n 1, 1) := dop_27 (zb_X12_row_0 36 rfl)
theorem dX12_row_37 : decode cX12_row 37 = .ok (.if_icmp .ge 137, 3) := dop_162 (zb_X12_row_0 37 rfl) (zb_X12_row_0 38 rfl) (zb_X12_row_0 39 rfl) rfl
theorem ze_X12_row_2 : (dcn cX12_row).drop 80 = zt_X12_row_2 := dw_n (wl := zw_X12_row_1) ze_X12_row_1 rfl
theorem zb_X12_row_1 (j : Nat) {n : Nat} (e : zw_X12_row_1[j]? = some n) : dby cX12_row (40 + j) n := dw_b (t := zt_X12_row_2) ze_X12_row_1 j e
theorem dX12_row_40 : decode cX12_row 40 = .ok (.iload_n 3, 1) := dop_29 (zb_X12_row_1 0 rfl)
theorem dX12_row_41 : decode cX12_row 41 = .ok (.iconst 3, 1) := dop_6 (zb_X12_row_1 1 rfl)
theorem dX12_row_42 : decode cX12_row 42 = .ok (.iadd, 1) := dop_96 (zb_X12_row_1 2 rfl)
theorem dX12_row_43 : decode cX12_row 43 = .ok (.iload_n 1, 1) := dop_27 (zb_X12_row_1 3 rfl)
theorem dX12_row_44 : decode cX12_row 44 = .ok (.if_icmp .ge 18, 3) := dop_162 (zb_X12_row_1 4 rfl) (zb_X12_row_1 5 rfl) (zb_X12_row_1 6 rfl) rfl
theorem dX12_row_47 : decode cX12_row 47 = .ok (.aload_n 0, 1) := dop_42 (zb_X12_row_1 7 rfl)
theorem dX12_row_48 : decode cX12_row 48 = .ok (.getfield 13, 3) := dop_180 (zb_X12_row_1 8 rfl) (zb_X12_row_1 9 rfl) (zb_X12_row_1 10 rfl) rfl
theorem dX12_row_51 : decode cX12_row 51 = .ok (.iconst 0, 1) := dop_3 (zb_X12_row_1 11 rfl)
theorem dX12_row_52 : decode cX12_row 52 = .ok (.iaload, 1) := dop_46 (zb_X12_row_1 12 rfl)
theorem dX12_row_53 : decode cX12_row 53 = .ok (.bipush 24, 2) := dop_16 (zb_X12_row_1 13 rfl) (zb_X12_row_1 14 rfl) rfl
theorem dX12_row_55 : decode cX12_row 55 = .ok (.if_icmp .ge 7, 3) := dop_162 (zb_X12_row_1 15 rfl) (zb_X12_row_1 16 rfl) (zb_X12_row_1 17 rfl) rfl
theorem dX12_row_58 : decode cX12_row 58 = .ok (.iconst 1, 1) := dop_4 (zb_X12_row_1 18 rfl)
theorem dX12_row_59 : decode cX12_row 59 = .ok (.goto 4, 3) := dop_167 (zb_X12_row_1 19 rfl) (zb_X12_row_1 20 rfl) (zb_X12_row_1 21 rfl) rfl
theorem dX12_row_62 : decode cX12_row 62 = .ok (.iconst 0, 1) := dop_3 (zb_X12_row_1 22 rfl)
theorem dX12_row_63 : decode cX12_row 63 = .ok (.istore 4, 2) := dop_54 (zb_X12_row_1 23 rfl) (zb_X12_row_1 24 rfl)
theorem dX12_row_65 : decode cX12_row 65 = .ok (.iload 4, 2) := dop_21 (zb_X12_row_1 25 rfl) (zb_X12_row_1 26 rfl)
theorem dX12_row_67 : decode cX12_row 67 = .ok (.ifCond .eq 43, 3) := dop_153 (zb_X12_row_1 27 rfl) (zb_X12_row_1 28 rfl) (zb_X12_row_1 29 rfl) rfl
theorem dX12_row_70 : decode cX12_row 70 = .ok (.aload_n 0, 1) := dop_42 (zb_X12_row_1 30 rfl)
theorem dX12_row_71 : decode cX12_row 71 = .ok (.getfield 23, 3) := dop_180 (zb_X12_row_1 31 rfl) (zb_X12_row_1 32 rfl) (zb_X12_row_1 33 rfl) rfl
theorem dX12_row_74 : decode cX12_row 74 = .ok (.iload_n 3, 1) := dop_29 (zb_X12_row_1 34 rfl)
theorem dX12_row_75 : decode cX12_row 75 = .ok (.iaload, 1) := dop_46 (zb_X12_row_1 35 rfl)
theorem dX12_row_76 : decode cX12_row 76 = .ok (.aload_n 0, 1) := dop_42 (zb_X12_row_1 36 rfl)
theorem dX12_row_77 : decode cX12_row 77 = .ok (.getfield 23, 3) := dop_180 (zb_X12_row_1 37 rfl) (zb_X12_row_1 38 rfl) (zb_X12_row_1 39 rfl) rfl
theorem ze_X12_row_3 : (dcn cX12_row).drop 120 = zt_X12_row_3 := dw_n (wl := zw_X12_row_2) ze_X12_row_2 rfl
theorem zb_X12_row_2 (j : Nat) {n : Nat} (e : zw_X12_row_2[j]? = some n) : dby cX12_row (80 + j) n := dw_b (t := zt_X12_row_3) ze_X12_row_2 j e
theorem dX12_row_80 : decode cX12_row 80 = .ok (.iload_n 3, 1) := dop_29 (zb_X12_row_2 0 rfl)
theorem dX12_row_81 : decode cX12_row 81 = .ok (.iconst 1, 1) := dop_4 (zb_X12_row_2 1 rfl)
theorem dX12_row_82 : decode cX12_row 82 = .ok (.iadd, 1) := dop_96 (zb_X12_row_2 2 rfl)
theorem dX12_row_83 : decode cX12_row 83 = .ok (.iaload, 1) := dop_46 (zb_X12_row_2 3 rfl)
theorem dX12_row_84 : decode cX12_row 84 = .ok (.aload_n 0, 1) := dop_42 (zb_X12_row_2 4 rfl)
theorem dX12_row_85 : decode cX12_row 85 = .ok (.getfield 23, 3) := dop_180 (zb_X12_row_2 5 rfl) (zb_X12_row_2 6 rfl) (zb_X12_row_2 7 rfl) rfl
theorem dX12_row_88 : decode cX12_row 88 = .ok (.iload_n 3, 1) := dop_29 (zb_X12_row_2 8 rfl)
theorem dX12_row_89 : decode cX12_row 89 = .ok (.iconst 2, 1) := dop_5 (zb_X12_row_2 9 rfl)
theorem dX12_row_90 : decode cX12_row 90 = .ok (.iadd, 1) := dop_96 (zb_X12_row_2 10 rfl)
theorem dX12_row_91 : decode cX12_row 91 = .ok (.iaload, 1) := dop_46 (zb_X12_row_2 11 rfl)
theorem dX12_row_92 : decode cX12_row 92 = .ok (.aload_n 0, 1) := dop_42 (zb_X12_row_2 12 rfl)
theorem dX12_row_93 : decode cX12_row 93 = .ok (.getfield 23, 3) := dop_180 (zb_X12_row_2 13 rfl) (zb_X12_row_2 14 rfl) (zb_X12_row_2 15 rfl) rfl
theorem dX12_row_96 : decode cX12_row 96 = .ok (.iload_n 3, 1) := dop_29 (zb_X12_row_2 16 rfl)
theorem dX12_row_97 : decode cX12_row 97 = .ok (.iconst 3, 1) := dop_6 (zb_X12_row_2 17 rfl)
theorem dX12_row_98 : decode cX12_row 98 = .ok (.iadd, 1) := dop_96 (zb_X12_row_2 18 rfl)
theorem dX12_row_99 : decode cX12_row 99 = .ok (.iaload, 1) := dop_46 (zb_X12_row_2 19 rfl)
theorem dX12_row_100 : decode cX12_row 100 = .ok (.invokestatic 184, 3) := dop_184 (zb_X12_row_2 20 rfl) (zb_X12_row_2 21 rfl) (zb_X12_row_2 22 rfl) rfl
theorem dX12_row_103 : decode cX12_row 103 = .ok (.ifCond .eq 7, 3) := dop_153 (zb_X12_row_2 23 rfl) (zb_X12_row_2 24 rfl) (zb_X12_row_2 25 rfl) rfl
theorem dX12_row_106 : decode cX12_row 106 = .ok (.iconst 1, 1) := dop_4 (zb_X12_row_2 26 rfl)
theorem dX12_row_107 : decode cX12_row 107 = .ok (.goto 4, 3) := dop_167 (zb_X12_row_2 27 rfl) (zb_X12_row_2 28 rfl) (zb_X12_row_2 29 rfl) rfl
theorem dX12_row_110 : decode cX12_row 110 = .ok (.iconst 0, 1) := dop_3 (zb_X12_row_2 30 rfl)
theorem dX12_row_111 : decode cX12_row 111 = .ok (.istore 4, 2) := dop_54 (zb_X12_row_2 31 rfl) (zb_X12_row_2 32 rfl)
theorem dX12_row_113 : decode cX12_row 113 = .ok (.iload 4, 2) := dop_21 (zb_X12_row_2 33 rfl) (zb_X12_row_2 34 rfl)
theorem dX12_row_115 : decode cX12_row 115 = .ok (.ifCond .eq 43, 3) := dop_153 (zb_X12_row_2 35 rfl) (zb_X12_row_2 36 rfl) (zb_X12_row_2 37 rfl) rfl
theorem dX12_row_118 : decode cX12_row 118 = .ok (.aload_n 0, 1) := dop_42 (zb_X12_row_2 38 rfl)
theorem dX12_row_119 : decode cX12_row 119 = .ok (.aload_n 0, 1) := dop_42 (zb_X12_row_2 39 rfl)
theorem ze_X12_row_4 : (dcn cX12_row).drop 160 = zt_X12_row_4 := dw_n (wl := zw_X12_row_3) ze_X12_row_3 rfl
theorem zb_X12_row_3 (j : Nat) {n : Nat} (e : zw_X12_row_3[j]? = some n) : dby cX12_row (120 + j) n := dw_b (t := zt_X12_row_4) ze_X12_row_3 j e
theorem dX12_row_120 : decode cX12_row 120 = .ok (.getfield 23, 3) := dop_180 (zb_X12_row_3 0 rfl) (zb_X12_row_3 1 rfl) (zb_X12_row_3 2 rfl) rfl
theorem dX12_row_123 : decode cX12_row 123 = .ok (.iload_n 3, 1) := dop_29 (zb_X12_row_3 3 rfl)
theorem dX12_row_124 : decode cX12_row 124 = .ok (.iaload, 1) := dop_46 (zb_X12_row_3 4 rfl)
theorem dX12_row_125 : decode cX12_row 125 = .ok (.aload_n 0, 1) := dop_42 (zb_X12_row_3 5 rfl)
theorem dX12_row_126 : decode cX12_row 126 = .ok (.getfield 23, 3) := dop_180 (zb_X12_row_3 6 rfl) (zb_X12_row_3 7 rfl) (zb_X12_row_3 8 rfl) rfl
theorem dX12_row_129 : decode cX12_row 129 = .ok (.iload_n 3, 1) := dop_29 (zb_X12_row_3 9 rfl)
theorem dX12_row_130 : decode cX12_row 130 = .ok (.iconst 1, 1) := dop_4 (zb_X12_row_3 10 rfl)
theorem dX12_row_131 : decode cX12_row 131 = .ok (.iadd, 1) := dop_96 (zb_X12_row_3 11 rfl)
theorem dX12_row_132 : decode cX12_row 132 = .ok (.iaload, 1) := dop_46 (zb_X12_row_3 12 rfl)
theorem dX12_row_133 : decode cX12_row 133 = .ok (.aload_n 0, 1) := dop_42 (zb_X12_row_3 13 rfl)
theorem dX12_row_134 : decode cX12_row 134 = .ok (.getfield 23, 3) := dop_180 (zb_X12_row_3 14 rfl) (zb_X12_row_3 15 rfl) (zb_X12_row_3 16 rfl) rfl
theorem dX12_row_137 : decode cX12_row 137 = .ok (.iload_n 3, 1) := dop_29 (zb_X12_row_3 17 rfl)
theorem dX12_row_138 : decode cX12_row 138 = .ok (.iconst 2, 1) := dop_5 (zb_X12_row_3 18 rfl)
theorem dX12_row_139 : decode cX12_row 139 = .ok (.iadd, 1) := dop_96 (zb_X12_row_3 19 rfl)
theorem dX12_row_140 : decode cX12_row 140 = .ok (.iaload, 1) := dop_46 (zb_X12_row_3 20 rfl)
theorem dX12_row_141 : decode cX12_row 141 = .ok (.aload_n 0, 1) := dop_42 (zb_X12_row_3 21 rfl)
theorem dX12_row_142 : decode cX12_row 142 = .ok (.getfield 23, 3) := dop_180 (zb_X12_row_3 22 rfl) (zb_X12_row_3 23 rfl) (zb_X12_row_3 24 rfl) rfl
theorem dX12_row_145 : decode cX12_row 145 = .ok (.iload_n 3, 1) := dop_29 (zb_X12_row_3 25 rfl)
theorem dX12_row_146 : decode cX12_row 146 = .ok (.iconst 3, 1) := dop_6 (zb_X12_row_3 26 rfl)
theorem dX12_row_147 : decode cX12_row 147 = .ok (.iadd, 1) := dop_96 (zb_X12_row_3 27 rfl)
theorem dX12_row_148 : decode cX12_row 148 = .ok (.iaload, 1) := dop_46 (zb_X12_row_3 28 rfl)
theorem dX12_row_149 : decode cX12_row 149 = .ok (.invokevirtual 188, 3) := dop_182 (zb_X12_row_3 29 rfl) (zb_X12_row_3 30 rfl) (zb_X12_row_3 31 rfl) rfl
theorem dX12_row_152 : decode cX12_row 152 = .ok (.iinc 2 1, 3) := dop_132 (zb_X12_row_3 32 rfl) (zb_X12_row_3 33 rfl) (zb_X12_row_3 34 rfl) rfl
theorem dX12_row_155 : decode cX12_row 155 = .ok (.goto 13, 3) := dop_167 (zb_X12_row_3 35 rfl) (zb_X12_row_3 36 rfl) (zb_X12_row_3 37 rfl) rfl
theorem dX12_row_158 : decode cX12_row 158 = .ok (.aload_n 0, 1) := dop_42 (zb_X12_row_3 38 rfl)
theorem dX12_row_159 : decode cX12_row 159 = .ok (.dup, 1) := dop_89 (zb_X12_row_3 39 rfl)
theorem zb_X12_row_4 (j : Nat) {n : Nat} (e : zw_X12_row_4[j]? = some n) : dby cX12_row (160 + j) n := dw_b (t := []) ze_X12_row_4 j e
theorem dX12_row_160 : decode cX12_row 160 = .ok (.getfield 204, 3) := dop_180 (zb_X12_row_4 0 rfl) (zb_X12_row_4 1 rfl) (zb_X12_row_4 2 rfl) rfl
theorem dX12_row_163 : decode cX12_row 163 = .ok (.iconst 1, 1) := dop_4 (zb_X12_row_4 3 rfl)
theorem dX12_row_164 : decode cX12_row 164 = .ok (.iadd, 1) := dop_96 (zb_X12_row_4 4 rfl)
theorem dX12_row_165 : decode cX12_row 165 = .ok (.putfield 204, 3) := dop_181 (zb_X12_row_4 5 rfl) (zb_X12_row_4 6 rfl) (zb_X12_row_4 7 rfl) rfl
theorem dX12_row_168 : decode cX12_row 168 = .ok (.iinc 3 4, 3) := dop_132 (zb_X12_row_4 8 rfl) (zb_X12_row_4 9 rfl) (zb_X12_row_4 10 rfl) rfl
theorem dX12_row_171 : decode cX12_row 171 = .ok (.goto (-136), 3) := dop_167 (zb_X12_row_4 11 rfl) (zb_X12_row_4 12 rfl) (zb_X12_row_4 13 rfl) rfl
theorem dX12_row_174 : decode cX12_row 174 = .ok (.aload_n 0, 1) := dop_42 (zb_X12_row_4 14 rfl)
theorem dX12_row_175 : decode cX12_row 175 = .ok (.iload_n 2, 1) := dop_28 (zb_X12_row_4 15 rfl)
theorem dX12_row_176 : decode cX12_row 176 = .ok (.invokevirtual 147, 3) := dop_182 (zb_X12_row_4 16 rfl) (zb_X12_row_4 17 rfl) (zb_X12_row_4 18 rfl) rfl
theorem dX12_row_179 : decode cX12_row 179 = .ok (.ireturn, 1) := dop_172 (zb_X12_row_4 19 rfl)
def zw_X12_blurred_0 : List Nat := [42, 3, 181, 0, 133, 42, 180, 0, 204, 172]
def zt_X12_blurred_0 : List Nat := zw_X12_blurred_0 ++ []
theorem ze_X12_blurred_0 : (dcn cX12_blurred).drop 0 = zt_X12_blurred_0 := by decide +kernel
theorem zb_X12_blurred_0 (j : Nat) {n : Nat} (e : zw_X12_blurred_0[j]? = some n) : dby cX12_blurred (0 + j) n := dw_b (t := []) ze_X12_blurred_0 j e
theorem dX12_blurred_0 : decode cX12_blurred 0 = .ok (.aload_n 0, 1) := dop_42 (zb_X12_blurred_0 0 rfl)
theorem dX12_blurred_1 : decode cX12_blurred 1 = .ok (.iconst 0, 1) := dop_3 (zb_X12_blurred_0 1 rfl)
theorem dX12_blurred_2 : decode cX12_blurred 2 = .ok (.putfield 133, 3) := dop_181 (zb_X12_blurred_0 2 rfl) (zb_X12_blurred_0 3 rfl) (zb_X12_blurred_0 4 rfl) rfl
theorem dX12_blurred_5 : decode cX12_blurred 5 = .ok (.aload_n 0, 1) := dop_42 (zb_X12_blurred_0 5 rfl)
theorem dX12_blurred_6 : decode cX12_blurred 6 = .ok (.getfield 204, 3) := dop_180 (zb_X12_blurred_0 6 rfl) (zb_X12_blurred_0 7 rfl) (zb_X12_blurred_0 8 rfl) rfl
theorem dX12_blurred_9 : decode cX12_blurred 9 = .ok (.ireturn, 1) := dop_172 (zb_X12_blurred_0 9 rfl)
def zw_X12_four_0 : List Nat := [16, 24, 61, 28, 155, 0, 35, 42, 180, 0, 23, 42, 180, 0, 201, 27, 28, 122, 17, 0, 255, 126, 79, 42, 89, 180, 0, 201, 4, 96, 181, 0, 201, 132, 2, 248, 167, 255, 223, 177]
def zt_X12_four_0 : List Nat := zw_X12_four_0 ++ []
theorem ze_X12_four_0 : (dcn cX12_four).drop 0 = zt_X12_four_0 := by decide +kernel
theorem zb_X12_four_0 (j : Nat) {n : Nat} (e : zw_X12_four_0[j]? = some n) : dby cX12_four (0 + j) n := dw_b (t := []) ze_X12_four_0 j e
theorem dX12_four_0 : decode cX12_four 0 = .ok (.bipush 24, 2) := dop_16 (zb_X12_four_0 0 rfl) (zb_X12_four_0 1 rfl) rfl
theorem dX12_four_2 : decode cX12_four 2 = .ok (.istore_n 2, 1) := dop_61 (zb_X12_four_0 2 rfl)
theorem dX12_four_3 : decode cX12_four 3 = .ok (.iload_n 2, 1) := dop_28 (zb_X12_four_0 3 rfl)
theorem dX12_four_4 : decode cX12_four 4 = .ok (.ifCond .lt 35, 3) := dop_155 (zb_X12_four_0 4 rfl) (zb_X12_four_0 5 rfl) (zb_X12_four_0 6 rfl) rfl
theorem dX12_four_7 : decode cX12_four 7 = .ok (.aload_n 0, 1) := dop_42 (zb_X12_four_0 7 rfl)
theorem dX12_four_8 : decode cX12_four 8 = .ok (.getfield 23, 3) := dop_180 (zb_X12_four_0 8 rfl) (zb_X12_four_0 9 rfl) (zb_X12_four_0 10 rfl) rfl
theorem dX12_four_11 : decode cX12_four 11 = .ok (.aload_n 0, 1) := dop_42 (zb_X12_four_0 11 rfl)
theorem dX12_four_12 : decode cX12_four 12 = .ok (.getfield 201, 3) := dop_180 (zb_X12_four_0 12 rfl) (zb_X12_four_0 13 rfl) (zb_X12_four_0 14 rfl) rfl
theorem dX12_four_15 : decode cX12_four 15 = .ok (.iload_n 1, 1) := dop_27 (zb_X12_four_0 15 rfl)
theorem dX12_four_16 : decode cX12_four 16 = .ok (.iload_n 2, 1) := dop_28 (zb_X12_four_0 16 rfl)
theorem dX12_four_17 : decode cX12_four 17 = .ok (.ishr, 1) := dop_122 (zb_X12_four_0 17 rfl)
theorem dX12_four_18 : decode cX12_four 18 = .ok (.sipush 255, 3) := dop_17 (zb_X12_four_0 18 rfl) (zb_X12_four_0 19 rfl) (zb_X12_four_0 20 rfl) rfl
theorem dX12_four_21 : decode cX12_four 21 = .ok (.iand, 1) := dop_126 (zb_X12_four_0 21 rfl)
theorem dX12_four_22 : decode cX12_four 22 = .ok (.iastore, 1) := dop_79 (zb_X12_four_0 22 rfl)
theorem dX12_four_23 : decode cX12_four 23 = .ok (.aload_n 0, 1) := dop_42 (zb_X12_four_0 23 rfl)
theorem dX12_four_24 : decode cX12_four 24 = .ok (.dup, 1) := dop_89 (zb_X12_four_0 24 rfl)
theorem dX12_four_25 : decode cX12_four 25 = .ok (.getfield 201, 3) := dop_180 (zb_X12_four_0 25 rfl) (zb_X12_four_0 26 rfl) (zb_X12_four_0 27 rfl) rfl
theorem dX12_four_28 : decode cX12_four 28 = .ok (.iconst 1, 1) := dop_4 (zb_X12_four_0 28 rfl)
theorem dX12_four_29 : decode cX12_four 29 = .ok (.iadd, 1) := dop_96 (zb_X12_four_0 29 rfl)
theorem dX12_four_30 : decode cX12_four 30 = .ok (.putfield 201, 3) := dop_181 (zb_X12_four_0 30 rfl) (zb_X12_four_0 31 rfl) (zb_X12_four_0 32 rfl) rfl
theorem dX12_four_33 : decode cX12_four 33 = .ok (.iinc 2 (-8), 3) := dop_132 (zb_X12_four_0 33 rfl) (zb_X12_four_0 34 rfl) (zb_X12_four_0 35 rfl) rfl
theorem dX12_four_36 : decode cX12_four 36 = .ok (.goto (-33), 3) := dop_167 (zb_X12_four_0 36 rfl) (zb_X12_four_0 37 rfl) (zb_X12_four_0 38 rfl) rfl
theorem dX12_four_39 : decode cX12_four 39 = .ok (.return_, 1) := dop_177 (zb_X12_four_0 39 rfl)
def zw_X12_feed_1 : List Nat := [182, 0, 207, 42, 21, 5, 182, 0, 207, 42, 180, 0, 201, 172]
def zt_X12_feed_1 : List Nat := zw_X12_feed_1 ++ []
def zw_X12_feed_0 : List Nat := [42, 3, 181, 0, 133, 42, 180, 0, 201, 16, 20, 96, 17, 1, 144, 164, 0, 5, 2, 172, 42, 27, 182, 0, 207, 42, 28, 182, 0, 207, 42, 29, 182, 0, 207, 42, 21, 4]
def zt_X12_feed_0 : List Nat := zw_X12_feed_0 ++ zt_X12_feed_1
theorem ze_X12_feed_0 : (dcn cX12_feed).drop 0 = zt_X12_feed_0 := by decide +kernel
theorem ze_X12_feed_1 : (dcn cX12_feed).drop 38 = zt_X12_feed_1 := dw_n (wl := zw_X12_feed_0) ze_X12_feed_0 rfl
theorem zb_X12_feed_0 (j : Nat) {n : Nat} (e : zw_X12_feed_0[j]? = some n) : dby cX12_feed (0 + j) n := dw_b (t := zt_X12_feed_1) ze_X12_feed_0 j e
theorem dX12_feed_0 : decode cX12_feed 0 = .ok (.aload_n 0, 1) := dop_42 (zb_X12_feed_0 0 rfl)
theorem dX12_feed_1 : decode cX12_feed 1 = .ok (.iconst 0, 1) := dop_3 (zb_X12_feed_0 1 rfl)
theorem dX12_feed_2 : decode cX12_feed 2 = .ok (.putfield 133, 3) := dop_181 (zb_X12_feed_0 2 rfl) (zb_X12_feed_0 3 rfl) (zb_X12_feed_0 4 rfl) rfl
theorem dX12_feed_5 : decode cX12_feed 5 = .ok (.aload_n 0, 1) := dop_42 (zb_X12_feed_0 5 rfl)
theorem dX12_feed_6 : decode cX12_feed 6 = .ok (.getfield 201, 3) := dop_180 (zb_X12_feed_0 6 rfl) (zb_X12_feed_0 7 rfl) (zb_X12_feed_0 8 rfl) rfl
theorem dX12_feed_9 : decode cX12_feed 9 = .ok (.bipush 20, 2) := dop_16 (zb_X12_feed_0 9 rfl) (zb_X12_feed_0 10 rfl) rfl
theorem dX12_feed_11 : decode cX12_feed 11 = .ok (.iadd, 1) := dop_96 (zb_X12_feed_0 11 rfl)
theorem dX12_feed_12 : decode cX12_feed 12 = .ok (.sipush 400, 3) := dop_17 (zb_X12_feed_0 12 rfl) (zb_X12_feed_0 13 rfl) (zb_X12_feed_0 14 rfl) rfl
theorem dX12_feed_15 : decode cX12_feed 15 = .ok (.if_icmp .le 5, 3) := dop_164 (zb_X12_feed_0 15 rfl) (zb_X12_feed_0 16 rfl) (zb_X12_feed_0 17 rfl) rfl
theorem dX12_feed_18 : decode cX12_feed 18 = .ok (.iconst (-1), 1) := dop_2 (zb_X12_feed_0 18 rfl)
theorem dX12_feed_19 : decode cX12_feed 19 = .ok (.ireturn, 1) := dop_172 (zb_X12_feed_0 19 rfl)
theorem dX12_feed_20 : decode cX12_feed 20 = .ok (.aload_n 0, 1) := dop_42 (zb_X12_feed_0 20 rfl)
theorem dX12_feed_21 : decode cX12_feed 21 = .ok (.iload_n 1, 1) := dop_27 (zb_X12_feed_0 21 rfl)
theorem dX12_feed_22 : decode cX12_feed 22 = .ok (.invokevirtual 207, 3) := dop_182 (zb_X12_feed_0 22 rfl) (zb_X12_feed_0 23 rfl) (zb_X12_feed_0 24 rfl) rfl
theorem dX12_feed_25 : decode cX12_feed 25 = .ok (.aload_n 0, 1) := dop_42 (zb_X12_feed_0 25 rfl)
theorem dX12_feed_26 : decode cX12_feed 26 = .ok (.iload_n 2, 1) := dop_28 (zb_X12_feed_0 26 rfl)
theorem dX12_feed_27 : decode cX12_feed 27 = .ok (.invokevirtual 207, 3) := dop_182 (zb_X12_feed_0 27 rfl) (zb_X12_feed_0 28 rfl) (zb_X12_feed_0 29 rfl) rfl
theorem dX12_feed_30 : decode cX12_feed 30 = .ok (.aload_n 0, 1) := dop_42 (zb_X12_feed_0 30 rfl)
theorem dX12_feed_31 : decode cX12_feed 31 = .ok (.iload_n 3, 1) := dop_29 (zb_X12_feed_0 31 rfl)
theorem dX12_feed_32 : decode cX12_feed 32 = .ok (.invokevirtual 207, 3) := dop_182 (zb_X12_feed_0 32 rfl) (zb_X12_feed_0 33 rfl) (zb_X12_feed_0 34 rfl) rfl
theorem dX12_feed_35 : decode cX12_feed 35 = .ok (.aload_n 0, 1) := dop_42 (zb_X12_feed_0 35 rfl)
theorem dX12_feed_36 : decode cX12_feed 36 = .ok (.iload 4, 2) := dop_21 (zb_X12_feed_0 36 rfl) (zb_X12_feed_0 37 rfl)
theorem zb_X12_feed_1 (j : Nat) {n : Nat} (e : zw_X12_feed_1[j]? = some n) : dby cX12_feed (38 + j) n := dw_b (t := []) ze_X12_feed_1 j e
theorem dX12_feed_38 : decode cX12_feed 38 = .ok (.invokevirtual 207, 3) := dop_182 (zb_X12_feed_1 0 rfl) (zb_X12_feed_1 1 rfl) (zb_X12_feed_1 2 rfl) rfl
theorem dX12_feed_41 : decode cX12_feed 41 = .ok (.aload_n 0, 1) := dop_42 (zb_X12_feed_1 3 rfl)
theorem dX12_feed_42 : decode cX12_feed 42 = .ok (.iload 5, 2) := dop_21 (zb_X12_feed_1 4 rfl) (zb_X12_feed_1 5 rfl)
theorem dX12_feed_44 : decode cX12_feed 44 = .ok (.invokevirtual 207, 3) := dop_182 (zb_X12_feed_1 6 rfl) (zb_X12_feed_1 7 rfl) (zb_X12_feed_1 8 rfl) rfl
theorem dX12_feed_47 : decode cX12_feed 47 = .ok (.aload_n 0, 1) := dop_42 (zb_X12_feed_1 9 rfl)
theorem dX12_feed_48 : decode cX12_feed 48 = .ok (.getfield 201, 3) := dop_180 (zb_X12_feed_1 10 rfl) (zb_X12_feed_1 11 rfl) (zb_X12_feed_1 12 rfl) rfl
theorem dX12_feed_51 : decode cX12_feed 51 = .ok (.ireturn, 1) := dop_172 (zb_X12_feed_1 13 rfl)
def zw_X12_end_0 : List Nat := [42, 3, 181, 0, 133, 27, 155, 0, 11, 27, 42, 180, 0, 201, 164, 0, 5, 2, 172, 42, 27, 181, 0, 201, 27, 172]
def zt_X12_end_0 : List Nat := zw_X12_end_0 ++ []
theorem ze_X12_end_0 : (dcn cX12_end).drop 0 = zt_X12_end_0 := by decide +kernel
theorem zb_X12_end_0 (j : Nat) {n : Nat} (e : zw_X12_end_0[j]? = some n) : dby cX12_end (0 + j) n := dw_b (t := []) ze_X12_end_0 j e
theorem dX12_end_0 : decode cX12_end 0 = .ok (.aload_n 0, 1) := dop_42 (zb_X12_end_0 0 rfl)
theorem dX12_end_1 : decode cX12_end 1 = .ok (.iconst 0, 1) := dop_3 (zb_X12_end_0 1 rfl)
theorem dX12_end_2 : decode cX12_end 2 = .ok (.putfield 133, 3) := dop_181 (zb_X12_end_0 2 rfl) (zb_X12_end_0 3 rfl) (zb_X12_end_0 4 rfl) rfl
theorem dX12_end_5 : decode cX12_end 5 = .ok (.iload_n 1, 1) := dop_27 (zb_X12_end_0 5 rfl)
theorem dX12_end_6 : decode cX12_end 6 = .ok (.ifCond .lt 11, 3) := dop_155 (zb_X12_end_0 6 rfl) (zb_X12_end_0 7 rfl) (zb_X12_end_0 8 rfl) rfl
theorem dX12_end_9 : decode cX12_end 9 = .ok (.iload_n 1, 1) := dop_27 (zb_X12_end_0 9 rfl)
theorem dX12_end_10 : decode cX12_end 10 = .ok (.aload_n 0, 1) := dop_42 (zb_X12_end_0 10 rfl)
theorem dX12_end_11 : decode cX12_end 11 = .ok (.getfield 201, 3) := dop_180 (zb_X12_end_0 11 rfl) (zb_X12_end_0 12 rfl) (zb_X12_end_0 13 rfl) rfl
theorem dX12_end_14 : decode cX12_end 14 = .ok (.if_icmp .le 5, 3) := dop_164 (zb_X12_end_0 14 rfl) (zb_X12_end_0 15 rfl) (zb_X12_end_0 16 rfl) rfl
theorem dX12_end_17 : decode cX12_end 17 = .ok (.iconst (-1), 1) := dop_2 (zb_X12_end_0 17 rfl)
theorem dX12_end_18 : decode cX12_end 18 = .ok (.ireturn, 1) := dop_172 (zb_X12_end_0 18 rfl)
theorem dX12_end_19 : decode cX12_end 19 = .ok (.aload_n 0, 1) := dop_42 (zb_X12_end_0 19 rfl)
theorem dX12_end_20 : decode cX12_end 20 = .ok (.iload_n 1, 1) := dop_27 (zb_X12_end_0 20 rfl)
theorem dX12_end_21 : decode cX12_end 21 = .ok (.putfield 201, 3) := dop_181 (zb_X12_end_0 21 rfl) (zb_X12_end_0 22 rfl) (zb_X12_end_0 23 rfl) rfl
theorem dX12_end_24 : decode cX12_end 24 = .ok (.iload_n 1, 1) := dop_27 (zb_X12_end_0 24 rfl)
theorem dX12_end_25 : decode cX12_end 25 = .ok (.ireturn, 1) := dop_172 (zb_X12_end_0 25 rfl)
def zw_X12_isSmall_0 : List Nat := [26, 16, 97, 161, 0, 13, 26, 16, 122, 163, 0, 7, 4, 167, 0, 4, 3, 172]
def zt_X12_isSmall_0 : List Nat := zw_X12_isSmall_0 ++ []
theorem ze_X12_isSmall_0 : (dcn cX12_isSmall).drop 0 = zt_X12_isSmall_0 := by decide +kernel
theorem zb_X12_isSmall_0 (j : Nat) {n : Nat} (e : zw_X12_isSmall_0[j]? = some n) : dby cX12_isSmall (0 + j) n := dw_b (t := []) ze_X12_isSmall_0 j e
theorem dX12_isSmall_0 : decode cX12_isSmall 0 = .ok (.iload_n 0, 1) := dop_26 (zb_X12_isSmall_0 0 rfl)
theorem dX12_isSmall_1 : decode cX12_isSmall 1 = .ok (.bipush 97, 2) := dop_16 (zb_X12_isSmall_0 1 rfl) (zb_X12_isSmall_0 2 rfl) rfl
theorem dX12_isSmall_3 : decode cX12_isSmall 3 = .ok (.if_icmp .lt 13, 3) := dop_161 (zb_X12_isSmall_0 3 rfl) (zb_X12_isSmall_0 4 rfl) (zb_X12_isSmall_0 5 rfl) rfl
theorem dX12_isSmall_6 : decode cX12_isSmall 6 = .ok (.iload_n 0, 1) := dop_26 (zb_X12_isSmall_0 6 rfl)
theorem dX12_isSmall_7 : decode cX12_isSmall 7 = .ok (.bipush 122, 2) := dop_16 (zb_X12_isSmall_0 7 rfl) (zb_X12_isSmall_0 8 rfl) rfl
theorem dX12_isSmall_9 : decode cX12_isSmall 9 = .ok (.if_icmp .gt 7, 3) := dop_163 (zb_X12_isSmall_0 9 rfl) (zb_X12_isSmall_0 10 rfl) (zb_X12_isSmall_0 11 rfl) rfl
theorem dX12_isSmall_12 : decode cX12_isSmall 12 = .ok (.iconst 1, 1) := dop_4 (zb_X12_isSmall_0 12 rfl)
theorem dX12_isSmall_13 : decode cX12_isSmall 13 = .ok (.goto 4, 3) := dop_167 (zb_X12_isSmall_0 13 rfl) (zb_X12_isSmall_0 14 rfl) (zb_X12_isSmall_0 15 rfl) rfl
theorem dX12_isSmall_16 : decode cX12_isSmall 16 = .ok (.iconst 0, 1) := dop_3 (zb_X12_isSmall_0 16 rfl)
theorem dX12_isSmall_17 : decode cX12_isSmall 17 = .ok (.ireturn, 1) := dop_172 (zb_X12_isSmall_0 17 rfl)
def zw_X12_isDigit_0 : List Nat := [26, 16, 48, 161, 0, 13, 26, 16, 57, 163, 0, 7, 4, 167, 0, 4, 3, 172]
def zt_X12_isDigit_0 : List Nat := zw_X12_isDigit_0 ++ []
theorem ze_X12_isDigit_0 : (dcn cX12_isDigit).drop 0 = zt_X12_isDigit_0 := by decide +kernel
theorem zb_X12_isDigit_0 (j : Nat) {n : Nat} (e : zw_X12_isDigit_0[j]? = some n) : dby cX12_isDigit (0 + j) n := dw_b (t := []) ze_X12_isDigit_0 j e
theorem dX12_isDigit_0 : decode cX12_isDigit 0 = .ok (.iload_n 0, 1) := dop_26 (zb_X12_isDigit_0 0 rfl)
theorem dX12_isDigit_1 : decode cX12_isDigit 1 = .ok (.bipush 48, 2) := dop_16 (zb_X12_isDigit_0 1 rfl) (zb_X12_isDigit_0 2 rfl) rfl
theorem dX12_isDigit_3 : decode cX12_isDigit 3 = .ok (.if_icmp .lt 13, 3) := dop_161 (zb_X12_isDigit_0 3 rfl) (zb_X12_isDigit_0 4 rfl) (zb_X12_isDigit_0 5 rfl) rfl
theorem dX12_isDigit_6 : decode cX12_isDigit 6 = .ok (.iload_n 0, 1) := dop_26 (zb_X12_isDigit_0 6 rfl)
theorem dX12_isDigit_7 : decode cX12_isDigit 7 = .ok (.bipush 57, 2) := dop_16 (zb_X12_isDigit_0 7 rfl) (zb_X12_isDigit_0 8 rfl) rfl
theorem dX12_isDigit_9 : decode cX12_isDigit 9 = .ok (.if_icmp .gt 7, 3) := dop_163 (zb_X12_isDigit_0 9 rfl) (zb_X12_isDigit_0 10 rfl) (zb_X12_isDigit_0 11 rfl) rfl
theorem dX12_isDigit_12 : decode cX12_isDigit 12 = .ok (.iconst 1, 1) := dop_4 (zb_X12_isDigit_0 12 rfl)
theorem dX12_isDigit_13 : decode cX12_isDigit 13 = .ok (.goto 4, 3) := dop_167 (zb_X12_isDigit_0 13 rfl) (zb_X12_isDigit_0 14 rfl) (zb_X12_isDigit_0 15 rfl) rfl
theorem dX12_isDigit_16 : decode cX12_isDigit 16 = .ok (.iconst 0, 1) := dop_3 (zb_X12_isDigit_0 16 rfl)
theorem dX12_isDigit_17 : decode cX12_isDigit 17 = .ok (.ireturn, 1) := dop_172 (zb_X12_isDigit_0 17 rfl)
def zw_X12_begin_0 : List Nat := [42, 3, 181, 0, 211, 42, 3, 181, 0, 214, 42, 2, 181, 0, 26, 42, 182, 0, 218, 177]
def zt_X12_begin_0 : List Nat := zw_X12_begin_0 ++ []
theorem ze_X12_begin_0 : (dcn cX12_begin).drop 0 = zt_X12_begin_0 := by decide +kernel
theorem zb_X12_begin_0 (j : Nat) {n : Nat} (e : zw_X12_begin_0[j]? = some n) : dby cX12_begin (0 + j) n := dw_b (t := []) ze_X12_begin_0 j e
theorem dX12_begin_0 : decode cX12_begin 0 = .ok (.aload_n 0, 1) := dop_42 (zb_X12_begin_0 0 rfl)
theorem dX12_begin_1 : decode cX12_begin 1 = .ok (.iconst 0, 1) := dop_3 (zb_X12_begin_0 1 rfl)
theorem dX12_begin_2 : decode cX12_begin 2 = .ok (.putfield 211, 3) := dop_181 (zb_X12_begin_0 2 rfl) (zb_X12_begin_0 3 rfl) (zb_X12_begin_0 4 rfl) rfl
theorem dX12_begin_5 : decode cX12_begin 5 = .ok (.aload_n 0, 1) := dop_42 (zb_X12_begin_0 5 rfl)
theorem dX12_begin_6 : decode cX12_begin 6 = .ok (.iconst 0, 1) := dop_3 (zb_X12_begin_0 6 rfl)
theorem dX12_begin_7 : decode cX12_begin 7 = .ok (.putfield 214, 3) := dop_181 (zb_X12_begin_0 7 rfl) (zb_X12_begin_0 8 rfl) (zb_X12_begin_0 9 rfl) rfl
theorem dX12_begin_10 : decode cX12_begin 10 = .ok (.aload_n 0, 1) := dop_42 (zb_X12_begin_0 10 rfl)
theorem dX12_begin_11 : decode cX12_begin 11 = .ok (.iconst (-1), 1) := dop_2 (zb_X12_begin_0 11 rfl)
theorem dX12_begin_12 : decode cX12_begin 12 = .ok (.putfield 26, 3) := dop_181 (zb_X12_begin_0 12 rfl) (zb_X12_begin_0 13 rfl) (zb_X12_begin_0 14 rfl) rfl
theorem dX12_begin_15 : decode cX12_begin 15 = .ok (.aload_n 0, 1) := dop_42 (zb_X12_begin_0 15 rfl)
theorem dX12_begin_16 : decode cX12_begin 16 = .ok (.invokevirtual 218, 3) := dop_182 (zb_X12_begin_0 16 rfl) (zb_X12_begin_0 17 rfl) (zb_X12_begin_0 18 rfl) rfl
theorem dX12_begin_19 : decode cX12_begin 19 = .ok (.return_, 1) := dop_177 (zb_X12_begin_0 19 rfl)
def zw_X12_next_8 : List Nat := [20, 0, 245, 101, 181, 0, 224, 42, 89, 180, 0, 211, 4, 96, 181, 0, 211, 167, 255, 167, 177]
def zt_X12_next_8 : List Nat := zw_X12_next_8 ++ []
def zw_X12_next_7 : List Nat := [42, 42, 180, 0, 224, 20, 0, 241, 148, 158, 0, 10, 42, 180, 0, 224, 167, 0, 26, 42, 180, 0, 224, 20, 0, 243, 105, 42, 180, 0, 23, 42, 180, 0, 211, 46, 133, 97]
def zt_X12_next_7 : List Nat := zw_X12_next_7 ++ zt_X12_next_8
def zw_X12_next_6 : List Nat := [181, 0, 211, 167, 255, 165, 42, 180, 0, 234, 5, 160, 0, 87, 42, 180, 0, 211, 42, 180, 0, 201, 162, 0, 76, 42, 180, 0, 23, 42, 180, 0, 211, 46, 184, 0, 231, 153, 0, 61]
def zt_X12_next_6 : List Nat := zw_X12_next_6 ++ zt_X12_next_7
def zw_X12_next_5 : List Nat := [42, 180, 0, 224, 20, 0, 237, 105, 42, 180, 0, 23, 42, 180, 0, 211, 46, 133, 97, 20, 0, 239, 101, 167, 0, 6, 20, 0, 160, 181, 0, 224, 42, 89, 180, 0, 211, 4, 96]
def zt_X12_next_5 : List Nat := zw_X12_next_5 ++ zt_X12_next_6
def zw_X12_next_4 : List Nat := [180, 0, 211, 42, 180, 0, 201, 162, 0, 78, 42, 180, 0, 23, 42, 180, 0, 211, 46, 184, 0, 228, 153, 0, 63, 42, 42, 180, 0, 211, 42, 180, 0, 221, 100, 16, 10, 162, 0, 29]
def zt_X12_next_4 : List Nat := zw_X12_next_4 ++ zt_X12_next_5
def zw_X12_next_3 : List Nat := [180, 0, 234, 6, 160, 0, 27, 42, 42, 180, 0, 23, 42, 180, 0, 221, 46, 133, 181, 0, 224, 42, 89, 180, 0, 211, 4, 96, 181, 0, 211, 42, 180, 0, 234, 4, 160, 0, 89, 42]
def zt_X12_next_3 : List Nat := zw_X12_next_3 ++ zt_X12_next_4
def zw_X12_next_2 : List Nat := [180, 0, 221, 46, 184, 0, 228, 153, 0, 7, 4, 167, 0, 23, 42, 180, 0, 23, 42, 180, 0, 221, 46, 184, 0, 231, 153, 0, 7, 5, 167, 0, 4, 6, 181, 0, 234, 42]
def zt_X12_next_2 : List Nat := zw_X12_next_2 ++ zt_X12_next_3
def zw_X12_next_1 : List Nat := [181, 0, 221, 167, 255, 221, 42, 42, 180, 0, 221, 181, 0, 211, 42, 9, 181, 0, 224, 42, 42, 180, 0, 221, 42, 180, 0, 201, 160, 0, 7, 3, 167, 0, 42, 42, 180, 0, 23, 42]
def zt_X12_next_1 : List Nat := zw_X12_next_1 ++ zt_X12_next_2
def zw_X12_next_0 : List Nat := [42, 42, 180, 0, 211, 181, 0, 221, 42, 180, 0, 221, 42, 180, 0, 201, 162, 0, 30, 42, 180, 0, 23, 42, 180, 0, 221, 46, 16, 32, 160, 0, 16, 42, 89, 180, 0, 221, 4, 96]
def zt_X12_next_0 : List Nat := zw_X12_next_0 ++ zt_X12_next_1
theorem ze_X12_next_0 : (dcn cX12_next).drop 0 = zt_X12_next_0 := by decide +kernel
theorem ze_X12_next_1 : (dcn cX12_next).drop 40 = zt_X12_next_1 := dw_n (wl := zw_X12_next_0) ze_X12_next_0 rfl
theorem zb_X12_next_0 (j : Nat) {n : Nat} (e : zw_X12_next_0[j]? = some n) : dby cX12_next (0 + j) n := dw_b (t := zt_X12_next_1) ze_X12_next_0 j e
theorem dX12_next_0 : decode cX12_next 0 = .ok (.aload_n 0, 1) := dop_42 (zb_X12_next_0 0 rfl)
theorem dX12_next_1 : decode cX12_next 1 = .ok (.aload_n 0, 1) := dop_42 (zb_X12_next_0 1 rfl)
theorem dX12_next_2 : decode cX12_next 2 = .ok (.getfield 211, 3) := dop_180 (zb_X12_next_0 2 rfl) (zb_X12_next_0 3 rfl) (zb_X12_next_0 4 rfl) rfl
theorem dX12_next_5 : decode cX12_next 5 = .ok (.putfield 221, 3) := dop_181 (zb_X12_next_0 5 rfl) (zb_X12_next_0 6 rfl) (zb_X12_next_0 7 rfl) rfl
theorem dX12_next_8 : decode cX12_next 8 = .ok (.aload_n 0, 1) := dop_42 (zb_X12_next_0 8 rfl)
theorem dX12_next_9 : decode cX12_next 9 = .ok (.getfield 221, 3) := dop_180 (zb_X12_next_0 9 rfl) (zb_X12_next_0 10 rfl) (zb_X12_next_0 11 rfl) rfl
theorem dX12_next_12 : decode cX12_next 12 = .ok (.aload_n 0, 1) := dop_42 (zb_X12_next_0 12 rfl)
theorem dX12_next_13 : decode cX12_next 13 = .ok (.getfield 201, 3) := dop_180 (zb_X12_next_0 13 rfl) (zb_X12_next_0 14 rfl) (zb_X12_next_0 15 rfl) rfl
theorem dX12_next_16 : decode cX12_next 16 = .ok (.if_icmp .ge 30, 3) := dop_162 (zb_X12_next_0 16 rfl) (zb_X12_next_0 17 rfl) (zb_X12_next_0 18 rfl) rfl
theorem dX12_next_19 : decode cX12_next 19 = .ok (.aload_n 0, 1) := dop_42 (zb_X12_next_0 19 rfl)
theorem dX12_next_20 : decode cX12_next 20 = .ok (.getfield 23, 3) := dop_180 (zb_X12_next_0 20 rfl) (zb_X12_next_0 21 rfl) (zb_X12_next_0 22 rfl) rfl
theorem dX12_next_23 : decode cX12_next 23 = .ok (.aload_n 0, 1) := dop_42 (zb_X12_next_0 23 rfl)
theorem dX12_next_24 : decode cX12_next 24 = .ok (.getfield 221, 3) := dop_180 (zb_X12_next_0 24 rfl) (zb_X12_next_0 25 rfl) (zb_X12_next_0 26 rfl) rfl
theorem dX12_next_27 : decode cX12_next 27 = .ok (.iaload, 1) := dop_46 (zb_X12_next_0 27 rfl)
theorem dX12_next_28 : decode cX12_next 28 = .ok (.bipush 32, 2) := dop_16 (zb_X12_next_0 28 rfl) (zb_X12_next_0 29 rfl) rfl
theorem dX12_next_30 : decode cX12_next 30 = .ok (.if_icmp .ne 16, 3) := dop_160 (zb_X12_next_0 30 rfl) (zb_X12_next_0 31 rfl) (zb_X12_next_0 32 rfl) rfl
theorem dX12_next_33 : decode cX12_next 33 = .ok (.aload_n 0, 1) := dop_42 (zb_X12_next_0 33 rfl)
theorem dX12_next_34 : decode cX12_next 34 = .ok (.dup, 1) := dop_89 (zb_X12_next_0 34 rfl)
theorem dX12_next_35 : decode cX12_next 35 = .ok (.getfield 221, 3) := dop_180 (zb_X12_next_0 35 rfl) (zb_X12_next_0 36 rfl) (zb_X12_next_0 37 rfl) rfl
theorem dX12_next_38 : decode cX12_next 38 = .ok (.iconst 1, 1) := dop_4 (zb_X12_next_0 38 rfl)
theorem dX12_next_39 : decode cX12_next 39 = .ok (.iadd, 1) := dop_96 (zb_X12_next_0 39 rfl)
theorem ze_X12_next_2 : (dcn cX12_next).drop 80 = zt_X12_next_2 := dw_n (wl := zw_X12_next_1) ze_X12_next_1 rfl
theorem zb_X12_next_1 (j : Nat) {n : Nat} (e : zw_X12_next_1[j]? = some n) : dby cX12_next (40 + j) n := dw_b (t := zt_X12_next_2) ze_X12_next_1 j e
theorem dX12_next_40 : decode cX12_next 40 = .ok (.putfield 221, 3) := dop_181 (zb_X12_next_1 0 rfl) (zb_X12_next_1 1 rfl) (zb_X12_next_1 2 rfl) rfl
theorem dX12_next_43 : decode cX12_next 43 = .ok (.goto (-35), 3) := dop_167 (zb_X12_next_1 3 rfl) (zb_X12_next_1 4 rfl) (zb_X12_next_1 5 rfl) rfl
theorem dX12_next_46 : decode cX12_next 46 = .ok (.aload_n 0, 1) := dop_42 (zb_X12_next_1 6 rfl)
theorem dX12_next_47 : decode cX12_next 47 = .ok (.aload_n 0, 1) := dop_42 (zb_X12_next_1 7 rfl)
theorem dX12_next_48 : decode cX12_next 48 = .ok (.getfield 221, 3) := dop_180 (zb_X12_next_1 8 rfl) (zb_X12_next_1 9 rfl) (zb_X12_next_1 10 rfl) rfl
theorem dX12_next_51 : decode cX12_next 51 = .ok (.putfield 211, 3) := dop_181 (zb_X12_next_1 11 rfl) (zb_X12_next_1 12 rfl) (zb_X12_next_1 13 rfl) rfl
theorem dX12_next_54 : decode cX12_next 54 = .ok (.aload_n 0, 1) := dop_42 (zb_X12_next_1 14 rfl)
theorem dX12_next_55 : decode cX12_next 55 = .ok (.lconst 0, 1) := dop_9 (zb_X12_next_1 15 rfl)
theorem dX12_next_56 : decode cX12_next 56 = .ok (.putfield 224, 3) := dop_181 (zb_X12_next_1 16 rfl) (zb_X12_next_1 17 rfl) (zb_X12_next_1 18 rfl) rfl
theorem dX12_next_59 : decode cX12_next 59 = .ok (.aload_n 0, 1) := dop_42 (zb_X12_next_1 19 rfl)
theorem dX12_next_60 : decode cX12_next 60 = .ok (.aload_n 0, 1) := dop_42 (zb_X12_next_1 20 rfl)
theorem dX12_next_61 : decode cX12_next 61 = .ok (.getfield 221, 3) := dop_180 (zb_X12_next_1 21 rfl) (zb_X12_next_1 22 rfl) (zb_X12_next_1 23 rfl) rfl
theorem dX12_next_64 : decode cX12_next 64 = .ok (.aload_n 0, 1) := dop_42 (zb_X12_next_1 24 rfl)
theorem dX12_next_65 : decode cX12_next 65 = .ok (.getfield 201, 3) := dop_180 (zb_X12_next_1 25 rfl) (zb_X12_next_1 26 rfl) (zb_X12_next_1 27 rfl) rfl
theorem dX12_next_68 : decode cX12_next 68 = .ok (.if_icmp .ne 7, 3) := dop_160 (zb_X12_next_1 28 rfl) (zb_X12_next_1 29 rfl) (zb_X12_next_1 30 rfl) rfl
theorem dX12_next_71 : decode cX12_next 71 = .ok (.iconst 0, 1) := dop_3 (zb_X12_next_1 31 rfl)
theorem dX12_next_72 : decode cX12_next 72 = .ok (.goto 42, 3) := dop_167 (zb_X12_next_1 32 rfl) (zb_X12_next_1 33 rfl) (zb_X12_next_1 34 rfl) rfl
theorem dX12_next_75 : decode cX12_next 75 = .ok (.aload_n 0, 1) := dop_42 (zb_X12_next_1 35 rfl)
theorem dX12_next_76 : decode cX12_next 76 = .ok (.getfield 23, 3) := dop_180 (zb_X12_next_1 36 rfl) (zb_X12_next_1 37 rfl) (zb_X12_next_1 38 rfl) rfl
theorem dX12_next_79 : decode cX12_next 79 = .ok (.aload_n 0, 1) := dop_42 (zb_X12_next_1 39 rfl)
theorem ze_X12_next_3 : (dcn cX12_next).drop 118 = zt_X12_next_3 := dw_n (wl := zw_X12_next_2) ze_X12_next_2 rfl
theorem zb_X12_next_2 (j : Nat) {n : Nat} (e : zw_X12_next_2[j]? = some n) : dby cX12_next (80 + j) n := dw_b (t := zt_X12_next_3) ze_X12_next_2 j e
theorem dX12_next_80 : decode cX12_next 80 = .ok (.getfield 221, 3) := dop_180 (zb_X12_next_2 0 rfl) (zb_X12_next_2 1 rfl) (zb_X12_next_2 2 rfl) rfl
theorem dX12_next_83 : decode cX12_next 83 = .ok (.iaload, 1) := dop_46 (zb_X12_next_2 3 rfl)
theorem dX12_next_84 : decode cX12_next 84 = .ok (.invokestatic 228, 3) := dop_184 (zb_X12_next_2 4 rfl) (zb_X12_next_2 5 rfl) (zb_X12_next_2 6 rfl) rfl
theorem dX12_next_87 : decode cX12_next 87 = .ok (.ifCond .eq 7, 3) := dop_153 (zb_X12_next_2 7 rfl) (zb_X12_next_2 8 rfl) (zb_X12_next_2 9 rfl) rfl
theorem dX12_next_90 : decode cX12_next 90 = .ok (.iconst 1, 1) := dop_4 (zb_X12_next_2 10 rfl)
theorem dX12_next_91 : decode cX12_next 91 = .ok (.goto 23, 3) := dop_167 (zb_X12_next_2 11 rfl) (zb_X12_next_2 12 rfl) (zb_X12_next_2 13 rfl) rfl
theorem dX12_next_94 : decode cX12_next 94 = .ok (.aload_n 0, 1) := dop_42 (zb_X12_next_2 14 rfl)
theorem dX12_next_95 : decode cX12_next 95 = .ok (.getfield 23, 3) := dop_180 (zb_X12_next_2 15 rfl) (zb_X12_next_2 16 rfl) (zb_X12_next_2 17 rfl) rfl
theorem dX12_next_98 : decode cX12_next 98 = .ok (.aload_n 0, 1) := dop_42 (zb_X12_next_2 18 rfl)
theorem dX12_next_99 : decode cX12_next 99 = .ok (.getfield 221, 3) := dop_180 (zb_X12_next_2 19 rfl) (zb_X12_next_2 20 rfl) (zb_X12_next_2 21 rfl) rfl
theorem dX12_next_102 : decode cX12_next 102 = .ok (.iaload, 1) := dop_46 (zb_X12_next_2 22 rfl)
theorem dX12_next_103 : decode cX12_next 103 = .ok (.invokestatic 231, 3) := dop_184 (zb_X12_next_2 23 rfl) (zb_X12_next_2 24 rfl) (zb_X12_next_2 25 rfl) rfl
theorem dX12_next_106 : decode cX12_next 106 = .ok (.ifCond .eq 7, 3) := dop_153 (zb_X12_next_2 26 rfl) (zb_X12_next_2 27 rfl) (zb_X12_next_2 28 rfl) rfl
theorem dX12_next_109 : decode cX12_next 109 = .ok (.iconst 2, 1) := dop_5 (zb_X12_next_2 29 rfl)
theorem dX12_next_110 : decode cX12_next 110 = .ok (.goto 4, 3) := dop_167 (zb_X12_next_2 30 rfl) (zb_X12_next_2 31 rfl) (zb_X12_next_2 32 rfl) rfl
theorem dX12_next_113 : decode cX12_next 113 = .ok (.iconst 3, 1) := dop_6 (zb_X12_next_2 33 rfl)
theorem dX12_next_114 : decode cX12_next 114 = .ok (.putfield 234, 3) := dop_181 (zb_X12_next_2 34 rfl) (zb_X12_next_2 35 rfl) (zb_X12_next_2 36 rfl) rfl
theorem dX12_next_117 : decode cX12_next 117 = .ok (.aload_n 0, 1) := dop_42 (zb_X12_next_2 37 rfl)
theorem ze_X12_next_4 : (dcn cX12_next).drop 158 = zt_X12_next_4 := dw_n (wl := zw_X12_next_3) ze_X12_next_3 rfl
theorem zb_X12_next_3 (j : Nat) {n : Nat} (e : zw_X12_next_3[j]? = some n) : dby cX12_next (118 + j) n := dw_b (t := zt_X12_next_4) ze_X12_next_3 j e
theorem dX12_next_118 : decode cX12_next 118 = .ok (.getfield 234, 3) := dop_180 (zb_X12_next_3 0 rfl) (zb_X12_next_3 1 rfl) (zb_X12_next_3 2 rfl) rfl
theorem dX12_next_121 : decode cX12_next 121 = .ok (.iconst 3, 1) := dop_6 (zb_X12_next_3 3 rfl)
theorem dX12_next_122 : decode cX12_next 122 = .ok (.if_icmp .ne 27, 3) := dop_160 (zb_X12_next_3 4 rfl) (zb_X12_next_3 5 rfl) (zb_X12_next_3 6 rfl) rfl
theorem dX12_next_125 : decode cX12_next 125 = .ok (.aload_n 0, 1) := dop_42 (zb_X12_next_3 7 rfl)
theorem dX12_next_126 : decode cX12_next 126 = .ok (.aload_n 0, 1) := dop_42 (zb_X12_next_3 8 rfl)
theorem dX12_next_127 : decode cX12_next 127 = .ok (.getfield 23, 3) := dop_180 (zb_X12_next_3 9 rfl) (zb_X12_next_3 10 rfl) (zb_X12_next_3 11 rfl) rfl
theorem dX12_next_130 : decode cX12_next 130 = .ok (.aload_n 0, 1) := dop_42 (zb_X12_next_3 12 rfl)
theorem dX12_next_131 : decode cX12_next 131 = .ok (.getfield 221, 3) := dop_180 (zb_X12_next_3 13 rfl) (zb_X12_next_3 14 rfl) (zb_X12_next_3 15 rfl) rfl
theorem dX12_next_134 : decode cX12_next 134 = .ok (.iaload, 1) := dop_46 (zb_X12_next_3 16 rfl)
theorem dX12_next_135 : decode cX12_next 135 = .ok (.i2l, 1) := dop_133 (zb_X12_next_3 17 rfl)
theorem dX12_next_136 : decode cX12_next 136 = .ok (.putfield 224, 3) := dop_181 (zb_X12_next_3 18 rfl) (zb_X12_next_3 19 rfl) (zb_X12_next_3 20 rfl) rfl
theorem dX12_next_139 : decode cX12_next 139 = .ok (.aload_n 0, 1) := dop_42 (zb_X12_next_3 21 rfl)
theorem dX12_next_140 : decode cX12_next 140 = .ok (.dup, 1) := dop_89 (zb_X12_next_3 22 rfl)
theorem dX12_next_141 : decode cX12_next 141 = .ok (.getfield 211, 3) := dop_180 (zb_X12_next_3 23 rfl) (zb_X12_next_3 24 rfl) (zb_X12_next_3 25 rfl) rfl
theorem dX12_next_144 : decode cX12_next 144 = .ok (.iconst 1, 1) := dop_4 (zb_X12_next_3 26 rfl)
theorem dX12_next_145 : decode cX12_next 145 = .ok (.iadd, 1) := dop_96 (zb_X12_next_3 27 rfl)
theorem dX12_next_146 : decode cX12_next 146 = .ok (.putfield 211, 3) := dop_181 (zb_X12_next_3 28 rfl) (zb_X12_next_3 29 rfl) (zb_X12_next_3 30 rfl) rfl
theorem dX12_next_149 : decode cX12_next 149 = .ok (.aload_n 0, 1) := dop_42 (zb_X12_next_3 31 rfl)
theorem dX12_next_150 : decode cX12_next 150 = .ok (.getfield 234, 3) := dop_180 (zb_X12_next_3 32 rfl) (zb_X12_next_3 33 rfl) (zb_X12_next_3 34 rfl) rfl
theorem dX12_next_153 : decode cX12_next 153 = .ok (.iconst 1, 1) := dop_4 (zb_X12_next_3 35 rfl)
theorem dX12_next_154 : decode cX12_next 154 = .ok (.if_icmp .ne 89, 3) := dop_160 (zb_X12_next_3 36 rfl) (zb_X12_next_3 37 rfl) (zb_X12_next_3 38 rfl) rfl
theorem dX12_next_157 : decode cX12_next 157 = .ok (.aload_n 0, 1) := dop_42 (zb_X12_next_3 39 rfl)
theorem ze_X12_next_5 : (dcn cX12_next).drop 198 = zt_X12_next_5 := dw_n (wl := zw_X12_next_4) ze_X12_next_4 rfl
theorem zb_X12_next_4 (j : Nat) {n : Nat} (e : zw_X12_next_4[j]? = some n) : dby cX12_next (158 + j) n := dw_b (t := zt_X12_next_5) ze_X12_next_4 j e
theorem dX12_next_158 : decode cX12_next 158 = .ok (.getfield 211, 3) := dop_180 (zb_X12_next_4 0 rfl) (zb_X12_next_4 1 rfl) (zb_X12_next_4 2 rfl) rfl
theorem dX12_next_161 : decode cX12_next 161 = .ok (.aload_n 0, 1) := dop_42 (zb_X12_next_4 3 rfl)
theorem dX12_next_162 : decode cX12_next 162 = .ok (.getfield 201, 3) := dop_180 (zb_X12_next_4 4 rfl) (zb_X12_next_4 5 rfl) (zb_X12_next_4 6 rfl) rfl
theorem dX12_next_165 : decode cX12_next 165 = .ok (.if_icmp .ge 78, 3) := dop_162 (zb_X12_next_4 7 rfl) (zb_X12_next_4 8 rfl) (zb_X12_next_4 9 rfl) rfl
theorem dX12_next_168 : decode cX12_next 168 = .ok (.aload_n 0, 1) := dop_42 (zb_X12_next_4 10 rfl)
theorem dX12_next_169 : decode cX12_next 169 = .ok (.getfield 23, 3) := dop_180 (zb_X12_next_4 11 rfl) (zb_X12_next_4 12 rfl) (zb_X12_next_4 13 rfl) rfl
theorem dX12_next_172 : decode cX12_next 172 = .ok (.aload_n 0, 1) := dop_42 (zb_X12_next_4 14 rfl)
theorem dX12_next_173 : decode cX12_next 173 = .ok (.getfield 211, 3) := dop_180 (zb_X12_next_4 15 rfl) (zb_X12_next_4 16 rfl) (zb_X12_next_4 17 rfl) rfl
theorem dX12_next_176 : decode cX12_next 176 = .ok (.iaload, 1) := dop_46 (zb_X12_next_4 18 rfl)
theorem dX12_next_177 : decode cX12_next 177 = .ok (.invokestatic 228, 3) := dop_184 (zb_X12_next_4 19 rfl) (zb_X12_next_4 20 rfl) (zb_X12_next_4 21 rfl) rfl
theorem dX12_next_180 : decode cX12_next 180 = .ok (.ifCond .eq 63, 3) := dop_153 (zb_X12_next_4 22 rfl) (zb_X12_next_4 23 rfl) (zb_X12_next_4 24 rfl) rfl
theorem dX12_next_183 : decode cX12_next 183 = .ok (.aload_n 0, 1) := dop_42 (zb_X12_next_4 25 rfl)
theorem dX12_next_184 : decode cX12_next 184 = .ok (.aload_n 0, 1) := dop_42 (zb_X12_next_4 26 rfl)
theorem dX12_next_185 : decode cX12_next 185 = .ok (.getfield 211, 3) := dop_180 (zb_X12_next_4 27 rfl) (zb_X12_next_4 28 rfl) (zb_X12_next_4 29 rfl) rfl
theorem dX12_next_188 : decode cX12_next 188 = .ok (.aload_n 0, 1) := dop_42 (zb_X12_next_4 30 rfl)
theorem dX12_next_189 : decode cX12_next 189 = .ok (.getfield 221, 3) := dop_180 (zb_X12_next_4 31 rfl) (zb_X12_next_4 32 rfl) (zb_X12_next_4 33 rfl) rfl
theorem dX12_next_192 : decode cX12_next 192 = .ok (.isub, 1) := dop_100 (zb_X12_next_4 34 rfl)
theorem dX12_next_193 : decode cX12_next 193 = .ok (.bipush 10, 2) := dop_16 (zb_X12_next_4 35 rfl) (zb_X12_next_4 36 rfl) rfl
theorem dX12_next_195 : decode cX12_next 195 = .ok (.if_icmp .ge 29, 3) := dop_162 (zb_X12_next_4 37 rfl) (zb_X12_next_4 38 rfl) (zb_X12_next_4 39 rfl) rfl
theorem ze_X12_next_6 : (dcn cX12_next).drop 237 = zt_X12_next_6 := dw_n (wl := zw_X12_next_5) ze_X12_next_5 rfl
theorem zb_X12_next_5 (j : Nat) {n : Nat} (e : zw_X12_next_5[j]? = some n) : dby cX12_next (198 + j) n := dw_b (t := zt_X12_next_6) ze_X12_next_5 j e
theorem dX12_next_198 : decode cX12_next 198 = .ok (.aload_n 0, 1) := dop_42 (zb_X12_next_5 0 rfl)
theorem dX12_next_199 : decode cX12_next 199 = .ok (.getfield 224, 3) := dop_180 (zb_X12_next_5 1 rfl) (zb_X12_next_5 2 rfl) (zb_X12_next_5 3 rfl) rfl
theorem dX12_next_202 : decode cX12_next 202 = .ok (.ldc2_w 237, 3) := dop_20 (zb_X12_next_5 4 rfl) (zb_X12_next_5 5 rfl) (zb_X12_next_5 6 rfl) rfl
theorem dX12_next_205 : decode cX12_next 205 = .ok (.lmul, 1) := dop_105 (zb_X12_next_5 7 rfl)
theorem dX12_next_206 : decode cX12_next 206 = .ok (.aload_n 0, 1) := dop_42 (zb_X12_next_5 8 rfl)
theorem dX12_next_207 : decode cX12_next 207 = .ok (.getfield 23, 3) := dop_180 (zb_X12_next_5 9 rfl) (zb_X12_next_5 10 rfl) (zb_X12_next_5 11 rfl) rfl
theorem dX12_next_210 : decode cX12_next 210 = .ok (.aload_n 0, 1) := dop_42 (zb_X12_next_5 12 rfl)
theorem dX12_next_211 : decode cX12_next 211 = .ok (.getfield 211, 3) := dop_180 (zb_X12_next_5 13 rfl) (zb_X12_next_5 14 rfl) (zb_X12_next_5 15 rfl) rfl
theorem dX12_next_214 : decode cX12_next 214 = .ok (.iaload, 1) := dop_46 (zb_X12_next_5 16 rfl)
theorem dX12_next_215 : decode cX12_next 215 = .ok (.i2l, 1) := dop_133 (zb_X12_next_5 17 rfl)
theorem dX12_next_216 : decode cX12_next 216 = .ok (.ladd, 1) := dop_97 (zb_X12_next_5 18 rfl)
theorem dX12_next_217 : decode cX12_next 217 = .ok (.ldc2_w 239, 3) := dop_20 (zb_X12_next_5 19 rfl) (zb_X12_next_5 20 rfl) (zb_X12_next_5 21 rfl) rfl
theorem dX12_next_220 : decode cX12_next 220 = .ok (.lsub, 1) := dop_101 (zb_X12_next_5 22 rfl)
theorem dX12_next_221 : decode cX12_next 221 = .ok (.goto 6, 3) := dop_167 (zb_X12_next_5 23 rfl) (zb_X12_next_5 24 rfl) (zb_X12_next_5 25 rfl) rfl
theorem dX12_next_224 : decode cX12_next 224 = .ok (.ldc2_w 160, 3) := dop_20 (zb_X12_next_5 26 rfl) (zb_X12_next_5 27 rfl) (zb_X12_next_5 28 rfl) rfl
theorem dX12_next_227 : decode cX12_next 227 = .ok (.putfield 224, 3) := dop_181 (zb_X12_next_5 29 rfl) (zb_X12_next_5 30 rfl) (zb_X12_next_5 31 rfl) rfl
theorem dX12_next_230 : decode cX12_next 230 = .ok (.aload_n 0, 1) := dop_42 (zb_X12_next_5 32 rfl)
theorem dX12_next_231 : decode cX12_next 231 = .ok (.dup, 1) := dop_89 (zb_X12_next_5 33 rfl)
theorem dX12_next_232 : decode cX12_next 232 = .ok (.getfield 211, 3) := dop_180 (zb_X12_next_5 34 rfl) (zb_X12_next_5 35 rfl) (zb_X12_next_5 36 rfl) rfl
theorem dX12_next_235 : decode cX12_next 235 = .ok (.iconst 1, 1) := dop_4 (zb_X12_next_5 37 rfl)
theorem dX12_next_236 : decode cX12_next 236 = .ok (.iadd, 1) := dop_96 (zb_X12_next_5 38 rfl)
theorem ze_X12_next_7 : (dcn cX12_next).drop 277 = zt_X12_next_7 := dw_n (wl := zw_X12_next_6) ze_X12_next_6 rfl
theorem zb_X12_next_6 (j : Nat) {n : Nat} (e : zw_X12_next_6[j]? = some n) : dby cX12_next (237 + j) n := dw_b (t := zt_X12_next_7) ze_X12_next_6 j e
theorem dX12_next_237 : decode cX12_next 237 = .ok (.putfield 211, 3) := dop_181 (zb_X12_next_6 0 rfl) (zb_X12_next_6 1 rfl) (zb_X12_next_6 2 rfl) rfl
theorem dX12_next_240 : decode cX12_next 240 = .ok (.goto (-91), 3) := dop_167 (zb_X12_next_6 3 rfl) (zb_X12_next_6 4 rfl) (zb_X12_next_6 5 rfl) rfl
theorem dX12_next_243 : decode cX12_next 243 = .ok (.aload_n 0, 1) := dop_42 (zb_X12_next_6 6 rfl)
theorem dX12_next_244 : decode cX12_next 244 = .ok (.getfield 234, 3) := dop_180 (zb_X12_next_6 7 rfl) (zb_X12_next_6 8 rfl) (zb_X12_next_6 9 rfl) rfl
theorem dX12_next_247 : decode cX12_next 247 = .ok (.iconst 2, 1) := dop_5 (zb_X12_next_6 10 rfl)
theorem dX12_next_248 : decode cX12_next 248 = .ok (.if_icmp .ne 87, 3) := dop_160 (zb_X12_next_6 11 rfl) (zb_X12_next_6 12 rfl) (zb_X12_next_6 13 rfl) rfl
theorem dX12_next_251 : decode cX12_next 251 = .ok (.aload_n 0, 1) := dop_42 (zb_X12_next_6 14 rfl)
theorem dX12_next_252 : decode cX12_next 252 = .ok (.getfield 211, 3) := dop_180 (zb_X12_next_6 15 rfl) (zb_X12_next_6 16 rfl) (zb_X12_next_6 17 rfl) rfl
theorem dX12_next_255 : decode cX12_next 255 = .ok (.aload_n 0, 1) := dop_42 (zb_X12_next_6 18 rfl)
theorem dX12_next_256 : decode cX12_next 256 = .ok (.getfield 201, 3) := dop_180 (zb_X12_next_6 19 rfl) (zb_X12_next_6 20 rfl) (zb_X12_next_6 21 rfl) rfl
theorem dX12_next_259 : decode cX12_next 259 = .ok (.if_icmp .ge 76, 3) := dop_162 (zb_X12_next_6 22 rfl) (zb_X12_next_6 23 rfl) (zb_X12_next_6 24 rfl) rfl
theorem dX12_next_262 : decode cX12_next 262 = .ok (.aload_n 0, 1) := dop_42 (zb_X12_next_6 25 rfl)
theorem dX12_next_263 : decode cX12_next 263 = .ok (.getfield 23, 3) := dop_180 (zb_X12_next_6 26 rfl) (zb_X12_next_6 27 rfl) (zb_X12_next_6 28 rfl) rfl
theorem dX12_next_266 : decode cX12_next 266 = .ok (.aload_n 0, 1) := dop_42 (zb_X12_next_6 29 rfl)
theorem dX12_next_267 : decode cX12_next 267 = .ok (.getfield 211, 3) := dop_180 (zb_X12_next_6 30 rfl) (zb_X12_next_6 31 rfl) (zb_X12_next_6 32 rfl) rfl
theorem dX12_next_270 : decode cX12_next 270 = .ok (.iaload, 1) := dop_46 (zb_X12_next_6 33 rfl)
theorem dX12_next_271 : decode cX12_next 271 = .ok (.invokestatic 231, 3) := dop_184 (zb_X12_next_6 34 rfl) (zb_X12_next_6 35 rfl) (zb_X12_next_6 36 rfl) rfl
theorem dX12_next_274 : decode cX12_next 274 = .ok (.ifCond .eq 61, 3) := dop_153 (zb_X12_next_6 37 rfl) (zb_X12_next_6 38 rfl) (zb_X12_next_6 39 rfl) rfl
theorem ze_X12_next_8 : (dcn cX12_next).drop 315 = zt_X12_next_8 := dw_n (wl := zw_X12_next_7) ze_X12_next_7 rfl
theorem zb_X12_next_7 (j : Nat) {n : Nat} (e : zw_X12_next_7[j]? = some n) : dby cX12_next (277 + j) n := dw_b (t := zt_X12_next_8) ze_X12_next_7 j e
theorem dX12_next_277 : decode cX12_next 277 = .ok (.aload_n 0, 1) := dop_42 (zb_X12_next_7 0 rfl)
theorem dX12_next_278 : decode cX12_next 278 = .ok (.aload_n 0, 1) := dop_42 (zb_X12_next_7 1 rfl)
theorem dX12_next_279 : decode cX12_next 279 = .ok (.getfield 224, 3) := dop_180 (zb_X12_next_7 2 rfl) (zb_X12_next_7 3 rfl) (zb_X12_next_7 4 rfl) rfl
theorem dX12_next_282 : decode cX12_next 282 = .ok (.ldc2_w 241, 3) := dop_20 (zb_X12_next_7 5 rfl) (zb_X12_next_7 6 rfl) (zb_X12_next_7 7 rfl) rfl
theorem dX12_next_285 : decode cX12_next 285 = .ok (.lcmp, 1) := dop_148 (zb_X12_next_7 8 rfl)
theorem dX12_next_286 : decode cX12_next 286 = .ok (.ifCond .le 10, 3) := dop_158 (zb_X12_next_7 9 rfl) (zb_X12_next_7 10 rfl) (zb_X12_next_7 11 rfl) rfl
theorem dX12_next_289 : decode cX12_next 289 = .ok (.aload_n 0, 1) := dop_42 (zb_X12_next_7 12 rfl)
theorem dX12_next_290 : decode cX12_next 290 = .ok (.getfield 224, 3) := dop_180 (zb_X12_next_7 13 rfl) (zb_X12_next_7 14 rfl) (zb_X12_next_7 15 rfl) rfl
theorem dX12_next_293 : decode cX12_next 293 = .ok (.goto 26, 3) := dop_167 (zb_X12_next_7 16 rfl) (zb_X12_next_7 17 rfl) (zb_X12_next_7 18 rfl) rfl
theorem dX12_next_296 : decode cX12_next 296 = .ok (.aload_n 0, 1) := dop_42 (zb_X12_next_7 19 rfl)
theorem dX12_next_297 : decode cX12_next 297 = .ok (.getfield 224, 3) := dop_180 (zb_X12_next_7 20 rfl) (zb_X12_next_7 21 rfl) (zb_X12_next_7 22 rfl) rfl
theorem dX12_next_300 : decode cX12_next 300 = .ok (.ldc2_w 243, 3) := dop_20 (zb_X12_next_7 23 rfl) (zb_X12_next_7 24 rfl) (zb_X12_next_7 25 rfl) rfl
theorem dX12_next_303 : decode cX12_next 303 = .ok (.lmul, 1) := dop_105 (zb_X12_next_7 26 rfl)
theorem dX12_next_304 : decode cX12_next 304 = .ok (.aload_n 0, 1) := dop_42 (zb_X12_next_7 27 rfl)
theorem dX12_next_305 : decode cX12_next 305 = .ok (.getfield 23, 3) := dop_180 (zb_X12_next_7 28 rfl) (zb_X12_next_7 29 rfl) (zb_X12_next_7 30 rfl) rfl
theorem dX12_next_308 : decode cX12_next 308 = .ok (.aload_n 0, 1) := dop_42 (zb_X12_next_7 31 rfl)
theorem dX12_next_309 : decode cX12_next 309 = .ok (.getfield 211, 3) := dop_180 (zb_X12_next_7 32 rfl) (zb_X12_next_7 33 rfl) (zb_X12_next_7 34 rfl) rfl
theorem dX12_next_312 : decode cX12_next 312 = .ok (.iaload, 1) := dop_46 (zb_X12_next_7 35 rfl)
theorem dX12_next_313 : decode cX12_next 313 = .ok (.i2l, 1) := dop_133 (zb_X12_next_7 36 rfl)
theorem dX12_next_314 : decode cX12_next 314 = .ok (.ladd, 1) := dop_97 (zb_X12_next_7 37 rfl)
theorem zb_X12_next_8 (j : Nat) {n : Nat} (e : zw_X12_next_8[j]? = some n) : dby cX12_next (315 + j) n := dw_b (t := []) ze_X12_next_8 j e
theorem dX12_next_315 : decode cX12_next 315 = .ok (.ldc2_w 245, 3) := dop_20 (zb_X12_next_8 0 rfl) (zb_X12_next_8 1 rfl) (zb_X12_next_8 2 rfl) rfl
theorem dX12_next_318 : decode cX12_next 318 = .ok (.lsub, 1) := dop_101 (zb_X12_next_8 3 rfl)
theorem dX12_next_319 : decode cX12_next 319 = .ok (.putfield 224, 3) := dop_181 (zb_X12_next_8 4 rfl) (zb_X12_next_8 5 rfl) (zb_X12_next_8 6 rfl) rfl
theorem dX12_next_322 : decode cX12_next 322 = .ok (.aload_n 0, 1) := dop_42 (zb_X12_next_8 7 rfl)
theorem dX12_next_323 : decode cX12_next 323 = .ok (.dup, 1) := dop_89 (zb_X12_next_8 8 rfl)
theorem dX12_next_324 : decode cX12_next 324 = .ok (.getfield 211, 3) := dop_180 (zb_X12_next_8 9 rfl) (zb_X12_next_8 10 rfl) (zb_X12_next_8 11 rfl) rfl
theorem dX12_next_327 : decode cX12_next 327 = .ok (.iconst 1, 1) := dop_4 (zb_X12_next_8 12 rfl)
theorem dX12_next_328 : decode cX12_next 328 = .ok (.iadd, 1) := dop_96 (zb_X12_next_8 13 rfl)
theorem dX12_next_329 : decode cX12_next 329 = .ok (.putfield 211, 3) := dop_181 (zb_X12_next_8 14 rfl) (zb_X12_next_8 15 rfl) (zb_X12_next_8 16 rfl) rfl
theorem dX12_next_332 : decode cX12_next 332 = .ok (.goto (-89), 3) := dop_167 (zb_X12_next_8 17 rfl) (zb_X12_next_8 18 rfl) (zb_X12_next_8 19 rfl) rfl
theorem dX12_next_335 : decode cX12_next 335 = .ok (.return_, 1) := dop_177 (zb_X12_next_8 20 rfl)
def zw_X12_isWord_0 : List Nat := [42, 180, 0, 234, 4, 160, 0, 16, 42, 180, 0, 224, 31, 148, 154, 0, 7, 4, 167, 0, 4, 3, 172]
def zt_X12_isWord_0 : List Nat := zw_X12_isWord_0 ++ []
theorem ze_X12_isWord_0 : (dcn cX12_isWord).drop 0 = zt_X12_isWord_0 := by decide +kernel
theorem zb_X12_isWord_0 (j : Nat) {n : Nat} (e : zw_X12_isWord_0[j]? = some n) : dby cX12_isWord (0 + j) n := dw_b (t := []) ze_X12_isWord_0 j e
theorem dX12_isWord_0 : decode cX12_isWord 0 = .ok (.aload_n 0, 1) := dop_42 (zb_X12_isWord_0 0 rfl)
theorem dX12_isWord_1 : decode cX12_isWord 1 = .ok (.getfield 234, 3) := dop_180 (zb_X12_isWord_0 1 rfl) (zb_X12_isWord_0 2 rfl) (zb_X12_isWord_0 3 rfl) rfl
theorem dX12_isWord_4 : decode cX12_isWord 4 = .ok (.iconst 1, 1) := dop_4 (zb_X12_isWord_0 4 rfl)
theorem dX12_isWord_5 : decode cX12_isWord 5 = .ok (.if_icmp .ne 16, 3) := dop_160 (zb_X12_isWord_0 5 rfl) (zb_X12_isWord_0 6 rfl) (zb_X12_isWord_0 7 rfl) rfl
theorem dX12_isWord_8 : decode cX12_isWord 8 = .ok (.aload_n 0, 1) := dop_42 (zb_X12_isWord_0 8 rfl)
theorem dX12_isWord_9 : decode cX12_isWord 9 = .ok (.getfield 224, 3) := dop_180 (zb_X12_isWord_0 9 rfl) (zb_X12_isWord_0 10 rfl) (zb_X12_isWord_0 11 rfl) rfl
theorem dX12_isWord_12 : decode cX12_isWord 12 = .ok (.lload_n 1, 1) := dop_31 (zb_X12_isWord_0 12 rfl)
theorem dX12_isWord_13 : decode cX12_isWord 13 = .ok (.lcmp, 1) := dop_148 (zb_X12_isWord_0 13 rfl)
theorem dX12_isWord_14 : decode cX12_isWord 14 = .ok (.ifCond .ne 7, 3) := dop_154 (zb_X12_isWord_0 14 rfl) (zb_X12_isWord_0 15 rfl) (zb_X12_isWord_0 16 rfl) rfl
theorem dX12_isWord_17 : decode cX12_isWord 17 = .ok (.iconst 1, 1) := dop_4 (zb_X12_isWord_0 17 rfl)
theorem dX12_isWord_18 : decode cX12_isWord 18 = .ok (.goto 4, 3) := dop_167 (zb_X12_isWord_0 18 rfl) (zb_X12_isWord_0 19 rfl) (zb_X12_isWord_0 20 rfl) rfl
theorem dX12_isWord_21 : decode cX12_isWord 21 = .ok (.iconst 0, 1) := dop_3 (zb_X12_isWord_0 21 rfl)
theorem dX12_isWord_22 : decode cX12_isWord 22 = .ok (.ireturn, 1) := dop_172 (zb_X12_isWord_0 22 rfl)
def zw_X12_isSign_0 : List Nat := [42, 180, 0, 234, 6, 160, 0, 17, 42, 180, 0, 224, 27, 133, 148, 154, 0, 7, 4, 167, 0, 4, 3, 172]
def zt_X12_isSign_0 : List Nat := zw_X12_isSign_0 ++ []
theorem ze_X12_isSign_0 : (dcn cX12_isSign).drop 0 = zt_X12_isSign_0 := by decide +kernel
theorem zb_X12_isSign_0 (j : Nat) {n : Nat} (e : zw_X12_isSign_0[j]? = some n) : dby cX12_isSign (0 + j) n := dw_b (t := []) ze_X12_isSign_0 j e
theorem dX12_isSign_0 : decode cX12_isSign 0 = .ok (.aload_n 0, 1) := dop_42 (zb_X12_isSign_0 0 rfl)
theorem dX12_isSign_1 : decode cX12_isSign 1 = .ok (.getfield 234, 3) := dop_180 (zb_X12_isSign_0 1 rfl) (zb_X12_isSign_0 2 rfl) (zb_X12_isSign_0 3 rfl) rfl
theorem dX12_isSign_4 : decode cX12_isSign 4 = .ok (.iconst 3, 1) := dop_6 (zb_X12_isSign_0 4 rfl)
theorem dX12_isSign_5 : decode cX12_isSign 5 = .ok (.if_icmp .ne 17, 3) := dop_160 (zb_X12_isSign_0 5 rfl) (zb_X12_isSign_0 6 rfl) (zb_X12_isSign_0 7 rfl) rfl
theorem dX12_isSign_8 : decode cX12_isSign 8 = .ok (.aload_n 0, 1) := dop_42 (zb_X12_isSign_0 8 rfl)
theorem dX12_isSign_9 : decode cX12_isSign 9 = .ok (.getfield 224, 3) := dop_180 (zb_X12_isSign_0 9 rfl) (zb_X12_isSign_0 10 rfl) (zb_X12_isSign_0 11 rfl) rfl
theorem dX12_isSign_12 : decode cX12_isSign 12 = .ok (.iload_n 1, 1) := dop_27 (zb_X12_isSign_0 12 rfl)
theorem dX12_isSign_13 : decode cX12_isSign 13 = .ok (.i2l, 1) := dop_133 (zb_X12_isSign_0 13 rfl)
theorem dX12_isSign_14 : decode cX12_isSign 14 = .ok (.lcmp, 1) := dop_148 (zb_X12_isSign_0 14 rfl)
theorem dX12_isSign_15 : decode cX12_isSign 15 = .ok (.ifCond .ne 7, 3) := dop_154 (zb_X12_isSign_0 15 rfl) (zb_X12_isSign_0 16 rfl) (zb_X12_isSign_0 17 rfl) rfl
theorem dX12_isSign_18 : decode cX12_isSign 18 = .ok (.iconst 1, 1) := dop_4 (zb_X12_isSign_0 18 rfl)
theorem dX12_isSign_19 : decode cX12_isSign 19 = .ok (.goto 4, 3) := dop_167 (zb_X12_isSign_0 19 rfl) (zb_X12_isSign_0 20 rfl) (zb_X12_isSign_0 21 rfl) rfl
theorem dX12_isSign_22 : decode cX12_isSign 22 = .ok (.iconst 0, 1) := dop_3 (zb_X12_isSign_0 22 rfl)
theorem dX12_isSign_23 : decode cX12_isSign 23 = .ok (.ireturn, 1) := dop_172 (zb_X12_isSign_0 23 rfl)
def zw_X12_must_0 : List Nat := [42, 180, 0, 214, 154, 0, 20, 27, 154, 0, 16, 42, 4, 181, 0, 214, 42, 42, 180, 0, 221, 181, 0, 26, 42, 180, 0, 214, 154, 0, 7, 42, 182, 0, 218, 177]
def zt_X12_must_0 : List Nat := zw_X12_must_0 ++ []
theorem ze_X12_must_0 : (dcn cX12_must).drop 0 = zt_X12_must_0 := by decide +kernel
theorem zb_X12_must_0 (j : Nat) {n : Nat} (e : zw_X12_must_0[j]? = some n) : dby cX12_must (0 + j) n := dw_b (t := []) ze_X12_must_0 j e
theorem dX12_must_0 : decode cX12_must 0 = .ok (.aload_n 0, 1) := dop_42 (zb_X12_must_0 0 rfl)
theorem dX12_must_1 : decode cX12_must 1 = .ok (.getfield 214, 3) := dop_180 (zb_X12_must_0 1 rfl) (zb_X12_must_0 2 rfl) (zb_X12_must_0 3 rfl) rfl
theorem dX12_must_4 : decode cX12_must 4 = .ok (.ifCond .ne 20, 3) := dop_154 (zb_X12_must_0 4 rfl) (zb_X12_must_0 5 rfl) (zb_X12_must_0 6 rfl) rfl
theorem dX12_must_7 : decode cX12_must 7 = .ok (.iload_n 1, 1) := dop_27 (zb_X12_must_0 7 rfl)
theorem dX12_must_8 : decode cX12_must 8 = .ok (.ifCond .ne 16, 3) := dop_154 (zb_X12_must_0 8 rfl) (zb_X12_must_0 9 rfl) (zb_X12_must_0 10 rfl) rfl
theorem dX12_must_11 : decode cX12_must 11 = .ok (.aload_n 0, 1) := dop_42 (zb_X12_must_0 11 rfl)
theorem dX12_must_12 : decode cX12_must 12 = .ok (.iconst 1, 1) := dop_4 (zb_X12_must_0 12 rfl)
theorem dX12_must_13 : decode cX12_must 13 = .ok (.putfield 214, 3) := dop_181 (zb_X12_must_0 13 rfl) (zb_X12_must_0 14 rfl) (zb_X12_must_0 15 rfl) rfl
theorem dX12_must_16 : decode cX12_must 16 = .ok (.aload_n 0, 1) := dop_42 (zb_X12_must_0 16 rfl)
theorem dX12_must_17 : decode cX12_must 17 = .ok (.aload_n 0, 1) := dop_42 (zb_X12_must_0 17 rfl)
theorem dX12_must_18 : decode cX12_must 18 = .ok (.getfield 221, 3) := dop_180 (zb_X12_must_0 18 rfl) (zb_X12_must_0 19 rfl) (zb_X12_must_0 20 rfl) rfl
theorem dX12_must_21 : decode cX12_must 21 = .ok (.putfield 26, 3) := dop_181 (zb_X12_must_0 21 rfl) (zb_X12_must_0 22 rfl) (zb_X12_must_0 23 rfl) rfl
theorem dX12_must_24 : decode cX12_must 24 = .ok (.aload_n 0, 1) := dop_42 (zb_X12_must_0 24 rfl)
theorem dX12_must_25 : decode cX12_must 25 = .ok (.getfield 214, 3) := dop_180 (zb_X12_must_0 25 rfl) (zb_X12_must_0 26 rfl) (zb_X12_must_0 27 rfl) rfl
theorem dX12_must_28 : decode cX12_must 28 = .ok (.ifCond .ne 7, 3) := dop_154 (zb_X12_must_0 28 rfl) (zb_X12_must_0 29 rfl) (zb_X12_must_0 30 rfl) rfl
theorem dX12_must_31 : decode cX12_must 31 = .ok (.aload_n 0, 1) := dop_42 (zb_X12_must_0 31 rfl)
theorem dX12_must_32 : decode cX12_must 32 = .ok (.invokevirtual 218, 3) := dop_182 (zb_X12_must_0 32 rfl) (zb_X12_must_0 33 rfl) (zb_X12_must_0 34 rfl) rfl
theorem dX12_must_35 : decode cX12_must 35 = .ok (.return_, 1) := dop_177 (zb_X12_must_0 35 rfl)
def zw_X12_number_0 : List Nat := [42, 180, 0, 224, 136, 54, 5, 42, 42, 180, 0, 234, 5, 160, 0, 19, 42, 180, 0, 224, 31, 33, 184, 0, 143, 153, 0, 7, 4, 167, 0, 4, 3, 182, 0, 247, 21, 5, 172]
def zt_X12_number_0 : List Nat := zw_X12_number_0 ++ []
theorem ze_X12_number_0 : (dcn cX12_number).drop 0 = zt_X12_number_0 := by decide +kernel
theorem zb_X12_number_0 (j : Nat) {n : Nat} (e : zw_X12_number_0[j]? = some n) : dby cX12_number (0 + j) n := dw_b (t := []) ze_X12_number_0 j e
theorem dX12_number_0 : decode cX12_number 0 = .ok (.aload_n 0, 1) := dop_42 (zb_X12_number_0 0 rfl)
theorem dX12_number_1 : decode cX12_number 1 = .ok (.getfield 224, 3) := dop_180 (zb_X12_number_0 1 rfl) (zb_X12_number_0 2 rfl) (zb_X12_number_0 3 rfl) rfl
theorem dX12_number_4 : decode cX12_number 4 = .ok (.l2i, 1) := dop_136 (zb_X12_number_0 4 rfl)
theorem dX12_number_5 : decode cX12_number 5 = .ok (.istore 5, 2) := dop_54 (zb_X12_number_0 5 rfl) (zb_X12_number_0 6 rfl)
theorem dX12_number_7 : decode cX12_number 7 = .ok (.aload_n 0, 1) := dop_42 (zb_X12_number_0 7 rfl)
theorem dX12_number_8 : decode cX12_number 8 = .ok (.aload_n 0, 1) := dop_42 (zb_X12_number_0 8 rfl)
theorem dX12_number_9 : decode cX12_number 9 = .ok (.getfield 234, 3) := dop_180 (zb_X12_number_0 9 rfl) (zb_X12_number_0 10 rfl) (zb_X12_number_0 11 rfl) rfl
theorem dX12_number_12 : decode cX12_number 12 = .ok (.iconst 2, 1) := dop_5 (zb_X12_number_0 12 rfl)
theorem dX12_number_13 : decode cX12_number 13 = .ok (.if_icmp .ne 19, 3) := dop_160 (zb_X12_number_0 13 rfl) (zb_X12_number_0 14 rfl) (zb_X12_number_0 15 rfl) rfl
theorem dX12_number_16 : decode cX12_number 16 = .ok (.aload_n 0, 1) := dop_42 (zb_X12_number_0 16 rfl)
theorem dX12_number_17 : decode cX12_number 17 = .ok (.getfield 224, 3) := dop_180 (zb_X12_number_0 17 rfl) (zb_X12_number_0 18 rfl) (zb_X12_number_0 19 rfl) rfl
theorem dX12_number_20 : decode cX12_number 20 = .ok (.lload_n 1, 1) := dop_31 (zb_X12_number_0 20 rfl)
theorem dX12_number_21 : decode cX12_number 21 = .ok (.lload_n 3, 1) := dop_33 (zb_X12_number_0 21 rfl)
theorem dX12_number_22 : decode cX12_number 22 = .ok (.invokestatic 143, 3) := dop_184 (zb_X12_number_0 22 rfl) (zb_X12_number_0 23 rfl) (zb_X12_number_0 24 rfl) rfl
theorem dX12_number_25 : decode cX12_number 25 = .ok (.ifCond .eq 7, 3) := dop_153 (zb_X12_number_0 25 rfl) (zb_X12_number_0 26 rfl) (zb_X12_number_0 27 rfl) rfl
theorem dX12_number_28 : decode cX12_number 28 = .ok (.iconst 1, 1) := dop_4 (zb_X12_number_0 28 rfl)
theorem dX12_number_29 : decode cX12_number 29 = .ok (.goto 4, 3) := dop_167 (zb_X12_number_0 29 rfl) (zb_X12_number_0 30 rfl) (zb_X12_number_0 31 rfl) rfl
theorem dX12_number_32 : decode cX12_number 32 = .ok (.iconst 0, 1) := dop_3 (zb_X12_number_0 32 rfl)
theorem dX12_number_33 : decode cX12_number 33 = .ok (.invokevirtual 247, 3) := dop_182 (zb_X12_number_0 33 rfl) (zb_X12_number_0 34 rfl) (zb_X12_number_0 35 rfl) rfl
theorem dX12_number_36 : decode cX12_number 36 = .ok (.iload 5, 2) := dop_21 (zb_X12_number_0 36 rfl) (zb_X12_number_0 37 rfl)
theorem dX12_number_38 : decode cX12_number 38 = .ok (.ireturn, 1) := dop_172 (zb_X12_number_0 38 rfl)
def zw_X12_fault_0 : List Nat := [42, 3, 181, 0, 133, 42, 180, 0, 26, 172]
def zt_X12_fault_0 : List Nat := zw_X12_fault_0 ++ []
theorem ze_X12_fault_0 : (dcn cX12_fault).drop 0 = zt_X12_fault_0 := by decide +kernel
theorem zb_X12_fault_0 (j : Nat) {n : Nat} (e : zw_X12_fault_0[j]? = some n) : dby cX12_fault (0 + j) n := dw_b (t := []) ze_X12_fault_0 j e
theorem dX12_fault_0 : decode cX12_fault 0 = .ok (.aload_n 0, 1) := dop_42 (zb_X12_fault_0 0 rfl)
theorem dX12_fault_1 : decode cX12_fault 1 = .ok (.iconst 0, 1) := dop_3 (zb_X12_fault_0 1 rfl)
theorem dX12_fault_2 : decode cX12_fault 2 = .ok (.putfield 133, 3) := dop_181 (zb_X12_fault_0 2 rfl) (zb_X12_fault_0 3 rfl) (zb_X12_fault_0 4 rfl) rfl
theorem dX12_fault_5 : decode cX12_fault 5 = .ok (.aload_n 0, 1) := dop_42 (zb_X12_fault_0 5 rfl)
theorem dX12_fault_6 : decode cX12_fault 6 = .ok (.getfield 26, 3) := dop_180 (zb_X12_fault_0 6 rfl) (zb_X12_fault_0 7 rfl) (zb_X12_fault_0 8 rfl) rfl
theorem dX12_fault_9 : decode cX12_fault 9 = .ok (.ireturn, 1) := dop_172 (zb_X12_fault_0 9 rfl)
def zw_X12_act_1 : List Nat := [5, 96, 29, 79, 42, 180, 0, 30, 21, 6, 6, 96, 21, 4, 79, 42, 180, 0, 30, 21, 6, 7, 96, 21, 5, 79, 42, 89, 180, 0, 251, 4, 96, 181, 0, 251, 177]
def zt_X12_act_1 : List Nat := zw_X12_act_1 ++ []
def zw_X12_act_0 : List Nat := [42, 180, 0, 214, 153, 0, 4, 177, 8, 42, 180, 0, 251, 104, 54, 6, 42, 180, 0, 30, 21, 6, 27, 79, 42, 180, 0, 30, 21, 6, 4, 96, 28, 79, 42, 180, 0, 30, 21, 6]
def zt_X12_act_0 : List Nat := zw_X12_act_0 ++ zt_X12_act_1
theorem ze_X12_act_0 : (dcn cX12_act).drop 0 = zt_X12_act_0 := by decide +kernel
theorem ze_X12_act_1 : (dcn cX12_act).drop 40 = zt_X12_act_1 := dw_n (wl := zw_X12_act_0) ze_X12_act_0 rfl
theorem zb_X12_act_0 (j : Nat) {n : Nat} (e : zw_X12_act_0[j]? = some n) : dby cX12_act (0 + j) n := dw_b (t := zt_X12_act_1) ze_X12_act_0 j e
theorem dX12_act_0 : decode cX12_act 0 = .ok (.aload_n 0, 1) := dop_42 (zb_X12_act_0 0 rfl)
theorem dX12_act_1 : decode cX12_act 1 = .ok (.getfield 214, 3) := dop_180 (zb_X12_act_0 1 rfl) (zb_X12_act_0 2 rfl) (zb_X12_act_0 3 rfl) rfl
theorem dX12_act_4 : decode cX12_act 4 = .ok (.ifCond .eq 4, 3) := dop_153 (zb_X12_act_0 4 rfl) (zb_X12_act_0 5 rfl) (zb_X12_act_0 6 rfl) rfl
theorem dX12_act_7 : decode cX12_act 7 = .ok (.return_, 1) := dop_177 (zb_X12_act_0 7 rfl)
theorem dX12_act_8 : decode cX12_act 8 = .ok (.iconst 5, 1) := dop_8 (zb_X12_act_0 8 rfl)
theorem dX12_act_9 : decode cX12_act 9 = .ok (.aload_n 0, 1) := dop_42 (zb_X12_act_0 9 rfl)
theorem dX12_act_10 : decode cX12_act 10 = .ok (.getfield 251, 3) := dop_180 (zb_X12_act_0 10 rfl) (zb_X12_act_0 11 rfl) (zb_X12_act_0 12 rfl) rfl
theorem dX12_act_13 : decode cX12_act 13 = .ok (.imul, 1) := dop_104 (zb_X12_act_0 13 rfl)
theorem dX12_act_14 : decode cX12_act 14 = .ok (.istore 6, 2) := dop_54 (zb_X12_act_0 14 rfl) (zb_X12_act_0 15 rfl)
theorem dX12_act_16 : decode cX12_act 16 = .ok (.aload_n 0, 1) := dop_42 (zb_X12_act_0 16 rfl)
theorem dX12_act_17 : decode cX12_act 17 = .ok (.getfield 30, 3) := dop_180 (zb_X12_act_0 17 rfl) (zb_X12_act_0 18 rfl) (zb_X12_act_0 19 rfl) rfl
theorem dX12_act_20 : decode cX12_act 20 = .ok (.iload 6, 2) := dop_21 (zb_X12_act_0 20 rfl) (zb_X12_act_0 21 rfl)
theorem dX12_act_22 : decode cX12_act 22 = .ok (.iload_n 1, 1) := dop_27 (zb_X12_act_0 22 rfl)
theorem dX12_act_23 : decode cX12_act 23 = .ok (.iastore, 1) := dop_79 (zb_X12_act_0 23 rfl)
theorem dX12_act_24 : decode cX12_act 24 = .ok (.aload_n 0, 1) := dop_42 (zb_X12_act_0 24 rfl)
theorem dX12_act_25 : decode cX12_act 25 = .ok (.getfield 30, 3) := dop_180 (zb_X12_act_0 25 rfl) (zb_X12_act_0 26 rfl) (zb_X12_act_0 27 rfl) rfl
theorem dX12_act_28 : decode cX12_act 28 = .ok (.iload 6, 2) := dop_21 (zb_X12_act_0 28 rfl) (zb_X12_act_0 29 rfl)
theorem dX12_act_30 : decode cX12_act 30 = .ok (.iconst 1, 1) := dop_4 (zb_X12_act_0 30 rfl)
theorem dX12_act_31 : decode cX12_act 31 = .ok (.iadd, 1) := dop_96 (zb_X12_act_0 31 rfl)
theorem dX12_act_32 : decode cX12_act 32 = .ok (.iload_n 2, 1) := dop_28 (zb_X12_act_0 32 rfl)
theorem dX12_act_33 : decode cX12_act 33 = .ok (.iastore, 1) := dop_79 (zb_X12_act_0 33 rfl)
theorem dX12_act_34 : decode cX12_act 34 = .ok (.aload_n 0, 1) := dop_42 (zb_X12_act_0 34 rfl)
theorem dX12_act_35 : decode cX12_act 35 = .ok (.getfield 30, 3) := dop_180 (zb_X12_act_0 35 rfl) (zb_X12_act_0 36 rfl) (zb_X12_act_0 37 rfl) rfl
theorem dX12_act_38 : decode cX12_act 38 = .ok (.iload 6, 2) := dop_21 (zb_X12_act_0 38 rfl) (zb_X12_act_0 39 rfl)
theorem zb_X12_act_1 (j : Nat) {n : Nat} (e : zw_X12_act_1[j]? = some n) : dby cX12_act (40 + j) n := dw_b (t := []) ze_X12_act_1 j e
theorem dX12_act_40 : decode cX12_act 40 = .ok (.iconst 2, 1) := dop_5 (zb_X12_act_1 0 rfl)
theorem dX12_act_41 : decode cX12_act 41 = .ok (.iadd, 1) := dop_96 (zb_X12_act_1 1 rfl)
theorem dX12_act_42 : decode cX12_act 42 = .ok (.iload_n 3, 1) := dop_29 (zb_X12_act_1 2 rfl)
theorem dX12_act_43 : decode cX12_act 43 = .ok (.iastore, 1) := dop_79 (zb_X12_act_1 3 rfl)
theorem dX12_act_44 : decode cX12_act 44 = .ok (.aload_n 0, 1) := dop_42 (zb_X12_act_1 4 rfl)
theorem dX12_act_45 : decode cX12_act 45 = .ok (.getfield 30, 3) := dop_180 (zb_X12_act_1 5 rfl) (zb_X12_act_1 6 rfl) (zb_X12_act_1 7 rfl) rfl
theorem dX12_act_48 : decode cX12_act 48 = .ok (.iload 6, 2) := dop_21 (zb_X12_act_1 8 rfl) (zb_X12_act_1 9 rfl)
theorem dX12_act_50 : decode cX12_act 50 = .ok (.iconst 3, 1) := dop_6 (zb_X12_act_1 10 rfl)
theorem dX12_act_51 : decode cX12_act 51 = .ok (.iadd, 1) := dop_96 (zb_X12_act_1 11 rfl)
theorem dX12_act_52 : decode cX12_act 52 = .ok (.iload 4, 2) := dop_21 (zb_X12_act_1 12 rfl) (zb_X12_act_1 13 rfl)
theorem dX12_act_54 : decode cX12_act 54 = .ok (.iastore, 1) := dop_79 (zb_X12_act_1 14 rfl)
theorem dX12_act_55 : decode cX12_act 55 = .ok (.aload_n 0, 1) := dop_42 (zb_X12_act_1 15 rfl)
theorem dX12_act_56 : decode cX12_act 56 = .ok (.getfield 30, 3) := dop_180 (zb_X12_act_1 16 rfl) (zb_X12_act_1 17 rfl) (zb_X12_act_1 18 rfl) rfl
theorem dX12_act_59 : decode cX12_act 59 = .ok (.iload 6, 2) := dop_21 (zb_X12_act_1 19 rfl) (zb_X12_act_1 20 rfl)
theorem dX12_act_61 : decode cX12_act 61 = .ok (.iconst 4, 1) := dop_7 (zb_X12_act_1 21 rfl)
theorem dX12_act_62 : decode cX12_act 62 = .ok (.iadd, 1) := dop_96 (zb_X12_act_1 22 rfl)
theorem dX12_act_63 : decode cX12_act 63 = .ok (.iload 5, 2) := dop_21 (zb_X12_act_1 23 rfl) (zb_X12_act_1 24 rfl)
theorem dX12_act_65 : decode cX12_act 65 = .ok (.iastore, 1) := dop_79 (zb_X12_act_1 25 rfl)
theorem dX12_act_66 : decode cX12_act 66 = .ok (.aload_n 0, 1) := dop_42 (zb_X12_act_1 26 rfl)
theorem dX12_act_67 : decode cX12_act 67 = .ok (.dup, 1) := dop_89 (zb_X12_act_1 27 rfl)
theorem dX12_act_68 : decode cX12_act 68 = .ok (.getfield 251, 3) := dop_180 (zb_X12_act_1 28 rfl) (zb_X12_act_1 29 rfl) (zb_X12_act_1 30 rfl) rfl
theorem dX12_act_71 : decode cX12_act 71 = .ok (.iconst 1, 1) := dop_4 (zb_X12_act_1 31 rfl)
theorem dX12_act_72 : decode cX12_act 72 = .ok (.iadd, 1) := dop_96 (zb_X12_act_1 32 rfl)
theorem dX12_act_73 : decode cX12_act 73 = .ok (.putfield 251, 3) := dop_181 (zb_X12_act_1 33 rfl) (zb_X12_act_1 34 rfl) (zb_X12_act_1 35 rfl) rfl
theorem dX12_act_76 : decode cX12_act 76 = .ok (.return_, 1) := dop_177 (zb_X12_act_1 36 rfl)
def zw_X12_readWeeks_2 : List Nat := [3, 27, 28, 2, 3, 182, 1, 12, 167, 0, 26, 42, 180, 0, 214, 154, 0, 19, 42, 3, 27, 28, 42, 9, 20, 0, 152, 182, 0, 254, 3, 182, 1, 12, 177]
def zt_X12_readWeeks_2 : List Nat := zw_X12_readWeeks_2 ++ []
def zw_X12_readWeeks_1 : List Nat := [20, 0, 154, 182, 0, 254, 61, 42, 42, 20, 1, 8, 182, 1, 4, 182, 0, 247, 42, 180, 0, 214, 154, 0, 29, 42, 20, 1, 10, 182, 1, 4, 153, 0, 19, 42, 182, 0, 218, 42]
def zt_X12_readWeeks_1 : List Nat := zw_X12_readWeeks_1 ++ zt_X12_readWeeks_2
def zw_X12_readWeeks_0 : List Nat := [42, 182, 0, 218, 42, 9, 20, 0, 154, 182, 0, 254, 60, 27, 61, 42, 180, 0, 214, 154, 0, 27, 42, 20, 1, 2, 182, 1, 4, 153, 0, 17, 42, 182, 0, 218, 42, 27, 133]
def zt_X12_readWeeks_0 : List Nat := zw_X12_readWeeks_0 ++ zt_X12_readWeeks_1
theorem ze_X12_readWeeks_0 : (dcn cX12_readWeeks).drop 0 = zt_X12_readWeeks_0 := by decide +kernel
theorem ze_X12_readWeeks_1 : (dcn cX12_readWeeks).drop 39 = zt_X12_readWeeks_1 := dw_n (wl := zw_X12_readWeeks_0) ze_X12_readWeeks_0 rfl
theorem zb_X12_readWeeks_0 (j : Nat) {n : Nat} (e : zw_X12_readWeeks_0[j]? = some n) : dby cX12_readWeeks (0 + j) n := dw_b (t := zt_X12_readWeeks_1) ze_X12_readWeeks_0 j e
theorem dX12_readWeeks_0 : decode cX12_readWeeks 0 = .ok (.aload_n 0, 1) := dop_42 (zb_X12_readWeeks_0 0 rfl)
theorem dX12_readWeeks_1 : decode cX12_readWeeks 1 = .ok (.invokevirtual 218, 3) := dop_182 (zb_X12_readWeeks_0 1 rfl) (zb_X12_readWeeks_0 2 rfl) (zb_X12_readWeeks_0 3 rfl) rfl
theorem dX12_readWeeks_4 : decode cX12_readWeeks 4 = .ok (.aload_n 0, 1) := dop_42 (zb_X12_readWeeks_0 4 rfl)
theorem dX12_readWeeks_5 : decode cX12_readWeeks 5 = .ok (.lconst 0, 1) := dop_9 (zb_X12_readWeeks_0 5 rfl)
theorem dX12_readWeeks_6 : decode cX12_readWeeks 6 = .ok (.ldc2_w 154, 3) := dop_20 (zb_X12_readWeeks_0 6 rfl) (zb_X12_readWeeks_0 7 rfl) (zb_X12_readWeeks_0 8 rfl) rfl
theorem dX12_readWeeks_9 : decode cX12_readWeeks 9 = .ok (.invokevirtual 254, 3) := dop_182 (zb_X12_readWeeks_0 9 rfl) (zb_X12_readWeeks_0 10 rfl) (zb_X12_readWeeks_0 11 rfl) rfl
theorem dX12_readWeeks_12 : decode cX12_readWeeks 12 = .ok (.istore_n 1, 1) := dop_60 (zb_X12_readWeeks_0 12 rfl)
theorem dX12_readWeeks_13 : decode cX12_readWeeks 13 = .ok (.iload_n 1, 1) := dop_27 (zb_X12_readWeeks_0 13 rfl)
theorem dX12_readWeeks_14 : decode cX12_readWeeks 14 = .ok (.istore_n 2, 1) := dop_61 (zb_X12_readWeeks_0 14 rfl)
theorem dX12_readWeeks_15 : decode cX12_readWeeks 15 = .ok (.aload_n 0, 1) := dop_42 (zb_X12_readWeeks_0 15 rfl)
theorem dX12_readWeeks_16 : decode cX12_readWeeks 16 = .ok (.getfield 214, 3) := dop_180 (zb_X12_readWeeks_0 16 rfl) (zb_X12_readWeeks_0 17 rfl) (zb_X12_readWeeks_0 18 rfl) rfl
theorem dX12_readWeeks_19 : decode cX12_readWeeks 19 = .ok (.ifCond .ne 27, 3) := dop_154 (zb_X12_readWeeks_0 19 rfl) (zb_X12_readWeeks_0 20 rfl) (zb_X12_readWeeks_0 21 rfl) rfl
theorem dX12_readWeeks_22 : decode cX12_readWeeks 22 = .ok (.aload_n 0, 1) := dop_42 (zb_X12_readWeeks_0 22 rfl)
theorem dX12_readWeeks_23 : decode cX12_readWeeks 23 = .ok (.ldc2_w 258, 3) := dop_20 (zb_X12_readWeeks_0 23 rfl) (zb_X12_readWeeks_0 24 rfl) (zb_X12_readWeeks_0 25 rfl) rfl
theorem dX12_readWeeks_26 : decode cX12_readWeeks 26 = .ok (.invokevirtual 260, 3) := dop_182 (zb_X12_readWeeks_0 26 rfl) (zb_X12_readWeeks_0 27 rfl) (zb_X12_readWeeks_0 28 rfl) rfl
theorem dX12_readWeeks_29 : decode cX12_readWeeks 29 = .ok (.ifCond .eq 17, 3) := dop_153 (zb_X12_readWeeks_0 29 rfl) (zb_X12_readWeeks_0 30 rfl) (zb_X12_readWeeks_0 31 rfl) rfl
theorem dX12_readWeeks_32 : decode cX12_readWeeks 32 = .ok (.aload_n 0, 1) := dop_42 (zb_X12_readWeeks_0 32 rfl)
theorem dX12_readWeeks_33 : decode cX12_readWeeks 33 = .ok (.invokevirtual 218, 3) := dop_182 (zb_X12_readWeeks_0 33 rfl) (zb_X12_readWeeks_0 34 rfl) (zb_X12_readWeeks_0 35 rfl) rfl
theorem dX12_readWeeks_36 : decode cX12_readWeeks 36 = .ok (.aload_n 0, 1) := dop_42 (zb_X12_readWeeks_0 36 rfl)
theorem dX12_readWeeks_37 : decode cX12_readWeeks 37 = .ok (.iload_n 1, 1) := dop_27 (zb_X12_readWeeks_0 37 rfl)
theorem dX12_readWeeks_38 : decode cX12_readWeeks 38 = .ok (.i2l, 1) := dop_133 (zb_X12_readWeeks_0 38 rfl)
theorem ze_X12_readWeeks_2 : (dcn cX12_readWeeks).drop 79 = zt_X12_readWeeks_2 := dw_n (wl := zw_X12_readWeeks_1) ze_X12_readWeeks_1 rfl
theorem zb_X12_readWeeks_1 (j : Nat) {n : Nat} (e : zw_X12_readWeeks_1[j]? = some n) : dby cX12_readWeeks (39 + j) n := dw_b (t := zt_X12_readWeeks_2) ze_X12_readWeeks_1 j e
theorem dX12_readWeeks_39 : decode cX12_readWeeks 39 = .ok (.ldc2_w 154, 3) := dop_20 (zb_X12_readWeeks_1 0 rfl) (zb_X12_readWeeks_1 1 rfl) (zb_X12_readWeeks_1 2 rfl) rfl
theorem dX12_readWeeks_42 : decode cX12_readWeeks 42 = .ok (.invokevirtual 254, 3) := dop_182 (zb_X12_readWeeks_1 3 rfl) (zb_X12_readWeeks_1 4 rfl) (zb_X12_readWeeks_1 5 rfl) rfl
theorem dX12_readWeeks_45 : decode cX12_readWeeks 45 = .ok (.istore_n 2, 1) := dop_61 (zb_X12_readWeeks_1 6 rfl)
theorem dX12_readWeeks_46 : decode cX12_readWeeks 46 = .ok (.aload_n 0, 1) := dop_42 (zb_X12_readWeeks_1 7 rfl)
theorem dX12_readWeeks_47 : decode cX12_readWeeks 47 = .ok (.aload_n 0, 1) := dop_42 (zb_X12_readWeeks_1 8 rfl)
theorem dX12_readWeeks_48 : decode cX12_readWeeks 48 = .ok (.ldc2_w 264, 3) := dop_20 (zb_X12_readWeeks_1 9 rfl) (zb_X12_readWeeks_1 10 rfl) (zb_X12_readWeeks_1 11 rfl) rfl
theorem dX12_readWeeks_51 : decode cX12_readWeeks 51 = .ok (.invokevirtual 260, 3) := dop_182 (zb_X12_readWeeks_1 12 rfl) (zb_X12_readWeeks_1 13 rfl) (zb_X12_readWeeks_1 14 rfl) rfl
theorem dX12_readWeeks_54 : decode cX12_readWeeks 54 = .ok (.invokevirtual 247, 3) := dop_182 (zb_X12_readWeeks_1 15 rfl) (zb_X12_readWeeks_1 16 rfl) (zb_X12_readWeeks_1 17 rfl) rfl
theorem dX12_readWeeks_57 : decode cX12_readWeeks 57 = .ok (.aload_n 0, 1) := dop_42 (zb_X12_readWeeks_1 18 rfl)
theorem dX12_readWeeks_58 : decode cX12_readWeeks 58 = .ok (.getfield 214, 3) := dop_180 (zb_X12_readWeeks_1 19 rfl) (zb_X12_readWeeks_1 20 rfl) (zb_X12_readWeeks_1 21 rfl) rfl
theorem dX12_readWeeks_61 : decode cX12_readWeeks 61 = .ok (.ifCond .ne 29, 3) := dop_154 (zb_X12_readWeeks_1 22 rfl) (zb_X12_readWeeks_1 23 rfl) (zb_X12_readWeeks_1 24 rfl) rfl
theorem dX12_readWeeks_64 : decode cX12_readWeeks 64 = .ok (.aload_n 0, 1) := dop_42 (zb_X12_readWeeks_1 25 rfl)
theorem dX12_readWeeks_65 : decode cX12_readWeeks 65 = .ok (.ldc2_w 266, 3) := dop_20 (zb_X12_readWeeks_1 26 rfl) (zb_X12_readWeeks_1 27 rfl) (zb_X12_readWeeks_1 28 rfl) rfl
theorem dX12_readWeeks_68 : decode cX12_readWeeks 68 = .ok (.invokevirtual 260, 3) := dop_182 (zb_X12_readWeeks_1 29 rfl) (zb_X12_readWeeks_1 30 rfl) (zb_X12_readWeeks_1 31 rfl) rfl
theorem dX12_readWeeks_71 : decode cX12_readWeeks 71 = .ok (.ifCond .eq 19, 3) := dop_153 (zb_X12_readWeeks_1 32 rfl) (zb_X12_readWeeks_1 33 rfl) (zb_X12_readWeeks_1 34 rfl) rfl
theorem dX12_readWeeks_74 : decode cX12_readWeeks 74 = .ok (.aload_n 0, 1) := dop_42 (zb_X12_readWeeks_1 35 rfl)
theorem dX12_readWeeks_75 : decode cX12_readWeeks 75 = .ok (.invokevirtual 218, 3) := dop_182 (zb_X12_readWeeks_1 36 rfl) (zb_X12_readWeeks_1 37 rfl) (zb_X12_readWeeks_1 38 rfl) rfl
theorem dX12_readWeeks_78 : decode cX12_readWeeks 78 = .ok (.aload_n 0, 1) := dop_42 (zb_X12_readWeeks_1 39 rfl)
theorem zb_X12_readWeeks_2 (j : Nat) {n : Nat} (e : zw_X12_readWeeks_2[j]? = some n) : dby cX12_readWeeks (79 + j) n := dw_b (t := []) ze_X12_readWeeks_2 j e
theorem dX12_readWeeks_79 : decode cX12_readWeeks 79 = .ok (.iconst 0, 1) := dop_3 (zb_X12_readWeeks_2 0 rfl)
theorem dX12_readWeeks_80 : decode cX12_readWeeks 80 = .ok (.iload_n 1, 1) := dop_27 (zb_X12_readWeeks_2 1 rfl)
theorem dX12_readWeeks_81 : decode cX12_readWeeks 81 = .ok (.iload_n 2, 1) := dop_28 (zb_X12_readWeeks_2 2 rfl)
theorem dX12_readWeeks_82 : decode cX12_readWeeks 82 = .ok (.iconst (-1), 1) := dop_2 (zb_X12_readWeeks_2 3 rfl)
theorem dX12_readWeeks_83 : decode cX12_readWeeks 83 = .ok (.iconst 0, 1) := dop_3 (zb_X12_readWeeks_2 4 rfl)
theorem dX12_readWeeks_84 : decode cX12_readWeeks 84 = .ok (.invokevirtual 268, 3) := dop_182 (zb_X12_readWeeks_2 5 rfl) (zb_X12_readWeeks_2 6 rfl) (zb_X12_readWeeks_2 7 rfl) rfl
theorem dX12_readWeeks_87 : decode cX12_readWeeks 87 = .ok (.goto 26, 3) := dop_167 (zb_X12_readWeeks_2 8 rfl) (zb_X12_readWeeks_2 9 rfl) (zb_X12_readWeeks_2 10 rfl) rfl
theorem dX12_readWeeks_90 : decode cX12_readWeeks 90 = .ok (.aload_n 0, 1) := dop_42 (zb_X12_readWeeks_2 11 rfl)
theorem dX12_readWeeks_91 : decode cX12_readWeeks 91 = .ok (.getfield 214, 3) := dop_180 (zb_X12_readWeeks_2 12 rfl) (zb_X12_readWeeks_2 13 rfl) (zb_X12_readWeeks_2 14 rfl) rfl
theorem dX12_readWeeks_94 : decode cX12_readWeeks 94 = .ok (.ifCond .ne 19, 3) := dop_154 (zb_X12_readWeeks_2 15 rfl) (zb_X12_readWeeks_2 16 rfl) (zb_X12_readWeeks_2 17 rfl) rfl
theorem dX12_readWeeks_97 : decode cX12_readWeeks 97 = .ok (.aload_n 0, 1) := dop_42 (zb_X12_readWeeks_2 18 rfl)
theorem dX12_readWeeks_98 : decode cX12_readWeeks 98 = .ok (.iconst 0, 1) := dop_3 (zb_X12_readWeeks_2 19 rfl)
theorem dX12_readWeeks_99 : decode cX12_readWeeks 99 = .ok (.iload_n 1, 1) := dop_27 (zb_X12_readWeeks_2 20 rfl)
theorem dX12_readWeeks_100 : decode cX12_readWeeks 100 = .ok (.iload_n 2, 1) := dop_28 (zb_X12_readWeeks_2 21 rfl)
theorem dX12_readWeeks_101 : decode cX12_readWeeks 101 = .ok (.aload_n 0, 1) := dop_42 (zb_X12_readWeeks_2 22 rfl)
theorem dX12_readWeeks_102 : decode cX12_readWeeks 102 = .ok (.lconst 0, 1) := dop_9 (zb_X12_readWeeks_2 23 rfl)
theorem dX12_readWeeks_103 : decode cX12_readWeeks 103 = .ok (.ldc2_w 152, 3) := dop_20 (zb_X12_readWeeks_2 24 rfl) (zb_X12_readWeeks_2 25 rfl) (zb_X12_readWeeks_2 26 rfl) rfl
theorem dX12_readWeeks_106 : decode cX12_readWeeks 106 = .ok (.invokevirtual 254, 3) := dop_182 (zb_X12_readWeeks_2 27 rfl) (zb_X12_readWeeks_2 28 rfl) (zb_X12_readWeeks_2 29 rfl) rfl
theorem dX12_readWeeks_109 : decode cX12_readWeeks 109 = .ok (.iconst 0, 1) := dop_3 (zb_X12_readWeeks_2 30 rfl)
theorem dX12_readWeeks_110 : decode cX12_readWeeks 110 = .ok (.invokevirtual 268, 3) := dop_182 (zb_X12_readWeeks_2 31 rfl) (zb_X12_readWeeks_2 32 rfl) (zb_X12_readWeeks_2 33 rfl) rfl
theorem dX12_readWeeks_113 : decode cX12_readWeeks 113 = .ok (.return_, 1) := dop_177 (zb_X12_readWeeks_2 34 rfl)
def zw_X12_isDrafted_1 : List Nat := [8, 21, 4, 104, 4, 96, 46, 27, 160, 0, 22, 42, 180, 0, 30, 8, 21, 4, 104, 5, 96, 46, 28, 160, 0, 7, 4, 167, 0, 4, 3, 62, 132, 4, 1, 167, 255, 191, 29, 172]
def zt_X12_isDrafted_1 : List Nat := zw_X12_isDrafted_1 ++ []
def zw_X12_isDrafted_0 : List Nat := [42, 27, 28, 182, 0, 172, 62, 3, 54, 4, 21, 4, 42, 180, 0, 251, 162, 0, 62, 29, 154, 0, 46, 42, 180, 0, 30, 8, 21, 4, 104, 46, 4, 160, 0, 37, 42, 180, 0, 30]
def zt_X12_isDrafted_0 : List Nat := zw_X12_isDrafted_0 ++ zt_X12_isDrafted_1
theorem ze_X12_isDrafted_0 : (dcn cX12_isDrafted).drop 0 = zt_X12_isDrafted_0 := by decide +kernel
theorem ze_X12_isDrafted_1 : (dcn cX12_isDrafted).drop 40 = zt_X12_isDrafted_1 := dw_n (wl := zw_X12_isDrafted_0) ze_X12_isDrafted_0 rfl
theorem zb_X12_isDrafted_0 (j : Nat) {n : Nat} (e : zw_X12_isDrafted_0[j]? = some n) : dby cX12_isDrafted (0 + j) n := dw_b (t := zt_X12_isDrafted_1) ze_X12_isDrafted_0 j e
theorem dX12_isDrafted_0 : decode cX12_isDrafted 0 = .ok (.aload_n 0, 1) := dop_42 (zb_X12_isDrafted_0 0 rfl)
theorem dX12_isDrafted_1 : decode cX12_isDrafted 1 = .ok (.iload_n 1, 1) := dop_27 (zb_X12_isDrafted_0 1 rfl)
theorem dX12_isDrafted_2 : decode cX12_isDrafted 2 = .ok (.iload_n 2, 1) := dop_28 (zb_X12_isDrafted_0 2 rfl)
theorem dX12_isDrafted_3 : decode cX12_isDrafted 3 = .ok (.invokevirtual 172, 3) := dop_182 (zb_X12_isDrafted_0 3 rfl) (zb_X12_isDrafted_0 4 rfl) (zb_X12_isDrafted_0 5 rfl) rfl
theorem dX12_isDrafted_6 : decode cX12_isDrafted 6 = .ok (.istore_n 3, 1) := dop_62 (zb_X12_isDrafted_0 6 rfl)
theorem dX12_isDrafted_7 : decode cX12_isDrafted 7 = .ok (.iconst 0, 1) := dop_3 (zb_X12_isDrafted_0 7 rfl)
theorem dX12_isDrafted_8 : decode cX12_isDrafted 8 = .ok (.istore 4, 2) := dop_54 (zb_X12_isDrafted_0 8 rfl) (zb_X12_isDrafted_0 9 rfl)
theorem dX12_isDrafted_10 : decode cX12_isDrafted 10 = .ok (.iload 4, 2) := dop_21 (zb_X12_isDrafted_0 10 rfl) (zb_X12_isDrafted_0 11 rfl)
theorem dX12_isDrafted_12 : decode cX12_isDrafted 12 = .ok (.aload_n 0, 1) := dop_42 (zb_X12_isDrafted_0 12 rfl)
theorem dX12_isDrafted_13 : decode cX12_isDrafted 13 = .ok (.getfield 251, 3) := dop_180 (zb_X12_isDrafted_0 13 rfl) (zb_X12_isDrafted_0 14 rfl) (zb_X12_isDrafted_0 15 rfl) rfl
theorem dX12_isDrafted_16 : decode cX12_isDrafted 16 = .ok (.if_icmp .ge 62, 3) := dop_162 (zb_X12_isDrafted_0 16 rfl) (zb_X12_isDrafted_0 17 rfl) (zb_X12_isDrafted_0 18 rfl) rfl
theorem dX12_isDrafted_19 : decode cX12_isDrafted 19 = .ok (.iload_n 3, 1) := dop_29 (zb_X12_isDrafted_0 19 rfl)
theorem dX12_isDrafted_20 : decode cX12_isDrafted 20 = .ok (.ifCond .ne 46, 3) := dop_154 (zb_X12_isDrafted_0 20 rfl) (zb_X12_isDrafted_0 21 rfl) (zb_X12_isDrafted_0 22 rfl) rfl
theorem dX12_isDrafted_23 : decode cX12_isDrafted 23 = .ok (.aload_n 0, 1) := dop_42 (zb_X12_isDrafted_0 23 rfl)
theorem dX12_isDrafted_24 : decode cX12_isDrafted 24 = .ok (.getfield 30, 3) := dop_180 (zb_X12_isDrafted_0 24 rfl) (zb_X12_isDrafted_0 25 rfl) (zb_X12_isDrafted_0 26 rfl) rfl
theorem dX12_isDrafted_27 : decode cX12_isDrafted 27 = .ok (.iconst 5, 1) := dop_8 (zb_X12_isDrafted_0 27 rfl)
theorem dX12_isDrafted_28 : decode cX12_isDrafted 28 = .ok (.iload 4, 2) := dop_21 (zb_X12_isDrafted_0 28 rfl) (zb_X12_isDrafted_0 29 rfl)
theorem dX12_isDrafted_30 : decode cX12_isDrafted 30 = .ok (.imul, 1) := dop_104 (zb_X12_isDrafted_0 30 rfl)
theorem dX12_isDrafted_31 : decode cX12_isDrafted 31 = .ok (.iaload, 1) := dop_46 (zb_X12_isDrafted_0 31 rfl)
theorem dX12_isDrafted_32 : decode cX12_isDrafted 32 = .ok (.iconst 1, 1) := dop_4 (zb_X12_isDrafted_0 32 rfl)
theorem dX12_isDrafted_33 : decode cX12_isDrafted 33 = .ok (.if_icmp .ne 37, 3) := dop_160 (zb_X12_isDrafted_0 33 rfl) (zb_X12_isDrafted_0 34 rfl) (zb_X12_isDrafted_0 35 rfl) rfl
theorem dX12_isDrafted_36 : decode cX12_isDrafted 36 = .ok (.aload_n 0, 1) := dop_42 (zb_X12_isDrafted_0 36 rfl)
theorem dX12_isDrafted_37 : decode cX12_isDrafted 37 = .ok (.getfield 30, 3) := dop_180 (zb_X12_isDrafted_0 37 rfl) (zb_X12_isDrafted_0 38 rfl) (zb_X12_isDrafted_0 39 rfl) rfl
theorem zb_X12_isDrafted_1 (j : Nat) {n : Nat} (e : zw_X12_isDrafted_1[j]? = some n) : dby cX12_isDrafted (40 + j) n := dw_b (t := []) ze_X12_isDrafted_1 j e
theorem dX12_isDrafted_40 : decode cX12_isDrafted 40 = .ok (.iconst 5, 1) := dop_8 (zb_X12_isDrafted_1 0 rfl)
theorem dX12_isDrafted_41 : decode cX12_isDrafted 41 = .ok (.iload 4, 2) := dop_21 (zb_X12_isDrafted_1 1 rfl) (zb_X12_isDrafted_1 2 rfl)
theorem dX12_isDrafted_43 : decode cX12_isDrafted 43 = .ok (.imul, 1) := dop_104 (zb_X12_isDrafted_1 3 rfl)
theorem dX12_isDrafted_44 : decode cX12_isDrafted 44 = .ok (.iconst 1, 1) := dop_4 (zb_X12_isDrafted_1 4 rfl)
theorem dX12_isDrafted_45 : decode cX12_isDrafted 45 = .ok (.iadd, 1) := dop_96 (zb_X12_isDrafted_1 5 rfl)
theorem dX12_isDrafted_46 : decode cX12_isDrafted 46 = .ok (.iaload, 1) := dop_46 (zb_X12_isDrafted_1 6 rfl)
theorem dX12_isDrafted_47 : decode cX12_isDrafted 47 = .ok (.iload_n 1, 1) := dop_27 (zb_X12_isDrafted_1 7 rfl)
theorem dX12_isDrafted_48 : decode cX12_isDrafted 48 = .ok (.if_icmp .ne 22, 3) := dop_160 (zb_X12_isDrafted_1 8 rfl) (zb_X12_isDrafted_1 9 rfl) (zb_X12_isDrafted_1 10 rfl) rfl
theorem dX12_isDrafted_51 : decode cX12_isDrafted 51 = .ok (.aload_n 0, 1) := dop_42 (zb_X12_isDrafted_1 11 rfl)
theorem dX12_isDrafted_52 : decode cX12_isDrafted 52 = .ok (.getfield 30, 3) := dop_180 (zb_X12_isDrafted_1 12 rfl) (zb_X12_isDrafted_1 13 rfl) (zb_X12_isDrafted_1 14 rfl) rfl
theorem dX12_isDrafted_55 : decode cX12_isDrafted 55 = .ok (.iconst 5, 1) := dop_8 (zb_X12_isDrafted_1 15 rfl)
theorem dX12_isDrafted_56 : decode cX12_isDrafted 56 = .ok (.iload 4, 2) := dop_21 (zb_X12_isDrafted_1 16 rfl) (zb_X12_isDrafted_1 17 rfl)
theorem dX12_isDrafted_58 : decode cX12_isDrafted 58 = .ok (.imul, 1) := dop_104 (zb_X12_isDrafted_1 18 rfl)
theorem dX12_isDrafted_59 : decode cX12_isDrafted 59 = .ok (.iconst 2, 1) := dop_5 (zb_X12_isDrafted_1 19 rfl)
theorem dX12_isDrafted_60 : decode cX12_isDrafted 60 = .ok (.iadd, 1) := dop_96 (zb_X12_isDrafted_1 20 rfl)
theorem dX12_isDrafted_61 : decode cX12_isDrafted 61 = .ok (.iaload, 1) := dop_46 (zb_X12_isDrafted_1 21 rfl)
theorem dX12_isDrafted_62 : decode cX12_isDrafted 62 = .ok (.iload_n 2, 1) := dop_28 (zb_X12_isDrafted_1 22 rfl)
theorem dX12_isDrafted_63 : decode cX12_isDrafted 63 = .ok (.if_icmp .ne 7, 3) := dop_160 (zb_X12_isDrafted_1 23 rfl) (zb_X12_isDrafted_1 24 rfl) (zb_X12_isDrafted_1 25 rfl) rfl
theorem dX12_isDrafted_66 : decode cX12_isDrafted 66 = .ok (.iconst 1, 1) := dop_4 (zb_X12_isDrafted_1 26 rfl)
theorem dX12_isDrafted_67 : decode cX12_isDrafted 67 = .ok (.goto 4, 3) := dop_167 (zb_X12_isDrafted_1 27 rfl) (zb_X12_isDrafted_1 28 rfl) (zb_X12_isDrafted_1 29 rfl) rfl
theorem dX12_isDrafted_70 : decode cX12_isDrafted 70 = .ok (.iconst 0, 1) := dop_3 (zb_X12_isDrafted_1 30 rfl)
theorem dX12_isDrafted_71 : decode cX12_isDrafted 71 = .ok (.istore_n 3, 1) := dop_62 (zb_X12_isDrafted_1 31 rfl)
theorem dX12_isDrafted_72 : decode cX12_isDrafted 72 = .ok (.iinc 4 1, 3) := dop_132 (zb_X12_isDrafted_1 32 rfl) (zb_X12_isDrafted_1 33 rfl) (zb_X12_isDrafted_1 34 rfl) rfl
theorem dX12_isDrafted_75 : decode cX12_isDrafted 75 = .ok (.goto (-65), 3) := dop_167 (zb_X12_isDrafted_1 35 rfl) (zb_X12_isDrafted_1 36 rfl) (zb_X12_isDrafted_1 37 rfl) rfl
theorem dX12_isDrafted_78 : decode cX12_isDrafted 78 = .ok (.iload_n 3, 1) := dop_29 (zb_X12_isDrafted_1 38 rfl)
theorem dX12_isDrafted_79 : decode cX12_isDrafted 79 = .ok (.ireturn, 1) := dop_172 (zb_X12_isDrafted_1 39 rfl)
def zw_X12_readShorter_3 : List Nat := [4, 96, 181, 1, 21, 42, 4, 28, 29, 3, 3, 182, 1, 12, 177]
def zt_X12_readShorter_3 : List Nat := zw_X12_readShorter_3 ++ []
def zw_X12_readShorter_2 : List Nat := [29, 182, 1, 18, 153, 0, 4, 177, 42, 180, 0, 13, 4, 46, 42, 180, 1, 21, 96, 16, 6, 160, 0, 14, 42, 4, 181, 0, 214, 42, 27, 181, 0, 26, 177, 42, 89, 180, 1, 21]
def zt_X12_readShorter_2 : List Nat := zw_X12_readShorter_2 ++ zt_X12_readShorter_3
def zw_X12_readShorter_1 : List Nat := [5, 160, 0, 26, 42, 180, 0, 224, 9, 20, 0, 152, 184, 0, 143, 153, 0, 12, 29, 28, 159, 0, 7, 4, 167, 0, 4, 3, 182, 0, 247, 42, 180, 0, 214, 154, 0, 12, 42, 28]
def zt_X12_readShorter_1 : List Nat := zw_X12_readShorter_1 ++ zt_X12_readShorter_2
def zw_X12_readShorter_0 : List Nat := [42, 180, 0, 221, 60, 42, 182, 0, 218, 42, 9, 20, 0, 152, 182, 0, 254, 61, 42, 42, 20, 1, 16, 182, 1, 4, 182, 0, 247, 42, 180, 0, 224, 136, 62, 42, 42, 180, 0, 234]
def zt_X12_readShorter_0 : List Nat := zw_X12_readShorter_0 ++ zt_X12_readShorter_1
theorem ze_X12_readShorter_0 : (dcn cX12_readShorter).drop 0 = zt_X12_readShorter_0 := by decide +kernel
theorem ze_X12_readShorter_1 : (dcn cX12_readShorter).drop 40 = zt_X12_readShorter_1 := dw_n (wl := zw_X12_readShorter_0) ze_X12_readShorter_0 rfl
theorem zb_X12_readShorter_0 (j : Nat) {n : Nat} (e : zw_X12_readShorter_0[j]? = some n) : dby cX12_readShorter (0 + j) n := dw_b (t := zt_X12_readShorter_1) ze_X12_readShorter_0 j e
theorem dX12_readShorter_0 : decode cX12_readShorter 0 = .ok (.aload_n 0, 1) := dop_42 (zb_X12_readShorter_0 0 rfl)
theorem dX12_readShorter_1 : decode cX12_readShorter 1 = .ok (.getfield 221, 3) := dop_180 (zb_X12_readShorter_0 1 rfl) (zb_X12_readShorter_0 2 rfl) (zb_X12_readShorter_0 3 rfl) rfl
theorem dX12_readShorter_4 : decode cX12_readShorter 4 = .ok (.istore_n 1, 1) := dop_60 (zb_X12_readShorter_0 4 rfl)
theorem dX12_readShorter_5 : decode cX12_readShorter 5 = .ok (.aload_n 0, 1) := dop_42 (zb_X12_readShorter_0 5 rfl)
theorem dX12_readShorter_6 : decode cX12_readShorter 6 = .ok (.invokevirtual 218, 3) := dop_182 (zb_X12_readShorter_0 6 rfl) (zb_X12_readShorter_0 7 rfl) (zb_X12_readShorter_0 8 rfl) rfl
theorem dX12_readShorter_9 : decode cX12_readShorter 9 = .ok (.aload_n 0, 1) := dop_42 (zb_X12_readShorter_0 9 rfl)
theorem dX12_readShorter_10 : decode cX12_readShorter 10 = .ok (.lconst 0, 1) := dop_9 (zb_X12_readShorter_0 10 rfl)
theorem dX12_readShorter_11 : decode cX12_readShorter 11 = .ok (.ldc2_w 152, 3) := dop_20 (zb_X12_readShorter_0 11 rfl) (zb_X12_readShorter_0 12 rfl) (zb_X12_readShorter_0 13 rfl) rfl
theorem dX12_readShorter_14 : decode cX12_readShorter 14 = .ok (.invokevirtual 254, 3) := dop_182 (zb_X12_readShorter_0 14 rfl) (zb_X12_readShorter_0 15 rfl) (zb_X12_readShorter_0 16 rfl) rfl
theorem dX12_readShorter_17 : decode cX12_readShorter 17 = .ok (.istore_n 2, 1) := dop_61 (zb_X12_readShorter_0 17 rfl)
theorem dX12_readShorter_18 : decode cX12_readShorter 18 = .ok (.aload_n 0, 1) := dop_42 (zb_X12_readShorter_0 18 rfl)
theorem dX12_readShorter_19 : decode cX12_readShorter 19 = .ok (.aload_n 0, 1) := dop_42 (zb_X12_readShorter_0 19 rfl)
theorem dX12_readShorter_20 : decode cX12_readShorter 20 = .ok (.ldc2_w 272, 3) := dop_20 (zb_X12_readShorter_0 20 rfl) (zb_X12_readShorter_0 21 rfl) (zb_X12_readShorter_0 22 rfl) rfl
theorem dX12_readShorter_23 : decode cX12_readShorter 23 = .ok (.invokevirtual 260, 3) := dop_182 (zb_X12_readShorter_0 23 rfl) (zb_X12_readShorter_0 24 rfl) (zb_X12_readShorter_0 25 rfl) rfl
theorem dX12_readShorter_26 : decode cX12_readShorter 26 = .ok (.invokevirtual 247, 3) := dop_182 (zb_X12_readShorter_0 26 rfl) (zb_X12_readShorter_0 27 rfl) (zb_X12_readShorter_0 28 rfl) rfl
theorem dX12_readShorter_29 : decode cX12_readShorter 29 = .ok (.aload_n 0, 1) := dop_42 (zb_X12_readShorter_0 29 rfl)
theorem dX12_readShorter_30 : decode cX12_readShorter 30 = .ok (.getfield 224, 3) := dop_180 (zb_X12_readShorter_0 30 rfl) (zb_X12_readShorter_0 31 rfl) (zb_X12_readShorter_0 32 rfl) rfl
theorem dX12_readShorter_33 : decode cX12_readShorter 33 = .ok (.l2i, 1) := dop_136 (zb_X12_readShorter_0 33 rfl)
theorem dX12_readShorter_34 : decode cX12_readShorter 34 = .ok (.istore_n 3, 1) := dop_62 (zb_X12_readShorter_0 34 rfl)
theorem dX12_readShorter_35 : decode cX12_readShorter 35 = .ok (.aload_n 0, 1) := dop_42 (zb_X12_readShorter_0 35 rfl)
theorem dX12_readShorter_36 : decode cX12_readShorter 36 = .ok (.aload_n 0, 1) := dop_42 (zb_X12_readShorter_0 36 rfl)
theorem dX12_readShorter_37 : decode cX12_readShorter 37 = .ok (.getfield 234, 3) := dop_180 (zb_X12_readShorter_0 37 rfl) (zb_X12_readShorter_0 38 rfl) (zb_X12_readShorter_0 39 rfl) rfl
theorem ze_X12_readShorter_2 : (dcn cX12_readShorter).drop 80 = zt_X12_readShorter_2 := dw_n (wl := zw_X12_readShorter_1) ze_X12_readShorter_1 rfl
theorem zb_X12_readShorter_1 (j : Nat) {n : Nat} (e : zw_X12_readShorter_1[j]? = some n) : dby cX12_readShorter (40 + j) n := dw_b (t := zt_X12_readShorter_2) ze_X12_readShorter_1 j e
theorem dX12_readShorter_40 : decode cX12_readShorter 40 = .ok (.iconst 2, 1) := dop_5 (zb_X12_readShorter_1 0 rfl)
theorem dX12_readShorter_41 : decode cX12_readShorter 41 = .ok (.if_icmp .ne 26, 3) := dop_160 (zb_X12_readShorter_1 1 rfl) (zb_X12_readShorter_1 2 rfl) (zb_X12_readShorter_1 3 rfl) rfl
theorem dX12_readShorter_44 : decode cX12_readShorter 44 = .ok (.aload_n 0, 1) := dop_42 (zb_X12_readShorter_1 4 rfl)
theorem dX12_readShorter_45 : decode cX12_readShorter 45 = .ok (.getfield 224, 3) := dop_180 (zb_X12_readShorter_1 5 rfl) (zb_X12_readShorter_1 6 rfl) (zb_X12_readShorter_1 7 rfl) rfl
theorem dX12_readShorter_48 : decode cX12_readShorter 48 = .ok (.lconst 0, 1) := dop_9 (zb_X12_readShorter_1 8 rfl)
theorem dX12_readShorter_49 : decode cX12_readShorter 49 = .ok (.ldc2_w 152, 3) := dop_20 (zb_X12_readShorter_1 9 rfl) (zb_X12_readShorter_1 10 rfl) (zb_X12_readShorter_1 11 rfl) rfl
theorem dX12_readShorter_52 : decode cX12_readShorter 52 = .ok (.invokestatic 143, 3) := dop_184 (zb_X12_readShorter_1 12 rfl) (zb_X12_readShorter_1 13 rfl) (zb_X12_readShorter_1 14 rfl) rfl
theorem dX12_readShorter_55 : decode cX12_readShorter 55 = .ok (.ifCond .eq 12, 3) := dop_153 (zb_X12_readShorter_1 15 rfl) (zb_X12_readShorter_1 16 rfl) (zb_X12_readShorter_1 17 rfl) rfl
theorem dX12_readShorter_58 : decode cX12_readShorter 58 = .ok (.iload_n 3, 1) := dop_29 (zb_X12_readShorter_1 18 rfl)
theorem dX12_readShorter_59 : decode cX12_readShorter 59 = .ok (.iload_n 2, 1) := dop_28 (zb_X12_readShorter_1 19 rfl)
theorem dX12_readShorter_60 : decode cX12_readShorter 60 = .ok (.if_icmp .eq 7, 3) := dop_159 (zb_X12_readShorter_1 20 rfl) (zb_X12_readShorter_1 21 rfl) (zb_X12_readShorter_1 22 rfl) rfl
theorem dX12_readShorter_63 : decode cX12_readShorter 63 = .ok (.iconst 1, 1) := dop_4 (zb_X12_readShorter_1 23 rfl)
theorem dX12_readShorter_64 : decode cX12_readShorter 64 = .ok (.goto 4, 3) := dop_167 (zb_X12_readShorter_1 24 rfl) (zb_X12_readShorter_1 25 rfl) (zb_X12_readShorter_1 26 rfl) rfl
theorem dX12_readShorter_67 : decode cX12_readShorter 67 = .ok (.iconst 0, 1) := dop_3 (zb_X12_readShorter_1 27 rfl)
theorem dX12_readShorter_68 : decode cX12_readShorter 68 = .ok (.invokevirtual 247, 3) := dop_182 (zb_X12_readShorter_1 28 rfl) (zb_X12_readShorter_1 29 rfl) (zb_X12_readShorter_1 30 rfl) rfl
theorem dX12_readShorter_71 : decode cX12_readShorter 71 = .ok (.aload_n 0, 1) := dop_42 (zb_X12_readShorter_1 31 rfl)
theorem dX12_readShorter_72 : decode cX12_readShorter 72 = .ok (.getfield 214, 3) := dop_180 (zb_X12_readShorter_1 32 rfl) (zb_X12_readShorter_1 33 rfl) (zb_X12_readShorter_1 34 rfl) rfl
theorem dX12_readShorter_75 : decode cX12_readShorter 75 = .ok (.ifCond .ne 12, 3) := dop_154 (zb_X12_readShorter_1 35 rfl) (zb_X12_readShorter_1 36 rfl) (zb_X12_readShorter_1 37 rfl) rfl
theorem dX12_readShorter_78 : decode cX12_readShorter 78 = .ok (.aload_n 0, 1) := dop_42 (zb_X12_readShorter_1 38 rfl)
theorem dX12_readShorter_79 : decode cX12_readShorter 79 = .ok (.iload_n 2, 1) := dop_28 (zb_X12_readShorter_1 39 rfl)
theorem ze_X12_readShorter_3 : (dcn cX12_readShorter).drop 120 = zt_X12_readShorter_3 := dw_n (wl := zw_X12_readShorter_2) ze_X12_readShorter_2 rfl
theorem zb_X12_readShorter_2 (j : Nat) {n : Nat} (e : zw_X12_readShorter_2[j]? = some n) : dby cX12_readShorter (80 + j) n := dw_b (t := zt_X12_readShorter_3) ze_X12_readShorter_2 j e
theorem dX12_readShorter_80 : decode cX12_readShorter 80 = .ok (.iload_n 3, 1) := dop_29 (zb_X12_readShorter_2 0 rfl)
theorem dX12_readShorter_81 : decode cX12_readShorter 81 = .ok (.invokevirtual 274, 3) := dop_182 (zb_X12_readShorter_2 1 rfl) (zb_X12_readShorter_2 2 rfl) (zb_X12_readShorter_2 3 rfl) rfl
theorem dX12_readShorter_84 : decode cX12_readShorter 84 = .ok (.ifCond .eq 4, 3) := dop_153 (zb_X12_readShorter_2 4 rfl) (zb_X12_readShorter_2 5 rfl) (zb_X12_readShorter_2 6 rfl) rfl
theorem dX12_readShorter_87 : decode cX12_readShorter 87 = .ok (.return_, 1) := dop_177 (zb_X12_readShorter_2 7 rfl)
theorem dX12_readShorter_88 : decode cX12_readShorter 88 = .ok (.aload_n 0, 1) := dop_42 (zb_X12_readShorter_2 8 rfl)
theorem dX12_readShorter_89 : decode cX12_readShorter 89 = .ok (.getfield 13, 3) := dop_180 (zb_X12_readShorter_2 9 rfl) (zb_X12_readShorter_2 10 rfl) (zb_X12_readShorter_2 11 rfl) rfl
theorem dX12_readShorter_92 : decode cX12_readShorter 92 = .ok (.iconst 1, 1) := dop_4 (zb_X12_readShorter_2 12 rfl)
theorem dX12_readShorter_93 : decode cX12_readShorter 93 = .ok (.iaload, 1) := dop_46 (zb_X12_readShorter_2 13 rfl)
theorem dX12_readShorter_94 : decode cX12_readShorter 94 = .ok (.aload_n 0, 1) := dop_42 (zb_X12_readShorter_2 14 rfl)
theorem dX12_readShorter_95 : decode cX12_readShorter 95 = .ok (.getfield 277, 3) := dop_180 (zb_X12_readShorter_2 15 rfl) (zb_X12_readShorter_2 16 rfl) (zb_X12_readShorter_2 17 rfl) rfl
theorem dX12_readShorter_98 : decode cX12_readShorter 98 = .ok (.iadd, 1) := dop_96 (zb_X12_readShorter_2 18 rfl)
theorem dX12_readShorter_99 : decode cX12_readShorter 99 = .ok (.bipush 6, 2) := dop_16 (zb_X12_readShorter_2 19 rfl) (zb_X12_readShorter_2 20 rfl) rfl
theorem dX12_readShorter_101 : decode cX12_readShorter 101 = .ok (.if_icmp .ne 14, 3) := dop_160 (zb_X12_readShorter_2 21 rfl) (zb_X12_readShorter_2 22 rfl) (zb_X12_readShorter_2 23 rfl) rfl
theorem dX12_readShorter_104 : decode cX12_readShorter 104 = .ok (.aload_n 0, 1) := dop_42 (zb_X12_readShorter_2 24 rfl)
theorem dX12_readShorter_105 : decode cX12_readShorter 105 = .ok (.iconst 1, 1) := dop_4 (zb_X12_readShorter_2 25 rfl)
theorem dX12_readShorter_106 : decode cX12_readShorter 106 = .ok (.putfield 214, 3) := dop_181 (zb_X12_readShorter_2 26 rfl) (zb_X12_readShorter_2 27 rfl) (zb_X12_readShorter_2 28 rfl) rfl
theorem dX12_readShorter_109 : decode cX12_readShorter 109 = .ok (.aload_n 0, 1) := dop_42 (zb_X12_readShorter_2 29 rfl)
theorem dX12_readShorter_110 : decode cX12_readShorter 110 = .ok (.iload_n 1, 1) := dop_27 (zb_X12_readShorter_2 30 rfl)
theorem dX12_readShorter_111 : decode cX12_readShorter 111 = .ok (.putfield 26, 3) := dop_181 (zb_X12_readShorter_2 31 rfl) (zb_X12_readShorter_2 32 rfl) (zb_X12_readShorter_2 33 rfl) rfl
theorem dX12_readShorter_114 : decode cX12_readShorter 114 = .ok (.return_, 1) := dop_177 (zb_X12_readShorter_2 34 rfl)
theorem dX12_readShorter_115 : decode cX12_readShorter 115 = .ok (.aload_n 0, 1) := dop_42 (zb_X12_readShorter_2 35 rfl)
theorem dX12_readShorter_116 : decode cX12_readShorter 116 = .ok (.dup, 1) := dop_89 (zb_X12_readShorter_2 36 rfl)
theorem dX12_readShorter_117 : decode cX12_readShorter 117 = .ok (.getfield 277, 3) := dop_180 (zb_X12_readShorter_2 37 rfl) (zb_X12_readShorter_2 38 rfl) (zb_X12_readShorter_2 39 rfl) rfl
theorem zb_X12_readShorter_3 (j : Nat) {n : Nat} (e : zw_X12_readShorter_3[j]? = some n) : dby cX12_readShorter (120 + j) n := dw_b (t := []) ze_X12_readShorter_3 j e
theorem dX12_readShorter_120 : decode cX12_readShorter 120 = .ok (.iconst 1, 1) := dop_4 (zb_X12_readShorter_3 0 rfl)
theorem dX12_readShorter_121 : decode cX12_readShorter 121 = .ok (.iadd, 1) := dop_96 (zb_X12_readShorter_3 1 rfl)
theorem dX12_readShorter_122 : decode cX12_readShorter 122 = .ok (.putfield 277, 3) := dop_181 (zb_X12_readShorter_3 2 rfl) (zb_X12_readShorter_3 3 rfl) (zb_X12_readShorter_3 4 rfl) rfl
theorem dX12_readShorter_125 : decode cX12_readShorter 125 = .ok (.aload_n 0, 1) := dop_42 (zb_X12_readShorter_3 5 rfl)
theorem dX12_readShorter_126 : decode cX12_readShorter 126 = .ok (.iconst 1, 1) := dop_4 (zb_X12_readShorter_3 6 rfl)
theorem dX12_readShorter_127 : decode cX12_readShorter 127 = .ok (.iload_n 2, 1) := dop_28 (zb_X12_readShorter_3 7 rfl)
theorem dX12_readShorter_128 : decode cX12_readShorter 128 = .ok (.iload_n 3, 1) := dop_29 (zb_X12_readShorter_3 8 rfl)
theorem dX12_readShorter_129 : decode cX12_readShorter 129 = .ok (.iconst 0, 1) := dop_3 (zb_X12_readShorter_3 9 rfl)
theorem dX12_readShorter_130 : decode cX12_readShorter 130 = .ok (.iconst 0, 1) := dop_3 (zb_X12_readShorter_3 10 rfl)
theorem dX12_readShorter_131 : decode cX12_readShorter 131 = .ok (.invokevirtual 268, 3) := dop_182 (zb_X12_readShorter_3 11 rfl) (zb_X12_readShorter_3 12 rfl) (zb_X12_readShorter_3 13 rfl) rfl
theorem dX12_readShorter_134 : decode cX12_readShorter 134 = .ok (.return_, 1) := dop_177 (zb_X12_readShorter_3 14 rfl)
def zw_X12_readMeasure_3 : List Nat := [153, 0, 7, 42, 182, 0, 218, 42, 89, 180, 1, 26, 4, 96, 181, 1, 26, 42, 6, 27, 28, 29, 21, 4, 182, 1, 12, 177]
def zt_X12_readMeasure_3 : List Nat := zw_X12_readMeasure_3 ++ []
def zw_X12_readMeasure_2 : List Nat := [182, 1, 4, 153, 0, 7, 4, 167, 0, 18, 42, 20, 1, 33, 182, 1, 4, 153, 0, 7, 5, 167, 0, 4, 3, 54, 4, 21, 4, 157, 0, 13, 42, 20, 1, 35, 182, 1, 4]
def zt_X12_readMeasure_2 : List Nat := zw_X12_readMeasure_2 ++ zt_X12_readMeasure_3
def zw_X12_readMeasure_1 : List Nat := [182, 0, 254, 61, 42, 42, 20, 1, 29, 182, 1, 4, 182, 0, 247, 42, 10, 20, 0, 180, 182, 0, 254, 62, 3, 54, 4, 42, 180, 0, 214, 154, 0, 63, 42, 20, 1, 31]
def zt_X12_readMeasure_1 : List Nat := zw_X12_readMeasure_1 ++ zt_X12_readMeasure_2
def zw_X12_readMeasure_0 : List Nat := [42, 42, 20, 1, 24, 182, 1, 4, 153, 0, 23, 42, 180, 0, 13, 3, 46, 42, 180, 1, 26, 96, 16, 24, 162, 0, 7, 4, 167, 0, 4, 3, 182, 0, 247, 42, 9, 20, 0, 154]
def zt_X12_readMeasure_0 : List Nat := zw_X12_readMeasure_0 ++ zt_X12_readMeasure_1
theorem ze_X12_readMeasure_0 : (dcn cX12_readMeasure).drop 0 = zt_X12_readMeasure_0 := by decide +kernel
theorem ze_X12_readMeasure_1 : (dcn cX12_readMeasure).drop 40 = zt_X12_readMeasure_1 := dw_n (wl := zw_X12_readMeasure_0) ze_X12_readMeasure_0 rfl
theorem zb_X12_readMeasure_0 (j : Nat) {n : Nat} (e : zw_X12_readMeasure_0[j]? = some n) : dby cX12_readMeasure (0 + j) n := dw_b (t := zt_X12_readMeasure_1) ze_X12_readMeasure_0 j e
theorem dX12_readMeasure_0 : decode cX12_readMeasure 0 = .ok (.aload_n 0, 1) := dop_42 (zb_X12_readMeasure_0 0 rfl)
theorem dX12_readMeasure_1 : decode cX12_readMeasure 1 = .ok (.aload_n 0, 1) := dop_42 (zb_X12_readMeasure_0 1 rfl)
theorem dX12_readMeasure_2 : decode cX12_readMeasure 2 = .ok (.ldc2_w 280, 3) := dop_20 (zb_X12_readMeasure_0 2 rfl) (zb_X12_readMeasure_0 3 rfl) (zb_X12_readMeasure_0 4 rfl) rfl
theorem dX12_readMeasure_5 : decode cX12_readMeasure 5 = .ok (.invokevirtual 260, 3) := dop_182 (zb_X12_readMeasure_0 5 rfl) (zb_X12_readMeasure_0 6 rfl) (zb_X12_readMeasure_0 7 rfl) rfl
theorem dX12_readMeasure_8 : decode cX12_readMeasure 8 = .ok (.ifCond .eq 23, 3) := dop_153 (zb_X12_readMeasure_0 8 rfl) (zb_X12_readMeasure_0 9 rfl) (zb_X12_readMeasure_0 10 rfl) rfl
theorem dX12_readMeasure_11 : decode cX12_readMeasure 11 = .ok (.aload_n 0, 1) := dop_42 (zb_X12_readMeasure_0 11 rfl)
theorem dX12_readMeasure_12 : decode cX12_readMeasure 12 = .ok (.getfield 13, 3) := dop_180 (zb_X12_readMeasure_0 12 rfl) (zb_X12_readMeasure_0 13 rfl) (zb_X12_readMeasure_0 14 rfl) rfl
theorem dX12_readMeasure_15 : decode cX12_readMeasure 15 = .ok (.iconst 0, 1) := dop_3 (zb_X12_readMeasure_0 15 rfl)
theorem dX12_readMeasure_16 : decode cX12_readMeasure 16 = .ok (.iaload, 1) := dop_46 (zb_X12_readMeasure_0 16 rfl)
theorem dX12_readMeasure_17 : decode cX12_readMeasure 17 = .ok (.aload_n 0, 1) := dop_42 (zb_X12_readMeasure_0 17 rfl)
theorem dX12_readMeasure_18 : decode cX12_readMeasure 18 = .ok (.getfield 282, 3) := dop_180 (zb_X12_readMeasure_0 18 rfl) (zb_X12_readMeasure_0 19 rfl) (zb_X12_readMeasure_0 20 rfl) rfl
theorem dX12_readMeasure_21 : decode cX12_readMeasure 21 = .ok (.iadd, 1) := dop_96 (zb_X12_readMeasure_0 21 rfl)
theorem dX12_readMeasure_22 : decode cX12_readMeasure 22 = .ok (.bipush 24, 2) := dop_16 (zb_X12_readMeasure_0 22 rfl) (zb_X12_readMeasure_0 23 rfl) rfl
theorem dX12_readMeasure_24 : decode cX12_readMeasure 24 = .ok (.if_icmp .ge 7, 3) := dop_162 (zb_X12_readMeasure_0 24 rfl) (zb_X12_readMeasure_0 25 rfl) (zb_X12_readMeasure_0 26 rfl) rfl
theorem dX12_readMeasure_27 : decode cX12_readMeasure 27 = .ok (.iconst 1, 1) := dop_4 (zb_X12_readMeasure_0 27 rfl)
theorem dX12_readMeasure_28 : decode cX12_readMeasure 28 = .ok (.goto 4, 3) := dop_167 (zb_X12_readMeasure_0 28 rfl) (zb_X12_readMeasure_0 29 rfl) (zb_X12_readMeasure_0 30 rfl) rfl
theorem dX12_readMeasure_31 : decode cX12_readMeasure 31 = .ok (.iconst 0, 1) := dop_3 (zb_X12_readMeasure_0 31 rfl)
theorem dX12_readMeasure_32 : decode cX12_readMeasure 32 = .ok (.invokevirtual 247, 3) := dop_182 (zb_X12_readMeasure_0 32 rfl) (zb_X12_readMeasure_0 33 rfl) (zb_X12_readMeasure_0 34 rfl) rfl
theorem dX12_readMeasure_35 : decode cX12_readMeasure 35 = .ok (.aload_n 0, 1) := dop_42 (zb_X12_readMeasure_0 35 rfl)
theorem dX12_readMeasure_36 : decode cX12_readMeasure 36 = .ok (.lconst 0, 1) := dop_9 (zb_X12_readMeasure_0 36 rfl)
theorem dX12_readMeasure_37 : decode cX12_readMeasure 37 = .ok (.ldc2_w 154, 3) := dop_20 (zb_X12_readMeasure_0 37 rfl) (zb_X12_readMeasure_0 38 rfl) (zb_X12_readMeasure_0 39 rfl) rfl
theorem ze_X12_readMeasure_2 : (dcn cX12_readMeasure).drop 78 = zt_X12_readMeasure_2 := dw_n (wl := zw_X12_readMeasure_1) ze_X12_readMeasure_1 rfl
theorem zb_X12_readMeasure_1 (j : Nat) {n : Nat} (e : zw_X12_readMeasure_1[j]? = some n) : dby cX12_readMeasure (40 + j) n := dw_b (t := zt_X12_readMeasure_2) ze_X12_readMeasure_1 j e
theorem dX12_readMeasure_40 : decode cX12_readMeasure 40 = .ok (.invokevirtual 254, 3) := dop_182 (zb_X12_readMeasure_1 0 rfl) (zb_X12_readMeasure_1 1 rfl) (zb_X12_readMeasure_1 2 rfl) rfl
theorem dX12_readMeasure_43 : decode cX12_readMeasure 43 = .ok (.istore_n 2, 1) := dop_61 (zb_X12_readMeasure_1 3 rfl)
theorem dX12_readMeasure_44 : decode cX12_readMeasure 44 = .ok (.aload_n 0, 1) := dop_42 (zb_X12_readMeasure_1 4 rfl)
theorem dX12_readMeasure_45 : decode cX12_readMeasure 45 = .ok (.aload_n 0, 1) := dop_42 (zb_X12_readMeasure_1 5 rfl)
theorem dX12_readMeasure_46 : decode cX12_readMeasure 46 = .ok (.ldc2_w 285, 3) := dop_20 (zb_X12_readMeasure_1 6 rfl) (zb_X12_readMeasure_1 7 rfl) (zb_X12_readMeasure_1 8 rfl) rfl
theorem dX12_readMeasure_49 : decode cX12_readMeasure 49 = .ok (.invokevirtual 260, 3) := dop_182 (zb_X12_readMeasure_1 9 rfl) (zb_X12_readMeasure_1 10 rfl) (zb_X12_readMeasure_1 11 rfl) rfl
theorem dX12_readMeasure_52 : decode cX12_readMeasure 52 = .ok (.invokevirtual 247, 3) := dop_182 (zb_X12_readMeasure_1 12 rfl) (zb_X12_readMeasure_1 13 rfl) (zb_X12_readMeasure_1 14 rfl) rfl
theorem dX12_readMeasure_55 : decode cX12_readMeasure 55 = .ok (.aload_n 0, 1) := dop_42 (zb_X12_readMeasure_1 15 rfl)
theorem dX12_readMeasure_56 : decode cX12_readMeasure 56 = .ok (.lconst 1, 1) := dop_10 (zb_X12_readMeasure_1 16 rfl)
theorem dX12_readMeasure_57 : decode cX12_readMeasure 57 = .ok (.ldc2_w 180, 3) := dop_20 (zb_X12_readMeasure_1 17 rfl) (zb_X12_readMeasure_1 18 rfl) (zb_X12_readMeasure_1 19 rfl) rfl
theorem dX12_readMeasure_60 : decode cX12_readMeasure 60 = .ok (.invokevirtual 254, 3) := dop_182 (zb_X12_readMeasure_1 20 rfl) (zb_X12_readMeasure_1 21 rfl) (zb_X12_readMeasure_1 22 rfl) rfl
theorem dX12_readMeasure_63 : decode cX12_readMeasure 63 = .ok (.istore_n 3, 1) := dop_62 (zb_X12_readMeasure_1 23 rfl)
theorem dX12_readMeasure_64 : decode cX12_readMeasure 64 = .ok (.iconst 0, 1) := dop_3 (zb_X12_readMeasure_1 24 rfl)
theorem dX12_readMeasure_65 : decode cX12_readMeasure 65 = .ok (.istore 4, 2) := dop_54 (zb_X12_readMeasure_1 25 rfl) (zb_X12_readMeasure_1 26 rfl)
theorem dX12_readMeasure_67 : decode cX12_readMeasure 67 = .ok (.aload_n 0, 1) := dop_42 (zb_X12_readMeasure_1 27 rfl)
theorem dX12_readMeasure_68 : decode cX12_readMeasure 68 = .ok (.getfield 214, 3) := dop_180 (zb_X12_readMeasure_1 28 rfl) (zb_X12_readMeasure_1 29 rfl) (zb_X12_readMeasure_1 30 rfl) rfl
theorem dX12_readMeasure_71 : decode cX12_readMeasure 71 = .ok (.ifCond .ne 63, 3) := dop_154 (zb_X12_readMeasure_1 31 rfl) (zb_X12_readMeasure_1 32 rfl) (zb_X12_readMeasure_1 33 rfl) rfl
theorem dX12_readMeasure_74 : decode cX12_readMeasure 74 = .ok (.aload_n 0, 1) := dop_42 (zb_X12_readMeasure_1 34 rfl)
theorem dX12_readMeasure_75 : decode cX12_readMeasure 75 = .ok (.ldc2_w 287, 3) := dop_20 (zb_X12_readMeasure_1 35 rfl) (zb_X12_readMeasure_1 36 rfl) (zb_X12_readMeasure_1 37 rfl) rfl
theorem ze_X12_readMeasure_3 : (dcn cX12_readMeasure).drop 117 = zt_X12_readMeasure_3 := dw_n (wl := zw_X12_readMeasure_2) ze_X12_readMeasure_2 rfl
theorem zb_X12_readMeasure_2 (j : Nat) {n : Nat} (e : zw_X12_readMeasure_2[j]? = some n) : dby cX12_readMeasure (78 + j) n := dw_b (t := zt_X12_readMeasure_3) ze_X12_readMeasure_2 j e
theorem dX12_readMeasure_78 : decode cX12_readMeasure 78 = .ok (.invokevirtual 260, 3) := dop_182 (zb_X12_readMeasure_2 0 rfl) (zb_X12_readMeasure_2 1 rfl) (zb_X12_readMeasure_2 2 rfl) rfl
theorem dX12_readMeasure_81 : decode cX12_readMeasure 81 = .ok (.ifCond .eq 7, 3) := dop_153 (zb_X12_readMeasure_2 3 rfl) (zb_X12_readMeasure_2 4 rfl) (zb_X12_readMeasure_2 5 rfl) rfl
theorem dX12_readMeasure_84 : decode cX12_readMeasure 84 = .ok (.iconst 1, 1) := dop_4 (zb_X12_readMeasure_2 6 rfl)
theorem dX12_readMeasure_85 : decode cX12_readMeasure 85 = .ok (.goto 18, 3) := dop_167 (zb_X12_readMeasure_2 7 rfl) (zb_X12_readMeasure_2 8 rfl) (zb_X12_readMeasure_2 9 rfl) rfl
theorem dX12_readMeasure_88 : decode cX12_readMeasure 88 = .ok (.aload_n 0, 1) := dop_42 (zb_X12_readMeasure_2 10 rfl)
theorem dX12_readMeasure_89 : decode cX12_readMeasure 89 = .ok (.ldc2_w 289, 3) := dop_20 (zb_X12_readMeasure_2 11 rfl) (zb_X12_readMeasure_2 12 rfl) (zb_X12_readMeasure_2 13 rfl) rfl
theorem dX12_readMeasure_92 : decode cX12_readMeasure 92 = .ok (.invokevirtual 260, 3) := dop_182 (zb_X12_readMeasure_2 14 rfl) (zb_X12_readMeasure_2 15 rfl) (zb_X12_readMeasure_2 16 rfl) rfl
theorem dX12_readMeasure_95 : decode cX12_readMeasure 95 = .ok (.ifCond .eq 7, 3) := dop_153 (zb_X12_readMeasure_2 17 rfl) (zb_X12_readMeasure_2 18 rfl) (zb_X12_readMeasure_2 19 rfl) rfl
theorem dX12_readMeasure_98 : decode cX12_readMeasure 98 = .ok (.iconst 2, 1) := dop_5 (zb_X12_readMeasure_2 20 rfl)
theorem dX12_readMeasure_99 : decode cX12_readMeasure 99 = .ok (.goto 4, 3) := dop_167 (zb_X12_readMeasure_2 21 rfl) (zb_X12_readMeasure_2 22 rfl) (zb_X12_readMeasure_2 23 rfl) rfl
theorem dX12_readMeasure_102 : decode cX12_readMeasure 102 = .ok (.iconst 0, 1) := dop_3 (zb_X12_readMeasure_2 24 rfl)
theorem dX12_readMeasure_103 : decode cX12_readMeasure 103 = .ok (.istore 4, 2) := dop_54 (zb_X12_readMeasure_2 25 rfl) (zb_X12_readMeasure_2 26 rfl)
theorem dX12_readMeasure_105 : decode cX12_readMeasure 105 = .ok (.iload 4, 2) := dop_21 (zb_X12_readMeasure_2 27 rfl) (zb_X12_readMeasure_2 28 rfl)
theorem dX12_readMeasure_107 : decode cX12_readMeasure 107 = .ok (.ifCond .gt 13, 3) := dop_157 (zb_X12_readMeasure_2 29 rfl) (zb_X12_readMeasure_2 30 rfl) (zb_X12_readMeasure_2 31 rfl) rfl
theorem dX12_readMeasure_110 : decode cX12_readMeasure 110 = .ok (.aload_n 0, 1) := dop_42 (zb_X12_readMeasure_2 32 rfl)
theorem dX12_readMeasure_111 : decode cX12_readMeasure 111 = .ok (.ldc2_w 291, 3) := dop_20 (zb_X12_readMeasure_2 33 rfl) (zb_X12_readMeasure_2 34 rfl) (zb_X12_readMeasure_2 35 rfl) rfl
theorem dX12_readMeasure_114 : decode cX12_readMeasure 114 = .ok (.invokevirtual 260, 3) := dop_182 (zb_X12_readMeasure_2 36 rfl) (zb_X12_readMeasure_2 37 rfl) (zb_X12_readMeasure_2 38 rfl) rfl
theorem zb_X12_readMeasure_3 (j : Nat) {n : Nat} (e : zw_X12_readMeasure_3[j]? = some n) : dby cX12_readMeasure (117 + j) n := dw_b (t := []) ze_X12_readMeasure_3 j e
theorem dX12_readMeasure_117 : decode cX12_readMeasure 117 = .ok (.ifCond .eq 7, 3) := dop_153 (zb_X12_readMeasure_3 0 rfl) (zb_X12_readMeasure_3 1 rfl) (zb_X12_readMeasure_3 2 rfl) rfl
theorem dX12_readMeasure_120 : decode cX12_readMeasure 120 = .ok (.aload_n 0, 1) := dop_42 (zb_X12_readMeasure_3 3 rfl)
theorem dX12_readMeasure_121 : decode cX12_readMeasure 121 = .ok (.invokevirtual 218, 3) := dop_182 (zb_X12_readMeasure_3 4 rfl) (zb_X12_readMeasure_3 5 rfl) (zb_X12_readMeasure_3 6 rfl) rfl
theorem dX12_readMeasure_124 : decode cX12_readMeasure 124 = .ok (.aload_n 0, 1) := dop_42 (zb_X12_readMeasure_3 7 rfl)
theorem dX12_readMeasure_125 : decode cX12_readMeasure 125 = .ok (.dup, 1) := dop_89 (zb_X12_readMeasure_3 8 rfl)
theorem dX12_readMeasure_126 : decode cX12_readMeasure 126 = .ok (.getfield 282, 3) := dop_180 (zb_X12_readMeasure_3 9 rfl) (zb_X12_readMeasure_3 10 rfl) (zb_X12_readMeasure_3 11 rfl) rfl
theorem dX12_readMeasure_129 : decode cX12_readMeasure 129 = .ok (.iconst 1, 1) := dop_4 (zb_X12_readMeasure_3 12 rfl)
theorem dX12_readMeasure_130 : decode cX12_readMeasure 130 = .ok (.iadd, 1) := dop_96 (zb_X12_readMeasure_3 13 rfl)
theorem dX12_readMeasure_131 : decode cX12_readMeasure 131 = .ok (.putfield 282, 3) := dop_181 (zb_X12_readMeasure_3 14 rfl) (zb_X12_readMeasure_3 15 rfl) (zb_X12_readMeasure_3 16 rfl) rfl
theorem dX12_readMeasure_134 : decode cX12_readMeasure 134 = .ok (.aload_n 0, 1) := dop_42 (zb_X12_readMeasure_3 17 rfl)
theorem dX12_readMeasure_135 : decode cX12_readMeasure 135 = .ok (.iconst 3, 1) := dop_6 (zb_X12_readMeasure_3 18 rfl)
theorem dX12_readMeasure_136 : decode cX12_readMeasure 136 = .ok (.iload_n 1, 1) := dop_27 (zb_X12_readMeasure_3 19 rfl)
theorem dX12_readMeasure_137 : decode cX12_readMeasure 137 = .ok (.iload_n 2, 1) := dop_28 (zb_X12_readMeasure_3 20 rfl)
theorem dX12_readMeasure_138 : decode cX12_readMeasure 138 = .ok (.iload_n 3, 1) := dop_29 (zb_X12_readMeasure_3 21 rfl)
theorem dX12_readMeasure_139 : decode cX12_readMeasure 139 = .ok (.iload 4, 2) := dop_21 (zb_X12_readMeasure_3 22 rfl) (zb_X12_readMeasure_3 23 rfl)
theorem dX12_readMeasure_141 : decode cX12_readMeasure 141 = .ok (.invokevirtual 268, 3) := dop_182 (zb_X12_readMeasure_3 24 rfl) (zb_X12_readMeasure_3 25 rfl) (zb_X12_readMeasure_3 26 rfl) rfl
theorem dX12_readMeasure_144 : decode cX12_readMeasure 144 = .ok (.return_, 1) := dop_177 (zb_X12_readMeasure_3 27 rfl)
def zw_X12_readThing_3 : List Nat := [182, 1, 41, 167, 255, 231, 177]
def zt_X12_readThing_3 : List Nat := zw_X12_readThing_3 ++ []
def zw_X12_readThing_2 : List Nat := [20, 0, 154, 182, 0, 254, 3, 3, 182, 1, 12, 177, 42, 27, 182, 1, 41, 42, 180, 0, 214, 154, 0, 24, 42, 16, 44, 182, 1, 44, 153, 0, 15, 42, 182, 0, 218, 42, 27]
def zt_X12_readThing_2 : List Nat := zw_X12_readThing_2 ++ zt_X12_readThing_3
def zw_X12_readThing_1 : List Nat := [182, 1, 4, 153, 0, 19, 42, 182, 0, 218, 42, 5, 27, 2, 3, 3, 182, 1, 12, 167, 0, 30, 42, 42, 20, 1, 24, 182, 1, 4, 182, 0, 247, 42, 5, 27, 42, 10]
def zt_X12_readThing_1 : List Nat := zw_X12_readThing_1 ++ zt_X12_readThing_2
def zw_X12_readThing_0 : List Nat := [42, 182, 0, 218, 42, 9, 20, 0, 150, 182, 0, 254, 60, 42, 180, 0, 214, 154, 0, 71, 42, 20, 1, 37, 182, 1, 4, 153, 0, 61, 42, 182, 0, 218, 42, 20, 1, 39]
def zt_X12_readThing_0 : List Nat := zw_X12_readThing_0 ++ zt_X12_readThing_1
theorem ze_X12_readThing_0 : (dcn cX12_readThing).drop 0 = zt_X12_readThing_0 := by decide +kernel
theorem ze_X12_readThing_1 : (dcn cX12_readThing).drop 38 = zt_X12_readThing_1 := dw_n (wl := zw_X12_readThing_0) ze_X12_readThing_0 rfl
theorem zb_X12_readThing_0 (j : Nat) {n : Nat} (e : zw_X12_readThing_0[j]? = some n) : dby cX12_readThing (0 + j) n := dw_b (t := zt_X12_readThing_1) ze_X12_readThing_0 j e
theorem dX12_readThing_0 : decode cX12_readThing 0 = .ok (.aload_n 0, 1) := dop_42 (zb_X12_readThing_0 0 rfl)
theorem dX12_readThing_1 : decode cX12_readThing 1 = .ok (.invokevirtual 218, 3) := dop_182 (zb_X12_readThing_0 1 rfl) (zb_X12_readThing_0 2 rfl) (zb_X12_readThing_0 3 rfl) rfl
theorem dX12_readThing_4 : decode cX12_readThing 4 = .ok (.aload_n 0, 1) := dop_42 (zb_X12_readThing_0 4 rfl)
theorem dX12_readThing_5 : decode cX12_readThing 5 = .ok (.lconst 0, 1) := dop_9 (zb_X12_readThing_0 5 rfl)
theorem dX12_readThing_6 : decode cX12_readThing 6 = .ok (.ldc2_w 150, 3) := dop_20 (zb_X12_readThing_0 6 rfl) (zb_X12_readThing_0 7 rfl) (zb_X12_readThing_0 8 rfl) rfl
theorem dX12_readThing_9 : decode cX12_readThing 9 = .ok (.invokevirtual 254, 3) := dop_182 (zb_X12_readThing_0 9 rfl) (zb_X12_readThing_0 10 rfl) (zb_X12_readThing_0 11 rfl) rfl
theorem dX12_readThing_12 : decode cX12_readThing 12 = .ok (.istore_n 1, 1) := dop_60 (zb_X12_readThing_0 12 rfl)
theorem dX12_readThing_13 : decode cX12_readThing 13 = .ok (.aload_n 0, 1) := dop_42 (zb_X12_readThing_0 13 rfl)
theorem dX12_readThing_14 : decode cX12_readThing 14 = .ok (.getfield 214, 3) := dop_180 (zb_X12_readThing_0 14 rfl) (zb_X12_readThing_0 15 rfl) (zb_X12_readThing_0 16 rfl) rfl
theorem dX12_readThing_17 : decode cX12_readThing 17 = .ok (.ifCond .ne 71, 3) := dop_154 (zb_X12_readThing_0 17 rfl) (zb_X12_readThing_0 18 rfl) (zb_X12_readThing_0 19 rfl) rfl
theorem dX12_readThing_20 : decode cX12_readThing 20 = .ok (.aload_n 0, 1) := dop_42 (zb_X12_readThing_0 20 rfl)
theorem dX12_readThing_21 : decode cX12_readThing 21 = .ok (.ldc2_w 293, 3) := dop_20 (zb_X12_readThing_0 21 rfl) (zb_X12_readThing_0 22 rfl) (zb_X12_readThing_0 23 rfl) rfl
theorem dX12_readThing_24 : decode cX12_readThing 24 = .ok (.invokevirtual 260, 3) := dop_182 (zb_X12_readThing_0 24 rfl) (zb_X12_readThing_0 25 rfl) (zb_X12_readThing_0 26 rfl) rfl
theorem dX12_readThing_27 : decode cX12_readThing 27 = .ok (.ifCond .eq 61, 3) := dop_153 (zb_X12_readThing_0 27 rfl) (zb_X12_readThing_0 28 rfl) (zb_X12_readThing_0 29 rfl) rfl
theorem dX12_readThing_30 : decode cX12_readThing 30 = .ok (.aload_n 0, 1) := dop_42 (zb_X12_readThing_0 30 rfl)
theorem dX12_readThing_31 : decode cX12_readThing 31 = .ok (.invokevirtual 218, 3) := dop_182 (zb_X12_readThing_0 31 rfl) (zb_X12_readThing_0 32 rfl) (zb_X12_readThing_0 33 rfl) rfl
theorem dX12_readThing_34 : decode cX12_readThing 34 = .ok (.aload_n 0, 1) := dop_42 (zb_X12_readThing_0 34 rfl)
theorem dX12_readThing_35 : decode cX12_readThing 35 = .ok (.ldc2_w 295, 3) := dop_20 (zb_X12_readThing_0 35 rfl) (zb_X12_readThing_0 36 rfl) (zb_X12_readThing_0 37 rfl) rfl
theorem ze_X12_readThing_2 : (dcn cX12_readThing).drop 76 = zt_X12_readThing_2 := dw_n (wl := zw_X12_readThing_1) ze_X12_readThing_1 rfl
theorem zb_X12_readThing_1 (j : Nat) {n : Nat} (e : zw_X12_readThing_1[j]? = some n) : dby cX12_readThing (38 + j) n := dw_b (t := zt_X12_readThing_2) ze_X12_readThing_1 j e
theorem dX12_readThing_38 : decode cX12_readThing 38 = .ok (.invokevirtual 260, 3) := dop_182 (zb_X12_readThing_1 0 rfl) (zb_X12_readThing_1 1 rfl) (zb_X12_readThing_1 2 rfl) rfl
theorem dX12_readThing_41 : decode cX12_readThing 41 = .ok (.ifCond .eq 19, 3) := dop_153 (zb_X12_readThing_1 3 rfl) (zb_X12_readThing_1 4 rfl) (zb_X12_readThing_1 5 rfl) rfl
theorem dX12_readThing_44 : decode cX12_readThing 44 = .ok (.aload_n 0, 1) := dop_42 (zb_X12_readThing_1 6 rfl)
theorem dX12_readThing_45 : decode cX12_readThing 45 = .ok (.invokevirtual 218, 3) := dop_182 (zb_X12_readThing_1 7 rfl) (zb_X12_readThing_1 8 rfl) (zb_X12_readThing_1 9 rfl) rfl
theorem dX12_readThing_48 : decode cX12_readThing 48 = .ok (.aload_n 0, 1) := dop_42 (zb_X12_readThing_1 10 rfl)
theorem dX12_readThing_49 : decode cX12_readThing 49 = .ok (.iconst 2, 1) := dop_5 (zb_X12_readThing_1 11 rfl)
theorem dX12_readThing_50 : decode cX12_readThing 50 = .ok (.iload_n 1, 1) := dop_27 (zb_X12_readThing_1 12 rfl)
theorem dX12_readThing_51 : decode cX12_readThing 51 = .ok (.iconst (-1), 1) := dop_2 (zb_X12_readThing_1 13 rfl)
theorem dX12_readThing_52 : decode cX12_readThing 52 = .ok (.iconst 0, 1) := dop_3 (zb_X12_readThing_1 14 rfl)
theorem dX12_readThing_53 : decode cX12_readThing 53 = .ok (.iconst 0, 1) := dop_3 (zb_X12_readThing_1 15 rfl)
theorem dX12_readThing_54 : decode cX12_readThing 54 = .ok (.invokevirtual 268, 3) := dop_182 (zb_X12_readThing_1 16 rfl) (zb_X12_readThing_1 17 rfl) (zb_X12_readThing_1 18 rfl) rfl
theorem dX12_readThing_57 : decode cX12_readThing 57 = .ok (.goto 30, 3) := dop_167 (zb_X12_readThing_1 19 rfl) (zb_X12_readThing_1 20 rfl) (zb_X12_readThing_1 21 rfl) rfl
theorem dX12_readThing_60 : decode cX12_readThing 60 = .ok (.aload_n 0, 1) := dop_42 (zb_X12_readThing_1 22 rfl)
theorem dX12_readThing_61 : decode cX12_readThing 61 = .ok (.aload_n 0, 1) := dop_42 (zb_X12_readThing_1 23 rfl)
theorem dX12_readThing_62 : decode cX12_readThing 62 = .ok (.ldc2_w 280, 3) := dop_20 (zb_X12_readThing_1 24 rfl) (zb_X12_readThing_1 25 rfl) (zb_X12_readThing_1 26 rfl) rfl
theorem dX12_readThing_65 : decode cX12_readThing 65 = .ok (.invokevirtual 260, 3) := dop_182 (zb_X12_readThing_1 27 rfl) (zb_X12_readThing_1 28 rfl) (zb_X12_readThing_1 29 rfl) rfl
theorem dX12_readThing_68 : decode cX12_readThing 68 = .ok (.invokevirtual 247, 3) := dop_182 (zb_X12_readThing_1 30 rfl) (zb_X12_readThing_1 31 rfl) (zb_X12_readThing_1 32 rfl) rfl
theorem dX12_readThing_71 : decode cX12_readThing 71 = .ok (.aload_n 0, 1) := dop_42 (zb_X12_readThing_1 33 rfl)
theorem dX12_readThing_72 : decode cX12_readThing 72 = .ok (.iconst 2, 1) := dop_5 (zb_X12_readThing_1 34 rfl)
theorem dX12_readThing_73 : decode cX12_readThing 73 = .ok (.iload_n 1, 1) := dop_27 (zb_X12_readThing_1 35 rfl)
theorem dX12_readThing_74 : decode cX12_readThing 74 = .ok (.aload_n 0, 1) := dop_42 (zb_X12_readThing_1 36 rfl)
theorem dX12_readThing_75 : decode cX12_readThing 75 = .ok (.lconst 1, 1) := dop_10 (zb_X12_readThing_1 37 rfl)
theorem ze_X12_readThing_3 : (dcn cX12_readThing).drop 115 = zt_X12_readThing_3 := dw_n (wl := zw_X12_readThing_2) ze_X12_readThing_2 rfl
theorem zb_X12_readThing_2 (j : Nat) {n : Nat} (e : zw_X12_readThing_2[j]? = some n) : dby cX12_readThing (76 + j) n := dw_b (t := zt_X12_readThing_3) ze_X12_readThing_2 j e
theorem dX12_readThing_76 : decode cX12_readThing 76 = .ok (.ldc2_w 154, 3) := dop_20 (zb_X12_readThing_2 0 rfl) (zb_X12_readThing_2 1 rfl) (zb_X12_readThing_2 2 rfl) rfl
theorem dX12_readThing_79 : decode cX12_readThing 79 = .ok (.invokevirtual 254, 3) := dop_182 (zb_X12_readThing_2 3 rfl) (zb_X12_readThing_2 4 rfl) (zb_X12_readThing_2 5 rfl) rfl
theorem dX12_readThing_82 : decode cX12_readThing 82 = .ok (.iconst 0, 1) := dop_3 (zb_X12_readThing_2 6 rfl)
theorem dX12_readThing_83 : decode cX12_readThing 83 = .ok (.iconst 0, 1) := dop_3 (zb_X12_readThing_2 7 rfl)
theorem dX12_readThing_84 : decode cX12_readThing 84 = .ok (.invokevirtual 268, 3) := dop_182 (zb_X12_readThing_2 8 rfl) (zb_X12_readThing_2 9 rfl) (zb_X12_readThing_2 10 rfl) rfl
theorem dX12_readThing_87 : decode cX12_readThing 87 = .ok (.return_, 1) := dop_177 (zb_X12_readThing_2 11 rfl)
theorem dX12_readThing_88 : decode cX12_readThing 88 = .ok (.aload_n 0, 1) := dop_42 (zb_X12_readThing_2 12 rfl)
theorem dX12_readThing_89 : decode cX12_readThing 89 = .ok (.iload_n 1, 1) := dop_27 (zb_X12_readThing_2 13 rfl)
theorem dX12_readThing_90 : decode cX12_readThing 90 = .ok (.invokevirtual 297, 3) := dop_182 (zb_X12_readThing_2 14 rfl) (zb_X12_readThing_2 15 rfl) (zb_X12_readThing_2 16 rfl) rfl
theorem dX12_readThing_93 : decode cX12_readThing 93 = .ok (.aload_n 0, 1) := dop_42 (zb_X12_readThing_2 17 rfl)
theorem dX12_readThing_94 : decode cX12_readThing 94 = .ok (.getfield 214, 3) := dop_180 (zb_X12_readThing_2 18 rfl) (zb_X12_readThing_2 19 rfl) (zb_X12_readThing_2 20 rfl) rfl
theorem dX12_readThing_97 : decode cX12_readThing 97 = .ok (.ifCond .ne 24, 3) := dop_154 (zb_X12_readThing_2 21 rfl) (zb_X12_readThing_2 22 rfl) (zb_X12_readThing_2 23 rfl) rfl
theorem dX12_readThing_100 : decode cX12_readThing 100 = .ok (.aload_n 0, 1) := dop_42 (zb_X12_readThing_2 24 rfl)
theorem dX12_readThing_101 : decode cX12_readThing 101 = .ok (.bipush 44, 2) := dop_16 (zb_X12_readThing_2 25 rfl) (zb_X12_readThing_2 26 rfl) rfl
theorem dX12_readThing_103 : decode cX12_readThing 103 = .ok (.invokevirtual 300, 3) := dop_182 (zb_X12_readThing_2 27 rfl) (zb_X12_readThing_2 28 rfl) (zb_X12_readThing_2 29 rfl) rfl
theorem dX12_readThing_106 : decode cX12_readThing 106 = .ok (.ifCond .eq 15, 3) := dop_153 (zb_X12_readThing_2 30 rfl) (zb_X12_readThing_2 31 rfl) (zb_X12_readThing_2 32 rfl) rfl
theorem dX12_readThing_109 : decode cX12_readThing 109 = .ok (.aload_n 0, 1) := dop_42 (zb_X12_readThing_2 33 rfl)
theorem dX12_readThing_110 : decode cX12_readThing 110 = .ok (.invokevirtual 218, 3) := dop_182 (zb_X12_readThing_2 34 rfl) (zb_X12_readThing_2 35 rfl) (zb_X12_readThing_2 36 rfl) rfl
theorem dX12_readThing_113 : decode cX12_readThing 113 = .ok (.aload_n 0, 1) := dop_42 (zb_X12_readThing_2 37 rfl)
theorem dX12_readThing_114 : decode cX12_readThing 114 = .ok (.iload_n 1, 1) := dop_27 (zb_X12_readThing_2 38 rfl)
theorem zb_X12_readThing_3 (j : Nat) {n : Nat} (e : zw_X12_readThing_3[j]? = some n) : dby cX12_readThing (115 + j) n := dw_b (t := []) ze_X12_readThing_3 j e
theorem dX12_readThing_115 : decode cX12_readThing 115 = .ok (.invokevirtual 297, 3) := dop_182 (zb_X12_readThing_3 0 rfl) (zb_X12_readThing_3 1 rfl) (zb_X12_readThing_3 2 rfl) rfl
theorem dX12_readThing_118 : decode cX12_readThing 118 = .ok (.goto (-25), 3) := dop_167 (zb_X12_readThing_3 3 rfl) (zb_X12_readThing_3 4 rfl) (zb_X12_readThing_3 5 rfl) rfl
theorem dX12_readThing_121 : decode cX12_readThing 121 = .ok (.return_, 1) := dop_177 (zb_X12_readThing_3 6 rfl)
def zw_X12_readClause_1 : List Nat := [182, 1, 4, 153, 0, 10, 42, 182, 1, 59, 167, 0, 8, 42, 3, 182, 0, 247, 177]
def zt_X12_readClause_1 : List Nat := zw_X12_readClause_1 ++ []
def zw_X12_readClause_0 : List Nat := [42, 20, 1, 47, 182, 1, 4, 153, 0, 10, 42, 182, 1, 49, 167, 0, 42, 42, 20, 1, 52, 182, 1, 4, 153, 0, 10, 42, 182, 1, 54, 167, 0, 25, 42, 20, 1, 57]
def zt_X12_readClause_0 : List Nat := zw_X12_readClause_0 ++ zt_X12_readClause_1
theorem ze_X12_readClause_0 : (dcn cX12_readClause).drop 0 = zt_X12_readClause_0 := by decide +kernel
theorem ze_X12_readClause_1 : (dcn cX12_readClause).drop 38 = zt_X12_readClause_1 := dw_n (wl := zw_X12_readClause_0) ze_X12_readClause_0 rfl
theorem zb_X12_readClause_0 (j : Nat) {n : Nat} (e : zw_X12_readClause_0[j]? = some n) : dby cX12_readClause (0 + j) n := dw_b (t := zt_X12_readClause_1) ze_X12_readClause_0 j e
theorem dX12_readClause_0 : decode cX12_readClause 0 = .ok (.aload_n 0, 1) := dop_42 (zb_X12_readClause_0 0 rfl)
theorem dX12_readClause_1 : decode cX12_readClause 1 = .ok (.ldc2_w 303, 3) := dop_20 (zb_X12_readClause_0 1 rfl) (zb_X12_readClause_0 2 rfl) (zb_X12_readClause_0 3 rfl) rfl
theorem dX12_readClause_4 : decode cX12_readClause 4 = .ok (.invokevirtual 260, 3) := dop_182 (zb_X12_readClause_0 4 rfl) (zb_X12_readClause_0 5 rfl) (zb_X12_readClause_0 6 rfl) rfl
theorem dX12_readClause_7 : decode cX12_readClause 7 = .ok (.ifCond .eq 10, 3) := dop_153 (zb_X12_readClause_0 7 rfl) (zb_X12_readClause_0 8 rfl) (zb_X12_readClause_0 9 rfl) rfl
theorem dX12_readClause_10 : decode cX12_readClause 10 = .ok (.aload_n 0, 1) := dop_42 (zb_X12_readClause_0 10 rfl)
theorem dX12_readClause_11 : decode cX12_readClause 11 = .ok (.invokevirtual 305, 3) := dop_182 (zb_X12_readClause_0 11 rfl) (zb_X12_readClause_0 12 rfl) (zb_X12_readClause_0 13 rfl) rfl
theorem dX12_readClause_14 : decode cX12_readClause 14 = .ok (.goto 42, 3) := dop_167 (zb_X12_readClause_0 14 rfl) (zb_X12_readClause_0 15 rfl) (zb_X12_readClause_0 16 rfl) rfl
theorem dX12_readClause_17 : decode cX12_readClause 17 = .ok (.aload_n 0, 1) := dop_42 (zb_X12_readClause_0 17 rfl)
theorem dX12_readClause_18 : decode cX12_readClause 18 = .ok (.ldc2_w 308, 3) := dop_20 (zb_X12_readClause_0 18 rfl) (zb_X12_readClause_0 19 rfl) (zb_X12_readClause_0 20 rfl) rfl
theorem dX12_readClause_21 : decode cX12_readClause 21 = .ok (.invokevirtual 260, 3) := dop_182 (zb_X12_readClause_0 21 rfl) (zb_X12_readClause_0 22 rfl) (zb_X12_readClause_0 23 rfl) rfl
theorem dX12_readClause_24 : decode cX12_readClause 24 = .ok (.ifCond .eq 10, 3) := dop_153 (zb_X12_readClause_0 24 rfl) (zb_X12_readClause_0 25 rfl) (zb_X12_readClause_0 26 rfl) rfl
theorem dX12_readClause_27 : decode cX12_readClause 27 = .ok (.aload_n 0, 1) := dop_42 (zb_X12_readClause_0 27 rfl)
theorem dX12_readClause_28 : decode cX12_readClause 28 = .ok (.invokevirtual 310, 3) := dop_182 (zb_X12_readClause_0 28 rfl) (zb_X12_readClause_0 29 rfl) (zb_X12_readClause_0 30 rfl) rfl
theorem dX12_readClause_31 : decode cX12_readClause 31 = .ok (.goto 25, 3) := dop_167 (zb_X12_readClause_0 31 rfl) (zb_X12_readClause_0 32 rfl) (zb_X12_readClause_0 33 rfl) rfl
theorem dX12_readClause_34 : decode cX12_readClause 34 = .ok (.aload_n 0, 1) := dop_42 (zb_X12_readClause_0 34 rfl)
theorem dX12_readClause_35 : decode cX12_readClause 35 = .ok (.ldc2_w 313, 3) := dop_20 (zb_X12_readClause_0 35 rfl) (zb_X12_readClause_0 36 rfl) (zb_X12_readClause_0 37 rfl) rfl
theorem zb_X12_readClause_1 (j : Nat) {n : Nat} (e : zw_X12_readClause_1[j]? = some n) : dby cX12_readClause (38 + j) n := dw_b (t := []) ze_X12_readClause_1 j e
theorem dX12_readClause_38 : decode cX12_readClause 38 = .ok (.invokevirtual 260, 3) := dop_182 (zb_X12_readClause_1 0 rfl) (zb_X12_readClause_1 1 rfl) (zb_X12_readClause_1 2 rfl) rfl
theorem dX12_readClause_41 : decode cX12_readClause 41 = .ok (.ifCond .eq 10, 3) := dop_153 (zb_X12_readClause_1 3 rfl) (zb_X12_readClause_1 4 rfl) (zb_X12_readClause_1 5 rfl) rfl
theorem dX12_readClause_44 : decode cX12_readClause 44 = .ok (.aload_n 0, 1) := dop_42 (zb_X12_readClause_1 6 rfl)
theorem dX12_readClause_45 : decode cX12_readClause 45 = .ok (.invokevirtual 315, 3) := dop_182 (zb_X12_readClause_1 7 rfl) (zb_X12_readClause_1 8 rfl) (zb_X12_readClause_1 9 rfl) rfl
theorem dX12_readClause_48 : decode cX12_readClause 48 = .ok (.goto 8, 3) := dop_167 (zb_X12_readClause_1 10 rfl) (zb_X12_readClause_1 11 rfl) (zb_X12_readClause_1 12 rfl) rfl
theorem dX12_readClause_51 : decode cX12_readClause 51 = .ok (.aload_n 0, 1) := dop_42 (zb_X12_readClause_1 13 rfl)
theorem dX12_readClause_52 : decode cX12_readClause 52 = .ok (.iconst 0, 1) := dop_3 (zb_X12_readClause_1 14 rfl)
theorem dX12_readClause_53 : decode cX12_readClause 53 = .ok (.invokevirtual 247, 3) := dop_182 (zb_X12_readClause_1 15 rfl) (zb_X12_readClause_1 16 rfl) (zb_X12_readClause_1 17 rfl) rfl
theorem dX12_readClause_56 : decode cX12_readClause 56 = .ok (.return_, 1) := dop_177 (zb_X12_readClause_1 18 rfl)
def zw_X12_book_3 : List Nat := [167, 255, 238, 42, 27, 182, 0, 147, 172]
def zt_X12_book_3 : List Nat := zw_X12_book_3 ++ []
def zw_X12_book_2 : List Nat := [3, 181, 0, 201, 42, 180, 0, 214, 153, 0, 10, 42, 16, 250, 182, 0, 147, 172, 3, 61, 28, 42, 180, 0, 251, 162, 0, 16, 42, 8, 28, 104, 182, 1, 68, 132, 2, 1]
def zt_X12_book_2 : List Nat := zw_X12_book_2 ++ zt_X12_book_3
def zw_X12_book_1 : List Nat := [182, 1, 44, 153, 0, 17, 42, 182, 0, 218, 42, 182, 1, 65, 132, 1, 1, 167, 255, 229, 42, 180, 0, 214, 154, 0, 15, 42, 180, 0, 234, 153, 0, 8, 42, 3, 182, 0, 247, 42]
def zt_X12_book_1 : List Nat := zw_X12_book_1 ++ zt_X12_book_2
def zw_X12_book_0 : List Nat := [42, 3, 181, 0, 133, 42, 3, 181, 0, 251, 42, 3, 181, 1, 26, 42, 3, 181, 1, 21, 42, 182, 1, 62, 4, 60, 42, 182, 1, 65, 42, 180, 0, 214, 154, 0, 26, 42, 16, 59]
def zt_X12_book_0 : List Nat := zw_X12_book_0 ++ zt_X12_book_1
theorem ze_X12_book_0 : (dcn cX12_book).drop 0 = zt_X12_book_0 := by decide +kernel
theorem ze_X12_book_1 : (dcn cX12_book).drop 40 = zt_X12_book_1 := dw_n (wl := zw_X12_book_0) ze_X12_book_0 rfl
theorem zb_X12_book_0 (j : Nat) {n : Nat} (e : zw_X12_book_0[j]? = some n) : dby cX12_book (0 + j) n := dw_b (t := zt_X12_book_1) ze_X12_book_0 j e
theorem dX12_book_0 : decode cX12_book 0 = .ok (.aload_n 0, 1) := dop_42 (zb_X12_book_0 0 rfl)
theorem dX12_book_1 : decode cX12_book 1 = .ok (.iconst 0, 1) := dop_3 (zb_X12_book_0 1 rfl)
theorem dX12_book_2 : decode cX12_book 2 = .ok (.putfield 133, 3) := dop_181 (zb_X12_book_0 2 rfl) (zb_X12_book_0 3 rfl) (zb_X12_book_0 4 rfl) rfl
theorem dX12_book_5 : decode cX12_book 5 = .ok (.aload_n 0, 1) := dop_42 (zb_X12_book_0 5 rfl)
theorem dX12_book_6 : decode cX12_book 6 = .ok (.iconst 0, 1) := dop_3 (zb_X12_book_0 6 rfl)
theorem dX12_book_7 : decode cX12_book 7 = .ok (.putfield 251, 3) := dop_181 (zb_X12_book_0 7 rfl) (zb_X12_book_0 8 rfl) (zb_X12_book_0 9 rfl) rfl
theorem dX12_book_10 : decode cX12_book 10 = .ok (.aload_n 0, 1) := dop_42 (zb_X12_book_0 10 rfl)
theorem dX12_book_11 : decode cX12_book 11 = .ok (.iconst 0, 1) := dop_3 (zb_X12_book_0 11 rfl)
theorem dX12_book_12 : decode cX12_book 12 = .ok (.putfield 282, 3) := dop_181 (zb_X12_book_0 12 rfl) (zb_X12_book_0 13 rfl) (zb_X12_book_0 14 rfl) rfl
theorem dX12_book_15 : decode cX12_book 15 = .ok (.aload_n 0, 1) := dop_42 (zb_X12_book_0 15 rfl)
theorem dX12_book_16 : decode cX12_book 16 = .ok (.iconst 0, 1) := dop_3 (zb_X12_book_0 16 rfl)
theorem dX12_book_17 : decode cX12_book 17 = .ok (.putfield 277, 3) := dop_181 (zb_X12_book_0 17 rfl) (zb_X12_book_0 18 rfl) (zb_X12_book_0 19 rfl) rfl
theorem dX12_book_20 : decode cX12_book 20 = .ok (.aload_n 0, 1) := dop_42 (zb_X12_book_0 20 rfl)
theorem dX12_book_21 : decode cX12_book 21 = .ok (.invokevirtual 318, 3) := dop_182 (zb_X12_book_0 21 rfl) (zb_X12_book_0 22 rfl) (zb_X12_book_0 23 rfl) rfl
theorem dX12_book_24 : decode cX12_book 24 = .ok (.iconst 1, 1) := dop_4 (zb_X12_book_0 24 rfl)
theorem dX12_book_25 : decode cX12_book 25 = .ok (.istore_n 1, 1) := dop_60 (zb_X12_book_0 25 rfl)
theorem dX12_book_26 : decode cX12_book 26 = .ok (.aload_n 0, 1) := dop_42 (zb_X12_book_0 26 rfl)
theorem dX12_book_27 : decode cX12_book 27 = .ok (.invokevirtual 321, 3) := dop_182 (zb_X12_book_0 27 rfl) (zb_X12_book_0 28 rfl) (zb_X12_book_0 29 rfl) rfl
theorem dX12_book_30 : decode cX12_book 30 = .ok (.aload_n 0, 1) := dop_42 (zb_X12_book_0 30 rfl)
theorem dX12_book_31 : decode cX12_book 31 = .ok (.getfield 214, 3) := dop_180 (zb_X12_book_0 31 rfl) (zb_X12_book_0 32 rfl) (zb_X12_book_0 33 rfl) rfl
theorem dX12_book_34 : decode cX12_book 34 = .ok (.ifCond .ne 26, 3) := dop_154 (zb_X12_book_0 34 rfl) (zb_X12_book_0 35 rfl) (zb_X12_book_0 36 rfl) rfl
theorem dX12_book_37 : decode cX12_book 37 = .ok (.aload_n 0, 1) := dop_42 (zb_X12_book_0 37 rfl)
theorem dX12_book_38 : decode cX12_book 38 = .ok (.bipush 59, 2) := dop_16 (zb_X12_book_0 38 rfl) (zb_X12_book_0 39 rfl) rfl
theorem ze_X12_book_2 : (dcn cX12_book).drop 80 = zt_X12_book_2 := dw_n (wl := zw_X12_book_1) ze_X12_book_1 rfl
theorem zb_X12_book_1 (j : Nat) {n : Nat} (e : zw_X12_book_1[j]? = some n) : dby cX12_book (40 + j) n := dw_b (t := zt_X12_book_2) ze_X12_book_1 j e
theorem dX12_book_40 : decode cX12_book 40 = .ok (.invokevirtual 300, 3) := dop_182 (zb_X12_book_1 0 rfl) (zb_X12_book_1 1 rfl) (zb_X12_book_1 2 rfl) rfl
theorem dX12_book_43 : decode cX12_book 43 = .ok (.ifCond .eq 17, 3) := dop_153 (zb_X12_book_1 3 rfl) (zb_X12_book_1 4 rfl) (zb_X12_book_1 5 rfl) rfl
theorem dX12_book_46 : decode cX12_book 46 = .ok (.aload_n 0, 1) := dop_42 (zb_X12_book_1 6 rfl)
theorem dX12_book_47 : decode cX12_book 47 = .ok (.invokevirtual 218, 3) := dop_182 (zb_X12_book_1 7 rfl) (zb_X12_book_1 8 rfl) (zb_X12_book_1 9 rfl) rfl
theorem dX12_book_50 : decode cX12_book 50 = .ok (.aload_n 0, 1) := dop_42 (zb_X12_book_1 10 rfl)
theorem dX12_book_51 : decode cX12_book 51 = .ok (.invokevirtual 321, 3) := dop_182 (zb_X12_book_1 11 rfl) (zb_X12_book_1 12 rfl) (zb_X12_book_1 13 rfl) rfl
theorem dX12_book_54 : decode cX12_book 54 = .ok (.iinc 1 1, 3) := dop_132 (zb_X12_book_1 14 rfl) (zb_X12_book_1 15 rfl) (zb_X12_book_1 16 rfl) rfl
theorem dX12_book_57 : decode cX12_book 57 = .ok (.goto (-27), 3) := dop_167 (zb_X12_book_1 17 rfl) (zb_X12_book_1 18 rfl) (zb_X12_book_1 19 rfl) rfl
theorem dX12_book_60 : decode cX12_book 60 = .ok (.aload_n 0, 1) := dop_42 (zb_X12_book_1 20 rfl)
theorem dX12_book_61 : decode cX12_book 61 = .ok (.getfield 214, 3) := dop_180 (zb_X12_book_1 21 rfl) (zb_X12_book_1 22 rfl) (zb_X12_book_1 23 rfl) rfl
theorem dX12_book_64 : decode cX12_book 64 = .ok (.ifCond .ne 15, 3) := dop_154 (zb_X12_book_1 24 rfl) (zb_X12_book_1 25 rfl) (zb_X12_book_1 26 rfl) rfl
theorem dX12_book_67 : decode cX12_book 67 = .ok (.aload_n 0, 1) := dop_42 (zb_X12_book_1 27 rfl)
theorem dX12_book_68 : decode cX12_book 68 = .ok (.getfield 234, 3) := dop_180 (zb_X12_book_1 28 rfl) (zb_X12_book_1 29 rfl) (zb_X12_book_1 30 rfl) rfl
theorem dX12_book_71 : decode cX12_book 71 = .ok (.ifCond .eq 8, 3) := dop_153 (zb_X12_book_1 31 rfl) (zb_X12_book_1 32 rfl) (zb_X12_book_1 33 rfl) rfl
theorem dX12_book_74 : decode cX12_book 74 = .ok (.aload_n 0, 1) := dop_42 (zb_X12_book_1 34 rfl)
theorem dX12_book_75 : decode cX12_book 75 = .ok (.iconst 0, 1) := dop_3 (zb_X12_book_1 35 rfl)
theorem dX12_book_76 : decode cX12_book 76 = .ok (.invokevirtual 247, 3) := dop_182 (zb_X12_book_1 36 rfl) (zb_X12_book_1 37 rfl) (zb_X12_book_1 38 rfl) rfl
theorem dX12_book_79 : decode cX12_book 79 = .ok (.aload_n 0, 1) := dop_42 (zb_X12_book_1 39 rfl)
theorem ze_X12_book_3 : (dcn cX12_book).drop 118 = zt_X12_book_3 := dw_n (wl := zw_X12_book_2) ze_X12_book_2 rfl
theorem zb_X12_book_2 (j : Nat) {n : Nat} (e : zw_X12_book_2[j]? = some n) : dby cX12_book (80 + j) n := dw_b (t := zt_X12_book_3) ze_X12_book_2 j e
theorem dX12_book_80 : decode cX12_book 80 = .ok (.iconst 0, 1) := dop_3 (zb_X12_book_2 0 rfl)
theorem dX12_book_81 : decode cX12_book 81 = .ok (.putfield 201, 3) := dop_181 (zb_X12_book_2 1 rfl) (zb_X12_book_2 2 rfl) (zb_X12_book_2 3 rfl) rfl
theorem dX12_book_84 : decode cX12_book 84 = .ok (.aload_n 0, 1) := dop_42 (zb_X12_book_2 4 rfl)
theorem dX12_book_85 : decode cX12_book 85 = .ok (.getfield 214, 3) := dop_180 (zb_X12_book_2 5 rfl) (zb_X12_book_2 6 rfl) (zb_X12_book_2 7 rfl) rfl
theorem dX12_book_88 : decode cX12_book 88 = .ok (.ifCond .eq 10, 3) := dop_153 (zb_X12_book_2 8 rfl) (zb_X12_book_2 9 rfl) (zb_X12_book_2 10 rfl) rfl
theorem dX12_book_91 : decode cX12_book 91 = .ok (.aload_n 0, 1) := dop_42 (zb_X12_book_2 11 rfl)
theorem dX12_book_92 : decode cX12_book 92 = .ok (.bipush (-6), 2) := dop_16 (zb_X12_book_2 12 rfl) (zb_X12_book_2 13 rfl) rfl
theorem dX12_book_94 : decode cX12_book 94 = .ok (.invokevirtual 147, 3) := dop_182 (zb_X12_book_2 14 rfl) (zb_X12_book_2 15 rfl) (zb_X12_book_2 16 rfl) rfl
theorem dX12_book_97 : decode cX12_book 97 = .ok (.ireturn, 1) := dop_172 (zb_X12_book_2 17 rfl)
theorem dX12_book_98 : decode cX12_book 98 = .ok (.iconst 0, 1) := dop_3 (zb_X12_book_2 18 rfl)
theorem dX12_book_99 : decode cX12_book 99 = .ok (.istore_n 2, 1) := dop_61 (zb_X12_book_2 19 rfl)
theorem dX12_book_100 : decode cX12_book 100 = .ok (.iload_n 2, 1) := dop_28 (zb_X12_book_2 20 rfl)
theorem dX12_book_101 : decode cX12_book 101 = .ok (.aload_n 0, 1) := dop_42 (zb_X12_book_2 21 rfl)
theorem dX12_book_102 : decode cX12_book 102 = .ok (.getfield 251, 3) := dop_180 (zb_X12_book_2 22 rfl) (zb_X12_book_2 23 rfl) (zb_X12_book_2 24 rfl) rfl
theorem dX12_book_105 : decode cX12_book 105 = .ok (.if_icmp .ge 16, 3) := dop_162 (zb_X12_book_2 25 rfl) (zb_X12_book_2 26 rfl) (zb_X12_book_2 27 rfl) rfl
theorem dX12_book_108 : decode cX12_book 108 = .ok (.aload_n 0, 1) := dop_42 (zb_X12_book_2 28 rfl)
theorem dX12_book_109 : decode cX12_book 109 = .ok (.iconst 5, 1) := dop_8 (zb_X12_book_2 29 rfl)
theorem dX12_book_110 : decode cX12_book 110 = .ok (.iload_n 2, 1) := dop_28 (zb_X12_book_2 30 rfl)
theorem dX12_book_111 : decode cX12_book 111 = .ok (.imul, 1) := dop_104 (zb_X12_book_2 31 rfl)
theorem dX12_book_112 : decode cX12_book 112 = .ok (.invokevirtual 324, 3) := dop_182 (zb_X12_book_2 32 rfl) (zb_X12_book_2 33 rfl) (zb_X12_book_2 34 rfl) rfl
theorem dX12_book_115 : decode cX12_book 115 = .ok (.iinc 2 1, 3) := dop_132 (zb_X12_book_2 35 rfl) (zb_X12_book_2 36 rfl) (zb_X12_book_2 37 rfl) rfl
theorem zb_X12_book_3 (j : Nat) {n : Nat} (e : zw_X12_book_3[j]? = some n) : dby cX12_book (118 + j) n := dw_b (t := []) ze_X12_book_3 j e
theorem dX12_book_118 : decode cX12_book 118 = .ok (.goto (-18), 3) := dop_167 (zb_X12_book_3 0 rfl) (zb_X12_book_3 1 rfl) (zb_X12_book_3 2 rfl) rfl
theorem dX12_book_121 : decode cX12_book 121 = .ok (.aload_n 0, 1) := dop_42 (zb_X12_book_3 3 rfl)
theorem dX12_book_122 : decode cX12_book 122 = .ok (.iload_n 1, 1) := dop_27 (zb_X12_book_3 4 rfl)
theorem dX12_book_123 : decode cX12_book 123 = .ok (.invokevirtual 147, 3) := dop_182 (zb_X12_book_3 5 rfl) (zb_X12_book_3 6 rfl) (zb_X12_book_3 7 rfl) rfl
theorem dX12_book_126 : decode cX12_book 126 = .ok (.ireturn, 1) := dop_172 (zb_X12_book_3 8 rfl)
def zw_X12_doAct_4 : List Nat := [182, 0, 188, 177]
def zt_X12_doAct_4 : List Nat := zw_X12_doAct_4 ++ []
def zw_X12_doAct_3 : List Nat := [5, 96, 46, 79, 167, 0, 39, 42, 42, 180, 0, 30, 27, 4, 96, 46, 42, 180, 0, 30, 27, 5, 96, 46, 42, 180, 0, 30, 27, 6, 96, 46, 42, 180, 0, 30, 27, 7, 96, 46]
def zt_X12_doAct_3 : List Nat := zw_X12_doAct_3 ++ zt_X12_doAct_4
def zw_X12_doAct_2 : List Nat := [27, 5, 96, 46, 182, 0, 176, 167, 0, 76, 42, 180, 0, 30, 27, 46, 5, 160, 0, 30, 42, 180, 0, 13, 16, 42, 42, 180, 0, 30, 27, 4, 96, 46, 96, 42, 180, 0, 30, 27]
def zt_X12_doAct_2 : List Nat := zw_X12_doAct_2 ++ zt_X12_doAct_3
def zw_X12_doAct_1 : List Nat := [180, 0, 30, 27, 6, 96, 46, 79, 132, 2, 1, 167, 255, 224, 167, 0, 109, 42, 180, 0, 30, 27, 46, 4, 160, 0, 26, 42, 42, 180, 0, 30, 27, 4, 96, 46, 42, 180, 0, 30]
def zt_X12_doAct_1 : List Nat := zw_X12_doAct_1 ++ zt_X12_doAct_2
def zw_X12_doAct_0 : List Nat := [42, 180, 0, 30, 27, 46, 154, 0, 50, 42, 180, 0, 30, 27, 4, 96, 46, 61, 28, 42, 180, 0, 30, 27, 5, 96, 46, 163, 0, 26, 42, 180, 0, 13, 16, 10, 28, 96, 42]
def zt_X12_doAct_0 : List Nat := zw_X12_doAct_0 ++ zt_X12_doAct_1
theorem ze_X12_doAct_0 : (dcn cX12_doAct).drop 0 = zt_X12_doAct_0 := by decide +kernel
theorem ze_X12_doAct_1 : (dcn cX12_doAct).drop 39 = zt_X12_doAct_1 := dw_n (wl := zw_X12_doAct_0) ze_X12_doAct_0 rfl
theorem zb_X12_doAct_0 (j : Nat) {n : Nat} (e : zw_X12_doAct_0[j]? = some n) : dby cX12_doAct (0 + j) n := dw_b (t := zt_X12_doAct_1) ze_X12_doAct_0 j e
theorem dX12_doAct_0 : decode cX12_doAct 0 = .ok (.aload_n 0, 1) := dop_42 (zb_X12_doAct_0 0 rfl)
theorem dX12_doAct_1 : decode cX12_doAct 1 = .ok (.getfield 30, 3) := dop_180 (zb_X12_doAct_0 1 rfl) (zb_X12_doAct_0 2 rfl) (zb_X12_doAct_0 3 rfl) rfl
theorem dX12_doAct_4 : decode cX12_doAct 4 = .ok (.iload_n 1, 1) := dop_27 (zb_X12_doAct_0 4 rfl)
theorem dX12_doAct_5 : decode cX12_doAct 5 = .ok (.iaload, 1) := dop_46 (zb_X12_doAct_0 5 rfl)
theorem dX12_doAct_6 : decode cX12_doAct 6 = .ok (.ifCond .ne 50, 3) := dop_154 (zb_X12_doAct_0 6 rfl) (zb_X12_doAct_0 7 rfl) (zb_X12_doAct_0 8 rfl) rfl
theorem dX12_doAct_9 : decode cX12_doAct 9 = .ok (.aload_n 0, 1) := dop_42 (zb_X12_doAct_0 9 rfl)
theorem dX12_doAct_10 : decode cX12_doAct 10 = .ok (.getfield 30, 3) := dop_180 (zb_X12_doAct_0 10 rfl) (zb_X12_doAct_0 11 rfl) (zb_X12_doAct_0 12 rfl) rfl
theorem dX12_doAct_13 : decode cX12_doAct 13 = .ok (.iload_n 1, 1) := dop_27 (zb_X12_doAct_0 13 rfl)
theorem dX12_doAct_14 : decode cX12_doAct 14 = .ok (.iconst 1, 1) := dop_4 (zb_X12_doAct_0 14 rfl)
theorem dX12_doAct_15 : decode cX12_doAct 15 = .ok (.iadd, 1) := dop_96 (zb_X12_doAct_0 15 rfl)
theorem dX12_doAct_16 : decode cX12_doAct 16 = .ok (.iaload, 1) := dop_46 (zb_X12_doAct_0 16 rfl)
theorem dX12_doAct_17 : decode cX12_doAct 17 = .ok (.istore_n 2, 1) := dop_61 (zb_X12_doAct_0 17 rfl)
theorem dX12_doAct_18 : decode cX12_doAct 18 = .ok (.iload_n 2, 1) := dop_28 (zb_X12_doAct_0 18 rfl)
theorem dX12_doAct_19 : decode cX12_doAct 19 = .ok (.aload_n 0, 1) := dop_42 (zb_X12_doAct_0 19 rfl)
theorem dX12_doAct_20 : decode cX12_doAct 20 = .ok (.getfield 30, 3) := dop_180 (zb_X12_doAct_0 20 rfl) (zb_X12_doAct_0 21 rfl) (zb_X12_doAct_0 22 rfl) rfl
theorem dX12_doAct_23 : decode cX12_doAct 23 = .ok (.iload_n 1, 1) := dop_27 (zb_X12_doAct_0 23 rfl)
theorem dX12_doAct_24 : decode cX12_doAct 24 = .ok (.iconst 2, 1) := dop_5 (zb_X12_doAct_0 24 rfl)
theorem dX12_doAct_25 : decode cX12_doAct 25 = .ok (.iadd, 1) := dop_96 (zb_X12_doAct_0 25 rfl)
theorem dX12_doAct_26 : decode cX12_doAct 26 = .ok (.iaload, 1) := dop_46 (zb_X12_doAct_0 26 rfl)
theorem dX12_doAct_27 : decode cX12_doAct 27 = .ok (.if_icmp .gt 26, 3) := dop_163 (zb_X12_doAct_0 27 rfl) (zb_X12_doAct_0 28 rfl) (zb_X12_doAct_0 29 rfl) rfl
theorem dX12_doAct_30 : decode cX12_doAct 30 = .ok (.aload_n 0, 1) := dop_42 (zb_X12_doAct_0 30 rfl)
theorem dX12_doAct_31 : decode cX12_doAct 31 = .ok (.getfield 13, 3) := dop_180 (zb_X12_doAct_0 31 rfl) (zb_X12_doAct_0 32 rfl) (zb_X12_doAct_0 33 rfl) rfl
theorem dX12_doAct_34 : decode cX12_doAct 34 = .ok (.bipush 10, 2) := dop_16 (zb_X12_doAct_0 34 rfl) (zb_X12_doAct_0 35 rfl) rfl
theorem dX12_doAct_36 : decode cX12_doAct 36 = .ok (.iload_n 2, 1) := dop_28 (zb_X12_doAct_0 36 rfl)
theorem dX12_doAct_37 : decode cX12_doAct 37 = .ok (.iadd, 1) := dop_96 (zb_X12_doAct_0 37 rfl)
theorem dX12_doAct_38 : decode cX12_doAct 38 = .ok (.aload_n 0, 1) := dop_42 (zb_X12_doAct_0 38 rfl)
theorem ze_X12_doAct_2 : (dcn cX12_doAct).drop 79 = zt_X12_doAct_2 := dw_n (wl := zw_X12_doAct_1) ze_X12_doAct_1 rfl
theorem zb_X12_doAct_1 (j : Nat) {n : Nat} (e : zw_X12_doAct_1[j]? = some n) : dby cX12_doAct (39 + j) n := dw_b (t := zt_X12_doAct_2) ze_X12_doAct_1 j e
theorem dX12_doAct_39 : decode cX12_doAct 39 = .ok (.getfield 30, 3) := dop_180 (zb_X12_doAct_1 0 rfl) (zb_X12_doAct_1 1 rfl) (zb_X12_doAct_1 2 rfl) rfl
theorem dX12_doAct_42 : decode cX12_doAct 42 = .ok (.iload_n 1, 1) := dop_27 (zb_X12_doAct_1 3 rfl)
theorem dX12_doAct_43 : decode cX12_doAct 43 = .ok (.iconst 3, 1) := dop_6 (zb_X12_doAct_1 4 rfl)
theorem dX12_doAct_44 : decode cX12_doAct 44 = .ok (.iadd, 1) := dop_96 (zb_X12_doAct_1 5 rfl)
theorem dX12_doAct_45 : decode cX12_doAct 45 = .ok (.iaload, 1) := dop_46 (zb_X12_doAct_1 6 rfl)
theorem dX12_doAct_46 : decode cX12_doAct 46 = .ok (.iastore, 1) := dop_79 (zb_X12_doAct_1 7 rfl)
theorem dX12_doAct_47 : decode cX12_doAct 47 = .ok (.iinc 2 1, 3) := dop_132 (zb_X12_doAct_1 8 rfl) (zb_X12_doAct_1 9 rfl) (zb_X12_doAct_1 10 rfl) rfl
theorem dX12_doAct_50 : decode cX12_doAct 50 = .ok (.goto (-32), 3) := dop_167 (zb_X12_doAct_1 11 rfl) (zb_X12_doAct_1 12 rfl) (zb_X12_doAct_1 13 rfl) rfl
theorem dX12_doAct_53 : decode cX12_doAct 53 = .ok (.goto 109, 3) := dop_167 (zb_X12_doAct_1 14 rfl) (zb_X12_doAct_1 15 rfl) (zb_X12_doAct_1 16 rfl) rfl
theorem dX12_doAct_56 : decode cX12_doAct 56 = .ok (.aload_n 0, 1) := dop_42 (zb_X12_doAct_1 17 rfl)
theorem dX12_doAct_57 : decode cX12_doAct 57 = .ok (.getfield 30, 3) := dop_180 (zb_X12_doAct_1 18 rfl) (zb_X12_doAct_1 19 rfl) (zb_X12_doAct_1 20 rfl) rfl
theorem dX12_doAct_60 : decode cX12_doAct 60 = .ok (.iload_n 1, 1) := dop_27 (zb_X12_doAct_1 21 rfl)
theorem dX12_doAct_61 : decode cX12_doAct 61 = .ok (.iaload, 1) := dop_46 (zb_X12_doAct_1 22 rfl)
theorem dX12_doAct_62 : decode cX12_doAct 62 = .ok (.iconst 1, 1) := dop_4 (zb_X12_doAct_1 23 rfl)
theorem dX12_doAct_63 : decode cX12_doAct 63 = .ok (.if_icmp .ne 26, 3) := dop_160 (zb_X12_doAct_1 24 rfl) (zb_X12_doAct_1 25 rfl) (zb_X12_doAct_1 26 rfl) rfl
theorem dX12_doAct_66 : decode cX12_doAct 66 = .ok (.aload_n 0, 1) := dop_42 (zb_X12_doAct_1 27 rfl)
theorem dX12_doAct_67 : decode cX12_doAct 67 = .ok (.aload_n 0, 1) := dop_42 (zb_X12_doAct_1 28 rfl)
theorem dX12_doAct_68 : decode cX12_doAct 68 = .ok (.getfield 30, 3) := dop_180 (zb_X12_doAct_1 29 rfl) (zb_X12_doAct_1 30 rfl) (zb_X12_doAct_1 31 rfl) rfl
theorem dX12_doAct_71 : decode cX12_doAct 71 = .ok (.iload_n 1, 1) := dop_27 (zb_X12_doAct_1 32 rfl)
theorem dX12_doAct_72 : decode cX12_doAct 72 = .ok (.iconst 1, 1) := dop_4 (zb_X12_doAct_1 33 rfl)
theorem dX12_doAct_73 : decode cX12_doAct 73 = .ok (.iadd, 1) := dop_96 (zb_X12_doAct_1 34 rfl)
theorem dX12_doAct_74 : decode cX12_doAct 74 = .ok (.iaload, 1) := dop_46 (zb_X12_doAct_1 35 rfl)
theorem dX12_doAct_75 : decode cX12_doAct 75 = .ok (.aload_n 0, 1) := dop_42 (zb_X12_doAct_1 36 rfl)
theorem dX12_doAct_76 : decode cX12_doAct 76 = .ok (.getfield 30, 3) := dop_180 (zb_X12_doAct_1 37 rfl) (zb_X12_doAct_1 38 rfl) (zb_X12_doAct_1 39 rfl) rfl
theorem ze_X12_doAct_3 : (dcn cX12_doAct).drop 119 = zt_X12_doAct_3 := dw_n (wl := zw_X12_doAct_2) ze_X12_doAct_2 rfl
theorem zb_X12_doAct_2 (j : Nat) {n : Nat} (e : zw_X12_doAct_2[j]? = some n) : dby cX12_doAct (79 + j) n := dw_b (t := zt_X12_doAct_3) ze_X12_doAct_2 j e
theorem dX12_doAct_79 : decode cX12_doAct 79 = .ok (.iload_n 1, 1) := dop_27 (zb_X12_doAct_2 0 rfl)
theorem dX12_doAct_80 : decode cX12_doAct 80 = .ok (.iconst 2, 1) := dop_5 (zb_X12_doAct_2 1 rfl)
theorem dX12_doAct_81 : decode cX12_doAct 81 = .ok (.iadd, 1) := dop_96 (zb_X12_doAct_2 2 rfl)
theorem dX12_doAct_82 : decode cX12_doAct 82 = .ok (.iaload, 1) := dop_46 (zb_X12_doAct_2 3 rfl)
theorem dX12_doAct_83 : decode cX12_doAct 83 = .ok (.invokevirtual 176, 3) := dop_182 (zb_X12_doAct_2 4 rfl) (zb_X12_doAct_2 5 rfl) (zb_X12_doAct_2 6 rfl) rfl
theorem dX12_doAct_86 : decode cX12_doAct 86 = .ok (.goto 76, 3) := dop_167 (zb_X12_doAct_2 7 rfl) (zb_X12_doAct_2 8 rfl) (zb_X12_doAct_2 9 rfl) rfl
theorem dX12_doAct_89 : decode cX12_doAct 89 = .ok (.aload_n 0, 1) := dop_42 (zb_X12_doAct_2 10 rfl)
theorem dX12_doAct_90 : decode cX12_doAct 90 = .ok (.getfield 30, 3) := dop_180 (zb_X12_doAct_2 11 rfl) (zb_X12_doAct_2 12 rfl) (zb_X12_doAct_2 13 rfl) rfl
theorem dX12_doAct_93 : decode cX12_doAct 93 = .ok (.iload_n 1, 1) := dop_27 (zb_X12_doAct_2 14 rfl)
theorem dX12_doAct_94 : decode cX12_doAct 94 = .ok (.iaload, 1) := dop_46 (zb_X12_doAct_2 15 rfl)
theorem dX12_doAct_95 : decode cX12_doAct 95 = .ok (.iconst 2, 1) := dop_5 (zb_X12_doAct_2 16 rfl)
theorem dX12_doAct_96 : decode cX12_doAct 96 = .ok (.if_icmp .ne 30, 3) := dop_160 (zb_X12_doAct_2 17 rfl) (zb_X12_doAct_2 18 rfl) (zb_X12_doAct_2 19 rfl) rfl
theorem dX12_doAct_99 : decode cX12_doAct 99 = .ok (.aload_n 0, 1) := dop_42 (zb_X12_doAct_2 20 rfl)
theorem dX12_doAct_100 : decode cX12_doAct 100 = .ok (.getfield 13, 3) := dop_180 (zb_X12_doAct_2 21 rfl) (zb_X12_doAct_2 22 rfl) (zb_X12_doAct_2 23 rfl) rfl
theorem dX12_doAct_103 : decode cX12_doAct 103 = .ok (.bipush 42, 2) := dop_16 (zb_X12_doAct_2 24 rfl) (zb_X12_doAct_2 25 rfl) rfl
theorem dX12_doAct_105 : decode cX12_doAct 105 = .ok (.aload_n 0, 1) := dop_42 (zb_X12_doAct_2 26 rfl)
theorem dX12_doAct_106 : decode cX12_doAct 106 = .ok (.getfield 30, 3) := dop_180 (zb_X12_doAct_2 27 rfl) (zb_X12_doAct_2 28 rfl) (zb_X12_doAct_2 29 rfl) rfl
theorem dX12_doAct_109 : decode cX12_doAct 109 = .ok (.iload_n 1, 1) := dop_27 (zb_X12_doAct_2 30 rfl)
theorem dX12_doAct_110 : decode cX12_doAct 110 = .ok (.iconst 1, 1) := dop_4 (zb_X12_doAct_2 31 rfl)
theorem dX12_doAct_111 : decode cX12_doAct 111 = .ok (.iadd, 1) := dop_96 (zb_X12_doAct_2 32 rfl)
theorem dX12_doAct_112 : decode cX12_doAct 112 = .ok (.iaload, 1) := dop_46 (zb_X12_doAct_2 33 rfl)
theorem dX12_doAct_113 : decode cX12_doAct 113 = .ok (.iadd, 1) := dop_96 (zb_X12_doAct_2 34 rfl)
theorem dX12_doAct_114 : decode cX12_doAct 114 = .ok (.aload_n 0, 1) := dop_42 (zb_X12_doAct_2 35 rfl)
theorem dX12_doAct_115 : decode cX12_doAct 115 = .ok (.getfield 30, 3) := dop_180 (zb_X12_doAct_2 36 rfl) (zb_X12_doAct_2 37 rfl) (zb_X12_doAct_2 38 rfl) rfl
theorem dX12_doAct_118 : decode cX12_doAct 118 = .ok (.iload_n 1, 1) := dop_27 (zb_X12_doAct_2 39 rfl)
theorem ze_X12_doAct_4 : (dcn cX12_doAct).drop 159 = zt_X12_doAct_4 := dw_n (wl := zw_X12_doAct_3) ze_X12_doAct_3 rfl
theorem zb_X12_doAct_3 (j : Nat) {n : Nat} (e : zw_X12_doAct_3[j]? = some n) : dby cX12_doAct (119 + j) n := dw_b (t := zt_X12_doAct_4) ze_X12_doAct_3 j e
theorem dX12_doAct_119 : decode cX12_doAct 119 = .ok (.iconst 2, 1) := dop_5 (zb_X12_doAct_3 0 rfl)
theorem dX12_doAct_120 : decode cX12_doAct 120 = .ok (.iadd, 1) := dop_96 (zb_X12_doAct_3 1 rfl)
theorem dX12_doAct_121 : decode cX12_doAct 121 = .ok (.iaload, 1) := dop_46 (zb_X12_doAct_3 2 rfl)
theorem dX12_doAct_122 : decode cX12_doAct 122 = .ok (.iastore, 1) := dop_79 (zb_X12_doAct_3 3 rfl)
theorem dX12_doAct_123 : decode cX12_doAct 123 = .ok (.goto 39, 3) := dop_167 (zb_X12_doAct_3 4 rfl) (zb_X12_doAct_3 5 rfl) (zb_X12_doAct_3 6 rfl) rfl
theorem dX12_doAct_126 : decode cX12_doAct 126 = .ok (.aload_n 0, 1) := dop_42 (zb_X12_doAct_3 7 rfl)
theorem dX12_doAct_127 : decode cX12_doAct 127 = .ok (.aload_n 0, 1) := dop_42 (zb_X12_doAct_3 8 rfl)
theorem dX12_doAct_128 : decode cX12_doAct 128 = .ok (.getfield 30, 3) := dop_180 (zb_X12_doAct_3 9 rfl) (zb_X12_doAct_3 10 rfl) (zb_X12_doAct_3 11 rfl) rfl
theorem dX12_doAct_131 : decode cX12_doAct 131 = .ok (.iload_n 1, 1) := dop_27 (zb_X12_doAct_3 12 rfl)
theorem dX12_doAct_132 : decode cX12_doAct 132 = .ok (.iconst 1, 1) := dop_4 (zb_X12_doAct_3 13 rfl)
theorem dX12_doAct_133 : decode cX12_doAct 133 = .ok (.iadd, 1) := dop_96 (zb_X12_doAct_3 14 rfl)
theorem dX12_doAct_134 : decode cX12_doAct 134 = .ok (.iaload, 1) := dop_46 (zb_X12_doAct_3 15 rfl)
theorem dX12_doAct_135 : decode cX12_doAct 135 = .ok (.aload_n 0, 1) := dop_42 (zb_X12_doAct_3 16 rfl)
theorem dX12_doAct_136 : decode cX12_doAct 136 = .ok (.getfield 30, 3) := dop_180 (zb_X12_doAct_3 17 rfl) (zb_X12_doAct_3 18 rfl) (zb_X12_doAct_3 19 rfl) rfl
theorem dX12_doAct_139 : decode cX12_doAct 139 = .ok (.iload_n 1, 1) := dop_27 (zb_X12_doAct_3 20 rfl)
theorem dX12_doAct_140 : decode cX12_doAct 140 = .ok (.iconst 2, 1) := dop_5 (zb_X12_doAct_3 21 rfl)
theorem dX12_doAct_141 : decode cX12_doAct 141 = .ok (.iadd, 1) := dop_96 (zb_X12_doAct_3 22 rfl)
theorem dX12_doAct_142 : decode cX12_doAct 142 = .ok (.iaload, 1) := dop_46 (zb_X12_doAct_3 23 rfl)
theorem dX12_doAct_143 : decode cX12_doAct 143 = .ok (.aload_n 0, 1) := dop_42 (zb_X12_doAct_3 24 rfl)
theorem dX12_doAct_144 : decode cX12_doAct 144 = .ok (.getfield 30, 3) := dop_180 (zb_X12_doAct_3 25 rfl) (zb_X12_doAct_3 26 rfl) (zb_X12_doAct_3 27 rfl) rfl
theorem dX12_doAct_147 : decode cX12_doAct 147 = .ok (.iload_n 1, 1) := dop_27 (zb_X12_doAct_3 28 rfl)
theorem dX12_doAct_148 : decode cX12_doAct 148 = .ok (.iconst 3, 1) := dop_6 (zb_X12_doAct_3 29 rfl)
theorem dX12_doAct_149 : decode cX12_doAct 149 = .ok (.iadd, 1) := dop_96 (zb_X12_doAct_3 30 rfl)
theorem dX12_doAct_150 : decode cX12_doAct 150 = .ok (.iaload, 1) := dop_46 (zb_X12_doAct_3 31 rfl)
theorem dX12_doAct_151 : decode cX12_doAct 151 = .ok (.aload_n 0, 1) := dop_42 (zb_X12_doAct_3 32 rfl)
theorem dX12_doAct_152 : decode cX12_doAct 152 = .ok (.getfield 30, 3) := dop_180 (zb_X12_doAct_3 33 rfl) (zb_X12_doAct_3 34 rfl) (zb_X12_doAct_3 35 rfl) rfl
theorem dX12_doAct_155 : decode cX12_doAct 155 = .ok (.iload_n 1, 1) := dop_27 (zb_X12_doAct_3 36 rfl)
theorem dX12_doAct_156 : decode cX12_doAct 156 = .ok (.iconst 4, 1) := dop_7 (zb_X12_doAct_3 37 rfl)
theorem dX12_doAct_157 : decode cX12_doAct 157 = .ok (.iadd, 1) := dop_96 (zb_X12_doAct_3 38 rfl)
theorem dX12_doAct_158 : decode cX12_doAct 158 = .ok (.iaload, 1) := dop_46 (zb_X12_doAct_3 39 rfl)
theorem zb_X12_doAct_4 (j : Nat) {n : Nat} (e : zw_X12_doAct_4[j]? = some n) : dby cX12_doAct (159 + j) n := dw_b (t := []) ze_X12_doAct_4 j e
theorem dX12_doAct_159 : decode cX12_doAct 159 = .ok (.invokevirtual 188, 3) := dop_182 (zb_X12_doAct_4 0 rfl) (zb_X12_doAct_4 1 rfl) (zb_X12_doAct_4 2 rfl) rfl
theorem dX12_doAct_162 : decode cX12_doAct 162 = .ok (.return_, 1) := dop_177 (zb_X12_doAct_4 3 rfl)
def zw_X12_times_1 : List Nat := [22, 8, 20, 1, 71, 109, 55, 5, 132, 7, 1, 167, 255, 212, 177]
def zt_X12_times_1 : List Nat := zw_X12_times_1 ++ []
def zw_X12_times_0 : List Nat := [9, 55, 5, 3, 54, 7, 21, 7, 8, 162, 0, 44, 44, 29, 21, 7, 96, 47, 21, 4, 133, 105, 22, 5, 97, 55, 8, 42, 27, 21, 7, 96, 22, 8, 20, 1, 71, 113, 80]
def zt_X12_times_0 : List Nat := zw_X12_times_0 ++ zt_X12_times_1
theorem ze_X12_times_0 : (dcn cX12_times).drop 0 = zt_X12_times_0 := by decide +kernel
theorem ze_X12_times_1 : (dcn cX12_times).drop 39 = zt_X12_times_1 := dw_n (wl := zw_X12_times_0) ze_X12_times_0 rfl
theorem zb_X12_times_0 (j : Nat) {n : Nat} (e : zw_X12_times_0[j]? = some n) : dby cX12_times (0 + j) n := dw_b (t := zt_X12_times_1) ze_X12_times_0 j e
theorem dX12_times_0 : decode cX12_times 0 = .ok (.lconst 0, 1) := dop_9 (zb_X12_times_0 0 rfl)
theorem dX12_times_1 : decode cX12_times 1 = .ok (.lstore 5, 2) := dop_55 (zb_X12_times_0 1 rfl) (zb_X12_times_0 2 rfl)
theorem dX12_times_3 : decode cX12_times 3 = .ok (.iconst 0, 1) := dop_3 (zb_X12_times_0 3 rfl)
theorem dX12_times_4 : decode cX12_times 4 = .ok (.istore 7, 2) := dop_54 (zb_X12_times_0 4 rfl) (zb_X12_times_0 5 rfl)
theorem dX12_times_6 : decode cX12_times 6 = .ok (.iload 7, 2) := dop_21 (zb_X12_times_0 6 rfl) (zb_X12_times_0 7 rfl)
theorem dX12_times_8 : decode cX12_times 8 = .ok (.iconst 5, 1) := dop_8 (zb_X12_times_0 8 rfl)
theorem dX12_times_9 : decode cX12_times 9 = .ok (.if_icmp .ge 44, 3) := dop_162 (zb_X12_times_0 9 rfl) (zb_X12_times_0 10 rfl) (zb_X12_times_0 11 rfl) rfl
theorem dX12_times_12 : decode cX12_times 12 = .ok (.aload_n 2, 1) := dop_44 (zb_X12_times_0 12 rfl)
theorem dX12_times_13 : decode cX12_times 13 = .ok (.iload_n 3, 1) := dop_29 (zb_X12_times_0 13 rfl)
theorem dX12_times_14 : decode cX12_times 14 = .ok (.iload 7, 2) := dop_21 (zb_X12_times_0 14 rfl) (zb_X12_times_0 15 rfl)
theorem dX12_times_16 : decode cX12_times 16 = .ok (.iadd, 1) := dop_96 (zb_X12_times_0 16 rfl)
theorem dX12_times_17 : decode cX12_times 17 = .ok (.laload, 1) := dop_47 (zb_X12_times_0 17 rfl)
theorem dX12_times_18 : decode cX12_times 18 = .ok (.iload 4, 2) := dop_21 (zb_X12_times_0 18 rfl) (zb_X12_times_0 19 rfl)
theorem dX12_times_20 : decode cX12_times 20 = .ok (.i2l, 1) := dop_133 (zb_X12_times_0 20 rfl)
theorem dX12_times_21 : decode cX12_times 21 = .ok (.lmul, 1) := dop_105 (zb_X12_times_0 21 rfl)
theorem dX12_times_22 : decode cX12_times 22 = .ok (.lload 5, 2) := dop_22 (zb_X12_times_0 22 rfl) (zb_X12_times_0 23 rfl)
theorem dX12_times_24 : decode cX12_times 24 = .ok (.ladd, 1) := dop_97 (zb_X12_times_0 24 rfl)
theorem dX12_times_25 : decode cX12_times 25 = .ok (.lstore 8, 2) := dop_55 (zb_X12_times_0 25 rfl) (zb_X12_times_0 26 rfl)
theorem dX12_times_27 : decode cX12_times 27 = .ok (.aload_n 0, 1) := dop_42 (zb_X12_times_0 27 rfl)
theorem dX12_times_28 : decode cX12_times 28 = .ok (.iload_n 1, 1) := dop_27 (zb_X12_times_0 28 rfl)
theorem dX12_times_29 : decode cX12_times 29 = .ok (.iload 7, 2) := dop_21 (zb_X12_times_0 29 rfl) (zb_X12_times_0 30 rfl)
theorem dX12_times_31 : decode cX12_times 31 = .ok (.iadd, 1) := dop_96 (zb_X12_times_0 31 rfl)
theorem dX12_times_32 : decode cX12_times 32 = .ok (.lload 8, 2) := dop_22 (zb_X12_times_0 32 rfl) (zb_X12_times_0 33 rfl)
theorem dX12_times_34 : decode cX12_times 34 = .ok (.ldc2_w 327, 3) := dop_20 (zb_X12_times_0 34 rfl) (zb_X12_times_0 35 rfl) (zb_X12_times_0 36 rfl) rfl
theorem dX12_times_37 : decode cX12_times 37 = .ok (.lrem, 1) := dop_113 (zb_X12_times_0 37 rfl)
theorem dX12_times_38 : decode cX12_times 38 = .ok (.lastore, 1) := dop_80 (zb_X12_times_0 38 rfl)
theorem zb_X12_times_1 (j : Nat) {n : Nat} (e : zw_X12_times_1[j]? = some n) : dby cX12_times (39 + j) n := dw_b (t := []) ze_X12_times_1 j e
theorem dX12_times_39 : decode cX12_times 39 = .ok (.lload 8, 2) := dop_22 (zb_X12_times_1 0 rfl) (zb_X12_times_1 1 rfl)
theorem dX12_times_41 : decode cX12_times 41 = .ok (.ldc2_w 327, 3) := dop_20 (zb_X12_times_1 2 rfl) (zb_X12_times_1 3 rfl) (zb_X12_times_1 4 rfl) rfl
theorem dX12_times_44 : decode cX12_times 44 = .ok (.ldiv, 1) := dop_109 (zb_X12_times_1 5 rfl)
theorem dX12_times_45 : decode cX12_times 45 = .ok (.lstore 5, 2) := dop_55 (zb_X12_times_1 6 rfl) (zb_X12_times_1 7 rfl)
theorem dX12_times_47 : decode cX12_times 47 = .ok (.iinc 7 1, 3) := dop_132 (zb_X12_times_1 8 rfl) (zb_X12_times_1 9 rfl) (zb_X12_times_1 10 rfl) rfl
theorem dX12_times_50 : decode cX12_times 50 = .ok (.goto (-44), 3) := dop_167 (zb_X12_times_1 11 rfl) (zb_X12_times_1 12 rfl) (zb_X12_times_1 13 rfl) rfl
theorem dX12_times_53 : decode cX12_times 53 = .ok (.return_, 1) := dop_177 (zb_X12_times_1 14 rfl)
def zw_X12_product_2 : List Nat := [20, 1, 71, 113, 80, 22, 9, 20, 1, 71, 109, 55, 6, 132, 8, 1, 167, 255, 199, 42, 21, 5, 8, 96, 92, 47, 22, 6, 97, 80, 132, 5, 1, 167, 255, 170, 177]
def zt_X12_product_2 : List Nat := zw_X12_product_2 ++ []
def zw_X12_product_1 : List Nat := [162, 0, 57, 42, 21, 5, 21, 8, 96, 47, 43, 28, 21, 5, 96, 47, 45, 21, 4, 21, 8, 96, 47, 105, 97, 22, 6, 97, 55, 9, 42, 21, 5, 21, 8, 96, 22, 9]
def zt_X12_product_1 : List Nat := zw_X12_product_1 ++ zt_X12_product_2
def zw_X12_product_0 : List Nat := [3, 54, 5, 21, 5, 16, 10, 162, 0, 14, 42, 21, 5, 9, 80, 132, 5, 1, 167, 255, 241, 3, 54, 5, 21, 5, 8, 162, 0, 86, 9, 55, 6, 3, 54, 8, 21, 8, 8]
def zt_X12_product_0 : List Nat := zw_X12_product_0 ++ zt_X12_product_1
theorem ze_X12_product_0 : (dcn cX12_product).drop 0 = zt_X12_product_0 := by decide +kernel
theorem ze_X12_product_1 : (dcn cX12_product).drop 39 = zt_X12_product_1 := dw_n (wl := zw_X12_product_0) ze_X12_product_0 rfl
theorem zb_X12_product_0 (j : Nat) {n : Nat} (e : zw_X12_product_0[j]? = some n) : dby cX12_product (0 + j) n := dw_b (t := zt_X12_product_1) ze_X12_product_0 j e
theorem dX12_product_0 : decode cX12_product 0 = .ok (.iconst 0, 1) := dop_3 (zb_X12_product_0 0 rfl)
theorem dX12_product_1 : decode cX12_product 1 = .ok (.istore 5, 2) := dop_54 (zb_X12_product_0 1 rfl) (zb_X12_product_0 2 rfl)
theorem dX12_product_3 : decode cX12_product 3 = .ok (.iload 5, 2) := dop_21 (zb_X12_product_0 3 rfl) (zb_X12_product_0 4 rfl)
theorem dX12_product_5 : decode cX12_product 5 = .ok (.bipush 10, 2) := dop_16 (zb_X12_product_0 5 rfl) (zb_X12_product_0 6 rfl) rfl
theorem dX12_product_7 : decode cX12_product 7 = .ok (.if_icmp .ge 14, 3) := dop_162 (zb_X12_product_0 7 rfl) (zb_X12_product_0 8 rfl) (zb_X12_product_0 9 rfl) rfl
theorem dX12_product_10 : decode cX12_product 10 = .ok (.aload_n 0, 1) := dop_42 (zb_X12_product_0 10 rfl)
theorem dX12_product_11 : decode cX12_product 11 = .ok (.iload 5, 2) := dop_21 (zb_X12_product_0 11 rfl) (zb_X12_product_0 12 rfl)
theorem dX12_product_13 : decode cX12_product 13 = .ok (.lconst 0, 1) := dop_9 (zb_X12_product_0 13 rfl)
theorem dX12_product_14 : decode cX12_product 14 = .ok (.lastore, 1) := dop_80 (zb_X12_product_0 14 rfl)
theorem dX12_product_15 : decode cX12_product 15 = .ok (.iinc 5 1, 3) := dop_132 (zb_X12_product_0 15 rfl) (zb_X12_product_0 16 rfl) (zb_X12_product_0 17 rfl) rfl
theorem dX12_product_18 : decode cX12_product 18 = .ok (.goto (-15), 3) := dop_167 (zb_X12_product_0 18 rfl) (zb_X12_product_0 19 rfl) (zb_X12_product_0 20 rfl) rfl
theorem dX12_product_21 : decode cX12_product 21 = .ok (.iconst 0, 1) := dop_3 (zb_X12_product_0 21 rfl)
theorem dX12_product_22 : decode cX12_product 22 = .ok (.istore 5, 2) := dop_54 (zb_X12_product_0 22 rfl) (zb_X12_product_0 23 rfl)
theorem dX12_product_24 : decode cX12_product 24 = .ok (.iload 5, 2) := dop_21 (zb_X12_product_0 24 rfl) (zb_X12_product_0 25 rfl)
theorem dX12_product_26 : decode cX12_product 26 = .ok (.iconst 5, 1) := dop_8 (zb_X12_product_0 26 rfl)
theorem dX12_product_27 : decode cX12_product 27 = .ok (.if_icmp .ge 86, 3) := dop_162 (zb_X12_product_0 27 rfl) (zb_X12_product_0 28 rfl) (zb_X12_product_0 29 rfl) rfl
theorem dX12_product_30 : decode cX12_product 30 = .ok (.lconst 0, 1) := dop_9 (zb_X12_product_0 30 rfl)
theorem dX12_product_31 : decode cX12_product 31 = .ok (.lstore 6, 2) := dop_55 (zb_X12_product_0 31 rfl) (zb_X12_product_0 32 rfl)
theorem dX12_product_33 : decode cX12_product 33 = .ok (.iconst 0, 1) := dop_3 (zb_X12_product_0 33 rfl)
theorem dX12_product_34 : decode cX12_product 34 = .ok (.istore 8, 2) := dop_54 (zb_X12_product_0 34 rfl) (zb_X12_product_0 35 rfl)
theorem dX12_product_36 : decode cX12_product 36 = .ok (.iload 8, 2) := dop_21 (zb_X12_product_0 36 rfl) (zb_X12_product_0 37 rfl)
theorem dX12_product_38 : decode cX12_product 38 = .ok (.iconst 5, 1) := dop_8 (zb_X12_product_0 38 rfl)
theorem ze_X12_product_2 : (dcn cX12_product).drop 77 = zt_X12_product_2 := dw_n (wl := zw_X12_product_1) ze_X12_product_1 rfl
theorem zb_X12_product_1 (j : Nat) {n : Nat} (e : zw_X12_product_1[j]? = some n) : dby cX12_product (39 + j) n := dw_b (t := zt_X12_product_2) ze_X12_product_1 j e
theorem dX12_product_39 : decode cX12_product 39 = .ok (.if_icmp .ge 57, 3) := dop_162 (zb_X12_product_1 0 rfl) (zb_X12_product_1 1 rfl) (zb_X12_product_1 2 rfl) rfl
theorem dX12_product_42 : decode cX12_product 42 = .ok (.aload_n 0, 1) := dop_42 (zb_X12_product_1 3 rfl)
theorem dX12_product_43 : decode cX12_product 43 = .ok (.iload 5, 2) := dop_21 (zb_X12_product_1 4 rfl) (zb_X12_product_1 5 rfl)
theorem dX12_product_45 : decode cX12_product 45 = .ok (.iload 8, 2) := dop_21 (zb_X12_product_1 6 rfl) (zb_X12_product_1 7 rfl)
theorem dX12_product_47 : decode cX12_product 47 = .ok (.iadd, 1) := dop_96 (zb_X12_product_1 8 rfl)
theorem dX12_product_48 : decode cX12_product 48 = .ok (.laload, 1) := dop_47 (zb_X12_product_1 9 rfl)
theorem dX12_product_49 : decode cX12_product 49 = .ok (.aload_n 1, 1) := dop_43 (zb_X12_product_1 10 rfl)
theorem dX12_product_50 : decode cX12_product 50 = .ok (.iload_n 2, 1) := dop_28 (zb_X12_product_1 11 rfl)
theorem dX12_product_51 : decode cX12_product 51 = .ok (.iload 5, 2) := dop_21 (zb_X12_product_1 12 rfl) (zb_X12_product_1 13 rfl)
theorem dX12_product_53 : decode cX12_product 53 = .ok (.iadd, 1) := dop_96 (zb_X12_product_1 14 rfl)
theorem dX12_product_54 : decode cX12_product 54 = .ok (.laload, 1) := dop_47 (zb_X12_product_1 15 rfl)
theorem dX12_product_55 : decode cX12_product 55 = .ok (.aload_n 3, 1) := dop_45 (zb_X12_product_1 16 rfl)
theorem dX12_product_56 : decode cX12_product 56 = .ok (.iload 4, 2) := dop_21 (zb_X12_product_1 17 rfl) (zb_X12_product_1 18 rfl)
theorem dX12_product_58 : decode cX12_product 58 = .ok (.iload 8, 2) := dop_21 (zb_X12_product_1 19 rfl) (zb_X12_product_1 20 rfl)
theorem dX12_product_60 : decode cX12_product 60 = .ok (.iadd, 1) := dop_96 (zb_X12_product_1 21 rfl)
theorem dX12_product_61 : decode cX12_product 61 = .ok (.laload, 1) := dop_47 (zb_X12_product_1 22 rfl)
theorem dX12_product_62 : decode cX12_product 62 = .ok (.lmul, 1) := dop_105 (zb_X12_product_1 23 rfl)
theorem dX12_product_63 : decode cX12_product 63 = .ok (.ladd, 1) := dop_97 (zb_X12_product_1 24 rfl)
theorem dX12_product_64 : decode cX12_product 64 = .ok (.lload 6, 2) := dop_22 (zb_X12_product_1 25 rfl) (zb_X12_product_1 26 rfl)
theorem dX12_product_66 : decode cX12_product 66 = .ok (.ladd, 1) := dop_97 (zb_X12_product_1 27 rfl)
theorem dX12_product_67 : decode cX12_product 67 = .ok (.lstore 9, 2) := dop_55 (zb_X12_product_1 28 rfl) (zb_X12_product_1 29 rfl)
theorem dX12_product_69 : decode cX12_product 69 = .ok (.aload_n 0, 1) := dop_42 (zb_X12_product_1 30 rfl)
theorem dX12_product_70 : decode cX12_product 70 = .ok (.iload 5, 2) := dop_21 (zb_X12_product_1 31 rfl) (zb_X12_product_1 32 rfl)
theorem dX12_product_72 : decode cX12_product 72 = .ok (.iload 8, 2) := dop_21 (zb_X12_product_1 33 rfl) (zb_X12_product_1 34 rfl)
theorem dX12_product_74 : decode cX12_product 74 = .ok (.iadd, 1) := dop_96 (zb_X12_product_1 35 rfl)
theorem dX12_product_75 : decode cX12_product 75 = .ok (.lload 9, 2) := dop_22 (zb_X12_product_1 36 rfl) (zb_X12_product_1 37 rfl)
theorem zb_X12_product_2 (j : Nat) {n : Nat} (e : zw_X12_product_2[j]? = some n) : dby cX12_product (77 + j) n := dw_b (t := []) ze_X12_product_2 j e
theorem dX12_product_77 : decode cX12_product 77 = .ok (.ldc2_w 327, 3) := dop_20 (zb_X12_product_2 0 rfl) (zb_X12_product_2 1 rfl) (zb_X12_product_2 2 rfl) rfl
theorem dX12_product_80 : decode cX12_product 80 = .ok (.lrem, 1) := dop_113 (zb_X12_product_2 3 rfl)
theorem dX12_product_81 : decode cX12_product 81 = .ok (.lastore, 1) := dop_80 (zb_X12_product_2 4 rfl)
theorem dX12_product_82 : decode cX12_product 82 = .ok (.lload 9, 2) := dop_22 (zb_X12_product_2 5 rfl) (zb_X12_product_2 6 rfl)
theorem dX12_product_84 : decode cX12_product 84 = .ok (.ldc2_w 327, 3) := dop_20 (zb_X12_product_2 7 rfl) (zb_X12_product_2 8 rfl) (zb_X12_product_2 9 rfl) rfl
theorem dX12_product_87 : decode cX12_product 87 = .ok (.ldiv, 1) := dop_109 (zb_X12_product_2 10 rfl)
theorem dX12_product_88 : decode cX12_product 88 = .ok (.lstore 6, 2) := dop_55 (zb_X12_product_2 11 rfl) (zb_X12_product_2 12 rfl)
theorem dX12_product_90 : decode cX12_product 90 = .ok (.iinc 8 1, 3) := dop_132 (zb_X12_product_2 13 rfl) (zb_X12_product_2 14 rfl) (zb_X12_product_2 15 rfl) rfl
theorem dX12_product_93 : decode cX12_product 93 = .ok (.goto (-57), 3) := dop_167 (zb_X12_product_2 16 rfl) (zb_X12_product_2 17 rfl) (zb_X12_product_2 18 rfl) rfl
theorem dX12_product_96 : decode cX12_product 96 = .ok (.aload_n 0, 1) := dop_42 (zb_X12_product_2 19 rfl)
theorem dX12_product_97 : decode cX12_product 97 = .ok (.iload 5, 2) := dop_21 (zb_X12_product_2 20 rfl) (zb_X12_product_2 21 rfl)
theorem dX12_product_99 : decode cX12_product 99 = .ok (.iconst 5, 1) := dop_8 (zb_X12_product_2 22 rfl)
theorem dX12_product_100 : decode cX12_product 100 = .ok (.iadd, 1) := dop_96 (zb_X12_product_2 23 rfl)
theorem dX12_product_101 : decode cX12_product 101 = .ok (.dup2, 1) := dop_92 (zb_X12_product_2 24 rfl)
theorem dX12_product_102 : decode cX12_product 102 = .ok (.laload, 1) := dop_47 (zb_X12_product_2 25 rfl)
theorem dX12_product_103 : decode cX12_product 103 = .ok (.lload 6, 2) := dop_22 (zb_X12_product_2 26 rfl) (zb_X12_product_2 27 rfl)
theorem dX12_product_105 : decode cX12_product 105 = .ok (.ladd, 1) := dop_97 (zb_X12_product_2 28 rfl)
theorem dX12_product_106 : decode cX12_product 106 = .ok (.lastore, 1) := dop_80 (zb_X12_product_2 29 rfl)
theorem dX12_product_107 : decode cX12_product 107 = .ok (.iinc 5 1, 3) := dop_132 (zb_X12_product_2 30 rfl) (zb_X12_product_2 31 rfl) (zb_X12_product_2 32 rfl) rfl
theorem dX12_product_110 : decode cX12_product 110 = .ok (.goto (-86), 3) := dop_167 (zb_X12_product_2 33 rfl) (zb_X12_product_2 34 rfl) (zb_X12_product_2 35 rfl) rfl
theorem dX12_product_113 : decode cX12_product 113 = .ok (.return_, 1) := dop_177 (zb_X12_product_2 36 rfl)
def zw_X12_compare_2 : List Nat := [132, 7, 255, 167, 255, 206, 3, 172]
def zt_X12_compare_2 : List Nat := zw_X12_compare_2 ++ []
def zw_X12_compare_1 : List Nat := [21, 7, 47, 42, 180, 0, 37, 21, 7, 47, 148, 153, 0, 27, 42, 180, 0, 33, 21, 7, 47, 42, 180, 0, 37, 21, 7, 47, 148, 156, 0, 7, 2, 167, 0, 4, 4, 172]
def zt_X12_compare_1 : List Nat := zw_X12_compare_1 ++ zt_X12_compare_2
def zw_X12_compare_0 : List Nat := [42, 180, 0, 33, 43, 29, 25, 5, 21, 6, 184, 1, 73, 42, 180, 0, 37, 25, 4, 21, 6, 44, 29, 184, 1, 73, 16, 9, 54, 7, 21, 7, 155, 0, 51, 42, 180, 0, 33]
def zt_X12_compare_0 : List Nat := zw_X12_compare_0 ++ zt_X12_compare_1
theorem ze_X12_compare_0 : (dcn cX12_compare).drop 0 = zt_X12_compare_0 := by decide +kernel
theorem ze_X12_compare_1 : (dcn cX12_compare).drop 39 = zt_X12_compare_1 := dw_n (wl := zw_X12_compare_0) ze_X12_compare_0 rfl
theorem zb_X12_compare_0 (j : Nat) {n : Nat} (e : zw_X12_compare_0[j]? = some n) : dby cX12_compare (0 + j) n := dw_b (t := zt_X12_compare_1) ze_X12_compare_0 j e
theorem dX12_compare_0 : decode cX12_compare 0 = .ok (.aload_n 0, 1) := dop_42 (zb_X12_compare_0 0 rfl)
theorem dX12_compare_1 : decode cX12_compare 1 = .ok (.getfield 33, 3) := dop_180 (zb_X12_compare_0 1 rfl) (zb_X12_compare_0 2 rfl) (zb_X12_compare_0 3 rfl) rfl
theorem dX12_compare_4 : decode cX12_compare 4 = .ok (.aload_n 1, 1) := dop_43 (zb_X12_compare_0 4 rfl)
theorem dX12_compare_5 : decode cX12_compare 5 = .ok (.iload_n 3, 1) := dop_29 (zb_X12_compare_0 5 rfl)
theorem dX12_compare_6 : decode cX12_compare 6 = .ok (.aload 5, 2) := dop_25 (zb_X12_compare_0 6 rfl) (zb_X12_compare_0 7 rfl)
theorem dX12_compare_8 : decode cX12_compare 8 = .ok (.iload 6, 2) := dop_21 (zb_X12_compare_0 8 rfl) (zb_X12_compare_0 9 rfl)
theorem dX12_compare_10 : decode cX12_compare 10 = .ok (.invokestatic 329, 3) := dop_184 (zb_X12_compare_0 10 rfl) (zb_X12_compare_0 11 rfl) (zb_X12_compare_0 12 rfl) rfl
theorem dX12_compare_13 : decode cX12_compare 13 = .ok (.aload_n 0, 1) := dop_42 (zb_X12_compare_0 13 rfl)
theorem dX12_compare_14 : decode cX12_compare 14 = .ok (.getfield 37, 3) := dop_180 (zb_X12_compare_0 14 rfl) (zb_X12_compare_0 15 rfl) (zb_X12_compare_0 16 rfl) rfl
theorem dX12_compare_17 : decode cX12_compare 17 = .ok (.aload 4, 2) := dop_25 (zb_X12_compare_0 17 rfl) (zb_X12_compare_0 18 rfl)
theorem dX12_compare_19 : decode cX12_compare 19 = .ok (.iload 6, 2) := dop_21 (zb_X12_compare_0 19 rfl) (zb_X12_compare_0 20 rfl)
theorem dX12_compare_21 : decode cX12_compare 21 = .ok (.aload_n 2, 1) := dop_44 (zb_X12_compare_0 21 rfl)
theorem dX12_compare_22 : decode cX12_compare 22 = .ok (.iload_n 3, 1) := dop_29 (zb_X12_compare_0 22 rfl)
theorem dX12_compare_23 : decode cX12_compare 23 = .ok (.invokestatic 329, 3) := dop_184 (zb_X12_compare_0 23 rfl) (zb_X12_compare_0 24 rfl) (zb_X12_compare_0 25 rfl) rfl
theorem dX12_compare_26 : decode cX12_compare 26 = .ok (.bipush 9, 2) := dop_16 (zb_X12_compare_0 26 rfl) (zb_X12_compare_0 27 rfl) rfl
theorem dX12_compare_28 : decode cX12_compare 28 = .ok (.istore 7, 2) := dop_54 (zb_X12_compare_0 28 rfl) (zb_X12_compare_0 29 rfl)
theorem dX12_compare_30 : decode cX12_compare 30 = .ok (.iload 7, 2) := dop_21 (zb_X12_compare_0 30 rfl) (zb_X12_compare_0 31 rfl)
theorem dX12_compare_32 : decode cX12_compare 32 = .ok (.ifCond .lt 51, 3) := dop_155 (zb_X12_compare_0 32 rfl) (zb_X12_compare_0 33 rfl) (zb_X12_compare_0 34 rfl) rfl
theorem dX12_compare_35 : decode cX12_compare 35 = .ok (.aload_n 0, 1) := dop_42 (zb_X12_compare_0 35 rfl)
theorem dX12_compare_36 : decode cX12_compare 36 = .ok (.getfield 33, 3) := dop_180 (zb_X12_compare_0 36 rfl) (zb_X12_compare_0 37 rfl) (zb_X12_compare_0 38 rfl) rfl
theorem ze_X12_compare_2 : (dcn cX12_compare).drop 77 = zt_X12_compare_2 := dw_n (wl := zw_X12_compare_1) ze_X12_compare_1 rfl
theorem zb_X12_compare_1 (j : Nat) {n : Nat} (e : zw_X12_compare_1[j]? = some n) : dby cX12_compare (39 + j) n := dw_b (t := zt_X12_compare_2) ze_X12_compare_1 j e
theorem dX12_compare_39 : decode cX12_compare 39 = .ok (.iload 7, 2) := dop_21 (zb_X12_compare_1 0 rfl) (zb_X12_compare_1 1 rfl)
theorem dX12_compare_41 : decode cX12_compare 41 = .ok (.laload, 1) := dop_47 (zb_X12_compare_1 2 rfl)
theorem dX12_compare_42 : decode cX12_compare 42 = .ok (.aload_n 0, 1) := dop_42 (zb_X12_compare_1 3 rfl)
theorem dX12_compare_43 : decode cX12_compare 43 = .ok (.getfield 37, 3) := dop_180 (zb_X12_compare_1 4 rfl) (zb_X12_compare_1 5 rfl) (zb_X12_compare_1 6 rfl) rfl
theorem dX12_compare_46 : decode cX12_compare 46 = .ok (.iload 7, 2) := dop_21 (zb_X12_compare_1 7 rfl) (zb_X12_compare_1 8 rfl)
theorem dX12_compare_48 : decode cX12_compare 48 = .ok (.laload, 1) := dop_47 (zb_X12_compare_1 9 rfl)
theorem dX12_compare_49 : decode cX12_compare 49 = .ok (.lcmp, 1) := dop_148 (zb_X12_compare_1 10 rfl)
theorem dX12_compare_50 : decode cX12_compare 50 = .ok (.ifCond .eq 27, 3) := dop_153 (zb_X12_compare_1 11 rfl) (zb_X12_compare_1 12 rfl) (zb_X12_compare_1 13 rfl) rfl
theorem dX12_compare_53 : decode cX12_compare 53 = .ok (.aload_n 0, 1) := dop_42 (zb_X12_compare_1 14 rfl)
theorem dX12_compare_54 : decode cX12_compare 54 = .ok (.getfield 33, 3) := dop_180 (zb_X12_compare_1 15 rfl) (zb_X12_compare_1 16 rfl) (zb_X12_compare_1 17 rfl) rfl
theorem dX12_compare_57 : decode cX12_compare 57 = .ok (.iload 7, 2) := dop_21 (zb_X12_compare_1 18 rfl) (zb_X12_compare_1 19 rfl)
theorem dX12_compare_59 : decode cX12_compare 59 = .ok (.laload, 1) := dop_47 (zb_X12_compare_1 20 rfl)
theorem dX12_compare_60 : decode cX12_compare 60 = .ok (.aload_n 0, 1) := dop_42 (zb_X12_compare_1 21 rfl)
theorem dX12_compare_61 : decode cX12_compare 61 = .ok (.getfield 37, 3) := dop_180 (zb_X12_compare_1 22 rfl) (zb_X12_compare_1 23 rfl) (zb_X12_compare_1 24 rfl) rfl
theorem dX12_compare_64 : decode cX12_compare 64 = .ok (.iload 7, 2) := dop_21 (zb_X12_compare_1 25 rfl) (zb_X12_compare_1 26 rfl)
theorem dX12_compare_66 : decode cX12_compare 66 = .ok (.laload, 1) := dop_47 (zb_X12_compare_1 27 rfl)
theorem dX12_compare_67 : decode cX12_compare 67 = .ok (.lcmp, 1) := dop_148 (zb_X12_compare_1 28 rfl)
theorem dX12_compare_68 : decode cX12_compare 68 = .ok (.ifCond .ge 7, 3) := dop_156 (zb_X12_compare_1 29 rfl) (zb_X12_compare_1 30 rfl) (zb_X12_compare_1 31 rfl) rfl
theorem dX12_compare_71 : decode cX12_compare 71 = .ok (.iconst (-1), 1) := dop_2 (zb_X12_compare_1 32 rfl)
theorem dX12_compare_72 : decode cX12_compare 72 = .ok (.goto 4, 3) := dop_167 (zb_X12_compare_1 33 rfl) (zb_X12_compare_1 34 rfl) (zb_X12_compare_1 35 rfl) rfl
theorem dX12_compare_75 : decode cX12_compare 75 = .ok (.iconst 1, 1) := dop_4 (zb_X12_compare_1 36 rfl)
theorem dX12_compare_76 : decode cX12_compare 76 = .ok (.ireturn, 1) := dop_172 (zb_X12_compare_1 37 rfl)
theorem zb_X12_compare_2 (j : Nat) {n : Nat} (e : zw_X12_compare_2[j]? = some n) : dby cX12_compare (77 + j) n := dw_b (t := []) ze_X12_compare_2 j e
theorem dX12_compare_77 : decode cX12_compare 77 = .ok (.iinc 7 (-1), 3) := dop_132 (zb_X12_compare_2 0 rfl) (zb_X12_compare_2 1 rfl) (zb_X12_compare_2 2 rfl) rfl
theorem dX12_compare_80 : decode cX12_compare 80 = .ok (.goto (-50), 3) := dop_167 (zb_X12_compare_2 3 rfl) (zb_X12_compare_2 4 rfl) (zb_X12_compare_2 5 rfl) rfl
theorem dX12_compare_83 : decode cX12_compare 83 = .ok (.iconst 0, 1) := dop_3 (zb_X12_compare_2 6 rfl)
theorem dX12_compare_84 : decode cX12_compare 84 = .ok (.ireturn, 1) := dop_172 (zb_X12_compare_2 7 rfl)
def zw_X12_asIs_1 : List Nat := [180, 0, 58, 27, 42, 180, 0, 13, 16, 42, 27, 96, 46, 79, 132, 1, 1, 167, 255, 232, 177]
def zt_X12_asIs_1 : List Nat := zw_X12_asIs_1 ++ []
def zw_X12_asIs_0 : List Nat := [3, 60, 27, 16, 32, 162, 0, 24, 42, 180, 0, 55, 27, 42, 180, 0, 13, 16, 10, 27, 96, 46, 79, 132, 1, 1, 167, 255, 232, 3, 60, 27, 16, 6, 162, 0, 24, 42]
def zt_X12_asIs_0 : List Nat := zw_X12_asIs_0 ++ zt_X12_asIs_1
theorem ze_X12_asIs_0 : (dcn cX12_asIs).drop 0 = zt_X12_asIs_0 := by decide +kernel
theorem ze_X12_asIs_1 : (dcn cX12_asIs).drop 38 = zt_X12_asIs_1 := dw_n (wl := zw_X12_asIs_0) ze_X12_asIs_0 rfl
theorem zb_X12_asIs_0 (j : Nat) {n : Nat} (e : zw_X12_asIs_0[j]? = some n) : dby cX12_asIs (0 + j) n := dw_b (t := zt_X12_asIs_1) ze_X12_asIs_0 j e
theorem dX12_asIs_0 : decode cX12_asIs 0 = .ok (.iconst 0, 1) := dop_3 (zb_X12_asIs_0 0 rfl)
theorem dX12_asIs_1 : decode cX12_asIs 1 = .ok (.istore_n 1, 1) := dop_60 (zb_X12_asIs_0 1 rfl)
theorem dX12_asIs_2 : decode cX12_asIs 2 = .ok (.iload_n 1, 1) := dop_27 (zb_X12_asIs_0 2 rfl)
theorem dX12_asIs_3 : decode cX12_asIs 3 = .ok (.bipush 32, 2) := dop_16 (zb_X12_asIs_0 3 rfl) (zb_X12_asIs_0 4 rfl) rfl
theorem dX12_asIs_5 : decode cX12_asIs 5 = .ok (.if_icmp .ge 24, 3) := dop_162 (zb_X12_asIs_0 5 rfl) (zb_X12_asIs_0 6 rfl) (zb_X12_asIs_0 7 rfl) rfl
theorem dX12_asIs_8 : decode cX12_asIs 8 = .ok (.aload_n 0, 1) := dop_42 (zb_X12_asIs_0 8 rfl)
theorem dX12_asIs_9 : decode cX12_asIs 9 = .ok (.getfield 55, 3) := dop_180 (zb_X12_asIs_0 9 rfl) (zb_X12_asIs_0 10 rfl) (zb_X12_asIs_0 11 rfl) rfl
theorem dX12_asIs_12 : decode cX12_asIs 12 = .ok (.iload_n 1, 1) := dop_27 (zb_X12_asIs_0 12 rfl)
theorem dX12_asIs_13 : decode cX12_asIs 13 = .ok (.aload_n 0, 1) := dop_42 (zb_X12_asIs_0 13 rfl)
theorem dX12_asIs_14 : decode cX12_asIs 14 = .ok (.getfield 13, 3) := dop_180 (zb_X12_asIs_0 14 rfl) (zb_X12_asIs_0 15 rfl) (zb_X12_asIs_0 16 rfl) rfl
theorem dX12_asIs_17 : decode cX12_asIs 17 = .ok (.bipush 10, 2) := dop_16 (zb_X12_asIs_0 17 rfl) (zb_X12_asIs_0 18 rfl) rfl
theorem dX12_asIs_19 : decode cX12_asIs 19 = .ok (.iload_n 1, 1) := dop_27 (zb_X12_asIs_0 19 rfl)
theorem dX12_asIs_20 : decode cX12_asIs 20 = .ok (.iadd, 1) := dop_96 (zb_X12_asIs_0 20 rfl)
theorem dX12_asIs_21 : decode cX12_asIs 21 = .ok (.iaload, 1) := dop_46 (zb_X12_asIs_0 21 rfl)
theorem dX12_asIs_22 : decode cX12_asIs 22 = .ok (.iastore, 1) := dop_79 (zb_X12_asIs_0 22 rfl)
theorem dX12_asIs_23 : decode cX12_asIs 23 = .ok (.iinc 1 1, 3) := dop_132 (zb_X12_asIs_0 23 rfl) (zb_X12_asIs_0 24 rfl) (zb_X12_asIs_0 25 rfl) rfl
theorem dX12_asIs_26 : decode cX12_asIs 26 = .ok (.goto (-24), 3) := dop_167 (zb_X12_asIs_0 26 rfl) (zb_X12_asIs_0 27 rfl) (zb_X12_asIs_0 28 rfl) rfl
theorem dX12_asIs_29 : decode cX12_asIs 29 = .ok (.iconst 0, 1) := dop_3 (zb_X12_asIs_0 29 rfl)
theorem dX12_asIs_30 : decode cX12_asIs 30 = .ok (.istore_n 1, 1) := dop_60 (zb_X12_asIs_0 30 rfl)
theorem dX12_asIs_31 : decode cX12_asIs 31 = .ok (.iload_n 1, 1) := dop_27 (zb_X12_asIs_0 31 rfl)
theorem dX12_asIs_32 : decode cX12_asIs 32 = .ok (.bipush 6, 2) := dop_16 (zb_X12_asIs_0 32 rfl) (zb_X12_asIs_0 33 rfl) rfl
theorem dX12_asIs_34 : decode cX12_asIs 34 = .ok (.if_icmp .ge 24, 3) := dop_162 (zb_X12_asIs_0 34 rfl) (zb_X12_asIs_0 35 rfl) (zb_X12_asIs_0 36 rfl) rfl
theorem dX12_asIs_37 : decode cX12_asIs 37 = .ok (.aload_n 0, 1) := dop_42 (zb_X12_asIs_0 37 rfl)
theorem zb_X12_asIs_1 (j : Nat) {n : Nat} (e : zw_X12_asIs_1[j]? = some n) : dby cX12_asIs (38 + j) n := dw_b (t := []) ze_X12_asIs_1 j e
theorem dX12_asIs_38 : decode cX12_asIs 38 = .ok (.getfield 58, 3) := dop_180 (zb_X12_asIs_1 0 rfl) (zb_X12_asIs_1 1 rfl) (zb_X12_asIs_1 2 rfl) rfl
theorem dX12_asIs_41 : decode cX12_asIs 41 = .ok (.iload_n 1, 1) := dop_27 (zb_X12_asIs_1 3 rfl)
theorem dX12_asIs_42 : decode cX12_asIs 42 = .ok (.aload_n 0, 1) := dop_42 (zb_X12_asIs_1 4 rfl)
theorem dX12_asIs_43 : decode cX12_asIs 43 = .ok (.getfield 13, 3) := dop_180 (zb_X12_asIs_1 5 rfl) (zb_X12_asIs_1 6 rfl) (zb_X12_asIs_1 7 rfl) rfl
theorem dX12_asIs_46 : decode cX12_asIs 46 = .ok (.bipush 42, 2) := dop_16 (zb_X12_asIs_1 8 rfl) (zb_X12_asIs_1 9 rfl) rfl
theorem dX12_asIs_48 : decode cX12_asIs 48 = .ok (.iload_n 1, 1) := dop_27 (zb_X12_asIs_1 10 rfl)
theorem dX12_asIs_49 : decode cX12_asIs 49 = .ok (.iadd, 1) := dop_96 (zb_X12_asIs_1 11 rfl)
theorem dX12_asIs_50 : decode cX12_asIs 50 = .ok (.iaload, 1) := dop_46 (zb_X12_asIs_1 12 rfl)
theorem dX12_asIs_51 : decode cX12_asIs 51 = .ok (.iastore, 1) := dop_79 (zb_X12_asIs_1 13 rfl)
theorem dX12_asIs_52 : decode cX12_asIs 52 = .ok (.iinc 1 1, 3) := dop_132 (zb_X12_asIs_1 14 rfl) (zb_X12_asIs_1 15 rfl) (zb_X12_asIs_1 16 rfl) rfl
theorem dX12_asIs_55 : decode cX12_asIs 55 = .ok (.goto (-24), 3) := dop_167 (zb_X12_asIs_1 17 rfl) (zb_X12_asIs_1 18 rfl) (zb_X12_asIs_1 19 rfl) rfl
theorem dX12_asIs_58 : decode cX12_asIs 58 = .ok (.return_, 1) := dop_177 (zb_X12_asIs_1 20 rfl)
def zw_X12_edge_1 : List Nat := [79, 42, 180, 0, 52, 42, 180, 1, 77, 21, 5, 84, 42, 89, 180, 1, 77, 4, 96, 181, 1, 77, 177]
def zt_X12_edge_1 : List Nat := zw_X12_edge_1 ++ []
def zw_X12_edge_0 : List Nat := [42, 180, 0, 40, 42, 180, 1, 77, 27, 79, 42, 180, 0, 43, 42, 180, 1, 77, 28, 79, 42, 180, 0, 46, 42, 180, 1, 77, 29, 79, 42, 180, 0, 49, 42, 180, 1, 77, 21, 4]
def zt_X12_edge_0 : List Nat := zw_X12_edge_0 ++ zt_X12_edge_1
theorem ze_X12_edge_0 : (dcn cX12_edge).drop 0 = zt_X12_edge_0 := by decide +kernel
theorem ze_X12_edge_1 : (dcn cX12_edge).drop 40 = zt_X12_edge_1 := dw_n (wl := zw_X12_edge_0) ze_X12_edge_0 rfl
theorem zb_X12_edge_0 (j : Nat) {n : Nat} (e : zw_X12_edge_0[j]? = some n) : dby cX12_edge (0 + j) n := dw_b (t := zt_X12_edge_1) ze_X12_edge_0 j e
theorem dX12_edge_0 : decode cX12_edge 0 = .ok (.aload_n 0, 1) := dop_42 (zb_X12_edge_0 0 rfl)
theorem dX12_edge_1 : decode cX12_edge 1 = .ok (.getfield 40, 3) := dop_180 (zb_X12_edge_0 1 rfl) (zb_X12_edge_0 2 rfl) (zb_X12_edge_0 3 rfl) rfl
theorem dX12_edge_4 : decode cX12_edge 4 = .ok (.aload_n 0, 1) := dop_42 (zb_X12_edge_0 4 rfl)
theorem dX12_edge_5 : decode cX12_edge 5 = .ok (.getfield 333, 3) := dop_180 (zb_X12_edge_0 5 rfl) (zb_X12_edge_0 6 rfl) (zb_X12_edge_0 7 rfl) rfl
theorem dX12_edge_8 : decode cX12_edge 8 = .ok (.iload_n 1, 1) := dop_27 (zb_X12_edge_0 8 rfl)
theorem dX12_edge_9 : decode cX12_edge 9 = .ok (.iastore, 1) := dop_79 (zb_X12_edge_0 9 rfl)
theorem dX12_edge_10 : decode cX12_edge 10 = .ok (.aload_n 0, 1) := dop_42 (zb_X12_edge_0 10 rfl)
theorem dX12_edge_11 : decode cX12_edge 11 = .ok (.getfield 43, 3) := dop_180 (zb_X12_edge_0 11 rfl) (zb_X12_edge_0 12 rfl) (zb_X12_edge_0 13 rfl) rfl
theorem dX12_edge_14 : decode cX12_edge 14 = .ok (.aload_n 0, 1) := dop_42 (zb_X12_edge_0 14 rfl)
theorem dX12_edge_15 : decode cX12_edge 15 = .ok (.getfield 333, 3) := dop_180 (zb_X12_edge_0 15 rfl) (zb_X12_edge_0 16 rfl) (zb_X12_edge_0 17 rfl) rfl
theorem dX12_edge_18 : decode cX12_edge 18 = .ok (.iload_n 2, 1) := dop_28 (zb_X12_edge_0 18 rfl)
theorem dX12_edge_19 : decode cX12_edge 19 = .ok (.iastore, 1) := dop_79 (zb_X12_edge_0 19 rfl)
theorem dX12_edge_20 : decode cX12_edge 20 = .ok (.aload_n 0, 1) := dop_42 (zb_X12_edge_0 20 rfl)
theorem dX12_edge_21 : decode cX12_edge 21 = .ok (.getfield 46, 3) := dop_180 (zb_X12_edge_0 21 rfl) (zb_X12_edge_0 22 rfl) (zb_X12_edge_0 23 rfl) rfl
theorem dX12_edge_24 : decode cX12_edge 24 = .ok (.aload_n 0, 1) := dop_42 (zb_X12_edge_0 24 rfl)
theorem dX12_edge_25 : decode cX12_edge 25 = .ok (.getfield 333, 3) := dop_180 (zb_X12_edge_0 25 rfl) (zb_X12_edge_0 26 rfl) (zb_X12_edge_0 27 rfl) rfl
theorem dX12_edge_28 : decode cX12_edge 28 = .ok (.iload_n 3, 1) := dop_29 (zb_X12_edge_0 28 rfl)
theorem dX12_edge_29 : decode cX12_edge 29 = .ok (.iastore, 1) := dop_79 (zb_X12_edge_0 29 rfl)
theorem dX12_edge_30 : decode cX12_edge 30 = .ok (.aload_n 0, 1) := dop_42 (zb_X12_edge_0 30 rfl)
theorem dX12_edge_31 : decode cX12_edge 31 = .ok (.getfield 49, 3) := dop_180 (zb_X12_edge_0 31 rfl) (zb_X12_edge_0 32 rfl) (zb_X12_edge_0 33 rfl) rfl
theorem dX12_edge_34 : decode cX12_edge 34 = .ok (.aload_n 0, 1) := dop_42 (zb_X12_edge_0 34 rfl)
theorem dX12_edge_35 : decode cX12_edge 35 = .ok (.getfield 333, 3) := dop_180 (zb_X12_edge_0 35 rfl) (zb_X12_edge_0 36 rfl) (zb_X12_edge_0 37 rfl) rfl
theorem dX12_edge_38 : decode cX12_edge 38 = .ok (.iload 4, 2) := dop_21 (zb_X12_edge_0 38 rfl) (zb_X12_edge_0 39 rfl)
theorem zb_X12_edge_1 (j : Nat) {n : Nat} (e : zw_X12_edge_1[j]? = some n) : dby cX12_edge (40 + j) n := dw_b (t := []) ze_X12_edge_1 j e
theorem dX12_edge_40 : decode cX12_edge 40 = .ok (.iastore, 1) := dop_79 (zb_X12_edge_1 0 rfl)
theorem dX12_edge_41 : decode cX12_edge 41 = .ok (.aload_n 0, 1) := dop_42 (zb_X12_edge_1 1 rfl)
theorem dX12_edge_42 : decode cX12_edge 42 = .ok (.getfield 52, 3) := dop_180 (zb_X12_edge_1 2 rfl) (zb_X12_edge_1 3 rfl) (zb_X12_edge_1 4 rfl) rfl
theorem dX12_edge_45 : decode cX12_edge 45 = .ok (.aload_n 0, 1) := dop_42 (zb_X12_edge_1 5 rfl)
theorem dX12_edge_46 : decode cX12_edge 46 = .ok (.getfield 333, 3) := dop_180 (zb_X12_edge_1 6 rfl) (zb_X12_edge_1 7 rfl) (zb_X12_edge_1 8 rfl) rfl
theorem dX12_edge_49 : decode cX12_edge 49 = .ok (.iload 5, 2) := dop_21 (zb_X12_edge_1 9 rfl) (zb_X12_edge_1 10 rfl)
theorem dX12_edge_51 : decode cX12_edge 51 = .ok (.bastore, 1) := dop_84 (zb_X12_edge_1 11 rfl)
theorem dX12_edge_52 : decode cX12_edge 52 = .ok (.aload_n 0, 1) := dop_42 (zb_X12_edge_1 12 rfl)
theorem dX12_edge_53 : decode cX12_edge 53 = .ok (.dup, 1) := dop_89 (zb_X12_edge_1 13 rfl)
theorem dX12_edge_54 : decode cX12_edge 54 = .ok (.getfield 333, 3) := dop_180 (zb_X12_edge_1 14 rfl) (zb_X12_edge_1 15 rfl) (zb_X12_edge_1 16 rfl) rfl
theorem dX12_edge_57 : decode cX12_edge 57 = .ok (.iconst 1, 1) := dop_4 (zb_X12_edge_1 17 rfl)
theorem dX12_edge_58 : decode cX12_edge 58 = .ok (.iadd, 1) := dop_96 (zb_X12_edge_1 18 rfl)
theorem dX12_edge_59 : decode cX12_edge 59 = .ok (.putfield 333, 3) := dop_181 (zb_X12_edge_1 19 rfl) (zb_X12_edge_1 20 rfl) (zb_X12_edge_1 21 rfl) rfl
theorem dX12_edge_62 : decode cX12_edge 62 = .ok (.return_, 1) := dop_177 (zb_X12_edge_1 22 rfl)
def zw_X12_counting_1 : List Nat := [27, 172]
def zt_X12_counting_1 : List Nat := zw_X12_counting_1 ++ []
def zw_X12_counting_0 : List Nat := [3, 60, 3, 61, 28, 42, 180, 0, 13, 3, 46, 162, 0, 29, 27, 42, 28, 7, 182, 0, 195, 4, 160, 0, 9, 4, 28, 120, 167, 0, 4, 3, 128, 60, 132, 2, 1, 167, 255, 223]
def zt_X12_counting_0 : List Nat := zw_X12_counting_0 ++ zt_X12_counting_1
theorem ze_X12_counting_0 : (dcn cX12_counting).drop 0 = zt_X12_counting_0 := by decide +kernel
theorem ze_X12_counting_1 : (dcn cX12_counting).drop 40 = zt_X12_counting_1 := dw_n (wl := zw_X12_counting_0) ze_X12_counting_0 rfl
theorem zb_X12_counting_0 (j : Nat) {n : Nat} (e : zw_X12_counting_0[j]? = some n) : dby cX12_counting (0 + j) n := dw_b (t := zt_X12_counting_1) ze_X12_counting_0 j e
theorem dX12_counting_0 : decode cX12_counting 0 = .ok (.iconst 0, 1) := dop_3 (zb_X12_counting_0 0 rfl)
theorem dX12_counting_1 : decode cX12_counting 1 = .ok (.istore_n 1, 1) := dop_60 (zb_X12_counting_0 1 rfl)
theorem dX12_counting_2 : decode cX12_counting 2 = .ok (.iconst 0, 1) := dop_3 (zb_X12_counting_0 2 rfl)
theorem dX12_counting_3 : decode cX12_counting 3 = .ok (.istore_n 2, 1) := dop_61 (zb_X12_counting_0 3 rfl)
theorem dX12_counting_4 : decode cX12_counting 4 = .ok (.iload_n 2, 1) := dop_28 (zb_X12_counting_0 4 rfl)
theorem dX12_counting_5 : decode cX12_counting 5 = .ok (.aload_n 0, 1) := dop_42 (zb_X12_counting_0 5 rfl)
theorem dX12_counting_6 : decode cX12_counting 6 = .ok (.getfield 13, 3) := dop_180 (zb_X12_counting_0 6 rfl) (zb_X12_counting_0 7 rfl) (zb_X12_counting_0 8 rfl) rfl
theorem dX12_counting_9 : decode cX12_counting 9 = .ok (.iconst 0, 1) := dop_3 (zb_X12_counting_0 9 rfl)
theorem dX12_counting_10 : decode cX12_counting 10 = .ok (.iaload, 1) := dop_46 (zb_X12_counting_0 10 rfl)
theorem dX12_counting_11 : decode cX12_counting 11 = .ok (.if_icmp .ge 29, 3) := dop_162 (zb_X12_counting_0 11 rfl) (zb_X12_counting_0 12 rfl) (zb_X12_counting_0 13 rfl) rfl
theorem dX12_counting_14 : decode cX12_counting 14 = .ok (.iload_n 1, 1) := dop_27 (zb_X12_counting_0 14 rfl)
theorem dX12_counting_15 : decode cX12_counting 15 = .ok (.aload_n 0, 1) := dop_42 (zb_X12_counting_0 15 rfl)
theorem dX12_counting_16 : decode cX12_counting 16 = .ok (.iload_n 2, 1) := dop_28 (zb_X12_counting_0 16 rfl)
theorem dX12_counting_17 : decode cX12_counting 17 = .ok (.iconst 4, 1) := dop_7 (zb_X12_counting_0 17 rfl)
theorem dX12_counting_18 : decode cX12_counting 18 = .ok (.invokevirtual 195, 3) := dop_182 (zb_X12_counting_0 18 rfl) (zb_X12_counting_0 19 rfl) (zb_X12_counting_0 20 rfl) rfl
theorem dX12_counting_21 : decode cX12_counting 21 = .ok (.iconst 1, 1) := dop_4 (zb_X12_counting_0 21 rfl)
theorem dX12_counting_22 : decode cX12_counting 22 = .ok (.if_icmp .ne 9, 3) := dop_160 (zb_X12_counting_0 22 rfl) (zb_X12_counting_0 23 rfl) (zb_X12_counting_0 24 rfl) rfl
theorem dX12_counting_25 : decode cX12_counting 25 = .ok (.iconst 1, 1) := dop_4 (zb_X12_counting_0 25 rfl)
theorem dX12_counting_26 : decode cX12_counting 26 = .ok (.iload_n 2, 1) := dop_28 (zb_X12_counting_0 26 rfl)
theorem dX12_counting_27 : decode cX12_counting 27 = .ok (.ishl, 1) := dop_120 (zb_X12_counting_0 27 rfl)
theorem dX12_counting_28 : decode cX12_counting 28 = .ok (.goto 4, 3) := dop_167 (zb_X12_counting_0 28 rfl) (zb_X12_counting_0 29 rfl) (zb_X12_counting_0 30 rfl) rfl
theorem dX12_counting_31 : decode cX12_counting 31 = .ok (.iconst 0, 1) := dop_3 (zb_X12_counting_0 31 rfl)
theorem dX12_counting_32 : decode cX12_counting 32 = .ok (.ior, 1) := dop_128 (zb_X12_counting_0 32 rfl)
theorem dX12_counting_33 : decode cX12_counting 33 = .ok (.istore_n 1, 1) := dop_60 (zb_X12_counting_0 33 rfl)
theorem dX12_counting_34 : decode cX12_counting 34 = .ok (.iinc 2 1, 3) := dop_132 (zb_X12_counting_0 34 rfl) (zb_X12_counting_0 35 rfl) (zb_X12_counting_0 36 rfl) rfl
theorem dX12_counting_37 : decode cX12_counting 37 = .ok (.goto (-33), 3) := dop_167 (zb_X12_counting_0 37 rfl) (zb_X12_counting_0 38 rfl) (zb_X12_counting_0 39 rfl) rfl
theorem zb_X12_counting_1 (j : Nat) {n : Nat} (e : zw_X12_counting_1[j]? = some n) : dby cX12_counting (40 + j) n := dw_b (t := []) ze_X12_counting_1 j e
theorem dX12_counting_40 : decode cX12_counting 40 = .ok (.iload_n 1, 1) := dop_27 (zb_X12_counting_1 0 rfl)
theorem dX12_counting_41 : decode cX12_counting 41 = .ok (.ireturn, 1) := dop_172 (zb_X12_counting_1 1 rfl)
def zw_X12_build_7 : List Nat := [42, 180, 0, 58, 28, 46, 2, 159, 0, 15, 42, 16, 6, 28, 96, 28, 4, 4, 3, 182, 1, 83, 132, 2, 1, 167, 255, 225, 177]
def zt_X12_build_7 : List Nat := zw_X12_build_7 ++ []
def zw_X12_build_6 : List Nat := [104, 96, 46, 96, 16, 12, 42, 180, 0, 13, 16, 48, 5, 28, 104, 96, 4, 96, 46, 96, 4, 4, 4, 182, 1, 83, 132, 2, 1, 167, 255, 206, 3, 61, 28, 16, 6, 162, 0, 31]
def zt_X12_build_6 : List Nat := zw_X12_build_6 ++ zt_X12_build_7
def zw_X12_build_5 : List Nat := [158, 0, 7, 4, 167, 0, 4, 3, 182, 1, 83, 132, 2, 1, 167, 255, 53, 3, 61, 28, 42, 180, 0, 13, 4, 46, 162, 0, 46, 42, 16, 12, 42, 180, 0, 13, 16, 48, 5, 28]
def zt_X12_build_5 : List Nat := zw_X12_build_5 ++ zt_X12_build_6
def zw_X12_build_4 : List Nat := [5, 160, 0, 7, 5, 167, 0, 4, 4, 54, 10, 42, 16, 12, 29, 96, 21, 5, 21, 8, 21, 10, 3, 182, 1, 83, 42, 21, 5, 16, 12, 29, 96, 21, 10, 21, 9, 21, 7]
def zt_X12_build_4 : List Nat := zw_X12_build_4 ++ zt_X12_build_5
def zw_X12_build_3 : List Nat := [167, 0, 5, 21, 6, 54, 8, 21, 7, 154, 0, 8, 21, 6, 167, 0, 22, 21, 7, 4, 160, 0, 10, 21, 6, 4, 96, 167, 0, 9, 5, 21, 6, 104, 4, 96, 54, 9, 21, 7]
def zt_X12_build_3 : List Nat := zw_X12_build_3 ++ zt_X12_build_4
def zw_X12_build_2 : List Nat := [21, 4, 96, 167, 0, 5, 21, 4, 54, 5, 42, 28, 5, 182, 0, 195, 54, 6, 42, 28, 6, 182, 0, 195, 54, 7, 21, 7, 5, 160, 0, 12, 5, 21, 6, 104, 4, 100]
def zt_X12_build_2 : List Nat := zw_X12_build_2 ++ zt_X12_build_3
def zw_X12_build_1 : List Nat := [159, 0, 168, 42, 28, 3, 182, 0, 195, 54, 4, 42, 180, 0, 58, 21, 4, 46, 2, 159, 0, 27, 42, 28, 4, 182, 0, 195, 42, 180, 0, 58, 21, 4, 46, 161, 0, 11, 16, 6]
def zt_X12_build_1 : List Nat := zw_X12_build_1 ++ zt_X12_build_2
def zw_X12_build_0 : List Nat := [42, 3, 181, 1, 77, 3, 61, 28, 42, 180, 0, 13, 3, 46, 162, 0, 199, 42, 180, 0, 55, 42, 28, 4, 182, 0, 195, 46, 62, 27, 28, 184, 1, 80, 153, 0, 173, 29, 2]
def zt_X12_build_0 : List Nat := zw_X12_build_0 ++ zt_X12_build_1
theorem ze_X12_build_0 : (dcn cX12_build).drop 0 = zt_X12_build_0 := by decide +kernel
theorem ze_X12_build_1 : (dcn cX12_build).drop 39 = zt_X12_build_1 := dw_n (wl := zw_X12_build_0) ze_X12_build_0 rfl
theorem zb_X12_build_0 (j : Nat) {n : Nat} (e : zw_X12_build_0[j]? = some n) : dby cX12_build (0 + j) n := dw_b (t := zt_X12_build_1) ze_X12_build_0 j e
theorem dX12_build_0 : decode cX12_build 0 = .ok (.aload_n 0, 1) := dop_42 (zb_X12_build_0 0 rfl)
theorem dX12_build_1 : decode cX12_build 1 = .ok (.iconst 0, 1) := dop_3 (zb_X12_build_0 1 rfl)
theorem dX12_build_2 : decode cX12_build 2 = .ok (.putfield 333, 3) := dop_181 (zb_X12_build_0 2 rfl) (zb_X12_build_0 3 rfl) (zb_X12_build_0 4 rfl) rfl
theorem dX12_build_5 : decode cX12_build 5 = .ok (.iconst 0, 1) := dop_3 (zb_X12_build_0 5 rfl)
theorem dX12_build_6 : decode cX12_build 6 = .ok (.istore_n 2, 1) := dop_61 (zb_X12_build_0 6 rfl)
theorem dX12_build_7 : decode cX12_build 7 = .ok (.iload_n 2, 1) := dop_28 (zb_X12_build_0 7 rfl)
theorem dX12_build_8 : decode cX12_build 8 = .ok (.aload_n 0, 1) := dop_42 (zb_X12_build_0 8 rfl)
theorem dX12_build_9 : decode cX12_build 9 = .ok (.getfield 13, 3) := dop_180 (zb_X12_build_0 9 rfl) (zb_X12_build_0 10 rfl) (zb_X12_build_0 11 rfl) rfl
theorem dX12_build_12 : decode cX12_build 12 = .ok (.iconst 0, 1) := dop_3 (zb_X12_build_0 12 rfl)
theorem dX12_build_13 : decode cX12_build 13 = .ok (.iaload, 1) := dop_46 (zb_X12_build_0 13 rfl)
theorem dX12_build_14 : decode cX12_build 14 = .ok (.if_icmp .ge 199, 3) := dop_162 (zb_X12_build_0 14 rfl) (zb_X12_build_0 15 rfl) (zb_X12_build_0 16 rfl) rfl
theorem dX12_build_17 : decode cX12_build 17 = .ok (.aload_n 0, 1) := dop_42 (zb_X12_build_0 17 rfl)
theorem dX12_build_18 : decode cX12_build 18 = .ok (.getfield 55, 3) := dop_180 (zb_X12_build_0 18 rfl) (zb_X12_build_0 19 rfl) (zb_X12_build_0 20 rfl) rfl
theorem dX12_build_21 : decode cX12_build 21 = .ok (.aload_n 0, 1) := dop_42 (zb_X12_build_0 21 rfl)
theorem dX12_build_22 : decode cX12_build 22 = .ok (.iload_n 2, 1) := dop_28 (zb_X12_build_0 22 rfl)
theorem dX12_build_23 : decode cX12_build 23 = .ok (.iconst 1, 1) := dop_4 (zb_X12_build_0 23 rfl)
theorem dX12_build_24 : decode cX12_build 24 = .ok (.invokevirtual 195, 3) := dop_182 (zb_X12_build_0 24 rfl) (zb_X12_build_0 25 rfl) (zb_X12_build_0 26 rfl) rfl
theorem dX12_build_27 : decode cX12_build 27 = .ok (.iaload, 1) := dop_46 (zb_X12_build_0 27 rfl)
theorem dX12_build_28 : decode cX12_build 28 = .ok (.istore_n 3, 1) := dop_62 (zb_X12_build_0 28 rfl)
theorem dX12_build_29 : decode cX12_build 29 = .ok (.iload_n 1, 1) := dop_27 (zb_X12_build_0 29 rfl)
theorem dX12_build_30 : decode cX12_build 30 = .ok (.iload_n 2, 1) := dop_28 (zb_X12_build_0 30 rfl)
theorem dX12_build_31 : decode cX12_build 31 = .ok (.invokestatic 336, 3) := dop_184 (zb_X12_build_0 31 rfl) (zb_X12_build_0 32 rfl) (zb_X12_build_0 33 rfl) rfl
theorem dX12_build_34 : decode cX12_build 34 = .ok (.ifCond .eq 173, 3) := dop_153 (zb_X12_build_0 34 rfl) (zb_X12_build_0 35 rfl) (zb_X12_build_0 36 rfl) rfl
theorem dX12_build_37 : decode cX12_build 37 = .ok (.iload_n 3, 1) := dop_29 (zb_X12_build_0 37 rfl)
theorem dX12_build_38 : decode cX12_build 38 = .ok (.iconst (-1), 1) := dop_2 (zb_X12_build_0 38 rfl)
theorem ze_X12_build_2 : (dcn cX12_build).drop 79 = zt_X12_build_2 := dw_n (wl := zw_X12_build_1) ze_X12_build_1 rfl
theorem zb_X12_build_1 (j : Nat) {n : Nat} (e : zw_X12_build_1[j]? = some n) : dby cX12_build (39 + j) n := dw_b (t := zt_X12_build_2) ze_X12_build_1 j e
theorem dX12_build_39 : decode cX12_build 39 = .ok (.if_icmp .eq 168, 3) := dop_159 (zb_X12_build_1 0 rfl) (zb_X12_build_1 1 rfl) (zb_X12_build_1 2 rfl) rfl
theorem dX12_build_42 : decode cX12_build 42 = .ok (.aload_n 0, 1) := dop_42 (zb_X12_build_1 3 rfl)
theorem dX12_build_43 : decode cX12_build 43 = .ok (.iload_n 2, 1) := dop_28 (zb_X12_build_1 4 rfl)
theorem dX12_build_44 : decode cX12_build 44 = .ok (.iconst 0, 1) := dop_3 (zb_X12_build_1 5 rfl)
theorem dX12_build_45 : decode cX12_build 45 = .ok (.invokevirtual 195, 3) := dop_182 (zb_X12_build_1 6 rfl) (zb_X12_build_1 7 rfl) (zb_X12_build_1 8 rfl) rfl
theorem dX12_build_48 : decode cX12_build 48 = .ok (.istore 4, 2) := dop_54 (zb_X12_build_1 9 rfl) (zb_X12_build_1 10 rfl)
theorem dX12_build_50 : decode cX12_build 50 = .ok (.aload_n 0, 1) := dop_42 (zb_X12_build_1 11 rfl)
theorem dX12_build_51 : decode cX12_build 51 = .ok (.getfield 58, 3) := dop_180 (zb_X12_build_1 12 rfl) (zb_X12_build_1 13 rfl) (zb_X12_build_1 14 rfl) rfl
theorem dX12_build_54 : decode cX12_build 54 = .ok (.iload 4, 2) := dop_21 (zb_X12_build_1 15 rfl) (zb_X12_build_1 16 rfl)
theorem dX12_build_56 : decode cX12_build 56 = .ok (.iaload, 1) := dop_46 (zb_X12_build_1 17 rfl)
theorem dX12_build_57 : decode cX12_build 57 = .ok (.iconst (-1), 1) := dop_2 (zb_X12_build_1 18 rfl)
theorem dX12_build_58 : decode cX12_build 58 = .ok (.if_icmp .eq 27, 3) := dop_159 (zb_X12_build_1 19 rfl) (zb_X12_build_1 20 rfl) (zb_X12_build_1 21 rfl) rfl
theorem dX12_build_61 : decode cX12_build 61 = .ok (.aload_n 0, 1) := dop_42 (zb_X12_build_1 22 rfl)
theorem dX12_build_62 : decode cX12_build 62 = .ok (.iload_n 2, 1) := dop_28 (zb_X12_build_1 23 rfl)
theorem dX12_build_63 : decode cX12_build 63 = .ok (.iconst 1, 1) := dop_4 (zb_X12_build_1 24 rfl)
theorem dX12_build_64 : decode cX12_build 64 = .ok (.invokevirtual 195, 3) := dop_182 (zb_X12_build_1 25 rfl) (zb_X12_build_1 26 rfl) (zb_X12_build_1 27 rfl) rfl
theorem dX12_build_67 : decode cX12_build 67 = .ok (.aload_n 0, 1) := dop_42 (zb_X12_build_1 28 rfl)
theorem dX12_build_68 : decode cX12_build 68 = .ok (.getfield 58, 3) := dop_180 (zb_X12_build_1 29 rfl) (zb_X12_build_1 30 rfl) (zb_X12_build_1 31 rfl) rfl
theorem dX12_build_71 : decode cX12_build 71 = .ok (.iload 4, 2) := dop_21 (zb_X12_build_1 32 rfl) (zb_X12_build_1 33 rfl)
theorem dX12_build_73 : decode cX12_build 73 = .ok (.iaload, 1) := dop_46 (zb_X12_build_1 34 rfl)
theorem dX12_build_74 : decode cX12_build 74 = .ok (.if_icmp .lt 11, 3) := dop_161 (zb_X12_build_1 35 rfl) (zb_X12_build_1 36 rfl) (zb_X12_build_1 37 rfl) rfl
theorem dX12_build_77 : decode cX12_build 77 = .ok (.bipush 6, 2) := dop_16 (zb_X12_build_1 38 rfl) (zb_X12_build_1 39 rfl) rfl
theorem ze_X12_build_3 : (dcn cX12_build).drop 117 = zt_X12_build_3 := dw_n (wl := zw_X12_build_2) ze_X12_build_2 rfl
theorem zb_X12_build_2 (j : Nat) {n : Nat} (e : zw_X12_build_2[j]? = some n) : dby cX12_build (79 + j) n := dw_b (t := zt_X12_build_3) ze_X12_build_2 j e
theorem dX12_build_79 : decode cX12_build 79 = .ok (.iload 4, 2) := dop_21 (zb_X12_build_2 0 rfl) (zb_X12_build_2 1 rfl)
theorem dX12_build_81 : decode cX12_build 81 = .ok (.iadd, 1) := dop_96 (zb_X12_build_2 2 rfl)
theorem dX12_build_82 : decode cX12_build 82 = .ok (.goto 5, 3) := dop_167 (zb_X12_build_2 3 rfl) (zb_X12_build_2 4 rfl) (zb_X12_build_2 5 rfl) rfl
theorem dX12_build_85 : decode cX12_build 85 = .ok (.iload 4, 2) := dop_21 (zb_X12_build_2 6 rfl) (zb_X12_build_2 7 rfl)
theorem dX12_build_87 : decode cX12_build 87 = .ok (.istore 5, 2) := dop_54 (zb_X12_build_2 8 rfl) (zb_X12_build_2 9 rfl)
theorem dX12_build_89 : decode cX12_build 89 = .ok (.aload_n 0, 1) := dop_42 (zb_X12_build_2 10 rfl)
theorem dX12_build_90 : decode cX12_build 90 = .ok (.iload_n 2, 1) := dop_28 (zb_X12_build_2 11 rfl)
theorem dX12_build_91 : decode cX12_build 91 = .ok (.iconst 2, 1) := dop_5 (zb_X12_build_2 12 rfl)
theorem dX12_build_92 : decode cX12_build 92 = .ok (.invokevirtual 195, 3) := dop_182 (zb_X12_build_2 13 rfl) (zb_X12_build_2 14 rfl) (zb_X12_build_2 15 rfl) rfl
theorem dX12_build_95 : decode cX12_build 95 = .ok (.istore 6, 2) := dop_54 (zb_X12_build_2 16 rfl) (zb_X12_build_2 17 rfl)
theorem dX12_build_97 : decode cX12_build 97 = .ok (.aload_n 0, 1) := dop_42 (zb_X12_build_2 18 rfl)
theorem dX12_build_98 : decode cX12_build 98 = .ok (.iload_n 2, 1) := dop_28 (zb_X12_build_2 19 rfl)
theorem dX12_build_99 : decode cX12_build 99 = .ok (.iconst 3, 1) := dop_6 (zb_X12_build_2 20 rfl)
theorem dX12_build_100 : decode cX12_build 100 = .ok (.invokevirtual 195, 3) := dop_182 (zb_X12_build_2 21 rfl) (zb_X12_build_2 22 rfl) (zb_X12_build_2 23 rfl) rfl
theorem dX12_build_103 : decode cX12_build 103 = .ok (.istore 7, 2) := dop_54 (zb_X12_build_2 24 rfl) (zb_X12_build_2 25 rfl)
theorem dX12_build_105 : decode cX12_build 105 = .ok (.iload 7, 2) := dop_21 (zb_X12_build_2 26 rfl) (zb_X12_build_2 27 rfl)
theorem dX12_build_107 : decode cX12_build 107 = .ok (.iconst 2, 1) := dop_5 (zb_X12_build_2 28 rfl)
theorem dX12_build_108 : decode cX12_build 108 = .ok (.if_icmp .ne 12, 3) := dop_160 (zb_X12_build_2 29 rfl) (zb_X12_build_2 30 rfl) (zb_X12_build_2 31 rfl) rfl
theorem dX12_build_111 : decode cX12_build 111 = .ok (.iconst 2, 1) := dop_5 (zb_X12_build_2 32 rfl)
theorem dX12_build_112 : decode cX12_build 112 = .ok (.iload 6, 2) := dop_21 (zb_X12_build_2 33 rfl) (zb_X12_build_2 34 rfl)
theorem dX12_build_114 : decode cX12_build 114 = .ok (.imul, 1) := dop_104 (zb_X12_build_2 35 rfl)
theorem dX12_build_115 : decode cX12_build 115 = .ok (.iconst 1, 1) := dop_4 (zb_X12_build_2 36 rfl)
theorem dX12_build_116 : decode cX12_build 116 = .ok (.isub, 1) := dop_100 (zb_X12_build_2 37 rfl)
theorem ze_X12_build_4 : (dcn cX12_build).drop 157 = zt_X12_build_4 := dw_n (wl := zw_X12_build_3) ze_X12_build_3 rfl
theorem zb_X12_build_3 (j : Nat) {n : Nat} (e : zw_X12_build_3[j]? = some n) : dby cX12_build (117 + j) n := dw_b (t := zt_X12_build_4) ze_X12_build_3 j e
theorem dX12_build_117 : decode cX12_build 117 = .ok (.goto 5, 3) := dop_167 (zb_X12_build_3 0 rfl) (zb_X12_build_3 1 rfl) (zb_X12_build_3 2 rfl) rfl
theorem dX12_build_120 : decode cX12_build 120 = .ok (.iload 6, 2) := dop_21 (zb_X12_build_3 3 rfl) (zb_X12_build_3 4 rfl)
theorem dX12_build_122 : decode cX12_build 122 = .ok (.istore 8, 2) := dop_54 (zb_X12_build_3 5 rfl) (zb_X12_build_3 6 rfl)
theorem dX12_build_124 : decode cX12_build 124 = .ok (.iload 7, 2) := dop_21 (zb_X12_build_3 7 rfl) (zb_X12_build_3 8 rfl)
theorem dX12_build_126 : decode cX12_build 126 = .ok (.ifCond .ne 8, 3) := dop_154 (zb_X12_build_3 9 rfl) (zb_X12_build_3 10 rfl) (zb_X12_build_3 11 rfl) rfl
theorem dX12_build_129 : decode cX12_build 129 = .ok (.iload 6, 2) := dop_21 (zb_X12_build_3 12 rfl) (zb_X12_build_3 13 rfl)
theorem dX12_build_131 : decode cX12_build 131 = .ok (.goto 22, 3) := dop_167 (zb_X12_build_3 14 rfl) (zb_X12_build_3 15 rfl) (zb_X12_build_3 16 rfl) rfl
theorem dX12_build_134 : decode cX12_build 134 = .ok (.iload 7, 2) := dop_21 (zb_X12_build_3 17 rfl) (zb_X12_build_3 18 rfl)
theorem dX12_build_136 : decode cX12_build 136 = .ok (.iconst 1, 1) := dop_4 (zb_X12_build_3 19 rfl)
theorem dX12_build_137 : decode cX12_build 137 = .ok (.if_icmp .ne 10, 3) := dop_160 (zb_X12_build_3 20 rfl) (zb_X12_build_3 21 rfl) (zb_X12_build_3 22 rfl) rfl
theorem dX12_build_140 : decode cX12_build 140 = .ok (.iload 6, 2) := dop_21 (zb_X12_build_3 23 rfl) (zb_X12_build_3 24 rfl)
theorem dX12_build_142 : decode cX12_build 142 = .ok (.iconst 1, 1) := dop_4 (zb_X12_build_3 25 rfl)
theorem dX12_build_143 : decode cX12_build 143 = .ok (.iadd, 1) := dop_96 (zb_X12_build_3 26 rfl)
theorem dX12_build_144 : decode cX12_build 144 = .ok (.goto 9, 3) := dop_167 (zb_X12_build_3 27 rfl) (zb_X12_build_3 28 rfl) (zb_X12_build_3 29 rfl) rfl
theorem dX12_build_147 : decode cX12_build 147 = .ok (.iconst 2, 1) := dop_5 (zb_X12_build_3 30 rfl)
theorem dX12_build_148 : decode cX12_build 148 = .ok (.iload 6, 2) := dop_21 (zb_X12_build_3 31 rfl) (zb_X12_build_3 32 rfl)
theorem dX12_build_150 : decode cX12_build 150 = .ok (.imul, 1) := dop_104 (zb_X12_build_3 33 rfl)
theorem dX12_build_151 : decode cX12_build 151 = .ok (.iconst 1, 1) := dop_4 (zb_X12_build_3 34 rfl)
theorem dX12_build_152 : decode cX12_build 152 = .ok (.iadd, 1) := dop_96 (zb_X12_build_3 35 rfl)
theorem dX12_build_153 : decode cX12_build 153 = .ok (.istore 9, 2) := dop_54 (zb_X12_build_3 36 rfl) (zb_X12_build_3 37 rfl)
theorem dX12_build_155 : decode cX12_build 155 = .ok (.iload 7, 2) := dop_21 (zb_X12_build_3 38 rfl) (zb_X12_build_3 39 rfl)
theorem ze_X12_build_5 : (dcn cX12_build).drop 196 = zt_X12_build_5 := dw_n (wl := zw_X12_build_4) ze_X12_build_4 rfl
theorem zb_X12_build_4 (j : Nat) {n : Nat} (e : zw_X12_build_4[j]? = some n) : dby cX12_build (157 + j) n := dw_b (t := zt_X12_build_5) ze_X12_build_4 j e
theorem dX12_build_157 : decode cX12_build 157 = .ok (.iconst 2, 1) := dop_5 (zb_X12_build_4 0 rfl)
theorem dX12_build_158 : decode cX12_build 158 = .ok (.if_icmp .ne 7, 3) := dop_160 (zb_X12_build_4 1 rfl) (zb_X12_build_4 2 rfl) (zb_X12_build_4 3 rfl) rfl
theorem dX12_build_161 : decode cX12_build 161 = .ok (.iconst 2, 1) := dop_5 (zb_X12_build_4 4 rfl)
theorem dX12_build_162 : decode cX12_build 162 = .ok (.goto 4, 3) := dop_167 (zb_X12_build_4 5 rfl) (zb_X12_build_4 6 rfl) (zb_X12_build_4 7 rfl) rfl
theorem dX12_build_165 : decode cX12_build 165 = .ok (.iconst 1, 1) := dop_4 (zb_X12_build_4 8 rfl)
theorem dX12_build_166 : decode cX12_build 166 = .ok (.istore 10, 2) := dop_54 (zb_X12_build_4 9 rfl) (zb_X12_build_4 10 rfl)
theorem dX12_build_168 : decode cX12_build 168 = .ok (.aload_n 0, 1) := dop_42 (zb_X12_build_4 11 rfl)
theorem dX12_build_169 : decode cX12_build 169 = .ok (.bipush 12, 2) := dop_16 (zb_X12_build_4 12 rfl) (zb_X12_build_4 13 rfl) rfl
theorem dX12_build_171 : decode cX12_build 171 = .ok (.iload_n 3, 1) := dop_29 (zb_X12_build_4 14 rfl)
theorem dX12_build_172 : decode cX12_build 172 = .ok (.iadd, 1) := dop_96 (zb_X12_build_4 15 rfl)
theorem dX12_build_173 : decode cX12_build 173 = .ok (.iload 5, 2) := dop_21 (zb_X12_build_4 16 rfl) (zb_X12_build_4 17 rfl)
theorem dX12_build_175 : decode cX12_build 175 = .ok (.iload 8, 2) := dop_21 (zb_X12_build_4 18 rfl) (zb_X12_build_4 19 rfl)
theorem dX12_build_177 : decode cX12_build 177 = .ok (.iload 10, 2) := dop_21 (zb_X12_build_4 20 rfl) (zb_X12_build_4 21 rfl)
theorem dX12_build_179 : decode cX12_build 179 = .ok (.iconst 0, 1) := dop_3 (zb_X12_build_4 22 rfl)
theorem dX12_build_180 : decode cX12_build 180 = .ok (.invokevirtual 339, 3) := dop_182 (zb_X12_build_4 23 rfl) (zb_X12_build_4 24 rfl) (zb_X12_build_4 25 rfl) rfl
theorem dX12_build_183 : decode cX12_build 183 = .ok (.aload_n 0, 1) := dop_42 (zb_X12_build_4 26 rfl)
theorem dX12_build_184 : decode cX12_build 184 = .ok (.iload 5, 2) := dop_21 (zb_X12_build_4 27 rfl) (zb_X12_build_4 28 rfl)
theorem dX12_build_186 : decode cX12_build 186 = .ok (.bipush 12, 2) := dop_16 (zb_X12_build_4 29 rfl) (zb_X12_build_4 30 rfl) rfl
theorem dX12_build_188 : decode cX12_build 188 = .ok (.iload_n 3, 1) := dop_29 (zb_X12_build_4 31 rfl)
theorem dX12_build_189 : decode cX12_build 189 = .ok (.iadd, 1) := dop_96 (zb_X12_build_4 32 rfl)
theorem dX12_build_190 : decode cX12_build 190 = .ok (.iload 10, 2) := dop_21 (zb_X12_build_4 33 rfl) (zb_X12_build_4 34 rfl)
theorem dX12_build_192 : decode cX12_build 192 = .ok (.iload 9, 2) := dop_21 (zb_X12_build_4 35 rfl) (zb_X12_build_4 36 rfl)
theorem dX12_build_194 : decode cX12_build 194 = .ok (.iload 7, 2) := dop_21 (zb_X12_build_4 37 rfl) (zb_X12_build_4 38 rfl)
theorem ze_X12_build_6 : (dcn cX12_build).drop 236 = zt_X12_build_6 := dw_n (wl := zw_X12_build_5) ze_X12_build_5 rfl
theorem zb_X12_build_5 (j : Nat) {n : Nat} (e : zw_X12_build_5[j]? = some n) : dby cX12_build (196 + j) n := dw_b (t := zt_X12_build_6) ze_X12_build_5 j e
theorem dX12_build_196 : decode cX12_build 196 = .ok (.ifCond .le 7, 3) := dop_158 (zb_X12_build_5 0 rfl) (zb_X12_build_5 1 rfl) (zb_X12_build_5 2 rfl) rfl
theorem dX12_build_199 : decode cX12_build 199 = .ok (.iconst 1, 1) := dop_4 (zb_X12_build_5 3 rfl)
theorem dX12_build_200 : decode cX12_build 200 = .ok (.goto 4, 3) := dop_167 (zb_X12_build_5 4 rfl) (zb_X12_build_5 5 rfl) (zb_X12_build_5 6 rfl) rfl
theorem dX12_build_203 : decode cX12_build 203 = .ok (.iconst 0, 1) := dop_3 (zb_X12_build_5 7 rfl)
theorem dX12_build_204 : decode cX12_build 204 = .ok (.invokevirtual 339, 3) := dop_182 (zb_X12_build_5 8 rfl) (zb_X12_build_5 9 rfl) (zb_X12_build_5 10 rfl) rfl
theorem dX12_build_207 : decode cX12_build 207 = .ok (.iinc 2 1, 3) := dop_132 (zb_X12_build_5 11 rfl) (zb_X12_build_5 12 rfl) (zb_X12_build_5 13 rfl) rfl
theorem dX12_build_210 : decode cX12_build 210 = .ok (.goto (-203), 3) := dop_167 (zb_X12_build_5 14 rfl) (zb_X12_build_5 15 rfl) (zb_X12_build_5 16 rfl) rfl
theorem dX12_build_213 : decode cX12_build 213 = .ok (.iconst 0, 1) := dop_3 (zb_X12_build_5 17 rfl)
theorem dX12_build_214 : decode cX12_build 214 = .ok (.istore_n 2, 1) := dop_61 (zb_X12_build_5 18 rfl)
theorem dX12_build_215 : decode cX12_build 215 = .ok (.iload_n 2, 1) := dop_28 (zb_X12_build_5 19 rfl)
theorem dX12_build_216 : decode cX12_build 216 = .ok (.aload_n 0, 1) := dop_42 (zb_X12_build_5 20 rfl)
theorem dX12_build_217 : decode cX12_build 217 = .ok (.getfield 13, 3) := dop_180 (zb_X12_build_5 21 rfl) (zb_X12_build_5 22 rfl) (zb_X12_build_5 23 rfl) rfl
theorem dX12_build_220 : decode cX12_build 220 = .ok (.iconst 1, 1) := dop_4 (zb_X12_build_5 24 rfl)
theorem dX12_build_221 : decode cX12_build 221 = .ok (.iaload, 1) := dop_46 (zb_X12_build_5 25 rfl)
theorem dX12_build_222 : decode cX12_build 222 = .ok (.if_icmp .ge 46, 3) := dop_162 (zb_X12_build_5 26 rfl) (zb_X12_build_5 27 rfl) (zb_X12_build_5 28 rfl) rfl
theorem dX12_build_225 : decode cX12_build 225 = .ok (.aload_n 0, 1) := dop_42 (zb_X12_build_5 29 rfl)
theorem dX12_build_226 : decode cX12_build 226 = .ok (.bipush 12, 2) := dop_16 (zb_X12_build_5 30 rfl) (zb_X12_build_5 31 rfl) rfl
theorem dX12_build_228 : decode cX12_build 228 = .ok (.aload_n 0, 1) := dop_42 (zb_X12_build_5 32 rfl)
theorem dX12_build_229 : decode cX12_build 229 = .ok (.getfield 13, 3) := dop_180 (zb_X12_build_5 33 rfl) (zb_X12_build_5 34 rfl) (zb_X12_build_5 35 rfl) rfl
theorem dX12_build_232 : decode cX12_build 232 = .ok (.bipush 48, 2) := dop_16 (zb_X12_build_5 36 rfl) (zb_X12_build_5 37 rfl) rfl
theorem dX12_build_234 : decode cX12_build 234 = .ok (.iconst 2, 1) := dop_5 (zb_X12_build_5 38 rfl)
theorem dX12_build_235 : decode cX12_build 235 = .ok (.iload_n 2, 1) := dop_28 (zb_X12_build_5 39 rfl)
theorem ze_X12_build_7 : (dcn cX12_build).drop 276 = zt_X12_build_7 := dw_n (wl := zw_X12_build_6) ze_X12_build_6 rfl
theorem zb_X12_build_6 (j : Nat) {n : Nat} (e : zw_X12_build_6[j]? = some n) : dby cX12_build (236 + j) n := dw_b (t := zt_X12_build_7) ze_X12_build_6 j e
theorem dX12_build_236 : decode cX12_build 236 = .ok (.imul, 1) := dop_104 (zb_X12_build_6 0 rfl)
theorem dX12_build_237 : decode cX12_build 237 = .ok (.iadd, 1) := dop_96 (zb_X12_build_6 1 rfl)
theorem dX12_build_238 : decode cX12_build 238 = .ok (.iaload, 1) := dop_46 (zb_X12_build_6 2 rfl)
theorem dX12_build_239 : decode cX12_build 239 = .ok (.iadd, 1) := dop_96 (zb_X12_build_6 3 rfl)
theorem dX12_build_240 : decode cX12_build 240 = .ok (.bipush 12, 2) := dop_16 (zb_X12_build_6 4 rfl) (zb_X12_build_6 5 rfl) rfl
theorem dX12_build_242 : decode cX12_build 242 = .ok (.aload_n 0, 1) := dop_42 (zb_X12_build_6 6 rfl)
theorem dX12_build_243 : decode cX12_build 243 = .ok (.getfield 13, 3) := dop_180 (zb_X12_build_6 7 rfl) (zb_X12_build_6 8 rfl) (zb_X12_build_6 9 rfl) rfl
theorem dX12_build_246 : decode cX12_build 246 = .ok (.bipush 48, 2) := dop_16 (zb_X12_build_6 10 rfl) (zb_X12_build_6 11 rfl) rfl
theorem dX12_build_248 : decode cX12_build 248 = .ok (.iconst 2, 1) := dop_5 (zb_X12_build_6 12 rfl)
theorem dX12_build_249 : decode cX12_build 249 = .ok (.iload_n 2, 1) := dop_28 (zb_X12_build_6 13 rfl)
theorem dX12_build_250 : decode cX12_build 250 = .ok (.imul, 1) := dop_104 (zb_X12_build_6 14 rfl)
theorem dX12_build_251 : decode cX12_build 251 = .ok (.iadd, 1) := dop_96 (zb_X12_build_6 15 rfl)
theorem dX12_build_252 : decode cX12_build 252 = .ok (.iconst 1, 1) := dop_4 (zb_X12_build_6 16 rfl)
theorem dX12_build_253 : decode cX12_build 253 = .ok (.iadd, 1) := dop_96 (zb_X12_build_6 17 rfl)
theorem dX12_build_254 : decode cX12_build 254 = .ok (.iaload, 1) := dop_46 (zb_X12_build_6 18 rfl)
theorem dX12_build_255 : decode cX12_build 255 = .ok (.iadd, 1) := dop_96 (zb_X12_build_6 19 rfl)
theorem dX12_build_256 : decode cX12_build 256 = .ok (.iconst 1, 1) := dop_4 (zb_X12_build_6 20 rfl)
theorem dX12_build_257 : decode cX12_build 257 = .ok (.iconst 1, 1) := dop_4 (zb_X12_build_6 21 rfl)
theorem dX12_build_258 : decode cX12_build 258 = .ok (.iconst 1, 1) := dop_4 (zb_X12_build_6 22 rfl)
theorem dX12_build_259 : decode cX12_build 259 = .ok (.invokevirtual 339, 3) := dop_182 (zb_X12_build_6 23 rfl) (zb_X12_build_6 24 rfl) (zb_X12_build_6 25 rfl) rfl
theorem dX12_build_262 : decode cX12_build 262 = .ok (.iinc 2 1, 3) := dop_132 (zb_X12_build_6 26 rfl) (zb_X12_build_6 27 rfl) (zb_X12_build_6 28 rfl) rfl
theorem dX12_build_265 : decode cX12_build 265 = .ok (.goto (-50), 3) := dop_167 (zb_X12_build_6 29 rfl) (zb_X12_build_6 30 rfl) (zb_X12_build_6 31 rfl) rfl
theorem dX12_build_268 : decode cX12_build 268 = .ok (.iconst 0, 1) := dop_3 (zb_X12_build_6 32 rfl)
theorem dX12_build_269 : decode cX12_build 269 = .ok (.istore_n 2, 1) := dop_61 (zb_X12_build_6 33 rfl)
theorem dX12_build_270 : decode cX12_build 270 = .ok (.iload_n 2, 1) := dop_28 (zb_X12_build_6 34 rfl)
theorem dX12_build_271 : decode cX12_build 271 = .ok (.bipush 6, 2) := dop_16 (zb_X12_build_6 35 rfl) (zb_X12_build_6 36 rfl) rfl
theorem dX12_build_273 : decode cX12_build 273 = .ok (.if_icmp .ge 31, 3) := dop_162 (zb_X12_build_6 37 rfl) (zb_X12_build_6 38 rfl) (zb_X12_build_6 39 rfl) rfl
theorem zb_X12_build_7 (j : Nat) {n : Nat} (e : zw_X12_build_7[j]? = some n) : dby cX12_build (276 + j) n := dw_b (t := []) ze_X12_build_7 j e
theorem dX12_build_276 : decode cX12_build 276 = .ok (.aload_n 0, 1) := dop_42 (zb_X12_build_7 0 rfl)
theorem dX12_build_277 : decode cX12_build 277 = .ok (.getfield 58, 3) := dop_180 (zb_X12_build_7 1 rfl) (zb_X12_build_7 2 rfl) (zb_X12_build_7 3 rfl) rfl
theorem dX12_build_280 : decode cX12_build 280 = .ok (.iload_n 2, 1) := dop_28 (zb_X12_build_7 4 rfl)
theorem dX12_build_281 : decode cX12_build 281 = .ok (.iaload, 1) := dop_46 (zb_X12_build_7 5 rfl)
theorem dX12_build_282 : decode cX12_build 282 = .ok (.iconst (-1), 1) := dop_2 (zb_X12_build_7 6 rfl)
theorem dX12_build_283 : decode cX12_build 283 = .ok (.if_icmp .eq 15, 3) := dop_159 (zb_X12_build_7 7 rfl) (zb_X12_build_7 8 rfl) (zb_X12_build_7 9 rfl) rfl
theorem dX12_build_286 : decode cX12_build 286 = .ok (.aload_n 0, 1) := dop_42 (zb_X12_build_7 10 rfl)
theorem dX12_build_287 : decode cX12_build 287 = .ok (.bipush 6, 2) := dop_16 (zb_X12_build_7 11 rfl) (zb_X12_build_7 12 rfl) rfl
theorem dX12_build_289 : decode cX12_build 289 = .ok (.iload_n 2, 1) := dop_28 (zb_X12_build_7 13 rfl)
theorem dX12_build_290 : decode cX12_build 290 = .ok (.iadd, 1) := dop_96 (zb_X12_build_7 14 rfl)
theorem dX12_build_291 : decode cX12_build 291 = .ok (.iload_n 2, 1) := dop_28 (zb_X12_build_7 15 rfl)
theorem dX12_build_292 : decode cX12_build 292 = .ok (.iconst 1, 1) := dop_4 (zb_X12_build_7 16 rfl)
theorem dX12_build_293 : decode cX12_build 293 = .ok (.iconst 1, 1) := dop_4 (zb_X12_build_7 17 rfl)
theorem dX12_build_294 : decode cX12_build 294 = .ok (.iconst 0, 1) := dop_3 (zb_X12_build_7 18 rfl)
theorem dX12_build_295 : decode cX12_build 295 = .ok (.invokevirtual 339, 3) := dop_182 (zb_X12_build_7 19 rfl) (zb_X12_build_7 20 rfl) (zb_X12_build_7 21 rfl) rfl
theorem dX12_build_298 : decode cX12_build 298 = .ok (.iinc 2 1, 3) := dop_132 (zb_X12_build_7 22 rfl) (zb_X12_build_7 23 rfl) (zb_X12_build_7 24 rfl) rfl
theorem dX12_build_301 : decode cX12_build 301 = .ok (.goto (-31), 3) := dop_167 (zb_X12_build_7 25 rfl) (zb_X12_build_7 26 rfl) (zb_X12_build_7 27 rfl) rfl
theorem dX12_build_304 : decode cX12_build 304 = .ok (.return_, 1) := dop_177 (zb_X12_build_7 28 rfl)
def zw_X12_startAt_2 : List Nat := [160, 0, 7, 4, 167, 0, 4, 3, 84, 132, 2, 1, 167, 255, 168, 177]
def zt_X12_startAt_2 : List Nat := zw_X12_startAt_2 ++ []
def zw_X12_startAt_1 : List Nat := [104, 29, 96, 29, 154, 0, 7, 10, 167, 0, 4, 9, 80, 132, 3, 1, 167, 255, 210, 42, 180, 0, 67, 28, 3, 84, 42, 180, 0, 70, 28, 27, 2, 159, 0, 8, 28, 27]
def zt_X12_startAt_1 : List Nat := zw_X12_startAt_1 ++ zt_X12_startAt_2
def zw_X12_startAt_0 : List Nat := [3, 61, 28, 16, 16, 162, 0, 88, 3, 62, 29, 8, 162, 0, 47, 42, 180, 0, 61, 8, 28, 104, 29, 96, 29, 154, 0, 7, 10, 167, 0, 4, 9, 80, 42, 180, 0, 64, 8, 28]
def zt_X12_startAt_0 : List Nat := zw_X12_startAt_0 ++ zt_X12_startAt_1
theorem ze_X12_startAt_0 : (dcn cX12_startAt).drop 0 = zt_X12_startAt_0 := by decide +kernel
theorem ze_X12_startAt_1 : (dcn cX12_startAt).drop 40 = zt_X12_startAt_1 := dw_n (wl := zw_X12_startAt_0) ze_X12_startAt_0 rfl
theorem zb_X12_startAt_0 (j : Nat) {n : Nat} (e : zw_X12_startAt_0[j]? = some n) : dby cX12_startAt (0 + j) n := dw_b (t := zt_X12_startAt_1) ze_X12_startAt_0 j e
theorem dX12_startAt_0 : decode cX12_startAt 0 = .ok (.iconst 0, 1) := dop_3 (zb_X12_startAt_0 0 rfl)
theorem dX12_startAt_1 : decode cX12_startAt 1 = .ok (.istore_n 2, 1) := dop_61 (zb_X12_startAt_0 1 rfl)
theorem dX12_startAt_2 : decode cX12_startAt 2 = .ok (.iload_n 2, 1) := dop_28 (zb_X12_startAt_0 2 rfl)
theorem dX12_startAt_3 : decode cX12_startAt 3 = .ok (.bipush 16, 2) := dop_16 (zb_X12_startAt_0 3 rfl) (zb_X12_startAt_0 4 rfl) rfl
theorem dX12_startAt_5 : decode cX12_startAt 5 = .ok (.if_icmp .ge 88, 3) := dop_162 (zb_X12_startAt_0 5 rfl) (zb_X12_startAt_0 6 rfl) (zb_X12_startAt_0 7 rfl) rfl
theorem dX12_startAt_8 : decode cX12_startAt 8 = .ok (.iconst 0, 1) := dop_3 (zb_X12_startAt_0 8 rfl)
theorem dX12_startAt_9 : decode cX12_startAt 9 = .ok (.istore_n 3, 1) := dop_62 (zb_X12_startAt_0 9 rfl)
theorem dX12_startAt_10 : decode cX12_startAt 10 = .ok (.iload_n 3, 1) := dop_29 (zb_X12_startAt_0 10 rfl)
theorem dX12_startAt_11 : decode cX12_startAt 11 = .ok (.iconst 5, 1) := dop_8 (zb_X12_startAt_0 11 rfl)
theorem dX12_startAt_12 : decode cX12_startAt 12 = .ok (.if_icmp .ge 47, 3) := dop_162 (zb_X12_startAt_0 12 rfl) (zb_X12_startAt_0 13 rfl) (zb_X12_startAt_0 14 rfl) rfl
theorem dX12_startAt_15 : decode cX12_startAt 15 = .ok (.aload_n 0, 1) := dop_42 (zb_X12_startAt_0 15 rfl)
theorem dX12_startAt_16 : decode cX12_startAt 16 = .ok (.getfield 61, 3) := dop_180 (zb_X12_startAt_0 16 rfl) (zb_X12_startAt_0 17 rfl) (zb_X12_startAt_0 18 rfl) rfl
theorem dX12_startAt_19 : decode cX12_startAt 19 = .ok (.iconst 5, 1) := dop_8 (zb_X12_startAt_0 19 rfl)
theorem dX12_startAt_20 : decode cX12_startAt 20 = .ok (.iload_n 2, 1) := dop_28 (zb_X12_startAt_0 20 rfl)
theorem dX12_startAt_21 : decode cX12_startAt 21 = .ok (.imul, 1) := dop_104 (zb_X12_startAt_0 21 rfl)
theorem dX12_startAt_22 : decode cX12_startAt 22 = .ok (.iload_n 3, 1) := dop_29 (zb_X12_startAt_0 22 rfl)
theorem dX12_startAt_23 : decode cX12_startAt 23 = .ok (.iadd, 1) := dop_96 (zb_X12_startAt_0 23 rfl)
theorem dX12_startAt_24 : decode cX12_startAt 24 = .ok (.iload_n 3, 1) := dop_29 (zb_X12_startAt_0 24 rfl)
theorem dX12_startAt_25 : decode cX12_startAt 25 = .ok (.ifCond .ne 7, 3) := dop_154 (zb_X12_startAt_0 25 rfl) (zb_X12_startAt_0 26 rfl) (zb_X12_startAt_0 27 rfl) rfl
theorem dX12_startAt_28 : decode cX12_startAt 28 = .ok (.lconst 1, 1) := dop_10 (zb_X12_startAt_0 28 rfl)
theorem dX12_startAt_29 : decode cX12_startAt 29 = .ok (.goto 4, 3) := dop_167 (zb_X12_startAt_0 29 rfl) (zb_X12_startAt_0 30 rfl) (zb_X12_startAt_0 31 rfl) rfl
theorem dX12_startAt_32 : decode cX12_startAt 32 = .ok (.lconst 0, 1) := dop_9 (zb_X12_startAt_0 32 rfl)
theorem dX12_startAt_33 : decode cX12_startAt 33 = .ok (.lastore, 1) := dop_80 (zb_X12_startAt_0 33 rfl)
theorem dX12_startAt_34 : decode cX12_startAt 34 = .ok (.aload_n 0, 1) := dop_42 (zb_X12_startAt_0 34 rfl)
theorem dX12_startAt_35 : decode cX12_startAt 35 = .ok (.getfield 64, 3) := dop_180 (zb_X12_startAt_0 35 rfl) (zb_X12_startAt_0 36 rfl) (zb_X12_startAt_0 37 rfl) rfl
theorem dX12_startAt_38 : decode cX12_startAt 38 = .ok (.iconst 5, 1) := dop_8 (zb_X12_startAt_0 38 rfl)
theorem dX12_startAt_39 : decode cX12_startAt 39 = .ok (.iload_n 2, 1) := dop_28 (zb_X12_startAt_0 39 rfl)
theorem ze_X12_startAt_2 : (dcn cX12_startAt).drop 78 = zt_X12_startAt_2 := dw_n (wl := zw_X12_startAt_1) ze_X12_startAt_1 rfl
theorem zb_X12_startAt_1 (j : Nat) {n : Nat} (e : zw_X12_startAt_1[j]? = some n) : dby cX12_startAt (40 + j) n := dw_b (t := zt_X12_startAt_2) ze_X12_startAt_1 j e
theorem dX12_startAt_40 : decode cX12_startAt 40 = .ok (.imul, 1) := dop_104 (zb_X12_startAt_1 0 rfl)
theorem dX12_startAt_41 : decode cX12_startAt 41 = .ok (.iload_n 3, 1) := dop_29 (zb_X12_startAt_1 1 rfl)
theorem dX12_startAt_42 : decode cX12_startAt 42 = .ok (.iadd, 1) := dop_96 (zb_X12_startAt_1 2 rfl)
theorem dX12_startAt_43 : decode cX12_startAt 43 = .ok (.iload_n 3, 1) := dop_29 (zb_X12_startAt_1 3 rfl)
theorem dX12_startAt_44 : decode cX12_startAt 44 = .ok (.ifCond .ne 7, 3) := dop_154 (zb_X12_startAt_1 4 rfl) (zb_X12_startAt_1 5 rfl) (zb_X12_startAt_1 6 rfl) rfl
theorem dX12_startAt_47 : decode cX12_startAt 47 = .ok (.lconst 1, 1) := dop_10 (zb_X12_startAt_1 7 rfl)
theorem dX12_startAt_48 : decode cX12_startAt 48 = .ok (.goto 4, 3) := dop_167 (zb_X12_startAt_1 8 rfl) (zb_X12_startAt_1 9 rfl) (zb_X12_startAt_1 10 rfl) rfl
theorem dX12_startAt_51 : decode cX12_startAt 51 = .ok (.lconst 0, 1) := dop_9 (zb_X12_startAt_1 11 rfl)
theorem dX12_startAt_52 : decode cX12_startAt 52 = .ok (.lastore, 1) := dop_80 (zb_X12_startAt_1 12 rfl)
theorem dX12_startAt_53 : decode cX12_startAt 53 = .ok (.iinc 3 1, 3) := dop_132 (zb_X12_startAt_1 13 rfl) (zb_X12_startAt_1 14 rfl) (zb_X12_startAt_1 15 rfl) rfl
theorem dX12_startAt_56 : decode cX12_startAt 56 = .ok (.goto (-46), 3) := dop_167 (zb_X12_startAt_1 16 rfl) (zb_X12_startAt_1 17 rfl) (zb_X12_startAt_1 18 rfl) rfl
theorem dX12_startAt_59 : decode cX12_startAt 59 = .ok (.aload_n 0, 1) := dop_42 (zb_X12_startAt_1 19 rfl)
theorem dX12_startAt_60 : decode cX12_startAt 60 = .ok (.getfield 67, 3) := dop_180 (zb_X12_startAt_1 20 rfl) (zb_X12_startAt_1 21 rfl) (zb_X12_startAt_1 22 rfl) rfl
theorem dX12_startAt_63 : decode cX12_startAt 63 = .ok (.iload_n 2, 1) := dop_28 (zb_X12_startAt_1 23 rfl)
theorem dX12_startAt_64 : decode cX12_startAt 64 = .ok (.iconst 0, 1) := dop_3 (zb_X12_startAt_1 24 rfl)
theorem dX12_startAt_65 : decode cX12_startAt 65 = .ok (.bastore, 1) := dop_84 (zb_X12_startAt_1 25 rfl)
theorem dX12_startAt_66 : decode cX12_startAt 66 = .ok (.aload_n 0, 1) := dop_42 (zb_X12_startAt_1 26 rfl)
theorem dX12_startAt_67 : decode cX12_startAt 67 = .ok (.getfield 70, 3) := dop_180 (zb_X12_startAt_1 27 rfl) (zb_X12_startAt_1 28 rfl) (zb_X12_startAt_1 29 rfl) rfl
theorem dX12_startAt_70 : decode cX12_startAt 70 = .ok (.iload_n 2, 1) := dop_28 (zb_X12_startAt_1 30 rfl)
theorem dX12_startAt_71 : decode cX12_startAt 71 = .ok (.iload_n 1, 1) := dop_27 (zb_X12_startAt_1 31 rfl)
theorem dX12_startAt_72 : decode cX12_startAt 72 = .ok (.iconst (-1), 1) := dop_2 (zb_X12_startAt_1 32 rfl)
theorem dX12_startAt_73 : decode cX12_startAt 73 = .ok (.if_icmp .eq 8, 3) := dop_159 (zb_X12_startAt_1 33 rfl) (zb_X12_startAt_1 34 rfl) (zb_X12_startAt_1 35 rfl) rfl
theorem dX12_startAt_76 : decode cX12_startAt 76 = .ok (.iload_n 2, 1) := dop_28 (zb_X12_startAt_1 36 rfl)
theorem dX12_startAt_77 : decode cX12_startAt 77 = .ok (.iload_n 1, 1) := dop_27 (zb_X12_startAt_1 37 rfl)
theorem zb_X12_startAt_2 (j : Nat) {n : Nat} (e : zw_X12_startAt_2[j]? = some n) : dby cX12_startAt (78 + j) n := dw_b (t := []) ze_X12_startAt_2 j e
theorem dX12_startAt_78 : decode cX12_startAt 78 = .ok (.if_icmp .ne 7, 3) := dop_160 (zb_X12_startAt_2 0 rfl) (zb_X12_startAt_2 1 rfl) (zb_X12_startAt_2 2 rfl) rfl
theorem dX12_startAt_81 : decode cX12_startAt 81 = .ok (.iconst 1, 1) := dop_4 (zb_X12_startAt_2 3 rfl)
theorem dX12_startAt_82 : decode cX12_startAt 82 = .ok (.goto 4, 3) := dop_167 (zb_X12_startAt_2 4 rfl) (zb_X12_startAt_2 5 rfl) (zb_X12_startAt_2 6 rfl) rfl
theorem dX12_startAt_85 : decode cX12_startAt 85 = .ok (.iconst 0, 1) := dop_3 (zb_X12_startAt_2 7 rfl)
theorem dX12_startAt_86 : decode cX12_startAt 86 = .ok (.bastore, 1) := dop_84 (zb_X12_startAt_2 8 rfl)
theorem dX12_startAt_87 : decode cX12_startAt 87 = .ok (.iinc 2 1, 3) := dop_132 (zb_X12_startAt_2 9 rfl) (zb_X12_startAt_2 10 rfl) (zb_X12_startAt_2 11 rfl) rfl
theorem dX12_startAt_90 : decode cX12_startAt 90 = .ok (.goto (-88), 3) := dop_167 (zb_X12_startAt_2 12 rfl) (zb_X12_startAt_2 13 rfl) (zb_X12_startAt_2 14 rfl) rfl
theorem dX12_startAt_93 : decode cX12_startAt 93 = .ok (.return_, 1) := dop_177 (zb_X12_startAt_2 15 rfl)
def zw_X12_keep_5 : List Nat := [42, 180, 0, 70, 28, 27, 153, 0, 12, 42, 180, 0, 82, 28, 51, 167, 0, 9, 42, 180, 0, 70, 28, 51, 84, 132, 2, 1, 167, 255, 147, 177]
def zt_X12_keep_5 : List Nat := zw_X12_keep_5 ++ []
def zw_X12_keep_4 : List Nat := [180, 0, 82, 28, 51, 167, 0, 9, 42, 180, 0, 70, 28, 51, 84, 42, 180, 0, 67, 28, 27, 153, 0, 12, 42, 180, 0, 79, 28, 51, 167, 0, 9, 42, 180, 0, 67, 28, 51, 84]
def zt_X12_keep_4 : List Nat := zw_X12_keep_4 ++ zt_X12_keep_5
def zw_X12_keep_3 : List Nat := [16, 16, 162, 0, 109, 42, 180, 0, 79, 28, 27, 153, 0, 12, 42, 180, 0, 79, 28, 51, 167, 0, 9, 42, 180, 0, 67, 28, 51, 84, 42, 180, 0, 82, 28, 27, 153, 0, 12, 42]
def zt_X12_keep_3 : List Nat := zw_X12_keep_3 ++ zt_X12_keep_4
def zw_X12_keep_2 : List Nat := [180, 0, 61, 28, 47, 80, 42, 180, 0, 64, 28, 27, 153, 0, 12, 42, 180, 0, 76, 28, 47, 167, 0, 9, 42, 180, 0, 64, 28, 47, 80, 132, 2, 1, 167, 255, 147, 3, 61, 28]
def zt_X12_keep_2 : List Nat := zw_X12_keep_2 ++ zt_X12_keep_3
def zw_X12_keep_1 : List Nat := [153, 0, 12, 42, 180, 0, 76, 28, 47, 167, 0, 9, 42, 180, 0, 64, 28, 47, 80, 42, 180, 0, 61, 28, 27, 153, 0, 12, 42, 180, 0, 73, 28, 47, 167, 0, 9, 42]
def zt_X12_keep_1 : List Nat := zw_X12_keep_1 ++ zt_X12_keep_2
def zw_X12_keep_0 : List Nat := [3, 61, 28, 16, 80, 162, 0, 109, 42, 180, 0, 73, 28, 27, 153, 0, 12, 42, 180, 0, 73, 28, 47, 167, 0, 9, 42, 180, 0, 61, 28, 47, 80, 42, 180, 0, 76, 28, 27]
def zt_X12_keep_0 : List Nat := zw_X12_keep_0 ++ zt_X12_keep_1
theorem ze_X12_keep_0 : (dcn cX12_keep).drop 0 = zt_X12_keep_0 := by decide +kernel
theorem ze_X12_keep_1 : (dcn cX12_keep).drop 39 = zt_X12_keep_1 := dw_n (wl := zw_X12_keep_0) ze_X12_keep_0 rfl
theorem zb_X12_keep_0 (j : Nat) {n : Nat} (e : zw_X12_keep_0[j]? = some n) : dby cX12_keep (0 + j) n := dw_b (t := zt_X12_keep_1) ze_X12_keep_0 j e
theorem dX12_keep_0 : decode cX12_keep 0 = .ok (.iconst 0, 1) := dop_3 (zb_X12_keep_0 0 rfl)
theorem dX12_keep_1 : decode cX12_keep 1 = .ok (.istore_n 2, 1) := dop_61 (zb_X12_keep_0 1 rfl)
theorem dX12_keep_2 : decode cX12_keep 2 = .ok (.iload_n 2, 1) := dop_28 (zb_X12_keep_0 2 rfl)
theorem dX12_keep_3 : decode cX12_keep 3 = .ok (.bipush 80, 2) := dop_16 (zb_X12_keep_0 3 rfl) (zb_X12_keep_0 4 rfl) rfl
theorem dX12_keep_5 : decode cX12_keep 5 = .ok (.if_icmp .ge 109, 3) := dop_162 (zb_X12_keep_0 5 rfl) (zb_X12_keep_0 6 rfl) (zb_X12_keep_0 7 rfl) rfl
theorem dX12_keep_8 : decode cX12_keep 8 = .ok (.aload_n 0, 1) := dop_42 (zb_X12_keep_0 8 rfl)
theorem dX12_keep_9 : decode cX12_keep 9 = .ok (.getfield 73, 3) := dop_180 (zb_X12_keep_0 9 rfl) (zb_X12_keep_0 10 rfl) (zb_X12_keep_0 11 rfl) rfl
theorem dX12_keep_12 : decode cX12_keep 12 = .ok (.iload_n 2, 1) := dop_28 (zb_X12_keep_0 12 rfl)
theorem dX12_keep_13 : decode cX12_keep 13 = .ok (.iload_n 1, 1) := dop_27 (zb_X12_keep_0 13 rfl)
theorem dX12_keep_14 : decode cX12_keep 14 = .ok (.ifCond .eq 12, 3) := dop_153 (zb_X12_keep_0 14 rfl) (zb_X12_keep_0 15 rfl) (zb_X12_keep_0 16 rfl) rfl
theorem dX12_keep_17 : decode cX12_keep 17 = .ok (.aload_n 0, 1) := dop_42 (zb_X12_keep_0 17 rfl)
theorem dX12_keep_18 : decode cX12_keep 18 = .ok (.getfield 73, 3) := dop_180 (zb_X12_keep_0 18 rfl) (zb_X12_keep_0 19 rfl) (zb_X12_keep_0 20 rfl) rfl
theorem dX12_keep_21 : decode cX12_keep 21 = .ok (.iload_n 2, 1) := dop_28 (zb_X12_keep_0 21 rfl)
theorem dX12_keep_22 : decode cX12_keep 22 = .ok (.laload, 1) := dop_47 (zb_X12_keep_0 22 rfl)
theorem dX12_keep_23 : decode cX12_keep 23 = .ok (.goto 9, 3) := dop_167 (zb_X12_keep_0 23 rfl) (zb_X12_keep_0 24 rfl) (zb_X12_keep_0 25 rfl) rfl
theorem dX12_keep_26 : decode cX12_keep 26 = .ok (.aload_n 0, 1) := dop_42 (zb_X12_keep_0 26 rfl)
theorem dX12_keep_27 : decode cX12_keep 27 = .ok (.getfield 61, 3) := dop_180 (zb_X12_keep_0 27 rfl) (zb_X12_keep_0 28 rfl) (zb_X12_keep_0 29 rfl) rfl
theorem dX12_keep_30 : decode cX12_keep 30 = .ok (.iload_n 2, 1) := dop_28 (zb_X12_keep_0 30 rfl)
theorem dX12_keep_31 : decode cX12_keep 31 = .ok (.laload, 1) := dop_47 (zb_X12_keep_0 31 rfl)
theorem dX12_keep_32 : decode cX12_keep 32 = .ok (.lastore, 1) := dop_80 (zb_X12_keep_0 32 rfl)
theorem dX12_keep_33 : decode cX12_keep 33 = .ok (.aload_n 0, 1) := dop_42 (zb_X12_keep_0 33 rfl)
theorem dX12_keep_34 : decode cX12_keep 34 = .ok (.getfield 76, 3) := dop_180 (zb_X12_keep_0 34 rfl) (zb_X12_keep_0 35 rfl) (zb_X12_keep_0 36 rfl) rfl
theorem dX12_keep_37 : decode cX12_keep 37 = .ok (.iload_n 2, 1) := dop_28 (zb_X12_keep_0 37 rfl)
theorem dX12_keep_38 : decode cX12_keep 38 = .ok (.iload_n 1, 1) := dop_27 (zb_X12_keep_0 38 rfl)
theorem ze_X12_keep_2 : (dcn cX12_keep).drop 77 = zt_X12_keep_2 := dw_n (wl := zw_X12_keep_1) ze_X12_keep_1 rfl
theorem zb_X12_keep_1 (j : Nat) {n : Nat} (e : zw_X12_keep_1[j]? = some n) : dby cX12_keep (39 + j) n := dw_b (t := zt_X12_keep_2) ze_X12_keep_1 j e
theorem dX12_keep_39 : decode cX12_keep 39 = .ok (.ifCond .eq 12, 3) := dop_153 (zb_X12_keep_1 0 rfl) (zb_X12_keep_1 1 rfl) (zb_X12_keep_1 2 rfl) rfl
theorem dX12_keep_42 : decode cX12_keep 42 = .ok (.aload_n 0, 1) := dop_42 (zb_X12_keep_1 3 rfl)
theorem dX12_keep_43 : decode cX12_keep 43 = .ok (.getfield 76, 3) := dop_180 (zb_X12_keep_1 4 rfl) (zb_X12_keep_1 5 rfl) (zb_X12_keep_1 6 rfl) rfl
theorem dX12_keep_46 : decode cX12_keep 46 = .ok (.iload_n 2, 1) := dop_28 (zb_X12_keep_1 7 rfl)
theorem dX12_keep_47 : decode cX12_keep 47 = .ok (.laload, 1) := dop_47 (zb_X12_keep_1 8 rfl)
theorem dX12_keep_48 : decode cX12_keep 48 = .ok (.goto 9, 3) := dop_167 (zb_X12_keep_1 9 rfl) (zb_X12_keep_1 10 rfl) (zb_X12_keep_1 11 rfl) rfl
theorem dX12_keep_51 : decode cX12_keep 51 = .ok (.aload_n 0, 1) := dop_42 (zb_X12_keep_1 12 rfl)
theorem dX12_keep_52 : decode cX12_keep 52 = .ok (.getfield 64, 3) := dop_180 (zb_X12_keep_1 13 rfl) (zb_X12_keep_1 14 rfl) (zb_X12_keep_1 15 rfl) rfl
theorem dX12_keep_55 : decode cX12_keep 55 = .ok (.iload_n 2, 1) := dop_28 (zb_X12_keep_1 16 rfl)
theorem dX12_keep_56 : decode cX12_keep 56 = .ok (.laload, 1) := dop_47 (zb_X12_keep_1 17 rfl)
theorem dX12_keep_57 : decode cX12_keep 57 = .ok (.lastore, 1) := dop_80 (zb_X12_keep_1 18 rfl)
theorem dX12_keep_58 : decode cX12_keep 58 = .ok (.aload_n 0, 1) := dop_42 (zb_X12_keep_1 19 rfl)
theorem dX12_keep_59 : decode cX12_keep 59 = .ok (.getfield 61, 3) := dop_180 (zb_X12_keep_1 20 rfl) (zb_X12_keep_1 21 rfl) (zb_X12_keep_1 22 rfl) rfl
theorem dX12_keep_62 : decode cX12_keep 62 = .ok (.iload_n 2, 1) := dop_28 (zb_X12_keep_1 23 rfl)
theorem dX12_keep_63 : decode cX12_keep 63 = .ok (.iload_n 1, 1) := dop_27 (zb_X12_keep_1 24 rfl)
theorem dX12_keep_64 : decode cX12_keep 64 = .ok (.ifCond .eq 12, 3) := dop_153 (zb_X12_keep_1 25 rfl) (zb_X12_keep_1 26 rfl) (zb_X12_keep_1 27 rfl) rfl
theorem dX12_keep_67 : decode cX12_keep 67 = .ok (.aload_n 0, 1) := dop_42 (zb_X12_keep_1 28 rfl)
theorem dX12_keep_68 : decode cX12_keep 68 = .ok (.getfield 73, 3) := dop_180 (zb_X12_keep_1 29 rfl) (zb_X12_keep_1 30 rfl) (zb_X12_keep_1 31 rfl) rfl
theorem dX12_keep_71 : decode cX12_keep 71 = .ok (.iload_n 2, 1) := dop_28 (zb_X12_keep_1 32 rfl)
theorem dX12_keep_72 : decode cX12_keep 72 = .ok (.laload, 1) := dop_47 (zb_X12_keep_1 33 rfl)
theorem dX12_keep_73 : decode cX12_keep 73 = .ok (.goto 9, 3) := dop_167 (zb_X12_keep_1 34 rfl) (zb_X12_keep_1 35 rfl) (zb_X12_keep_1 36 rfl) rfl
theorem dX12_keep_76 : decode cX12_keep 76 = .ok (.aload_n 0, 1) := dop_42 (zb_X12_keep_1 37 rfl)
theorem ze_X12_keep_3 : (dcn cX12_keep).drop 117 = zt_X12_keep_3 := dw_n (wl := zw_X12_keep_2) ze_X12_keep_2 rfl
theorem zb_X12_keep_2 (j : Nat) {n : Nat} (e : zw_X12_keep_2[j]? = some n) : dby cX12_keep (77 + j) n := dw_b (t := zt_X12_keep_3) ze_X12_keep_2 j e
theorem dX12_keep_77 : decode cX12_keep 77 = .ok (.getfield 61, 3) := dop_180 (zb_X12_keep_2 0 rfl) (zb_X12_keep_2 1 rfl) (zb_X12_keep_2 2 rfl) rfl
theorem dX12_keep_80 : decode cX12_keep 80 = .ok (.iload_n 2, 1) := dop_28 (zb_X12_keep_2 3 rfl)
theorem dX12_keep_81 : decode cX12_keep 81 = .ok (.laload, 1) := dop_47 (zb_X12_keep_2 4 rfl)
theorem dX12_keep_82 : decode cX12_keep 82 = .ok (.lastore, 1) := dop_80 (zb_X12_keep_2 5 rfl)
theorem dX12_keep_83 : decode cX12_keep 83 = .ok (.aload_n 0, 1) := dop_42 (zb_X12_keep_2 6 rfl)
theorem dX12_keep_84 : decode cX12_keep 84 = .ok (.getfield 64, 3) := dop_180 (zb_X12_keep_2 7 rfl) (zb_X12_keep_2 8 rfl) (zb_X12_keep_2 9 rfl) rfl
theorem dX12_keep_87 : decode cX12_keep 87 = .ok (.iload_n 2, 1) := dop_28 (zb_X12_keep_2 10 rfl)
theorem dX12_keep_88 : decode cX12_keep 88 = .ok (.iload_n 1, 1) := dop_27 (zb_X12_keep_2 11 rfl)
theorem dX12_keep_89 : decode cX12_keep 89 = .ok (.ifCond .eq 12, 3) := dop_153 (zb_X12_keep_2 12 rfl) (zb_X12_keep_2 13 rfl) (zb_X12_keep_2 14 rfl) rfl
theorem dX12_keep_92 : decode cX12_keep 92 = .ok (.aload_n 0, 1) := dop_42 (zb_X12_keep_2 15 rfl)
theorem dX12_keep_93 : decode cX12_keep 93 = .ok (.getfield 76, 3) := dop_180 (zb_X12_keep_2 16 rfl) (zb_X12_keep_2 17 rfl) (zb_X12_keep_2 18 rfl) rfl
theorem dX12_keep_96 : decode cX12_keep 96 = .ok (.iload_n 2, 1) := dop_28 (zb_X12_keep_2 19 rfl)
theorem dX12_keep_97 : decode cX12_keep 97 = .ok (.laload, 1) := dop_47 (zb_X12_keep_2 20 rfl)
theorem dX12_keep_98 : decode cX12_keep 98 = .ok (.goto 9, 3) := dop_167 (zb_X12_keep_2 21 rfl) (zb_X12_keep_2 22 rfl) (zb_X12_keep_2 23 rfl) rfl
theorem dX12_keep_101 : decode cX12_keep 101 = .ok (.aload_n 0, 1) := dop_42 (zb_X12_keep_2 24 rfl)
theorem dX12_keep_102 : decode cX12_keep 102 = .ok (.getfield 64, 3) := dop_180 (zb_X12_keep_2 25 rfl) (zb_X12_keep_2 26 rfl) (zb_X12_keep_2 27 rfl) rfl
theorem dX12_keep_105 : decode cX12_keep 105 = .ok (.iload_n 2, 1) := dop_28 (zb_X12_keep_2 28 rfl)
theorem dX12_keep_106 : decode cX12_keep 106 = .ok (.laload, 1) := dop_47 (zb_X12_keep_2 29 rfl)
theorem dX12_keep_107 : decode cX12_keep 107 = .ok (.lastore, 1) := dop_80 (zb_X12_keep_2 30 rfl)
theorem dX12_keep_108 : decode cX12_keep 108 = .ok (.iinc 2 1, 3) := dop_132 (zb_X12_keep_2 31 rfl) (zb_X12_keep_2 32 rfl) (zb_X12_keep_2 33 rfl) rfl
theorem dX12_keep_111 : decode cX12_keep 111 = .ok (.goto (-109), 3) := dop_167 (zb_X12_keep_2 34 rfl) (zb_X12_keep_2 35 rfl) (zb_X12_keep_2 36 rfl) rfl
theorem dX12_keep_114 : decode cX12_keep 114 = .ok (.iconst 0, 1) := dop_3 (zb_X12_keep_2 37 rfl)
theorem dX12_keep_115 : decode cX12_keep 115 = .ok (.istore_n 2, 1) := dop_61 (zb_X12_keep_2 38 rfl)
theorem dX12_keep_116 : decode cX12_keep 116 = .ok (.iload_n 2, 1) := dop_28 (zb_X12_keep_2 39 rfl)
theorem ze_X12_keep_4 : (dcn cX12_keep).drop 157 = zt_X12_keep_4 := dw_n (wl := zw_X12_keep_3) ze_X12_keep_3 rfl
theorem zb_X12_keep_3 (j : Nat) {n : Nat} (e : zw_X12_keep_3[j]? = some n) : dby cX12_keep (117 + j) n := dw_b (t := zt_X12_keep_4) ze_X12_keep_3 j e
theorem dX12_keep_117 : decode cX12_keep 117 = .ok (.bipush 16, 2) := dop_16 (zb_X12_keep_3 0 rfl) (zb_X12_keep_3 1 rfl) rfl
theorem dX12_keep_119 : decode cX12_keep 119 = .ok (.if_icmp .ge 109, 3) := dop_162 (zb_X12_keep_3 2 rfl) (zb_X12_keep_3 3 rfl) (zb_X12_keep_3 4 rfl) rfl
theorem dX12_keep_122 : decode cX12_keep 122 = .ok (.aload_n 0, 1) := dop_42 (zb_X12_keep_3 5 rfl)
theorem dX12_keep_123 : decode cX12_keep 123 = .ok (.getfield 79, 3) := dop_180 (zb_X12_keep_3 6 rfl) (zb_X12_keep_3 7 rfl) (zb_X12_keep_3 8 rfl) rfl
theorem dX12_keep_126 : decode cX12_keep 126 = .ok (.iload_n 2, 1) := dop_28 (zb_X12_keep_3 9 rfl)
theorem dX12_keep_127 : decode cX12_keep 127 = .ok (.iload_n 1, 1) := dop_27 (zb_X12_keep_3 10 rfl)
theorem dX12_keep_128 : decode cX12_keep 128 = .ok (.ifCond .eq 12, 3) := dop_153 (zb_X12_keep_3 11 rfl) (zb_X12_keep_3 12 rfl) (zb_X12_keep_3 13 rfl) rfl
theorem dX12_keep_131 : decode cX12_keep 131 = .ok (.aload_n 0, 1) := dop_42 (zb_X12_keep_3 14 rfl)
theorem dX12_keep_132 : decode cX12_keep 132 = .ok (.getfield 79, 3) := dop_180 (zb_X12_keep_3 15 rfl) (zb_X12_keep_3 16 rfl) (zb_X12_keep_3 17 rfl) rfl
theorem dX12_keep_135 : decode cX12_keep 135 = .ok (.iload_n 2, 1) := dop_28 (zb_X12_keep_3 18 rfl)
theorem dX12_keep_136 : decode cX12_keep 136 = .ok (.baload, 1) := dop_51 (zb_X12_keep_3 19 rfl)
theorem dX12_keep_137 : decode cX12_keep 137 = .ok (.goto 9, 3) := dop_167 (zb_X12_keep_3 20 rfl) (zb_X12_keep_3 21 rfl) (zb_X12_keep_3 22 rfl) rfl
theorem dX12_keep_140 : decode cX12_keep 140 = .ok (.aload_n 0, 1) := dop_42 (zb_X12_keep_3 23 rfl)
theorem dX12_keep_141 : decode cX12_keep 141 = .ok (.getfield 67, 3) := dop_180 (zb_X12_keep_3 24 rfl) (zb_X12_keep_3 25 rfl) (zb_X12_keep_3 26 rfl) rfl
theorem dX12_keep_144 : decode cX12_keep 144 = .ok (.iload_n 2, 1) := dop_28 (zb_X12_keep_3 27 rfl)
theorem dX12_keep_145 : decode cX12_keep 145 = .ok (.baload, 1) := dop_51 (zb_X12_keep_3 28 rfl)
theorem dX12_keep_146 : decode cX12_keep 146 = .ok (.bastore, 1) := dop_84 (zb_X12_keep_3 29 rfl)
theorem dX12_keep_147 : decode cX12_keep 147 = .ok (.aload_n 0, 1) := dop_42 (zb_X12_keep_3 30 rfl)
theorem dX12_keep_148 : decode cX12_keep 148 = .ok (.getfield 82, 3) := dop_180 (zb_X12_keep_3 31 rfl) (zb_X12_keep_3 32 rfl) (zb_X12_keep_3 33 rfl) rfl
theorem dX12_keep_151 : decode cX12_keep 151 = .ok (.iload_n 2, 1) := dop_28 (zb_X12_keep_3 34 rfl)
theorem dX12_keep_152 : decode cX12_keep 152 = .ok (.iload_n 1, 1) := dop_27 (zb_X12_keep_3 35 rfl)
theorem dX12_keep_153 : decode cX12_keep 153 = .ok (.ifCond .eq 12, 3) := dop_153 (zb_X12_keep_3 36 rfl) (zb_X12_keep_3 37 rfl) (zb_X12_keep_3 38 rfl) rfl
theorem dX12_keep_156 : decode cX12_keep 156 = .ok (.aload_n 0, 1) := dop_42 (zb_X12_keep_3 39 rfl)
theorem ze_X12_keep_5 : (dcn cX12_keep).drop 197 = zt_X12_keep_5 := dw_n (wl := zw_X12_keep_4) ze_X12_keep_4 rfl
theorem zb_X12_keep_4 (j : Nat) {n : Nat} (e : zw_X12_keep_4[j]? = some n) : dby cX12_keep (157 + j) n := dw_b (t := zt_X12_keep_5) ze_X12_keep_4 j e
theorem dX12_keep_157 : decode cX12_keep 157 = .ok (.getfield 82, 3) := dop_180 (zb_X12_keep_4 0 rfl) (zb_X12_keep_4 1 rfl) (zb_X12_keep_4 2 rfl) rfl
theorem dX12_keep_160 : decode cX12_keep 160 = .ok (.iload_n 2, 1) := dop_28 (zb_X12_keep_4 3 rfl)
theorem dX12_keep_161 : decode cX12_keep 161 = .ok (.baload, 1) := dop_51 (zb_X12_keep_4 4 rfl)
theorem dX12_keep_162 : decode cX12_keep 162 = .ok (.goto 9, 3) := dop_167 (zb_X12_keep_4 5 rfl) (zb_X12_keep_4 6 rfl) (zb_X12_keep_4 7 rfl) rfl
theorem dX12_keep_165 : decode cX12_keep 165 = .ok (.aload_n 0, 1) := dop_42 (zb_X12_keep_4 8 rfl)
theorem dX12_keep_166 : decode cX12_keep 166 = .ok (.getfield 70, 3) := dop_180 (zb_X12_keep_4 9 rfl) (zb_X12_keep_4 10 rfl) (zb_X12_keep_4 11 rfl) rfl
theorem dX12_keep_169 : decode cX12_keep 169 = .ok (.iload_n 2, 1) := dop_28 (zb_X12_keep_4 12 rfl)
theorem dX12_keep_170 : decode cX12_keep 170 = .ok (.baload, 1) := dop_51 (zb_X12_keep_4 13 rfl)
theorem dX12_keep_171 : decode cX12_keep 171 = .ok (.bastore, 1) := dop_84 (zb_X12_keep_4 14 rfl)
theorem dX12_keep_172 : decode cX12_keep 172 = .ok (.aload_n 0, 1) := dop_42 (zb_X12_keep_4 15 rfl)
theorem dX12_keep_173 : decode cX12_keep 173 = .ok (.getfield 67, 3) := dop_180 (zb_X12_keep_4 16 rfl) (zb_X12_keep_4 17 rfl) (zb_X12_keep_4 18 rfl) rfl
theorem dX12_keep_176 : decode cX12_keep 176 = .ok (.iload_n 2, 1) := dop_28 (zb_X12_keep_4 19 rfl)
theorem dX12_keep_177 : decode cX12_keep 177 = .ok (.iload_n 1, 1) := dop_27 (zb_X12_keep_4 20 rfl)
theorem dX12_keep_178 : decode cX12_keep 178 = .ok (.ifCond .eq 12, 3) := dop_153 (zb_X12_keep_4 21 rfl) (zb_X12_keep_4 22 rfl) (zb_X12_keep_4 23 rfl) rfl
theorem dX12_keep_181 : decode cX12_keep 181 = .ok (.aload_n 0, 1) := dop_42 (zb_X12_keep_4 24 rfl)
theorem dX12_keep_182 : decode cX12_keep 182 = .ok (.getfield 79, 3) := dop_180 (zb_X12_keep_4 25 rfl) (zb_X12_keep_4 26 rfl) (zb_X12_keep_4 27 rfl) rfl
theorem dX12_keep_185 : decode cX12_keep 185 = .ok (.iload_n 2, 1) := dop_28 (zb_X12_keep_4 28 rfl)
theorem dX12_keep_186 : decode cX12_keep 186 = .ok (.baload, 1) := dop_51 (zb_X12_keep_4 29 rfl)
theorem dX12_keep_187 : decode cX12_keep 187 = .ok (.goto 9, 3) := dop_167 (zb_X12_keep_4 30 rfl) (zb_X12_keep_4 31 rfl) (zb_X12_keep_4 32 rfl) rfl
theorem dX12_keep_190 : decode cX12_keep 190 = .ok (.aload_n 0, 1) := dop_42 (zb_X12_keep_4 33 rfl)
theorem dX12_keep_191 : decode cX12_keep 191 = .ok (.getfield 67, 3) := dop_180 (zb_X12_keep_4 34 rfl) (zb_X12_keep_4 35 rfl) (zb_X12_keep_4 36 rfl) rfl
theorem dX12_keep_194 : decode cX12_keep 194 = .ok (.iload_n 2, 1) := dop_28 (zb_X12_keep_4 37 rfl)
theorem dX12_keep_195 : decode cX12_keep 195 = .ok (.baload, 1) := dop_51 (zb_X12_keep_4 38 rfl)
theorem dX12_keep_196 : decode cX12_keep 196 = .ok (.bastore, 1) := dop_84 (zb_X12_keep_4 39 rfl)
theorem zb_X12_keep_5 (j : Nat) {n : Nat} (e : zw_X12_keep_5[j]? = some n) : dby cX12_keep (197 + j) n := dw_b (t := []) ze_X12_keep_5 j e
theorem dX12_keep_197 : decode cX12_keep 197 = .ok (.aload_n 0, 1) := dop_42 (zb_X12_keep_5 0 rfl)
theorem dX12_keep_198 : decode cX12_keep 198 = .ok (.getfield 70, 3) := dop_180 (zb_X12_keep_5 1 rfl) (zb_X12_keep_5 2 rfl) (zb_X12_keep_5 3 rfl) rfl
theorem dX12_keep_201 : decode cX12_keep 201 = .ok (.iload_n 2, 1) := dop_28 (zb_X12_keep_5 4 rfl)
theorem dX12_keep_202 : decode cX12_keep 202 = .ok (.iload_n 1, 1) := dop_27 (zb_X12_keep_5 5 rfl)
theorem dX12_keep_203 : decode cX12_keep 203 = .ok (.ifCond .eq 12, 3) := dop_153 (zb_X12_keep_5 6 rfl) (zb_X12_keep_5 7 rfl) (zb_X12_keep_5 8 rfl) rfl
theorem dX12_keep_206 : decode cX12_keep 206 = .ok (.aload_n 0, 1) := dop_42 (zb_X12_keep_5 9 rfl)
theorem dX12_keep_207 : decode cX12_keep 207 = .ok (.getfield 82, 3) := dop_180 (zb_X12_keep_5 10 rfl) (zb_X12_keep_5 11 rfl) (zb_X12_keep_5 12 rfl) rfl
theorem dX12_keep_210 : decode cX12_keep 210 = .ok (.iload_n 2, 1) := dop_28 (zb_X12_keep_5 13 rfl)
theorem dX12_keep_211 : decode cX12_keep 211 = .ok (.baload, 1) := dop_51 (zb_X12_keep_5 14 rfl)
theorem dX12_keep_212 : decode cX12_keep 212 = .ok (.goto 9, 3) := dop_167 (zb_X12_keep_5 15 rfl) (zb_X12_keep_5 16 rfl) (zb_X12_keep_5 17 rfl) rfl
theorem dX12_keep_215 : decode cX12_keep 215 = .ok (.aload_n 0, 1) := dop_42 (zb_X12_keep_5 18 rfl)
theorem dX12_keep_216 : decode cX12_keep 216 = .ok (.getfield 70, 3) := dop_180 (zb_X12_keep_5 19 rfl) (zb_X12_keep_5 20 rfl) (zb_X12_keep_5 21 rfl) rfl
theorem dX12_keep_219 : decode cX12_keep 219 = .ok (.iload_n 2, 1) := dop_28 (zb_X12_keep_5 22 rfl)
theorem dX12_keep_220 : decode cX12_keep 220 = .ok (.baload, 1) := dop_51 (zb_X12_keep_5 23 rfl)
theorem dX12_keep_221 : decode cX12_keep 221 = .ok (.bastore, 1) := dop_84 (zb_X12_keep_5 24 rfl)
theorem dX12_keep_222 : decode cX12_keep 222 = .ok (.iinc 2 1, 3) := dop_132 (zb_X12_keep_5 25 rfl) (zb_X12_keep_5 26 rfl) (zb_X12_keep_5 27 rfl) rfl
theorem dX12_keep_225 : decode cX12_keep 225 = .ok (.goto (-109), 3) := dop_167 (zb_X12_keep_5 28 rfl) (zb_X12_keep_5 29 rfl) (zb_X12_keep_5 30 rfl) rfl
theorem dX12_keep_228 : decode cX12_keep 228 = .ok (.return_, 1) := dop_177 (zb_X12_keep_5 31 rfl)
def zw_X12_round_6 : List Nat := [180, 0, 79, 21, 5, 21, 6, 84, 42, 180, 0, 82, 21, 5, 4, 84, 4, 61, 132, 3, 1, 167, 255, 7, 42, 4, 182, 1, 87, 28, 172]
def zt_X12_round_6 : List Nat := zw_X12_round_6 ++ []
def zw_X12_round_5 : List Nat := [21, 5, 104, 21, 8, 96, 42, 180, 0, 85, 21, 8, 47, 80, 42, 180, 0, 76, 8, 21, 5, 104, 21, 8, 96, 42, 180, 0, 88, 21, 8, 47, 80, 132, 8, 1, 167, 255, 209, 42]
def zt_X12_round_5 : List Nat := zw_X12_round_5 ++ zt_X12_round_6
def zw_X12_round_4 : List Nat := [21, 7, 157, 0, 23, 21, 7, 154, 0, 90, 21, 6, 153, 0, 85, 42, 180, 0, 79, 21, 5, 51, 154, 0, 75, 3, 54, 8, 21, 8, 8, 162, 0, 47, 42, 180, 0, 73, 8]
def zt_X12_round_4 : List Nat := zw_X12_round_4 ++ zt_X12_round_5
def zw_X12_round_3 : List Nat := [180, 0, 82, 21, 5, 51, 153, 0, 31, 42, 42, 180, 0, 85, 42, 180, 0, 88, 3, 42, 180, 0, 73, 42, 180, 0, 76, 8, 21, 5, 104, 182, 1, 94, 167, 0, 4, 4, 54, 7]
def zt_X12_round_3 : List Nat := zw_X12_round_3 ++ zt_X12_round_4
def zw_X12_round_2 : List Nat := [180, 0, 49, 29, 46, 184, 1, 90, 27, 153, 0, 26, 42, 180, 0, 67, 21, 4, 51, 154, 0, 12, 42, 180, 0, 52, 29, 51, 153, 0, 7, 4, 167, 0, 4, 3, 54, 6, 42]
def zt_X12_round_2 : List Nat := zw_X12_round_2 ++ zt_X12_round_3
def zw_X12_round_1 : List Nat := [153, 0, 215, 42, 180, 0, 85, 3, 42, 180, 0, 61, 8, 21, 4, 104, 42, 180, 0, 46, 29, 46, 184, 1, 90, 42, 180, 0, 88, 3, 42, 180, 0, 64, 8, 21, 4, 104, 42]
def zt_X12_round_1 : List Nat := zw_X12_round_1 ++ zt_X12_round_2
def zw_X12_round_0 : List Nat := [3, 61, 42, 3, 182, 1, 87, 3, 62, 29, 42, 180, 1, 77, 162, 0, 247, 42, 180, 0, 40, 29, 46, 54, 4, 42, 180, 0, 43, 29, 46, 54, 5, 42, 180, 0, 70, 21, 4, 51]
def zt_X12_round_0 : List Nat := zw_X12_round_0 ++ zt_X12_round_1
theorem ze_X12_round_0 : (dcn cX12_round).drop 0 = zt_X12_round_0 := by decide +kernel
theorem ze_X12_round_1 : (dcn cX12_round).drop 40 = zt_X12_round_1 := dw_n (wl := zw_X12_round_0) ze_X12_round_0 rfl
theorem zb_X12_round_0 (j : Nat) {n : Nat} (e : zw_X12_round_0[j]? = some n) : dby cX12_round (0 + j) n := dw_b (t := zt_X12_round_1) ze_X12_round_0 j e
theorem dX12_round_0 : decode cX12_round 0 = .ok (.iconst 0, 1) := dop_3 (zb_X12_round_0 0 rfl)
theorem dX12_round_1 : decode cX12_round 1 = .ok (.istore_n 2, 1) := dop_61 (zb_X12_round_0 1 rfl)
theorem dX12_round_2 : decode cX12_round 2 = .ok (.aload_n 0, 1) := dop_42 (zb_X12_round_0 2 rfl)
theorem dX12_round_3 : decode cX12_round 3 = .ok (.iconst 0, 1) := dop_3 (zb_X12_round_0 3 rfl)
theorem dX12_round_4 : decode cX12_round 4 = .ok (.invokevirtual 343, 3) := dop_182 (zb_X12_round_0 4 rfl) (zb_X12_round_0 5 rfl) (zb_X12_round_0 6 rfl) rfl
theorem dX12_round_7 : decode cX12_round 7 = .ok (.iconst 0, 1) := dop_3 (zb_X12_round_0 7 rfl)
theorem dX12_round_8 : decode cX12_round 8 = .ok (.istore_n 3, 1) := dop_62 (zb_X12_round_0 8 rfl)
theorem dX12_round_9 : decode cX12_round 9 = .ok (.iload_n 3, 1) := dop_29 (zb_X12_round_0 9 rfl)
theorem dX12_round_10 : decode cX12_round 10 = .ok (.aload_n 0, 1) := dop_42 (zb_X12_round_0 10 rfl)
theorem dX12_round_11 : decode cX12_round 11 = .ok (.getfield 333, 3) := dop_180 (zb_X12_round_0 11 rfl) (zb_X12_round_0 12 rfl) (zb_X12_round_0 13 rfl) rfl
theorem dX12_round_14 : decode cX12_round 14 = .ok (.if_icmp .ge 247, 3) := dop_162 (zb_X12_round_0 14 rfl) (zb_X12_round_0 15 rfl) (zb_X12_round_0 16 rfl) rfl
theorem dX12_round_17 : decode cX12_round 17 = .ok (.aload_n 0, 1) := dop_42 (zb_X12_round_0 17 rfl)
theorem dX12_round_18 : decode cX12_round 18 = .ok (.getfield 40, 3) := dop_180 (zb_X12_round_0 18 rfl) (zb_X12_round_0 19 rfl) (zb_X12_round_0 20 rfl) rfl
theorem dX12_round_21 : decode cX12_round 21 = .ok (.iload_n 3, 1) := dop_29 (zb_X12_round_0 21 rfl)
theorem dX12_round_22 : decode cX12_round 22 = .ok (.iaload, 1) := dop_46 (zb_X12_round_0 22 rfl)
theorem dX12_round_23 : decode cX12_round 23 = .ok (.istore 4, 2) := dop_54 (zb_X12_round_0 23 rfl) (zb_X12_round_0 24 rfl)
theorem dX12_round_25 : decode cX12_round 25 = .ok (.aload_n 0, 1) := dop_42 (zb_X12_round_0 25 rfl)
theorem dX12_round_26 : decode cX12_round 26 = .ok (.getfield 43, 3) := dop_180 (zb_X12_round_0 26 rfl) (zb_X12_round_0 27 rfl) (zb_X12_round_0 28 rfl) rfl
theorem dX12_round_29 : decode cX12_round 29 = .ok (.iload_n 3, 1) := dop_29 (zb_X12_round_0 29 rfl)
theorem dX12_round_30 : decode cX12_round 30 = .ok (.iaload, 1) := dop_46 (zb_X12_round_0 30 rfl)
theorem dX12_round_31 : decode cX12_round 31 = .ok (.istore 5, 2) := dop_54 (zb_X12_round_0 31 rfl) (zb_X12_round_0 32 rfl)
theorem dX12_round_33 : decode cX12_round 33 = .ok (.aload_n 0, 1) := dop_42 (zb_X12_round_0 33 rfl)
theorem dX12_round_34 : decode cX12_round 34 = .ok (.getfield 70, 3) := dop_180 (zb_X12_round_0 34 rfl) (zb_X12_round_0 35 rfl) (zb_X12_round_0 36 rfl) rfl
theorem dX12_round_37 : decode cX12_round 37 = .ok (.iload 4, 2) := dop_21 (zb_X12_round_0 37 rfl) (zb_X12_round_0 38 rfl)
theorem dX12_round_39 : decode cX12_round 39 = .ok (.baload, 1) := dop_51 (zb_X12_round_0 39 rfl)
theorem ze_X12_round_2 : (dcn cX12_round).drop 79 = zt_X12_round_2 := dw_n (wl := zw_X12_round_1) ze_X12_round_1 rfl
theorem zb_X12_round_1 (j : Nat) {n : Nat} (e : zw_X12_round_1[j]? = some n) : dby cX12_round (40 + j) n := dw_b (t := zt_X12_round_2) ze_X12_round_1 j e
theorem dX12_round_40 : decode cX12_round 40 = .ok (.ifCond .eq 215, 3) := dop_153 (zb_X12_round_1 0 rfl) (zb_X12_round_1 1 rfl) (zb_X12_round_1 2 rfl) rfl
theorem dX12_round_43 : decode cX12_round 43 = .ok (.aload_n 0, 1) := dop_42 (zb_X12_round_1 3 rfl)
theorem dX12_round_44 : decode cX12_round 44 = .ok (.getfield 85, 3) := dop_180 (zb_X12_round_1 4 rfl) (zb_X12_round_1 5 rfl) (zb_X12_round_1 6 rfl) rfl
theorem dX12_round_47 : decode cX12_round 47 = .ok (.iconst 0, 1) := dop_3 (zb_X12_round_1 7 rfl)
theorem dX12_round_48 : decode cX12_round 48 = .ok (.aload_n 0, 1) := dop_42 (zb_X12_round_1 8 rfl)
theorem dX12_round_49 : decode cX12_round 49 = .ok (.getfield 61, 3) := dop_180 (zb_X12_round_1 9 rfl) (zb_X12_round_1 10 rfl) (zb_X12_round_1 11 rfl) rfl
theorem dX12_round_52 : decode cX12_round 52 = .ok (.iconst 5, 1) := dop_8 (zb_X12_round_1 12 rfl)
theorem dX12_round_53 : decode cX12_round 53 = .ok (.iload 4, 2) := dop_21 (zb_X12_round_1 13 rfl) (zb_X12_round_1 14 rfl)
theorem dX12_round_55 : decode cX12_round 55 = .ok (.imul, 1) := dop_104 (zb_X12_round_1 15 rfl)
theorem dX12_round_56 : decode cX12_round 56 = .ok (.aload_n 0, 1) := dop_42 (zb_X12_round_1 16 rfl)
theorem dX12_round_57 : decode cX12_round 57 = .ok (.getfield 46, 3) := dop_180 (zb_X12_round_1 17 rfl) (zb_X12_round_1 18 rfl) (zb_X12_round_1 19 rfl) rfl
theorem dX12_round_60 : decode cX12_round 60 = .ok (.iload_n 3, 1) := dop_29 (zb_X12_round_1 20 rfl)
theorem dX12_round_61 : decode cX12_round 61 = .ok (.iaload, 1) := dop_46 (zb_X12_round_1 21 rfl)
theorem dX12_round_62 : decode cX12_round 62 = .ok (.invokestatic 346, 3) := dop_184 (zb_X12_round_1 22 rfl) (zb_X12_round_1 23 rfl) (zb_X12_round_1 24 rfl) rfl
theorem dX12_round_65 : decode cX12_round 65 = .ok (.aload_n 0, 1) := dop_42 (zb_X12_round_1 25 rfl)
theorem dX12_round_66 : decode cX12_round 66 = .ok (.getfield 88, 3) := dop_180 (zb_X12_round_1 26 rfl) (zb_X12_round_1 27 rfl) (zb_X12_round_1 28 rfl) rfl
theorem dX12_round_69 : decode cX12_round 69 = .ok (.iconst 0, 1) := dop_3 (zb_X12_round_1 29 rfl)
theorem dX12_round_70 : decode cX12_round 70 = .ok (.aload_n 0, 1) := dop_42 (zb_X12_round_1 30 rfl)
theorem dX12_round_71 : decode cX12_round 71 = .ok (.getfield 64, 3) := dop_180 (zb_X12_round_1 31 rfl) (zb_X12_round_1 32 rfl) (zb_X12_round_1 33 rfl) rfl
theorem dX12_round_74 : decode cX12_round 74 = .ok (.iconst 5, 1) := dop_8 (zb_X12_round_1 34 rfl)
theorem dX12_round_75 : decode cX12_round 75 = .ok (.iload 4, 2) := dop_21 (zb_X12_round_1 35 rfl) (zb_X12_round_1 36 rfl)
theorem dX12_round_77 : decode cX12_round 77 = .ok (.imul, 1) := dop_104 (zb_X12_round_1 37 rfl)
theorem dX12_round_78 : decode cX12_round 78 = .ok (.aload_n 0, 1) := dop_42 (zb_X12_round_1 38 rfl)
theorem ze_X12_round_3 : (dcn cX12_round).drop 118 = zt_X12_round_3 := dw_n (wl := zw_X12_round_2) ze_X12_round_2 rfl
theorem zb_X12_round_2 (j : Nat) {n : Nat} (e : zw_X12_round_2[j]? = some n) : dby cX12_round (79 + j) n := dw_b (t := zt_X12_round_3) ze_X12_round_2 j e
theorem dX12_round_79 : decode cX12_round 79 = .ok (.getfield 49, 3) := dop_180 (zb_X12_round_2 0 rfl) (zb_X12_round_2 1 rfl) (zb_X12_round_2 2 rfl) rfl
theorem dX12_round_82 : decode cX12_round 82 = .ok (.iload_n 3, 1) := dop_29 (zb_X12_round_2 3 rfl)
theorem dX12_round_83 : decode cX12_round 83 = .ok (.iaload, 1) := dop_46 (zb_X12_round_2 4 rfl)
theorem dX12_round_84 : decode cX12_round 84 = .ok (.invokestatic 346, 3) := dop_184 (zb_X12_round_2 5 rfl) (zb_X12_round_2 6 rfl) (zb_X12_round_2 7 rfl) rfl
theorem dX12_round_87 : decode cX12_round 87 = .ok (.iload_n 1, 1) := dop_27 (zb_X12_round_2 8 rfl)
theorem dX12_round_88 : decode cX12_round 88 = .ok (.ifCond .eq 26, 3) := dop_153 (zb_X12_round_2 9 rfl) (zb_X12_round_2 10 rfl) (zb_X12_round_2 11 rfl) rfl
theorem dX12_round_91 : decode cX12_round 91 = .ok (.aload_n 0, 1) := dop_42 (zb_X12_round_2 12 rfl)
theorem dX12_round_92 : decode cX12_round 92 = .ok (.getfield 67, 3) := dop_180 (zb_X12_round_2 13 rfl) (zb_X12_round_2 14 rfl) (zb_X12_round_2 15 rfl) rfl
theorem dX12_round_95 : decode cX12_round 95 = .ok (.iload 4, 2) := dop_21 (zb_X12_round_2 16 rfl) (zb_X12_round_2 17 rfl)
theorem dX12_round_97 : decode cX12_round 97 = .ok (.baload, 1) := dop_51 (zb_X12_round_2 18 rfl)
theorem dX12_round_98 : decode cX12_round 98 = .ok (.ifCond .ne 12, 3) := dop_154 (zb_X12_round_2 19 rfl) (zb_X12_round_2 20 rfl) (zb_X12_round_2 21 rfl) rfl
theorem dX12_round_101 : decode cX12_round 101 = .ok (.aload_n 0, 1) := dop_42 (zb_X12_round_2 22 rfl)
theorem dX12_round_102 : decode cX12_round 102 = .ok (.getfield 52, 3) := dop_180 (zb_X12_round_2 23 rfl) (zb_X12_round_2 24 rfl) (zb_X12_round_2 25 rfl) rfl
theorem dX12_round_105 : decode cX12_round 105 = .ok (.iload_n 3, 1) := dop_29 (zb_X12_round_2 26 rfl)
theorem dX12_round_106 : decode cX12_round 106 = .ok (.baload, 1) := dop_51 (zb_X12_round_2 27 rfl)
theorem dX12_round_107 : decode cX12_round 107 = .ok (.ifCond .eq 7, 3) := dop_153 (zb_X12_round_2 28 rfl) (zb_X12_round_2 29 rfl) (zb_X12_round_2 30 rfl) rfl
theorem dX12_round_110 : decode cX12_round 110 = .ok (.iconst 1, 1) := dop_4 (zb_X12_round_2 31 rfl)
theorem dX12_round_111 : decode cX12_round 111 = .ok (.goto 4, 3) := dop_167 (zb_X12_round_2 32 rfl) (zb_X12_round_2 33 rfl) (zb_X12_round_2 34 rfl) rfl
theorem dX12_round_114 : decode cX12_round 114 = .ok (.iconst 0, 1) := dop_3 (zb_X12_round_2 35 rfl)
theorem dX12_round_115 : decode cX12_round 115 = .ok (.istore 6, 2) := dop_54 (zb_X12_round_2 36 rfl) (zb_X12_round_2 37 rfl)
theorem dX12_round_117 : decode cX12_round 117 = .ok (.aload_n 0, 1) := dop_42 (zb_X12_round_2 38 rfl)
theorem ze_X12_round_4 : (dcn cX12_round).drop 158 = zt_X12_round_4 := dw_n (wl := zw_X12_round_3) ze_X12_round_3 rfl
theorem zb_X12_round_3 (j : Nat) {n : Nat} (e : zw_X12_round_3[j]? = some n) : dby cX12_round (118 + j) n := dw_b (t := zt_X12_round_4) ze_X12_round_3 j e
theorem dX12_round_118 : decode cX12_round 118 = .ok (.getfield 82, 3) := dop_180 (zb_X12_round_3 0 rfl) (zb_X12_round_3 1 rfl) (zb_X12_round_3 2 rfl) rfl
theorem dX12_round_121 : decode cX12_round 121 = .ok (.iload 5, 2) := dop_21 (zb_X12_round_3 3 rfl) (zb_X12_round_3 4 rfl)
theorem dX12_round_123 : decode cX12_round 123 = .ok (.baload, 1) := dop_51 (zb_X12_round_3 5 rfl)
theorem dX12_round_124 : decode cX12_round 124 = .ok (.ifCond .eq 31, 3) := dop_153 (zb_X12_round_3 6 rfl) (zb_X12_round_3 7 rfl) (zb_X12_round_3 8 rfl) rfl
theorem dX12_round_127 : decode cX12_round 127 = .ok (.aload_n 0, 1) := dop_42 (zb_X12_round_3 9 rfl)
theorem dX12_round_128 : decode cX12_round 128 = .ok (.aload_n 0, 1) := dop_42 (zb_X12_round_3 10 rfl)
theorem dX12_round_129 : decode cX12_round 129 = .ok (.getfield 85, 3) := dop_180 (zb_X12_round_3 11 rfl) (zb_X12_round_3 12 rfl) (zb_X12_round_3 13 rfl) rfl
theorem dX12_round_132 : decode cX12_round 132 = .ok (.aload_n 0, 1) := dop_42 (zb_X12_round_3 14 rfl)
theorem dX12_round_133 : decode cX12_round 133 = .ok (.getfield 88, 3) := dop_180 (zb_X12_round_3 15 rfl) (zb_X12_round_3 16 rfl) (zb_X12_round_3 17 rfl) rfl
theorem dX12_round_136 : decode cX12_round 136 = .ok (.iconst 0, 1) := dop_3 (zb_X12_round_3 18 rfl)
theorem dX12_round_137 : decode cX12_round 137 = .ok (.aload_n 0, 1) := dop_42 (zb_X12_round_3 19 rfl)
theorem dX12_round_138 : decode cX12_round 138 = .ok (.getfield 73, 3) := dop_180 (zb_X12_round_3 20 rfl) (zb_X12_round_3 21 rfl) (zb_X12_round_3 22 rfl) rfl
theorem dX12_round_141 : decode cX12_round 141 = .ok (.aload_n 0, 1) := dop_42 (zb_X12_round_3 23 rfl)
theorem dX12_round_142 : decode cX12_round 142 = .ok (.getfield 76, 3) := dop_180 (zb_X12_round_3 24 rfl) (zb_X12_round_3 25 rfl) (zb_X12_round_3 26 rfl) rfl
theorem dX12_round_145 : decode cX12_round 145 = .ok (.iconst 5, 1) := dop_8 (zb_X12_round_3 27 rfl)
theorem dX12_round_146 : decode cX12_round 146 = .ok (.iload 5, 2) := dop_21 (zb_X12_round_3 28 rfl) (zb_X12_round_3 29 rfl)
theorem dX12_round_148 : decode cX12_round 148 = .ok (.imul, 1) := dop_104 (zb_X12_round_3 30 rfl)
theorem dX12_round_149 : decode cX12_round 149 = .ok (.invokevirtual 350, 3) := dop_182 (zb_X12_round_3 31 rfl) (zb_X12_round_3 32 rfl) (zb_X12_round_3 33 rfl) rfl
theorem dX12_round_152 : decode cX12_round 152 = .ok (.goto 4, 3) := dop_167 (zb_X12_round_3 34 rfl) (zb_X12_round_3 35 rfl) (zb_X12_round_3 36 rfl) rfl
theorem dX12_round_155 : decode cX12_round 155 = .ok (.iconst 1, 1) := dop_4 (zb_X12_round_3 37 rfl)
theorem dX12_round_156 : decode cX12_round 156 = .ok (.istore 7, 2) := dop_54 (zb_X12_round_3 38 rfl) (zb_X12_round_3 39 rfl)
theorem ze_X12_round_5 : (dcn cX12_round).drop 197 = zt_X12_round_5 := dw_n (wl := zw_X12_round_4) ze_X12_round_4 rfl
theorem zb_X12_round_4 (j : Nat) {n : Nat} (e : zw_X12_round_4[j]? = some n) : dby cX12_round (158 + j) n := dw_b (t := zt_X12_round_5) ze_X12_round_4 j e
theorem dX12_round_158 : decode cX12_round 158 = .ok (.iload 7, 2) := dop_21 (zb_X12_round_4 0 rfl) (zb_X12_round_4 1 rfl)
theorem dX12_round_160 : decode cX12_round 160 = .ok (.ifCond .gt 23, 3) := dop_157 (zb_X12_round_4 2 rfl) (zb_X12_round_4 3 rfl) (zb_X12_round_4 4 rfl) rfl
theorem dX12_round_163 : decode cX12_round 163 = .ok (.iload 7, 2) := dop_21 (zb_X12_round_4 5 rfl) (zb_X12_round_4 6 rfl)
theorem dX12_round_165 : decode cX12_round 165 = .ok (.ifCond .ne 90, 3) := dop_154 (zb_X12_round_4 7 rfl) (zb_X12_round_4 8 rfl) (zb_X12_round_4 9 rfl) rfl
theorem dX12_round_168 : decode cX12_round 168 = .ok (.iload 6, 2) := dop_21 (zb_X12_round_4 10 rfl) (zb_X12_round_4 11 rfl)
theorem dX12_round_170 : decode cX12_round 170 = .ok (.ifCond .eq 85, 3) := dop_153 (zb_X12_round_4 12 rfl) (zb_X12_round_4 13 rfl) (zb_X12_round_4 14 rfl) rfl
theorem dX12_round_173 : decode cX12_round 173 = .ok (.aload_n 0, 1) := dop_42 (zb_X12_round_4 15 rfl)
theorem dX12_round_174 : decode cX12_round 174 = .ok (.getfield 79, 3) := dop_180 (zb_X12_round_4 16 rfl) (zb_X12_round_4 17 rfl) (zb_X12_round_4 18 rfl) rfl
theorem dX12_round_177 : decode cX12_round 177 = .ok (.iload 5, 2) := dop_21 (zb_X12_round_4 19 rfl) (zb_X12_round_4 20 rfl)
theorem dX12_round_179 : decode cX12_round 179 = .ok (.baload, 1) := dop_51 (zb_X12_round_4 21 rfl)
theorem dX12_round_180 : decode cX12_round 180 = .ok (.ifCond .ne 75, 3) := dop_154 (zb_X12_round_4 22 rfl) (zb_X12_round_4 23 rfl) (zb_X12_round_4 24 rfl) rfl
theorem dX12_round_183 : decode cX12_round 183 = .ok (.iconst 0, 1) := dop_3 (zb_X12_round_4 25 rfl)
theorem dX12_round_184 : decode cX12_round 184 = .ok (.istore 8, 2) := dop_54 (zb_X12_round_4 26 rfl) (zb_X12_round_4 27 rfl)
theorem dX12_round_186 : decode cX12_round 186 = .ok (.iload 8, 2) := dop_21 (zb_X12_round_4 28 rfl) (zb_X12_round_4 29 rfl)
theorem dX12_round_188 : decode cX12_round 188 = .ok (.iconst 5, 1) := dop_8 (zb_X12_round_4 30 rfl)
theorem dX12_round_189 : decode cX12_round 189 = .ok (.if_icmp .ge 47, 3) := dop_162 (zb_X12_round_4 31 rfl) (zb_X12_round_4 32 rfl) (zb_X12_round_4 33 rfl) rfl
theorem dX12_round_192 : decode cX12_round 192 = .ok (.aload_n 0, 1) := dop_42 (zb_X12_round_4 34 rfl)
theorem dX12_round_193 : decode cX12_round 193 = .ok (.getfield 73, 3) := dop_180 (zb_X12_round_4 35 rfl) (zb_X12_round_4 36 rfl) (zb_X12_round_4 37 rfl) rfl
theorem dX12_round_196 : decode cX12_round 196 = .ok (.iconst 5, 1) := dop_8 (zb_X12_round_4 38 rfl)
theorem ze_X12_round_6 : (dcn cX12_round).drop 237 = zt_X12_round_6 := dw_n (wl := zw_X12_round_5) ze_X12_round_5 rfl
theorem zb_X12_round_5 (j : Nat) {n : Nat} (e : zw_X12_round_5[j]? = some n) : dby cX12_round (197 + j) n := dw_b (t := zt_X12_round_6) ze_X12_round_5 j e
theorem dX12_round_197 : decode cX12_round 197 = .ok (.iload 5, 2) := dop_21 (zb_X12_round_5 0 rfl) (zb_X12_round_5 1 rfl)
theorem dX12_round_199 : decode cX12_round 199 = .ok (.imul, 1) := dop_104 (zb_X12_round_5 2 rfl)
theorem dX12_round_200 : decode cX12_round 200 = .ok (.iload 8, 2) := dop_21 (zb_X12_round_5 3 rfl) (zb_X12_round_5 4 rfl)
theorem dX12_round_202 : decode cX12_round 202 = .ok (.iadd, 1) := dop_96 (zb_X12_round_5 5 rfl)
theorem dX12_round_203 : decode cX12_round 203 = .ok (.aload_n 0, 1) := dop_42 (zb_X12_round_5 6 rfl)
theorem dX12_round_204 : decode cX12_round 204 = .ok (.getfield 85, 3) := dop_180 (zb_X12_round_5 7 rfl) (zb_X12_round_5 8 rfl) (zb_X12_round_5 9 rfl) rfl
theorem dX12_round_207 : decode cX12_round 207 = .ok (.iload 8, 2) := dop_21 (zb_X12_round_5 10 rfl) (zb_X12_round_5 11 rfl)
theorem dX12_round_209 : decode cX12_round 209 = .ok (.laload, 1) := dop_47 (zb_X12_round_5 12 rfl)
theorem dX12_round_210 : decode cX12_round 210 = .ok (.lastore, 1) := dop_80 (zb_X12_round_5 13 rfl)
theorem dX12_round_211 : decode cX12_round 211 = .ok (.aload_n 0, 1) := dop_42 (zb_X12_round_5 14 rfl)
theorem dX12_round_212 : decode cX12_round 212 = .ok (.getfield 76, 3) := dop_180 (zb_X12_round_5 15 rfl) (zb_X12_round_5 16 rfl) (zb_X12_round_5 17 rfl) rfl
theorem dX12_round_215 : decode cX12_round 215 = .ok (.iconst 5, 1) := dop_8 (zb_X12_round_5 18 rfl)
theorem dX12_round_216 : decode cX12_round 216 = .ok (.iload 5, 2) := dop_21 (zb_X12_round_5 19 rfl) (zb_X12_round_5 20 rfl)
theorem dX12_round_218 : decode cX12_round 218 = .ok (.imul, 1) := dop_104 (zb_X12_round_5 21 rfl)
theorem dX12_round_219 : decode cX12_round 219 = .ok (.iload 8, 2) := dop_21 (zb_X12_round_5 22 rfl) (zb_X12_round_5 23 rfl)
theorem dX12_round_221 : decode cX12_round 221 = .ok (.iadd, 1) := dop_96 (zb_X12_round_5 24 rfl)
theorem dX12_round_222 : decode cX12_round 222 = .ok (.aload_n 0, 1) := dop_42 (zb_X12_round_5 25 rfl)
theorem dX12_round_223 : decode cX12_round 223 = .ok (.getfield 88, 3) := dop_180 (zb_X12_round_5 26 rfl) (zb_X12_round_5 27 rfl) (zb_X12_round_5 28 rfl) rfl
theorem dX12_round_226 : decode cX12_round 226 = .ok (.iload 8, 2) := dop_21 (zb_X12_round_5 29 rfl) (zb_X12_round_5 30 rfl)
theorem dX12_round_228 : decode cX12_round 228 = .ok (.laload, 1) := dop_47 (zb_X12_round_5 31 rfl)
theorem dX12_round_229 : decode cX12_round 229 = .ok (.lastore, 1) := dop_80 (zb_X12_round_5 32 rfl)
theorem dX12_round_230 : decode cX12_round 230 = .ok (.iinc 8 1, 3) := dop_132 (zb_X12_round_5 33 rfl) (zb_X12_round_5 34 rfl) (zb_X12_round_5 35 rfl) rfl
theorem dX12_round_233 : decode cX12_round 233 = .ok (.goto (-47), 3) := dop_167 (zb_X12_round_5 36 rfl) (zb_X12_round_5 37 rfl) (zb_X12_round_5 38 rfl) rfl
theorem dX12_round_236 : decode cX12_round 236 = .ok (.aload_n 0, 1) := dop_42 (zb_X12_round_5 39 rfl)
theorem zb_X12_round_6 (j : Nat) {n : Nat} (e : zw_X12_round_6[j]? = some n) : dby cX12_round (237 + j) n := dw_b (t := []) ze_X12_round_6 j e
theorem dX12_round_237 : decode cX12_round 237 = .ok (.getfield 79, 3) := dop_180 (zb_X12_round_6 0 rfl) (zb_X12_round_6 1 rfl) (zb_X12_round_6 2 rfl) rfl
theorem dX12_round_240 : decode cX12_round 240 = .ok (.iload 5, 2) := dop_21 (zb_X12_round_6 3 rfl) (zb_X12_round_6 4 rfl)
theorem dX12_round_242 : decode cX12_round 242 = .ok (.iload 6, 2) := dop_21 (zb_X12_round_6 5 rfl) (zb_X12_round_6 6 rfl)
theorem dX12_round_244 : decode cX12_round 244 = .ok (.bastore, 1) := dop_84 (zb_X12_round_6 7 rfl)
theorem dX12_round_245 : decode cX12_round 245 = .ok (.aload_n 0, 1) := dop_42 (zb_X12_round_6 8 rfl)
theorem dX12_round_246 : decode cX12_round 246 = .ok (.getfield 82, 3) := dop_180 (zb_X12_round_6 9 rfl) (zb_X12_round_6 10 rfl) (zb_X12_round_6 11 rfl) rfl
theorem dX12_round_249 : decode cX12_round 249 = .ok (.iload 5, 2) := dop_21 (zb_X12_round_6 12 rfl) (zb_X12_round_6 13 rfl)
theorem dX12_round_251 : decode cX12_round 251 = .ok (.iconst 1, 1) := dop_4 (zb_X12_round_6 14 rfl)
theorem dX12_round_252 : decode cX12_round 252 = .ok (.bastore, 1) := dop_84 (zb_X12_round_6 15 rfl)
theorem dX12_round_253 : decode cX12_round 253 = .ok (.iconst 1, 1) := dop_4 (zb_X12_round_6 16 rfl)
theorem dX12_round_254 : decode cX12_round 254 = .ok (.istore_n 2, 1) := dop_61 (zb_X12_round_6 17 rfl)
theorem dX12_round_255 : decode cX12_round 255 = .ok (.iinc 3 1, 3) := dop_132 (zb_X12_round_6 18 rfl) (zb_X12_round_6 19 rfl) (zb_X12_round_6 20 rfl) rfl
theorem dX12_round_258 : decode cX12_round 258 = .ok (.goto (-249), 3) := dop_167 (zb_X12_round_6 21 rfl) (zb_X12_round_6 22 rfl) (zb_X12_round_6 23 rfl) rfl
theorem dX12_round_261 : decode cX12_round 261 = .ok (.aload_n 0, 1) := dop_42 (zb_X12_round_6 24 rfl)
theorem dX12_round_262 : decode cX12_round 262 = .ok (.iconst 1, 1) := dop_4 (zb_X12_round_6 25 rfl)
theorem dX12_round_263 : decode cX12_round 263 = .ok (.invokevirtual 343, 3) := dop_182 (zb_X12_round_6 26 rfl) (zb_X12_round_6 27 rfl) (zb_X12_round_6 28 rfl) rfl
theorem dX12_round_266 : decode cX12_round 266 = .ok (.iload_n 2, 1) := dop_28 (zb_X12_round_6 29 rfl)
theorem dX12_round_267 : decode cX12_round 267 = .ok (.ireturn, 1) := dop_172 (zb_X12_round_6 30 rfl)
def zw_X12_canBe_8 : List Nat := [3, 172, 132, 3, 1, 167, 255, 202, 4, 172]
def zt_X12_canBe_8 : List Nat := zw_X12_canBe_8 ++ []
def zw_X12_canBe_7 : List Nat := [180, 0, 52, 29, 51, 153, 0, 37, 42, 29, 182, 1, 108, 153, 0, 29, 42, 180, 0, 91, 16, 16, 42, 180, 0, 43, 29, 46, 104, 42, 180, 0, 40, 29, 46, 96, 51, 153, 0, 5]
def zt_X12_canBe_7 : List Nat := zw_X12_canBe_7 ++ zt_X12_canBe_8
def zw_X12_canBe_6 : List Nat := [153, 0, 7, 4, 167, 0, 4, 3, 84, 132, 5, 1, 167, 255, 182, 132, 4, 1, 167, 255, 166, 132, 3, 1, 167, 255, 151, 3, 62, 29, 42, 180, 1, 77, 162, 0, 52, 42]
def zt_X12_canBe_6 : List Nat := zw_X12_canBe_6 ++ zt_X12_canBe_7
def zw_X12_canBe_5 : List Nat := [16, 16, 21, 4, 104, 21, 5, 96, 51, 154, 0, 33, 42, 180, 0, 91, 16, 16, 21, 4, 104, 29, 96, 51, 153, 0, 22, 42, 180, 0, 91, 16, 16, 29, 104, 21, 5, 96, 51]
def zt_X12_canBe_5 : List Nat := zw_X12_canBe_5 ++ zt_X12_canBe_6
def zw_X12_canBe_4 : List Nat := [162, 0, 105, 3, 54, 4, 21, 4, 16, 16, 162, 0, 89, 3, 54, 5, 21, 5, 16, 16, 162, 0, 73, 42, 180, 0, 91, 16, 16, 21, 4, 104, 21, 5, 96, 42, 180, 0, 91]
def zt_X12_canBe_4 : List Nat := zw_X12_canBe_4 ++ zt_X12_canBe_5
def zw_X12_canBe_3 : List Nat := [46, 104, 42, 180, 0, 43, 29, 46, 96, 51, 154, 0, 11, 42, 29, 182, 1, 108, 153, 0, 7, 4, 167, 0, 4, 3, 84, 132, 3, 1, 167, 255, 187, 3, 62, 29, 16, 16]
def zt_X12_canBe_3 : List Nat := zw_X12_canBe_3 ++ zt_X12_canBe_4
def zw_X12_canBe_2 : List Nat := [62, 29, 42, 180, 1, 77, 162, 0, 67, 42, 180, 0, 91, 16, 16, 42, 180, 0, 40, 29, 46, 104, 42, 180, 0, 43, 29, 46, 96, 42, 180, 0, 91, 16, 16, 42, 180, 0, 40, 29]
def zt_X12_canBe_2 : List Nat := zw_X12_canBe_2 ++ zt_X12_canBe_3
def zw_X12_canBe_1 : List Nat := [3, 172, 3, 62, 29, 17, 1, 0, 162, 0, 31, 42, 180, 0, 91, 29, 29, 16, 16, 108, 29, 16, 16, 112, 160, 0, 7, 4, 167, 0, 4, 3, 84, 132, 3, 1, 167, 255, 224, 3]
def zt_X12_canBe_1 : List Nat := zw_X12_canBe_1 ++ zt_X12_canBe_2
def zw_X12_canBe_0 : List Nat := [42, 27, 182, 1, 98, 42, 2, 182, 1, 101, 4, 61, 3, 62, 29, 16, 17, 162, 0, 19, 28, 153, 0, 15, 42, 3, 182, 1, 104, 61, 132, 3, 1, 167, 255, 237, 28, 153, 0, 5]
def zt_X12_canBe_0 : List Nat := zw_X12_canBe_0 ++ zt_X12_canBe_1
theorem ze_X12_canBe_0 : (dcn cX12_canBe).drop 0 = zt_X12_canBe_0 := by decide +kernel
theorem ze_X12_canBe_1 : (dcn cX12_canBe).drop 40 = zt_X12_canBe_1 := dw_n (wl := zw_X12_canBe_0) ze_X12_canBe_0 rfl
theorem zb_X12_canBe_0 (j : Nat) {n : Nat} (e : zw_X12_canBe_0[j]? = some n) : dby cX12_canBe (0 + j) n := dw_b (t := zt_X12_canBe_1) ze_X12_canBe_0 j e
theorem dX12_canBe_0 : decode cX12_canBe 0 = .ok (.aload_n 0, 1) := dop_42 (zb_X12_canBe_0 0 rfl)
theorem dX12_canBe_1 : decode cX12_canBe 1 = .ok (.iload_n 1, 1) := dop_27 (zb_X12_canBe_0 1 rfl)
theorem dX12_canBe_2 : decode cX12_canBe 2 = .ok (.invokevirtual 354, 3) := dop_182 (zb_X12_canBe_0 2 rfl) (zb_X12_canBe_0 3 rfl) (zb_X12_canBe_0 4 rfl) rfl
theorem dX12_canBe_5 : decode cX12_canBe 5 = .ok (.aload_n 0, 1) := dop_42 (zb_X12_canBe_0 5 rfl)
theorem dX12_canBe_6 : decode cX12_canBe 6 = .ok (.iconst (-1), 1) := dop_2 (zb_X12_canBe_0 6 rfl)
theorem dX12_canBe_7 : decode cX12_canBe 7 = .ok (.invokevirtual 357, 3) := dop_182 (zb_X12_canBe_0 7 rfl) (zb_X12_canBe_0 8 rfl) (zb_X12_canBe_0 9 rfl) rfl
theorem dX12_canBe_10 : decode cX12_canBe 10 = .ok (.iconst 1, 1) := dop_4 (zb_X12_canBe_0 10 rfl)
theorem dX12_canBe_11 : decode cX12_canBe 11 = .ok (.istore_n 2, 1) := dop_61 (zb_X12_canBe_0 11 rfl)
theorem dX12_canBe_12 : decode cX12_canBe 12 = .ok (.iconst 0, 1) := dop_3 (zb_X12_canBe_0 12 rfl)
theorem dX12_canBe_13 : decode cX12_canBe 13 = .ok (.istore_n 3, 1) := dop_62 (zb_X12_canBe_0 13 rfl)
theorem dX12_canBe_14 : decode cX12_canBe 14 = .ok (.iload_n 3, 1) := dop_29 (zb_X12_canBe_0 14 rfl)
theorem dX12_canBe_15 : decode cX12_canBe 15 = .ok (.bipush 17, 2) := dop_16 (zb_X12_canBe_0 15 rfl) (zb_X12_canBe_0 16 rfl) rfl
theorem dX12_canBe_17 : decode cX12_canBe 17 = .ok (.if_icmp .ge 19, 3) := dop_162 (zb_X12_canBe_0 17 rfl) (zb_X12_canBe_0 18 rfl) (zb_X12_canBe_0 19 rfl) rfl
theorem dX12_canBe_20 : decode cX12_canBe 20 = .ok (.iload_n 2, 1) := dop_28 (zb_X12_canBe_0 20 rfl)
theorem dX12_canBe_21 : decode cX12_canBe 21 = .ok (.ifCond .eq 15, 3) := dop_153 (zb_X12_canBe_0 21 rfl) (zb_X12_canBe_0 22 rfl) (zb_X12_canBe_0 23 rfl) rfl
theorem dX12_canBe_24 : decode cX12_canBe 24 = .ok (.aload_n 0, 1) := dop_42 (zb_X12_canBe_0 24 rfl)
theorem dX12_canBe_25 : decode cX12_canBe 25 = .ok (.iconst 0, 1) := dop_3 (zb_X12_canBe_0 25 rfl)
theorem dX12_canBe_26 : decode cX12_canBe 26 = .ok (.invokevirtual 360, 3) := dop_182 (zb_X12_canBe_0 26 rfl) (zb_X12_canBe_0 27 rfl) (zb_X12_canBe_0 28 rfl) rfl
theorem dX12_canBe_29 : decode cX12_canBe 29 = .ok (.istore_n 2, 1) := dop_61 (zb_X12_canBe_0 29 rfl)
theorem dX12_canBe_30 : decode cX12_canBe 30 = .ok (.iinc 3 1, 3) := dop_132 (zb_X12_canBe_0 30 rfl) (zb_X12_canBe_0 31 rfl) (zb_X12_canBe_0 32 rfl) rfl
theorem dX12_canBe_33 : decode cX12_canBe 33 = .ok (.goto (-19), 3) := dop_167 (zb_X12_canBe_0 33 rfl) (zb_X12_canBe_0 34 rfl) (zb_X12_canBe_0 35 rfl) rfl
theorem dX12_canBe_36 : decode cX12_canBe 36 = .ok (.iload_n 2, 1) := dop_28 (zb_X12_canBe_0 36 rfl)
theorem dX12_canBe_37 : decode cX12_canBe 37 = .ok (.ifCond .eq 5, 3) := dop_153 (zb_X12_canBe_0 37 rfl) (zb_X12_canBe_0 38 rfl) (zb_X12_canBe_0 39 rfl) rfl
theorem ze_X12_canBe_2 : (dcn cX12_canBe).drop 80 = zt_X12_canBe_2 := dw_n (wl := zw_X12_canBe_1) ze_X12_canBe_1 rfl
theorem zb_X12_canBe_1 (j : Nat) {n : Nat} (e : zw_X12_canBe_1[j]? = some n) : dby cX12_canBe (40 + j) n := dw_b (t := zt_X12_canBe_2) ze_X12_canBe_1 j e
theorem dX12_canBe_40 : decode cX12_canBe 40 = .ok (.iconst 0, 1) := dop_3 (zb_X12_canBe_1 0 rfl)
theorem dX12_canBe_41 : decode cX12_canBe 41 = .ok (.ireturn, 1) := dop_172 (zb_X12_canBe_1 1 rfl)
theorem dX12_canBe_42 : decode cX12_canBe 42 = .ok (.iconst 0, 1) := dop_3 (zb_X12_canBe_1 2 rfl)
theorem dX12_canBe_43 : decode cX12_canBe 43 = .ok (.istore_n 3, 1) := dop_62 (zb_X12_canBe_1 3 rfl)
theorem dX12_canBe_44 : decode cX12_canBe 44 = .ok (.iload_n 3, 1) := dop_29 (zb_X12_canBe_1 4 rfl)
theorem dX12_canBe_45 : decode cX12_canBe 45 = .ok (.sipush 256, 3) := dop_17 (zb_X12_canBe_1 5 rfl) (zb_X12_canBe_1 6 rfl) (zb_X12_canBe_1 7 rfl) rfl
theorem dX12_canBe_48 : decode cX12_canBe 48 = .ok (.if_icmp .ge 31, 3) := dop_162 (zb_X12_canBe_1 8 rfl) (zb_X12_canBe_1 9 rfl) (zb_X12_canBe_1 10 rfl) rfl
theorem dX12_canBe_51 : decode cX12_canBe 51 = .ok (.aload_n 0, 1) := dop_42 (zb_X12_canBe_1 11 rfl)
theorem dX12_canBe_52 : decode cX12_canBe 52 = .ok (.getfield 91, 3) := dop_180 (zb_X12_canBe_1 12 rfl) (zb_X12_canBe_1 13 rfl) (zb_X12_canBe_1 14 rfl) rfl
theorem dX12_canBe_55 : decode cX12_canBe 55 = .ok (.iload_n 3, 1) := dop_29 (zb_X12_canBe_1 15 rfl)
theorem dX12_canBe_56 : decode cX12_canBe 56 = .ok (.iload_n 3, 1) := dop_29 (zb_X12_canBe_1 16 rfl)
theorem dX12_canBe_57 : decode cX12_canBe 57 = .ok (.bipush 16, 2) := dop_16 (zb_X12_canBe_1 17 rfl) (zb_X12_canBe_1 18 rfl) rfl
theorem dX12_canBe_59 : decode cX12_canBe 59 = .ok (.idiv, 1) := dop_108 (zb_X12_canBe_1 19 rfl)
theorem dX12_canBe_60 : decode cX12_canBe 60 = .ok (.iload_n 3, 1) := dop_29 (zb_X12_canBe_1 20 rfl)
theorem dX12_canBe_61 : decode cX12_canBe 61 = .ok (.bipush 16, 2) := dop_16 (zb_X12_canBe_1 21 rfl) (zb_X12_canBe_1 22 rfl) rfl
theorem dX12_canBe_63 : decode cX12_canBe 63 = .ok (.irem, 1) := dop_112 (zb_X12_canBe_1 23 rfl)
theorem dX12_canBe_64 : decode cX12_canBe 64 = .ok (.if_icmp .ne 7, 3) := dop_160 (zb_X12_canBe_1 24 rfl) (zb_X12_canBe_1 25 rfl) (zb_X12_canBe_1 26 rfl) rfl
theorem dX12_canBe_67 : decode cX12_canBe 67 = .ok (.iconst 1, 1) := dop_4 (zb_X12_canBe_1 27 rfl)
theorem dX12_canBe_68 : decode cX12_canBe 68 = .ok (.goto 4, 3) := dop_167 (zb_X12_canBe_1 28 rfl) (zb_X12_canBe_1 29 rfl) (zb_X12_canBe_1 30 rfl) rfl
theorem dX12_canBe_71 : decode cX12_canBe 71 = .ok (.iconst 0, 1) := dop_3 (zb_X12_canBe_1 31 rfl)
theorem dX12_canBe_72 : decode cX12_canBe 72 = .ok (.bastore, 1) := dop_84 (zb_X12_canBe_1 32 rfl)
theorem dX12_canBe_73 : decode cX12_canBe 73 = .ok (.iinc 3 1, 3) := dop_132 (zb_X12_canBe_1 33 rfl) (zb_X12_canBe_1 34 rfl) (zb_X12_canBe_1 35 rfl) rfl
theorem dX12_canBe_76 : decode cX12_canBe 76 = .ok (.goto (-32), 3) := dop_167 (zb_X12_canBe_1 36 rfl) (zb_X12_canBe_1 37 rfl) (zb_X12_canBe_1 38 rfl) rfl
theorem dX12_canBe_79 : decode cX12_canBe 79 = .ok (.iconst 0, 1) := dop_3 (zb_X12_canBe_1 39 rfl)
theorem ze_X12_canBe_3 : (dcn cX12_canBe).drop 120 = zt_X12_canBe_3 := dw_n (wl := zw_X12_canBe_2) ze_X12_canBe_2 rfl
theorem zb_X12_canBe_2 (j : Nat) {n : Nat} (e : zw_X12_canBe_2[j]? = some n) : dby cX12_canBe (80 + j) n := dw_b (t := zt_X12_canBe_3) ze_X12_canBe_2 j e
theorem dX12_canBe_80 : decode cX12_canBe 80 = .ok (.istore_n 3, 1) := dop_62 (zb_X12_canBe_2 0 rfl)
theorem dX12_canBe_81 : decode cX12_canBe 81 = .ok (.iload_n 3, 1) := dop_29 (zb_X12_canBe_2 1 rfl)
theorem dX12_canBe_82 : decode cX12_canBe 82 = .ok (.aload_n 0, 1) := dop_42 (zb_X12_canBe_2 2 rfl)
theorem dX12_canBe_83 : decode cX12_canBe 83 = .ok (.getfield 333, 3) := dop_180 (zb_X12_canBe_2 3 rfl) (zb_X12_canBe_2 4 rfl) (zb_X12_canBe_2 5 rfl) rfl
theorem dX12_canBe_86 : decode cX12_canBe 86 = .ok (.if_icmp .ge 67, 3) := dop_162 (zb_X12_canBe_2 6 rfl) (zb_X12_canBe_2 7 rfl) (zb_X12_canBe_2 8 rfl) rfl
theorem dX12_canBe_89 : decode cX12_canBe 89 = .ok (.aload_n 0, 1) := dop_42 (zb_X12_canBe_2 9 rfl)
theorem dX12_canBe_90 : decode cX12_canBe 90 = .ok (.getfield 91, 3) := dop_180 (zb_X12_canBe_2 10 rfl) (zb_X12_canBe_2 11 rfl) (zb_X12_canBe_2 12 rfl) rfl
theorem dX12_canBe_93 : decode cX12_canBe 93 = .ok (.bipush 16, 2) := dop_16 (zb_X12_canBe_2 13 rfl) (zb_X12_canBe_2 14 rfl) rfl
theorem dX12_canBe_95 : decode cX12_canBe 95 = .ok (.aload_n 0, 1) := dop_42 (zb_X12_canBe_2 15 rfl)
theorem dX12_canBe_96 : decode cX12_canBe 96 = .ok (.getfield 40, 3) := dop_180 (zb_X12_canBe_2 16 rfl) (zb_X12_canBe_2 17 rfl) (zb_X12_canBe_2 18 rfl) rfl
theorem dX12_canBe_99 : decode cX12_canBe 99 = .ok (.iload_n 3, 1) := dop_29 (zb_X12_canBe_2 19 rfl)
theorem dX12_canBe_100 : decode cX12_canBe 100 = .ok (.iaload, 1) := dop_46 (zb_X12_canBe_2 20 rfl)
theorem dX12_canBe_101 : decode cX12_canBe 101 = .ok (.imul, 1) := dop_104 (zb_X12_canBe_2 21 rfl)
theorem dX12_canBe_102 : decode cX12_canBe 102 = .ok (.aload_n 0, 1) := dop_42 (zb_X12_canBe_2 22 rfl)
theorem dX12_canBe_103 : decode cX12_canBe 103 = .ok (.getfield 43, 3) := dop_180 (zb_X12_canBe_2 23 rfl) (zb_X12_canBe_2 24 rfl) (zb_X12_canBe_2 25 rfl) rfl
theorem dX12_canBe_106 : decode cX12_canBe 106 = .ok (.iload_n 3, 1) := dop_29 (zb_X12_canBe_2 26 rfl)
theorem dX12_canBe_107 : decode cX12_canBe 107 = .ok (.iaload, 1) := dop_46 (zb_X12_canBe_2 27 rfl)
theorem dX12_canBe_108 : decode cX12_canBe 108 = .ok (.iadd, 1) := dop_96 (zb_X12_canBe_2 28 rfl)
theorem dX12_canBe_109 : decode cX12_canBe 109 = .ok (.aload_n 0, 1) := dop_42 (zb_X12_canBe_2 29 rfl)
theorem dX12_canBe_110 : decode cX12_canBe 110 = .ok (.getfield 91, 3) := dop_180 (zb_X12_canBe_2 30 rfl) (zb_X12_canBe_2 31 rfl) (zb_X12_canBe_2 32 rfl) rfl
theorem dX12_canBe_113 : decode cX12_canBe 113 = .ok (.bipush 16, 2) := dop_16 (zb_X12_canBe_2 33 rfl) (zb_X12_canBe_2 34 rfl) rfl
theorem dX12_canBe_115 : decode cX12_canBe 115 = .ok (.aload_n 0, 1) := dop_42 (zb_X12_canBe_2 35 rfl)
theorem dX12_canBe_116 : decode cX12_canBe 116 = .ok (.getfield 40, 3) := dop_180 (zb_X12_canBe_2 36 rfl) (zb_X12_canBe_2 37 rfl) (zb_X12_canBe_2 38 rfl) rfl
theorem dX12_canBe_119 : decode cX12_canBe 119 = .ok (.iload_n 3, 1) := dop_29 (zb_X12_canBe_2 39 rfl)
theorem ze_X12_canBe_4 : (dcn cX12_canBe).drop 158 = zt_X12_canBe_4 := dw_n (wl := zw_X12_canBe_3) ze_X12_canBe_3 rfl
theorem zb_X12_canBe_3 (j : Nat) {n : Nat} (e : zw_X12_canBe_3[j]? = some n) : dby cX12_canBe (120 + j) n := dw_b (t := zt_X12_canBe_4) ze_X12_canBe_3 j e
theorem dX12_canBe_120 : decode cX12_canBe 120 = .ok (.iaload, 1) := dop_46 (zb_X12_canBe_3 0 rfl)
theorem dX12_canBe_121 : decode cX12_canBe 121 = .ok (.imul, 1) := dop_104 (zb_X12_canBe_3 1 rfl)
theorem dX12_canBe_122 : decode cX12_canBe 122 = .ok (.aload_n 0, 1) := dop_42 (zb_X12_canBe_3 2 rfl)
theorem dX12_canBe_123 : decode cX12_canBe 123 = .ok (.getfield 43, 3) := dop_180 (zb_X12_canBe_3 3 rfl) (zb_X12_canBe_3 4 rfl) (zb_X12_canBe_3 5 rfl) rfl
theorem dX12_canBe_126 : decode cX12_canBe 126 = .ok (.iload_n 3, 1) := dop_29 (zb_X12_canBe_3 6 rfl)
theorem dX12_canBe_127 : decode cX12_canBe 127 = .ok (.iaload, 1) := dop_46 (zb_X12_canBe_3 7 rfl)
theorem dX12_canBe_128 : decode cX12_canBe 128 = .ok (.iadd, 1) := dop_96 (zb_X12_canBe_3 8 rfl)
theorem dX12_canBe_129 : decode cX12_canBe 129 = .ok (.baload, 1) := dop_51 (zb_X12_canBe_3 9 rfl)
theorem dX12_canBe_130 : decode cX12_canBe 130 = .ok (.ifCond .ne 11, 3) := dop_154 (zb_X12_canBe_3 10 rfl) (zb_X12_canBe_3 11 rfl) (zb_X12_canBe_3 12 rfl) rfl
theorem dX12_canBe_133 : decode cX12_canBe 133 = .ok (.aload_n 0, 1) := dop_42 (zb_X12_canBe_3 13 rfl)
theorem dX12_canBe_134 : decode cX12_canBe 134 = .ok (.iload_n 3, 1) := dop_29 (zb_X12_canBe_3 14 rfl)
theorem dX12_canBe_135 : decode cX12_canBe 135 = .ok (.invokevirtual 364, 3) := dop_182 (zb_X12_canBe_3 15 rfl) (zb_X12_canBe_3 16 rfl) (zb_X12_canBe_3 17 rfl) rfl
theorem dX12_canBe_138 : decode cX12_canBe 138 = .ok (.ifCond .eq 7, 3) := dop_153 (zb_X12_canBe_3 18 rfl) (zb_X12_canBe_3 19 rfl) (zb_X12_canBe_3 20 rfl) rfl
theorem dX12_canBe_141 : decode cX12_canBe 141 = .ok (.iconst 1, 1) := dop_4 (zb_X12_canBe_3 21 rfl)
theorem dX12_canBe_142 : decode cX12_canBe 142 = .ok (.goto 4, 3) := dop_167 (zb_X12_canBe_3 22 rfl) (zb_X12_canBe_3 23 rfl) (zb_X12_canBe_3 24 rfl) rfl
theorem dX12_canBe_145 : decode cX12_canBe 145 = .ok (.iconst 0, 1) := dop_3 (zb_X12_canBe_3 25 rfl)
theorem dX12_canBe_146 : decode cX12_canBe 146 = .ok (.bastore, 1) := dop_84 (zb_X12_canBe_3 26 rfl)
theorem dX12_canBe_147 : decode cX12_canBe 147 = .ok (.iinc 3 1, 3) := dop_132 (zb_X12_canBe_3 27 rfl) (zb_X12_canBe_3 28 rfl) (zb_X12_canBe_3 29 rfl) rfl
theorem dX12_canBe_150 : decode cX12_canBe 150 = .ok (.goto (-69), 3) := dop_167 (zb_X12_canBe_3 30 rfl) (zb_X12_canBe_3 31 rfl) (zb_X12_canBe_3 32 rfl) rfl
theorem dX12_canBe_153 : decode cX12_canBe 153 = .ok (.iconst 0, 1) := dop_3 (zb_X12_canBe_3 33 rfl)
theorem dX12_canBe_154 : decode cX12_canBe 154 = .ok (.istore_n 3, 1) := dop_62 (zb_X12_canBe_3 34 rfl)
theorem dX12_canBe_155 : decode cX12_canBe 155 = .ok (.iload_n 3, 1) := dop_29 (zb_X12_canBe_3 35 rfl)
theorem dX12_canBe_156 : decode cX12_canBe 156 = .ok (.bipush 16, 2) := dop_16 (zb_X12_canBe_3 36 rfl) (zb_X12_canBe_3 37 rfl) rfl
theorem ze_X12_canBe_5 : (dcn cX12_canBe).drop 197 = zt_X12_canBe_5 := dw_n (wl := zw_X12_canBe_4) ze_X12_canBe_4 rfl
theorem zb_X12_canBe_4 (j : Nat) {n : Nat} (e : zw_X12_canBe_4[j]? = some n) : dby cX12_canBe (158 + j) n := dw_b (t := zt_X12_canBe_5) ze_X12_canBe_4 j e
theorem dX12_canBe_158 : decode cX12_canBe 158 = .ok (.if_icmp .ge 105, 3) := dop_162 (zb_X12_canBe_4 0 rfl) (zb_X12_canBe_4 1 rfl) (zb_X12_canBe_4 2 rfl) rfl
theorem dX12_canBe_161 : decode cX12_canBe 161 = .ok (.iconst 0, 1) := dop_3 (zb_X12_canBe_4 3 rfl)
theorem dX12_canBe_162 : decode cX12_canBe 162 = .ok (.istore 4, 2) := dop_54 (zb_X12_canBe_4 4 rfl) (zb_X12_canBe_4 5 rfl)
theorem dX12_canBe_164 : decode cX12_canBe 164 = .ok (.iload 4, 2) := dop_21 (zb_X12_canBe_4 6 rfl) (zb_X12_canBe_4 7 rfl)
theorem dX12_canBe_166 : decode cX12_canBe 166 = .ok (.bipush 16, 2) := dop_16 (zb_X12_canBe_4 8 rfl) (zb_X12_canBe_4 9 rfl) rfl
theorem dX12_canBe_168 : decode cX12_canBe 168 = .ok (.if_icmp .ge 89, 3) := dop_162 (zb_X12_canBe_4 10 rfl) (zb_X12_canBe_4 11 rfl) (zb_X12_canBe_4 12 rfl) rfl
theorem dX12_canBe_171 : decode cX12_canBe 171 = .ok (.iconst 0, 1) := dop_3 (zb_X12_canBe_4 13 rfl)
theorem dX12_canBe_172 : decode cX12_canBe 172 = .ok (.istore 5, 2) := dop_54 (zb_X12_canBe_4 14 rfl) (zb_X12_canBe_4 15 rfl)
theorem dX12_canBe_174 : decode cX12_canBe 174 = .ok (.iload 5, 2) := dop_21 (zb_X12_canBe_4 16 rfl) (zb_X12_canBe_4 17 rfl)
theorem dX12_canBe_176 : decode cX12_canBe 176 = .ok (.bipush 16, 2) := dop_16 (zb_X12_canBe_4 18 rfl) (zb_X12_canBe_4 19 rfl) rfl
theorem dX12_canBe_178 : decode cX12_canBe 178 = .ok (.if_icmp .ge 73, 3) := dop_162 (zb_X12_canBe_4 20 rfl) (zb_X12_canBe_4 21 rfl) (zb_X12_canBe_4 22 rfl) rfl
theorem dX12_canBe_181 : decode cX12_canBe 181 = .ok (.aload_n 0, 1) := dop_42 (zb_X12_canBe_4 23 rfl)
theorem dX12_canBe_182 : decode cX12_canBe 182 = .ok (.getfield 91, 3) := dop_180 (zb_X12_canBe_4 24 rfl) (zb_X12_canBe_4 25 rfl) (zb_X12_canBe_4 26 rfl) rfl
theorem dX12_canBe_185 : decode cX12_canBe 185 = .ok (.bipush 16, 2) := dop_16 (zb_X12_canBe_4 27 rfl) (zb_X12_canBe_4 28 rfl) rfl
theorem dX12_canBe_187 : decode cX12_canBe 187 = .ok (.iload 4, 2) := dop_21 (zb_X12_canBe_4 29 rfl) (zb_X12_canBe_4 30 rfl)
theorem dX12_canBe_189 : decode cX12_canBe 189 = .ok (.imul, 1) := dop_104 (zb_X12_canBe_4 31 rfl)
theorem dX12_canBe_190 : decode cX12_canBe 190 = .ok (.iload 5, 2) := dop_21 (zb_X12_canBe_4 32 rfl) (zb_X12_canBe_4 33 rfl)
theorem dX12_canBe_192 : decode cX12_canBe 192 = .ok (.iadd, 1) := dop_96 (zb_X12_canBe_4 34 rfl)
theorem dX12_canBe_193 : decode cX12_canBe 193 = .ok (.aload_n 0, 1) := dop_42 (zb_X12_canBe_4 35 rfl)
theorem dX12_canBe_194 : decode cX12_canBe 194 = .ok (.getfield 91, 3) := dop_180 (zb_X12_canBe_4 36 rfl) (zb_X12_canBe_4 37 rfl) (zb_X12_canBe_4 38 rfl) rfl
theorem ze_X12_canBe_6 : (dcn cX12_canBe).drop 236 = zt_X12_canBe_6 := dw_n (wl := zw_X12_canBe_5) ze_X12_canBe_5 rfl
theorem zb_X12_canBe_5 (j : Nat) {n : Nat} (e : zw_X12_canBe_5[j]? = some n) : dby cX12_canBe (197 + j) n := dw_b (t := zt_X12_canBe_6) ze_X12_canBe_5 j e
theorem dX12_canBe_197 : decode cX12_canBe 197 = .ok (.bipush 16, 2) := dop_16 (zb_X12_canBe_5 0 rfl) (zb_X12_canBe_5 1 rfl) rfl
theorem dX12_canBe_199 : decode cX12_canBe 199 = .ok (.iload 4, 2) := dop_21 (zb_X12_canBe_5 2 rfl) (zb_X12_canBe_5 3 rfl)
theorem dX12_canBe_201 : decode cX12_canBe 201 = .ok (.imul, 1) := dop_104 (zb_X12_canBe_5 4 rfl)
theorem dX12_canBe_202 : decode cX12_canBe 202 = .ok (.iload 5, 2) := dop_21 (zb_X12_canBe_5 5 rfl) (zb_X12_canBe_5 6 rfl)
theorem dX12_canBe_204 : decode cX12_canBe 204 = .ok (.iadd, 1) := dop_96 (zb_X12_canBe_5 7 rfl)
theorem dX12_canBe_205 : decode cX12_canBe 205 = .ok (.baload, 1) := dop_51 (zb_X12_canBe_5 8 rfl)
theorem dX12_canBe_206 : decode cX12_canBe 206 = .ok (.ifCond .ne 33, 3) := dop_154 (zb_X12_canBe_5 9 rfl) (zb_X12_canBe_5 10 rfl) (zb_X12_canBe_5 11 rfl) rfl
theorem dX12_canBe_209 : decode cX12_canBe 209 = .ok (.aload_n 0, 1) := dop_42 (zb_X12_canBe_5 12 rfl)
theorem dX12_canBe_210 : decode cX12_canBe 210 = .ok (.getfield 91, 3) := dop_180 (zb_X12_canBe_5 13 rfl) (zb_X12_canBe_5 14 rfl) (zb_X12_canBe_5 15 rfl) rfl
theorem dX12_canBe_213 : decode cX12_canBe 213 = .ok (.bipush 16, 2) := dop_16 (zb_X12_canBe_5 16 rfl) (zb_X12_canBe_5 17 rfl) rfl
theorem dX12_canBe_215 : decode cX12_canBe 215 = .ok (.iload 4, 2) := dop_21 (zb_X12_canBe_5 18 rfl) (zb_X12_canBe_5 19 rfl)
theorem dX12_canBe_217 : decode cX12_canBe 217 = .ok (.imul, 1) := dop_104 (zb_X12_canBe_5 20 rfl)
theorem dX12_canBe_218 : decode cX12_canBe 218 = .ok (.iload_n 3, 1) := dop_29 (zb_X12_canBe_5 21 rfl)
theorem dX12_canBe_219 : decode cX12_canBe 219 = .ok (.iadd, 1) := dop_96 (zb_X12_canBe_5 22 rfl)
theorem dX12_canBe_220 : decode cX12_canBe 220 = .ok (.baload, 1) := dop_51 (zb_X12_canBe_5 23 rfl)
theorem dX12_canBe_221 : decode cX12_canBe 221 = .ok (.ifCond .eq 22, 3) := dop_153 (zb_X12_canBe_5 24 rfl) (zb_X12_canBe_5 25 rfl) (zb_X12_canBe_5 26 rfl) rfl
theorem dX12_canBe_224 : decode cX12_canBe 224 = .ok (.aload_n 0, 1) := dop_42 (zb_X12_canBe_5 27 rfl)
theorem dX12_canBe_225 : decode cX12_canBe 225 = .ok (.getfield 91, 3) := dop_180 (zb_X12_canBe_5 28 rfl) (zb_X12_canBe_5 29 rfl) (zb_X12_canBe_5 30 rfl) rfl
theorem dX12_canBe_228 : decode cX12_canBe 228 = .ok (.bipush 16, 2) := dop_16 (zb_X12_canBe_5 31 rfl) (zb_X12_canBe_5 32 rfl) rfl
theorem dX12_canBe_230 : decode cX12_canBe 230 = .ok (.iload_n 3, 1) := dop_29 (zb_X12_canBe_5 33 rfl)
theorem dX12_canBe_231 : decode cX12_canBe 231 = .ok (.imul, 1) := dop_104 (zb_X12_canBe_5 34 rfl)
theorem dX12_canBe_232 : decode cX12_canBe 232 = .ok (.iload 5, 2) := dop_21 (zb_X12_canBe_5 35 rfl) (zb_X12_canBe_5 36 rfl)
theorem dX12_canBe_234 : decode cX12_canBe 234 = .ok (.iadd, 1) := dop_96 (zb_X12_canBe_5 37 rfl)
theorem dX12_canBe_235 : decode cX12_canBe 235 = .ok (.baload, 1) := dop_51 (zb_X12_canBe_5 38 rfl)
theorem ze_X12_canBe_7 : (dcn cX12_canBe).drop 274 = zt_X12_canBe_7 := dw_n (wl := zw_X12_canBe_6) ze_X12_canBe_6 rfl
theorem zb_X12_canBe_6 (j : Nat) {n : Nat} (e : zw_X12_canBe_6[j]? = some n) : dby cX12_canBe (236 + j) n := dw_b (t := zt_X12_canBe_7) ze_X12_canBe_6 j e
theorem dX12_canBe_236 : decode cX12_canBe 236 = .ok (.ifCond .eq 7, 3) := dop_153 (zb_X12_canBe_6 0 rfl) (zb_X12_canBe_6 1 rfl) (zb_X12_canBe_6 2 rfl) rfl
theorem dX12_canBe_239 : decode cX12_canBe 239 = .ok (.iconst 1, 1) := dop_4 (zb_X12_canBe_6 3 rfl)
theorem dX12_canBe_240 : decode cX12_canBe 240 = .ok (.goto 4, 3) := dop_167 (zb_X12_canBe_6 4 rfl) (zb_X12_canBe_6 5 rfl) (zb_X12_canBe_6 6 rfl) rfl
theorem dX12_canBe_243 : decode cX12_canBe 243 = .ok (.iconst 0, 1) := dop_3 (zb_X12_canBe_6 7 rfl)
theorem dX12_canBe_244 : decode cX12_canBe 244 = .ok (.bastore, 1) := dop_84 (zb_X12_canBe_6 8 rfl)
theorem dX12_canBe_245 : decode cX12_canBe 245 = .ok (.iinc 5 1, 3) := dop_132 (zb_X12_canBe_6 9 rfl) (zb_X12_canBe_6 10 rfl) (zb_X12_canBe_6 11 rfl) rfl
theorem dX12_canBe_248 : decode cX12_canBe 248 = .ok (.goto (-74), 3) := dop_167 (zb_X12_canBe_6 12 rfl) (zb_X12_canBe_6 13 rfl) (zb_X12_canBe_6 14 rfl) rfl
theorem dX12_canBe_251 : decode cX12_canBe 251 = .ok (.iinc 4 1, 3) := dop_132 (zb_X12_canBe_6 15 rfl) (zb_X12_canBe_6 16 rfl) (zb_X12_canBe_6 17 rfl) rfl
theorem dX12_canBe_254 : decode cX12_canBe 254 = .ok (.goto (-90), 3) := dop_167 (zb_X12_canBe_6 18 rfl) (zb_X12_canBe_6 19 rfl) (zb_X12_canBe_6 20 rfl) rfl
theorem dX12_canBe_257 : decode cX12_canBe 257 = .ok (.iinc 3 1, 3) := dop_132 (zb_X12_canBe_6 21 rfl) (zb_X12_canBe_6 22 rfl) (zb_X12_canBe_6 23 rfl) rfl
theorem dX12_canBe_260 : decode cX12_canBe 260 = .ok (.goto (-105), 3) := dop_167 (zb_X12_canBe_6 24 rfl) (zb_X12_canBe_6 25 rfl) (zb_X12_canBe_6 26 rfl) rfl
theorem dX12_canBe_263 : decode cX12_canBe 263 = .ok (.iconst 0, 1) := dop_3 (zb_X12_canBe_6 27 rfl)
theorem dX12_canBe_264 : decode cX12_canBe 264 = .ok (.istore_n 3, 1) := dop_62 (zb_X12_canBe_6 28 rfl)
theorem dX12_canBe_265 : decode cX12_canBe 265 = .ok (.iload_n 3, 1) := dop_29 (zb_X12_canBe_6 29 rfl)
theorem dX12_canBe_266 : decode cX12_canBe 266 = .ok (.aload_n 0, 1) := dop_42 (zb_X12_canBe_6 30 rfl)
theorem dX12_canBe_267 : decode cX12_canBe 267 = .ok (.getfield 333, 3) := dop_180 (zb_X12_canBe_6 31 rfl) (zb_X12_canBe_6 32 rfl) (zb_X12_canBe_6 33 rfl) rfl
theorem dX12_canBe_270 : decode cX12_canBe 270 = .ok (.if_icmp .ge 52, 3) := dop_162 (zb_X12_canBe_6 34 rfl) (zb_X12_canBe_6 35 rfl) (zb_X12_canBe_6 36 rfl) rfl
theorem dX12_canBe_273 : decode cX12_canBe 273 = .ok (.aload_n 0, 1) := dop_42 (zb_X12_canBe_6 37 rfl)
theorem ze_X12_canBe_8 : (dcn cX12_canBe).drop 314 = zt_X12_canBe_8 := dw_n (wl := zw_X12_canBe_7) ze_X12_canBe_7 rfl
theorem zb_X12_canBe_7 (j : Nat) {n : Nat} (e : zw_X12_canBe_7[j]? = some n) : dby cX12_canBe (274 + j) n := dw_b (t := zt_X12_canBe_8) ze_X12_canBe_7 j e
theorem dX12_canBe_274 : decode cX12_canBe 274 = .ok (.getfield 52, 3) := dop_180 (zb_X12_canBe_7 0 rfl) (zb_X12_canBe_7 1 rfl) (zb_X12_canBe_7 2 rfl) rfl
theorem dX12_canBe_277 : decode cX12_canBe 277 = .ok (.iload_n 3, 1) := dop_29 (zb_X12_canBe_7 3 rfl)
theorem dX12_canBe_278 : decode cX12_canBe 278 = .ok (.baload, 1) := dop_51 (zb_X12_canBe_7 4 rfl)
theorem dX12_canBe_279 : decode cX12_canBe 279 = .ok (.ifCond .eq 37, 3) := dop_153 (zb_X12_canBe_7 5 rfl) (zb_X12_canBe_7 6 rfl) (zb_X12_canBe_7 7 rfl) rfl
theorem dX12_canBe_282 : decode cX12_canBe 282 = .ok (.aload_n 0, 1) := dop_42 (zb_X12_canBe_7 8 rfl)
theorem dX12_canBe_283 : decode cX12_canBe 283 = .ok (.iload_n 3, 1) := dop_29 (zb_X12_canBe_7 9 rfl)
theorem dX12_canBe_284 : decode cX12_canBe 284 = .ok (.invokevirtual 364, 3) := dop_182 (zb_X12_canBe_7 10 rfl) (zb_X12_canBe_7 11 rfl) (zb_X12_canBe_7 12 rfl) rfl
theorem dX12_canBe_287 : decode cX12_canBe 287 = .ok (.ifCond .eq 29, 3) := dop_153 (zb_X12_canBe_7 13 rfl) (zb_X12_canBe_7 14 rfl) (zb_X12_canBe_7 15 rfl) rfl
theorem dX12_canBe_290 : decode cX12_canBe 290 = .ok (.aload_n 0, 1) := dop_42 (zb_X12_canBe_7 16 rfl)
theorem dX12_canBe_291 : decode cX12_canBe 291 = .ok (.getfield 91, 3) := dop_180 (zb_X12_canBe_7 17 rfl) (zb_X12_canBe_7 18 rfl) (zb_X12_canBe_7 19 rfl) rfl
theorem dX12_canBe_294 : decode cX12_canBe 294 = .ok (.bipush 16, 2) := dop_16 (zb_X12_canBe_7 20 rfl) (zb_X12_canBe_7 21 rfl) rfl
theorem dX12_canBe_296 : decode cX12_canBe 296 = .ok (.aload_n 0, 1) := dop_42 (zb_X12_canBe_7 22 rfl)
theorem dX12_canBe_297 : decode cX12_canBe 297 = .ok (.getfield 43, 3) := dop_180 (zb_X12_canBe_7 23 rfl) (zb_X12_canBe_7 24 rfl) (zb_X12_canBe_7 25 rfl) rfl
theorem dX12_canBe_300 : decode cX12_canBe 300 = .ok (.iload_n 3, 1) := dop_29 (zb_X12_canBe_7 26 rfl)
theorem dX12_canBe_301 : decode cX12_canBe 301 = .ok (.iaload, 1) := dop_46 (zb_X12_canBe_7 27 rfl)
theorem dX12_canBe_302 : decode cX12_canBe 302 = .ok (.imul, 1) := dop_104 (zb_X12_canBe_7 28 rfl)
theorem dX12_canBe_303 : decode cX12_canBe 303 = .ok (.aload_n 0, 1) := dop_42 (zb_X12_canBe_7 29 rfl)
theorem dX12_canBe_304 : decode cX12_canBe 304 = .ok (.getfield 40, 3) := dop_180 (zb_X12_canBe_7 30 rfl) (zb_X12_canBe_7 31 rfl) (zb_X12_canBe_7 32 rfl) rfl
theorem dX12_canBe_307 : decode cX12_canBe 307 = .ok (.iload_n 3, 1) := dop_29 (zb_X12_canBe_7 33 rfl)
theorem dX12_canBe_308 : decode cX12_canBe 308 = .ok (.iaload, 1) := dop_46 (zb_X12_canBe_7 34 rfl)
theorem dX12_canBe_309 : decode cX12_canBe 309 = .ok (.iadd, 1) := dop_96 (zb_X12_canBe_7 35 rfl)
theorem dX12_canBe_310 : decode cX12_canBe 310 = .ok (.baload, 1) := dop_51 (zb_X12_canBe_7 36 rfl)
theorem dX12_canBe_311 : decode cX12_canBe 311 = .ok (.ifCond .eq 5, 3) := dop_153 (zb_X12_canBe_7 37 rfl) (zb_X12_canBe_7 38 rfl) (zb_X12_canBe_7 39 rfl) rfl
theorem zb_X12_canBe_8 (j : Nat) {n : Nat} (e : zw_X12_canBe_8[j]? = some n) : dby cX12_canBe (314 + j) n := dw_b (t := []) ze_X12_canBe_8 j e
theorem dX12_canBe_314 : decode cX12_canBe 314 = .ok (.iconst 0, 1) := dop_3 (zb_X12_canBe_8 0 rfl)
theorem dX12_canBe_315 : decode cX12_canBe 315 = .ok (.ireturn, 1) := dop_172 (zb_X12_canBe_8 1 rfl)
theorem dX12_canBe_316 : decode cX12_canBe 316 = .ok (.iinc 3 1, 3) := dop_132 (zb_X12_canBe_8 2 rfl) (zb_X12_canBe_8 3 rfl) (zb_X12_canBe_8 4 rfl) rfl
theorem dX12_canBe_319 : decode cX12_canBe 319 = .ok (.goto (-54), 3) := dop_167 (zb_X12_canBe_8 5 rfl) (zb_X12_canBe_8 6 rfl) (zb_X12_canBe_8 7 rfl) rfl
theorem dX12_canBe_322 : decode cX12_canBe 322 = .ok (.iconst 1, 1) := dop_4 (zb_X12_canBe_8 8 rfl)
theorem dX12_canBe_323 : decode cX12_canBe 323 = .ok (.ireturn, 1) := dop_172 (zb_X12_canBe_8 9 rfl)
def zw_X12_isTight_2 : List Nat := [182, 1, 94, 154, 0, 7, 4, 167, 0, 4, 3, 172]
def zt_X12_isTight_2 : List Nat := zw_X12_isTight_2 ++ []
def zw_X12_isTight_1 : List Nat := [27, 46, 104, 42, 180, 0, 49, 27, 46, 184, 1, 90, 42, 42, 180, 0, 85, 42, 180, 0, 88, 3, 42, 180, 0, 61, 42, 180, 0, 64, 8, 42, 180, 0, 43, 27, 46, 104]
def zt_X12_isTight_1 : List Nat := zw_X12_isTight_1 ++ zt_X12_isTight_2
def zw_X12_isTight_0 : List Nat := [42, 180, 0, 85, 3, 42, 180, 0, 61, 8, 42, 180, 0, 40, 27, 46, 104, 42, 180, 0, 46, 27, 46, 184, 1, 90, 42, 180, 0, 88, 3, 42, 180, 0, 64, 8, 42, 180, 0, 40]
def zt_X12_isTight_0 : List Nat := zw_X12_isTight_0 ++ zt_X12_isTight_1
theorem ze_X12_isTight_0 : (dcn cX12_isTight).drop 0 = zt_X12_isTight_0 := by decide +kernel
theorem ze_X12_isTight_1 : (dcn cX12_isTight).drop 40 = zt_X12_isTight_1 := dw_n (wl := zw_X12_isTight_0) ze_X12_isTight_0 rfl
theorem zb_X12_isTight_0 (j : Nat) {n : Nat} (e : zw_X12_isTight_0[j]? = some n) : dby cX12_isTight (0 + j) n := dw_b (t := zt_X12_isTight_1) ze_X12_isTight_0 j e
theorem dX12_isTight_0 : decode cX12_isTight 0 = .ok (.aload_n 0, 1) := dop_42 (zb_X12_isTight_0 0 rfl)
theorem dX12_isTight_1 : decode cX12_isTight 1 = .ok (.getfield 85, 3) := dop_180 (zb_X12_isTight_0 1 rfl) (zb_X12_isTight_0 2 rfl) (zb_X12_isTight_0 3 rfl) rfl
theorem dX12_isTight_4 : decode cX12_isTight 4 = .ok (.iconst 0, 1) := dop_3 (zb_X12_isTight_0 4 rfl)
theorem dX12_isTight_5 : decode cX12_isTight 5 = .ok (.aload_n 0, 1) := dop_42 (zb_X12_isTight_0 5 rfl)
theorem dX12_isTight_6 : decode cX12_isTight 6 = .ok (.getfield 61, 3) := dop_180 (zb_X12_isTight_0 6 rfl) (zb_X12_isTight_0 7 rfl) (zb_X12_isTight_0 8 rfl) rfl
theorem dX12_isTight_9 : decode cX12_isTight 9 = .ok (.iconst 5, 1) := dop_8 (zb_X12_isTight_0 9 rfl)
theorem dX12_isTight_10 : decode cX12_isTight 10 = .ok (.aload_n 0, 1) := dop_42 (zb_X12_isTight_0 10 rfl)
theorem dX12_isTight_11 : decode cX12_isTight 11 = .ok (.getfield 40, 3) := dop_180 (zb_X12_isTight_0 11 rfl) (zb_X12_isTight_0 12 rfl) (zb_X12_isTight_0 13 rfl) rfl
theorem dX12_isTight_14 : decode cX12_isTight 14 = .ok (.iload_n 1, 1) := dop_27 (zb_X12_isTight_0 14 rfl)
theorem dX12_isTight_15 : decode cX12_isTight 15 = .ok (.iaload, 1) := dop_46 (zb_X12_isTight_0 15 rfl)
theorem dX12_isTight_16 : decode cX12_isTight 16 = .ok (.imul, 1) := dop_104 (zb_X12_isTight_0 16 rfl)
theorem dX12_isTight_17 : decode cX12_isTight 17 = .ok (.aload_n 0, 1) := dop_42 (zb_X12_isTight_0 17 rfl)
theorem dX12_isTight_18 : decode cX12_isTight 18 = .ok (.getfield 46, 3) := dop_180 (zb_X12_isTight_0 18 rfl) (zb_X12_isTight_0 19 rfl) (zb_X12_isTight_0 20 rfl) rfl
theorem dX12_isTight_21 : decode cX12_isTight 21 = .ok (.iload_n 1, 1) := dop_27 (zb_X12_isTight_0 21 rfl)
theorem dX12_isTight_22 : decode cX12_isTight 22 = .ok (.iaload, 1) := dop_46 (zb_X12_isTight_0 22 rfl)
theorem dX12_isTight_23 : decode cX12_isTight 23 = .ok (.invokestatic 346, 3) := dop_184 (zb_X12_isTight_0 23 rfl) (zb_X12_isTight_0 24 rfl) (zb_X12_isTight_0 25 rfl) rfl
theorem dX12_isTight_26 : decode cX12_isTight 26 = .ok (.aload_n 0, 1) := dop_42 (zb_X12_isTight_0 26 rfl)
theorem dX12_isTight_27 : decode cX12_isTight 27 = .ok (.getfield 88, 3) := dop_180 (zb_X12_isTight_0 27 rfl) (zb_X12_isTight_0 28 rfl) (zb_X12_isTight_0 29 rfl) rfl
theorem dX12_isTight_30 : decode cX12_isTight 30 = .ok (.iconst 0, 1) := dop_3 (zb_X12_isTight_0 30 rfl)
theorem dX12_isTight_31 : decode cX12_isTight 31 = .ok (.aload_n 0, 1) := dop_42 (zb_X12_isTight_0 31 rfl)
theorem dX12_isTight_32 : decode cX12_isTight 32 = .ok (.getfield 64, 3) := dop_180 (zb_X12_isTight_0 32 rfl) (zb_X12_isTight_0 33 rfl) (zb_X12_isTight_0 34 rfl) rfl
theorem dX12_isTight_35 : decode cX12_isTight 35 = .ok (.iconst 5, 1) := dop_8 (zb_X12_isTight_0 35 rfl)
theorem dX12_isTight_36 : decode cX12_isTight 36 = .ok (.aload_n 0, 1) := dop_42 (zb_X12_isTight_0 36 rfl)
theorem dX12_isTight_37 : decode cX12_isTight 37 = .ok (.getfield 40, 3) := dop_180 (zb_X12_isTight_0 37 rfl) (zb_X12_isTight_0 38 rfl) (zb_X12_isTight_0 39 rfl) rfl
theorem ze_X12_isTight_2 : (dcn cX12_isTight).drop 78 = zt_X12_isTight_2 := dw_n (wl := zw_X12_isTight_1) ze_X12_isTight_1 rfl
theorem zb_X12_isTight_1 (j : Nat) {n : Nat} (e : zw_X12_isTight_1[j]? = some n) : dby cX12_isTight (40 + j) n := dw_b (t := zt_X12_isTight_2) ze_X12_isTight_1 j e
theorem dX12_isTight_40 : decode cX12_isTight 40 = .ok (.iload_n 1, 1) := dop_27 (zb_X12_isTight_1 0 rfl)
theorem dX12_isTight_41 : decode cX12_isTight 41 = .ok (.iaload, 1) := dop_46 (zb_X12_isTight_1 1 rfl)
theorem dX12_isTight_42 : decode cX12_isTight 42 = .ok (.imul, 1) := dop_104 (zb_X12_isTight_1 2 rfl)
theorem dX12_isTight_43 : decode cX12_isTight 43 = .ok (.aload_n 0, 1) := dop_42 (zb_X12_isTight_1 3 rfl)
theorem dX12_isTight_44 : decode cX12_isTight 44 = .ok (.getfield 49, 3) := dop_180 (zb_X12_isTight_1 4 rfl) (zb_X12_isTight_1 5 rfl) (zb_X12_isTight_1 6 rfl) rfl
theorem dX12_isTight_47 : decode cX12_isTight 47 = .ok (.iload_n 1, 1) := dop_27 (zb_X12_isTight_1 7 rfl)
theorem dX12_isTight_48 : decode cX12_isTight 48 = .ok (.iaload, 1) := dop_46 (zb_X12_isTight_1 8 rfl)
theorem dX12_isTight_49 : decode cX12_isTight 49 = .ok (.invokestatic 346, 3) := dop_184 (zb_X12_isTight_1 9 rfl) (zb_X12_isTight_1 10 rfl) (zb_X12_isTight_1 11 rfl) rfl
theorem dX12_isTight_52 : decode cX12_isTight 52 = .ok (.aload_n 0, 1) := dop_42 (zb_X12_isTight_1 12 rfl)
theorem dX12_isTight_53 : decode cX12_isTight 53 = .ok (.aload_n 0, 1) := dop_42 (zb_X12_isTight_1 13 rfl)
theorem dX12_isTight_54 : decode cX12_isTight 54 = .ok (.getfield 85, 3) := dop_180 (zb_X12_isTight_1 14 rfl) (zb_X12_isTight_1 15 rfl) (zb_X12_isTight_1 16 rfl) rfl
theorem dX12_isTight_57 : decode cX12_isTight 57 = .ok (.aload_n 0, 1) := dop_42 (zb_X12_isTight_1 17 rfl)
theorem dX12_isTight_58 : decode cX12_isTight 58 = .ok (.getfield 88, 3) := dop_180 (zb_X12_isTight_1 18 rfl) (zb_X12_isTight_1 19 rfl) (zb_X12_isTight_1 20 rfl) rfl
theorem dX12_isTight_61 : decode cX12_isTight 61 = .ok (.iconst 0, 1) := dop_3 (zb_X12_isTight_1 21 rfl)
theorem dX12_isTight_62 : decode cX12_isTight 62 = .ok (.aload_n 0, 1) := dop_42 (zb_X12_isTight_1 22 rfl)
theorem dX12_isTight_63 : decode cX12_isTight 63 = .ok (.getfield 61, 3) := dop_180 (zb_X12_isTight_1 23 rfl) (zb_X12_isTight_1 24 rfl) (zb_X12_isTight_1 25 rfl) rfl
theorem dX12_isTight_66 : decode cX12_isTight 66 = .ok (.aload_n 0, 1) := dop_42 (zb_X12_isTight_1 26 rfl)
theorem dX12_isTight_67 : decode cX12_isTight 67 = .ok (.getfield 64, 3) := dop_180 (zb_X12_isTight_1 27 rfl) (zb_X12_isTight_1 28 rfl) (zb_X12_isTight_1 29 rfl) rfl
theorem dX12_isTight_70 : decode cX12_isTight 70 = .ok (.iconst 5, 1) := dop_8 (zb_X12_isTight_1 30 rfl)
theorem dX12_isTight_71 : decode cX12_isTight 71 = .ok (.aload_n 0, 1) := dop_42 (zb_X12_isTight_1 31 rfl)
theorem dX12_isTight_72 : decode cX12_isTight 72 = .ok (.getfield 43, 3) := dop_180 (zb_X12_isTight_1 32 rfl) (zb_X12_isTight_1 33 rfl) (zb_X12_isTight_1 34 rfl) rfl
theorem dX12_isTight_75 : decode cX12_isTight 75 = .ok (.iload_n 1, 1) := dop_27 (zb_X12_isTight_1 35 rfl)
theorem dX12_isTight_76 : decode cX12_isTight 76 = .ok (.iaload, 1) := dop_46 (zb_X12_isTight_1 36 rfl)
theorem dX12_isTight_77 : decode cX12_isTight 77 = .ok (.imul, 1) := dop_104 (zb_X12_isTight_1 37 rfl)
theorem zb_X12_isTight_2 (j : Nat) {n : Nat} (e : zw_X12_isTight_2[j]? = some n) : dby cX12_isTight (78 + j) n := dw_b (t := []) ze_X12_isTight_2 j e
theorem dX12_isTight_78 : decode cX12_isTight 78 = .ok (.invokevirtual 350, 3) := dop_182 (zb_X12_isTight_2 0 rfl) (zb_X12_isTight_2 1 rfl) (zb_X12_isTight_2 2 rfl) rfl
theorem dX12_isTight_81 : decode cX12_isTight 81 = .ok (.ifCond .ne 7, 3) := dop_154 (zb_X12_isTight_2 3 rfl) (zb_X12_isTight_2 4 rfl) (zb_X12_isTight_2 5 rfl) rfl
theorem dX12_isTight_84 : decode cX12_isTight 84 = .ok (.iconst 1, 1) := dop_4 (zb_X12_isTight_2 6 rfl)
theorem dX12_isTight_85 : decode cX12_isTight 85 = .ok (.goto 4, 3) := dop_167 (zb_X12_isTight_2 7 rfl) (zb_X12_isTight_2 8 rfl) (zb_X12_isTight_2 9 rfl) rfl
theorem dX12_isTight_88 : decode cX12_isTight 88 = .ok (.iconst 0, 1) := dop_3 (zb_X12_isTight_2 10 rfl)
theorem dX12_isTight_89 : decode cX12_isTight 89 = .ok (.ireturn, 1) := dop_172 (zb_X12_isTight_2 11 rfl)
def zw_X12_canBeNow_0 : List Nat := [42, 182, 1, 111, 42, 42, 182, 1, 114, 182, 1, 118, 172]
def zt_X12_canBeNow_0 : List Nat := zw_X12_canBeNow_0 ++ []
theorem ze_X12_canBeNow_0 : (dcn cX12_canBeNow).drop 0 = zt_X12_canBeNow_0 := by decide +kernel
theorem zb_X12_canBeNow_0 (j : Nat) {n : Nat} (e : zw_X12_canBeNow_0[j]? = some n) : dby cX12_canBeNow (0 + j) n := dw_b (t := []) ze_X12_canBeNow_0 j e
theorem dX12_canBeNow_0 : decode cX12_canBeNow 0 = .ok (.aload_n 0, 1) := dop_42 (zb_X12_canBeNow_0 0 rfl)
theorem dX12_canBeNow_1 : decode cX12_canBeNow 1 = .ok (.invokevirtual 367, 3) := dop_182 (zb_X12_canBeNow_0 1 rfl) (zb_X12_canBeNow_0 2 rfl) (zb_X12_canBeNow_0 3 rfl) rfl
theorem dX12_canBeNow_4 : decode cX12_canBeNow 4 = .ok (.aload_n 0, 1) := dop_42 (zb_X12_canBeNow_0 4 rfl)
theorem dX12_canBeNow_5 : decode cX12_canBeNow 5 = .ok (.aload_n 0, 1) := dop_42 (zb_X12_canBeNow_0 5 rfl)
theorem dX12_canBeNow_6 : decode cX12_canBeNow 6 = .ok (.invokevirtual 370, 3) := dop_182 (zb_X12_canBeNow_0 6 rfl) (zb_X12_canBeNow_0 7 rfl) (zb_X12_canBeNow_0 8 rfl) rfl
theorem dX12_canBeNow_9 : decode cX12_canBeNow 9 = .ok (.invokevirtual 374, 3) := dop_182 (zb_X12_canBeNow_0 9 rfl) (zb_X12_canBeNow_0 10 rfl) (zb_X12_canBeNow_0 11 rfl) rfl
theorem dX12_canBeNow_12 : decode cX12_canBeNow 12 = .ok (.ireturn, 1) := dop_172 (zb_X12_canBeNow_0 12 rfl)
def zw_X12_fits_0 : List Nat := [42, 3, 181, 0, 133, 42, 182, 1, 121, 153, 0, 7, 4, 167, 0, 4, 3, 172]
def zt_X12_fits_0 : List Nat := zw_X12_fits_0 ++ []
theorem ze_X12_fits_0 : (dcn cX12_fits).drop 0 = zt_X12_fits_0 := by decide +kernel
theorem zb_X12_fits_0 (j : Nat) {n : Nat} (e : zw_X12_fits_0[j]? = some n) : dby cX12_fits (0 + j) n := dw_b (t := []) ze_X12_fits_0 j e
theorem dX12_fits_0 : decode cX12_fits 0 = .ok (.aload_n 0, 1) := dop_42 (zb_X12_fits_0 0 rfl)
theorem dX12_fits_1 : decode cX12_fits 1 = .ok (.iconst 0, 1) := dop_3 (zb_X12_fits_0 1 rfl)
theorem dX12_fits_2 : decode cX12_fits 2 = .ok (.putfield 133, 3) := dop_181 (zb_X12_fits_0 2 rfl) (zb_X12_fits_0 3 rfl) (zb_X12_fits_0 4 rfl) rfl
theorem dX12_fits_5 : decode cX12_fits 5 = .ok (.aload_n 0, 1) := dop_42 (zb_X12_fits_0 5 rfl)
theorem dX12_fits_6 : decode cX12_fits 6 = .ok (.invokevirtual 377, 3) := dop_182 (zb_X12_fits_0 6 rfl) (zb_X12_fits_0 7 rfl) (zb_X12_fits_0 8 rfl) rfl
theorem dX12_fits_9 : decode cX12_fits 9 = .ok (.ifCond .eq 7, 3) := dop_153 (zb_X12_fits_0 9 rfl) (zb_X12_fits_0 10 rfl) (zb_X12_fits_0 11 rfl) rfl
theorem dX12_fits_12 : decode cX12_fits 12 = .ok (.iconst 1, 1) := dop_4 (zb_X12_fits_0 12 rfl)
theorem dX12_fits_13 : decode cX12_fits 13 = .ok (.goto 4, 3) := dop_167 (zb_X12_fits_0 13 rfl) (zb_X12_fits_0 14 rfl) (zb_X12_fits_0 15 rfl) rfl
theorem dX12_fits_16 : decode cX12_fits 16 = .ok (.iconst 0, 1) := dop_3 (zb_X12_fits_0 16 rfl)
theorem dX12_fits_17 : decode cX12_fits 17 = .ok (.ireturn, 1) := dop_172 (zb_X12_fits_0 17 rfl)
def zw_X12_isLength_1 : List Nat := [184, 0, 143, 153, 0, 10, 27, 16, 6, 100, 167, 0, 4, 3, 96, 46, 2, 159, 0, 7, 4, 167, 0, 4, 3, 172]
def zt_X12_isLength_1 : List Nat := zw_X12_isLength_1 ++ []
def zw_X12_isLength_0 : List Nat := [27, 133, 9, 20, 1, 125, 184, 0, 143, 153, 0, 53, 27, 16, 6, 161, 0, 43, 27, 16, 11, 163, 0, 37, 42, 180, 0, 13, 16, 42, 27, 133, 20, 1, 127, 20, 1, 129]
def zt_X12_isLength_0 : List Nat := zw_X12_isLength_0 ++ zt_X12_isLength_1
theorem ze_X12_isLength_0 : (dcn cX12_isLength).drop 0 = zt_X12_isLength_0 := by decide +kernel
theorem ze_X12_isLength_1 : (dcn cX12_isLength).drop 38 = zt_X12_isLength_1 := dw_n (wl := zw_X12_isLength_0) ze_X12_isLength_0 rfl
theorem zb_X12_isLength_0 (j : Nat) {n : Nat} (e : zw_X12_isLength_0[j]? = some n) : dby cX12_isLength (0 + j) n := dw_b (t := zt_X12_isLength_1) ze_X12_isLength_0 j e
theorem dX12_isLength_0 : decode cX12_isLength 0 = .ok (.iload_n 1, 1) := dop_27 (zb_X12_isLength_0 0 rfl)
theorem dX12_isLength_1 : decode cX12_isLength 1 = .ok (.i2l, 1) := dop_133 (zb_X12_isLength_0 1 rfl)
theorem dX12_isLength_2 : decode cX12_isLength 2 = .ok (.lconst 0, 1) := dop_9 (zb_X12_isLength_0 2 rfl)
theorem dX12_isLength_3 : decode cX12_isLength 3 = .ok (.ldc2_w 381, 3) := dop_20 (zb_X12_isLength_0 3 rfl) (zb_X12_isLength_0 4 rfl) (zb_X12_isLength_0 5 rfl) rfl
theorem dX12_isLength_6 : decode cX12_isLength 6 = .ok (.invokestatic 143, 3) := dop_184 (zb_X12_isLength_0 6 rfl) (zb_X12_isLength_0 7 rfl) (zb_X12_isLength_0 8 rfl) rfl
theorem dX12_isLength_9 : decode cX12_isLength 9 = .ok (.ifCond .eq 53, 3) := dop_153 (zb_X12_isLength_0 9 rfl) (zb_X12_isLength_0 10 rfl) (zb_X12_isLength_0 11 rfl) rfl
theorem dX12_isLength_12 : decode cX12_isLength 12 = .ok (.iload_n 1, 1) := dop_27 (zb_X12_isLength_0 12 rfl)
theorem dX12_isLength_13 : decode cX12_isLength 13 = .ok (.bipush 6, 2) := dop_16 (zb_X12_isLength_0 13 rfl) (zb_X12_isLength_0 14 rfl) rfl
theorem dX12_isLength_15 : decode cX12_isLength 15 = .ok (.if_icmp .lt 43, 3) := dop_161 (zb_X12_isLength_0 15 rfl) (zb_X12_isLength_0 16 rfl) (zb_X12_isLength_0 17 rfl) rfl
theorem dX12_isLength_18 : decode cX12_isLength 18 = .ok (.iload_n 1, 1) := dop_27 (zb_X12_isLength_0 18 rfl)
theorem dX12_isLength_19 : decode cX12_isLength 19 = .ok (.bipush 11, 2) := dop_16 (zb_X12_isLength_0 19 rfl) (zb_X12_isLength_0 20 rfl) rfl
theorem dX12_isLength_21 : decode cX12_isLength 21 = .ok (.if_icmp .gt 37, 3) := dop_163 (zb_X12_isLength_0 21 rfl) (zb_X12_isLength_0 22 rfl) (zb_X12_isLength_0 23 rfl) rfl
theorem dX12_isLength_24 : decode cX12_isLength 24 = .ok (.aload_n 0, 1) := dop_42 (zb_X12_isLength_0 24 rfl)
theorem dX12_isLength_25 : decode cX12_isLength 25 = .ok (.getfield 13, 3) := dop_180 (zb_X12_isLength_0 25 rfl) (zb_X12_isLength_0 26 rfl) (zb_X12_isLength_0 27 rfl) rfl
theorem dX12_isLength_28 : decode cX12_isLength 28 = .ok (.bipush 42, 2) := dop_16 (zb_X12_isLength_0 28 rfl) (zb_X12_isLength_0 29 rfl) rfl
theorem dX12_isLength_30 : decode cX12_isLength 30 = .ok (.iload_n 1, 1) := dop_27 (zb_X12_isLength_0 30 rfl)
theorem dX12_isLength_31 : decode cX12_isLength 31 = .ok (.i2l, 1) := dop_133 (zb_X12_isLength_0 31 rfl)
theorem dX12_isLength_32 : decode cX12_isLength 32 = .ok (.ldc2_w 383, 3) := dop_20 (zb_X12_isLength_0 32 rfl) (zb_X12_isLength_0 33 rfl) (zb_X12_isLength_0 34 rfl) rfl
theorem dX12_isLength_35 : decode cX12_isLength 35 = .ok (.ldc2_w 385, 3) := dop_20 (zb_X12_isLength_0 35 rfl) (zb_X12_isLength_0 36 rfl) (zb_X12_isLength_0 37 rfl) rfl
theorem zb_X12_isLength_1 (j : Nat) {n : Nat} (e : zw_X12_isLength_1[j]? = some n) : dby cX12_isLength (38 + j) n := dw_b (t := []) ze_X12_isLength_1 j e
theorem dX12_isLength_38 : decode cX12_isLength 38 = .ok (.invokestatic 143, 3) := dop_184 (zb_X12_isLength_1 0 rfl) (zb_X12_isLength_1 1 rfl) (zb_X12_isLength_1 2 rfl) rfl
theorem dX12_isLength_41 : decode cX12_isLength 41 = .ok (.ifCond .eq 10, 3) := dop_153 (zb_X12_isLength_1 3 rfl) (zb_X12_isLength_1 4 rfl) (zb_X12_isLength_1 5 rfl) rfl
theorem dX12_isLength_44 : decode cX12_isLength 44 = .ok (.iload_n 1, 1) := dop_27 (zb_X12_isLength_1 6 rfl)
theorem dX12_isLength_45 : decode cX12_isLength 45 = .ok (.bipush 6, 2) := dop_16 (zb_X12_isLength_1 7 rfl) (zb_X12_isLength_1 8 rfl) rfl
theorem dX12_isLength_47 : decode cX12_isLength 47 = .ok (.isub, 1) := dop_100 (zb_X12_isLength_1 9 rfl)
theorem dX12_isLength_48 : decode cX12_isLength 48 = .ok (.goto 4, 3) := dop_167 (zb_X12_isLength_1 10 rfl) (zb_X12_isLength_1 11 rfl) (zb_X12_isLength_1 12 rfl) rfl
theorem dX12_isLength_51 : decode cX12_isLength 51 = .ok (.iconst 0, 1) := dop_3 (zb_X12_isLength_1 13 rfl)
theorem dX12_isLength_52 : decode cX12_isLength 52 = .ok (.iadd, 1) := dop_96 (zb_X12_isLength_1 14 rfl)
theorem dX12_isLength_53 : decode cX12_isLength 53 = .ok (.iaload, 1) := dop_46 (zb_X12_isLength_1 15 rfl)
theorem dX12_isLength_54 : decode cX12_isLength 54 = .ok (.iconst (-1), 1) := dop_2 (zb_X12_isLength_1 16 rfl)
theorem dX12_isLength_55 : decode cX12_isLength 55 = .ok (.if_icmp .eq 7, 3) := dop_159 (zb_X12_isLength_1 17 rfl) (zb_X12_isLength_1 18 rfl) (zb_X12_isLength_1 19 rfl) rfl
theorem dX12_isLength_58 : decode cX12_isLength 58 = .ok (.iconst 1, 1) := dop_4 (zb_X12_isLength_1 20 rfl)
theorem dX12_isLength_59 : decode cX12_isLength 59 = .ok (.goto 4, 3) := dop_167 (zb_X12_isLength_1 21 rfl) (zb_X12_isLength_1 22 rfl) (zb_X12_isLength_1 23 rfl) rfl
theorem dX12_isLength_62 : decode cX12_isLength 62 = .ok (.iconst 0, 1) := dop_3 (zb_X12_isLength_1 24 rfl)
theorem dX12_isLength_63 : decode cX12_isLength 63 = .ok (.ireturn, 1) := dop_172 (zb_X12_isLength_1 25 rfl)
def zw_X12_goFrom_0 : List Nat := [42, 182, 1, 111, 42, 42, 182, 1, 114, 182, 1, 98, 42, 27, 182, 1, 101, 4, 61, 28, 153, 0, 12, 42, 4, 182, 1, 104, 61, 167, 255, 246, 177]
def zt_X12_goFrom_0 : List Nat := zw_X12_goFrom_0 ++ []
theorem ze_X12_goFrom_0 : (dcn cX12_goFrom).drop 0 = zt_X12_goFrom_0 := by decide +kernel
theorem zb_X12_goFrom_0 (j : Nat) {n : Nat} (e : zw_X12_goFrom_0[j]? = some n) : dby cX12_goFrom (0 + j) n := dw_b (t := []) ze_X12_goFrom_0 j e
theorem dX12_goFrom_0 : decode cX12_goFrom 0 = .ok (.aload_n 0, 1) := dop_42 (zb_X12_goFrom_0 0 rfl)
theorem dX12_goFrom_1 : decode cX12_goFrom 1 = .ok (.invokevirtual 367, 3) := dop_182 (zb_X12_goFrom_0 1 rfl) (zb_X12_goFrom_0 2 rfl) (zb_X12_goFrom_0 3 rfl) rfl
theorem dX12_goFrom_4 : decode cX12_goFrom 4 = .ok (.aload_n 0, 1) := dop_42 (zb_X12_goFrom_0 4 rfl)
theorem dX12_goFrom_5 : decode cX12_goFrom 5 = .ok (.aload_n 0, 1) := dop_42 (zb_X12_goFrom_0 5 rfl)
theorem dX12_goFrom_6 : decode cX12_goFrom 6 = .ok (.invokevirtual 370, 3) := dop_182 (zb_X12_goFrom_0 6 rfl) (zb_X12_goFrom_0 7 rfl) (zb_X12_goFrom_0 8 rfl) rfl
theorem dX12_goFrom_9 : decode cX12_goFrom 9 = .ok (.invokevirtual 354, 3) := dop_182 (zb_X12_goFrom_0 9 rfl) (zb_X12_goFrom_0 10 rfl) (zb_X12_goFrom_0 11 rfl) rfl
theorem dX12_goFrom_12 : decode cX12_goFrom 12 = .ok (.aload_n 0, 1) := dop_42 (zb_X12_goFrom_0 12 rfl)
theorem dX12_goFrom_13 : decode cX12_goFrom 13 = .ok (.iload_n 1, 1) := dop_27 (zb_X12_goFrom_0 13 rfl)
theorem dX12_goFrom_14 : decode cX12_goFrom 14 = .ok (.invokevirtual 357, 3) := dop_182 (zb_X12_goFrom_0 14 rfl) (zb_X12_goFrom_0 15 rfl) (zb_X12_goFrom_0 16 rfl) rfl
theorem dX12_goFrom_17 : decode cX12_goFrom 17 = .ok (.iconst 1, 1) := dop_4 (zb_X12_goFrom_0 17 rfl)
theorem dX12_goFrom_18 : decode cX12_goFrom 18 = .ok (.istore_n 2, 1) := dop_61 (zb_X12_goFrom_0 18 rfl)
theorem dX12_goFrom_19 : decode cX12_goFrom 19 = .ok (.iload_n 2, 1) := dop_28 (zb_X12_goFrom_0 19 rfl)
theorem dX12_goFrom_20 : decode cX12_goFrom 20 = .ok (.ifCond .eq 12, 3) := dop_153 (zb_X12_goFrom_0 20 rfl) (zb_X12_goFrom_0 21 rfl) (zb_X12_goFrom_0 22 rfl) rfl
theorem dX12_goFrom_23 : decode cX12_goFrom 23 = .ok (.aload_n 0, 1) := dop_42 (zb_X12_goFrom_0 23 rfl)
theorem dX12_goFrom_24 : decode cX12_goFrom 24 = .ok (.iconst 1, 1) := dop_4 (zb_X12_goFrom_0 24 rfl)
theorem dX12_goFrom_25 : decode cX12_goFrom 25 = .ok (.invokevirtual 360, 3) := dop_182 (zb_X12_goFrom_0 25 rfl) (zb_X12_goFrom_0 26 rfl) (zb_X12_goFrom_0 27 rfl) rfl
theorem dX12_goFrom_28 : decode cX12_goFrom 28 = .ok (.istore_n 2, 1) := dop_61 (zb_X12_goFrom_0 28 rfl)
theorem dX12_goFrom_29 : decode cX12_goFrom 29 = .ok (.goto (-10), 3) := dop_167 (zb_X12_goFrom_0 29 rfl) (zb_X12_goFrom_0 30 rfl) (zb_X12_goFrom_0 31 rfl) rfl
theorem dX12_goFrom_32 : decode cX12_goFrom 32 = .ok (.return_, 1) := dop_177 (zb_X12_goFrom_0 32 rfl)
def zw_X12_share_3 : List Nat := [3, 54, 10, 132, 12, 255, 167, 255, 193, 21, 10, 153, 0, 10, 21, 9, 54, 7, 167, 0, 9, 21, 9, 4, 100, 54, 8, 167, 255, 128, 21, 7, 172]
def zt_X12_share_3 : List Nat := zw_X12_share_3 ++ []
def zw_X12_share_2 : List Nat := [42, 180, 0, 94, 21, 12, 47, 148, 154, 0, 7, 4, 167, 0, 4, 3, 54, 11, 42, 180, 0, 97, 21, 12, 47, 42, 180, 0, 94, 21, 12, 47, 148, 157, 0, 7, 4, 167, 0, 4]
def zt_X12_share_2 : List Nat := zw_X12_share_2 ++ zt_X12_share_3
def zw_X12_share_1 : List Nat := [42, 180, 0, 97, 45, 21, 4, 21, 9, 133, 184, 1, 131, 4, 54, 10, 4, 54, 11, 16, 9, 54, 12, 21, 12, 155, 0, 64, 21, 11, 153, 0, 59, 42, 180, 0, 97, 21, 12, 47]
def zt_X12_share_1 : List Nat := zw_X12_share_1 ++ zt_X12_share_2
def zw_X12_share_0 : List Nat := [3, 54, 7, 21, 6, 54, 8, 42, 180, 0, 94, 43, 28, 21, 5, 133, 184, 1, 131, 21, 7, 21, 8, 162, 0, 127, 21, 7, 21, 8, 21, 7, 100, 4, 96, 5, 108, 96, 54, 9]
def zt_X12_share_0 : List Nat := zw_X12_share_0 ++ zt_X12_share_1
theorem ze_X12_share_0 : (dcn cX12_share).drop 0 = zt_X12_share_0 := by decide +kernel
theorem ze_X12_share_1 : (dcn cX12_share).drop 40 = zt_X12_share_1 := dw_n (wl := zw_X12_share_0) ze_X12_share_0 rfl
theorem zb_X12_share_0 (j : Nat) {n : Nat} (e : zw_X12_share_0[j]? = some n) : dby cX12_share (0 + j) n := dw_b (t := zt_X12_share_1) ze_X12_share_0 j e
theorem dX12_share_0 : decode cX12_share 0 = .ok (.iconst 0, 1) := dop_3 (zb_X12_share_0 0 rfl)
theorem dX12_share_1 : decode cX12_share 1 = .ok (.istore 7, 2) := dop_54 (zb_X12_share_0 1 rfl) (zb_X12_share_0 2 rfl)
theorem dX12_share_3 : decode cX12_share 3 = .ok (.iload 6, 2) := dop_21 (zb_X12_share_0 3 rfl) (zb_X12_share_0 4 rfl)
theorem dX12_share_5 : decode cX12_share 5 = .ok (.istore 8, 2) := dop_54 (zb_X12_share_0 5 rfl) (zb_X12_share_0 6 rfl)
theorem dX12_share_7 : decode cX12_share 7 = .ok (.aload_n 0, 1) := dop_42 (zb_X12_share_0 7 rfl)
theorem dX12_share_8 : decode cX12_share 8 = .ok (.getfield 94, 3) := dop_180 (zb_X12_share_0 8 rfl) (zb_X12_share_0 9 rfl) (zb_X12_share_0 10 rfl) rfl
theorem dX12_share_11 : decode cX12_share 11 = .ok (.aload_n 1, 1) := dop_43 (zb_X12_share_0 11 rfl)
theorem dX12_share_12 : decode cX12_share 12 = .ok (.iload_n 2, 1) := dop_28 (zb_X12_share_0 12 rfl)
theorem dX12_share_13 : decode cX12_share 13 = .ok (.iload 5, 2) := dop_21 (zb_X12_share_0 13 rfl) (zb_X12_share_0 14 rfl)
theorem dX12_share_15 : decode cX12_share 15 = .ok (.i2l, 1) := dop_133 (zb_X12_share_0 15 rfl)
theorem dX12_share_16 : decode cX12_share 16 = .ok (.invokestatic 387, 3) := dop_184 (zb_X12_share_0 16 rfl) (zb_X12_share_0 17 rfl) (zb_X12_share_0 18 rfl) rfl
theorem dX12_share_19 : decode cX12_share 19 = .ok (.iload 7, 2) := dop_21 (zb_X12_share_0 19 rfl) (zb_X12_share_0 20 rfl)
theorem dX12_share_21 : decode cX12_share 21 = .ok (.iload 8, 2) := dop_21 (zb_X12_share_0 21 rfl) (zb_X12_share_0 22 rfl)
theorem dX12_share_23 : decode cX12_share 23 = .ok (.if_icmp .ge 127, 3) := dop_162 (zb_X12_share_0 23 rfl) (zb_X12_share_0 24 rfl) (zb_X12_share_0 25 rfl) rfl
theorem dX12_share_26 : decode cX12_share 26 = .ok (.iload 7, 2) := dop_21 (zb_X12_share_0 26 rfl) (zb_X12_share_0 27 rfl)
theorem dX12_share_28 : decode cX12_share 28 = .ok (.iload 8, 2) := dop_21 (zb_X12_share_0 28 rfl) (zb_X12_share_0 29 rfl)
theorem dX12_share_30 : decode cX12_share 30 = .ok (.iload 7, 2) := dop_21 (zb_X12_share_0 30 rfl) (zb_X12_share_0 31 rfl)
theorem dX12_share_32 : decode cX12_share 32 = .ok (.isub, 1) := dop_100 (zb_X12_share_0 32 rfl)
theorem dX12_share_33 : decode cX12_share 33 = .ok (.iconst 1, 1) := dop_4 (zb_X12_share_0 33 rfl)
theorem dX12_share_34 : decode cX12_share 34 = .ok (.iadd, 1) := dop_96 (zb_X12_share_0 34 rfl)
theorem dX12_share_35 : decode cX12_share 35 = .ok (.iconst 2, 1) := dop_5 (zb_X12_share_0 35 rfl)
theorem dX12_share_36 : decode cX12_share 36 = .ok (.idiv, 1) := dop_108 (zb_X12_share_0 36 rfl)
theorem dX12_share_37 : decode cX12_share 37 = .ok (.iadd, 1) := dop_96 (zb_X12_share_0 37 rfl)
theorem dX12_share_38 : decode cX12_share 38 = .ok (.istore 9, 2) := dop_54 (zb_X12_share_0 38 rfl) (zb_X12_share_0 39 rfl)
theorem ze_X12_share_2 : (dcn cX12_share).drop 80 = zt_X12_share_2 := dw_n (wl := zw_X12_share_1) ze_X12_share_1 rfl
theorem zb_X12_share_1 (j : Nat) {n : Nat} (e : zw_X12_share_1[j]? = some n) : dby cX12_share (40 + j) n := dw_b (t := zt_X12_share_2) ze_X12_share_1 j e
theorem dX12_share_40 : decode cX12_share 40 = .ok (.aload_n 0, 1) := dop_42 (zb_X12_share_1 0 rfl)
theorem dX12_share_41 : decode cX12_share 41 = .ok (.getfield 97, 3) := dop_180 (zb_X12_share_1 1 rfl) (zb_X12_share_1 2 rfl) (zb_X12_share_1 3 rfl) rfl
theorem dX12_share_44 : decode cX12_share 44 = .ok (.aload_n 3, 1) := dop_45 (zb_X12_share_1 4 rfl)
theorem dX12_share_45 : decode cX12_share 45 = .ok (.iload 4, 2) := dop_21 (zb_X12_share_1 5 rfl) (zb_X12_share_1 6 rfl)
theorem dX12_share_47 : decode cX12_share 47 = .ok (.iload 9, 2) := dop_21 (zb_X12_share_1 7 rfl) (zb_X12_share_1 8 rfl)
theorem dX12_share_49 : decode cX12_share 49 = .ok (.i2l, 1) := dop_133 (zb_X12_share_1 9 rfl)
theorem dX12_share_50 : decode cX12_share 50 = .ok (.invokestatic 387, 3) := dop_184 (zb_X12_share_1 10 rfl) (zb_X12_share_1 11 rfl) (zb_X12_share_1 12 rfl) rfl
theorem dX12_share_53 : decode cX12_share 53 = .ok (.iconst 1, 1) := dop_4 (zb_X12_share_1 13 rfl)
theorem dX12_share_54 : decode cX12_share 54 = .ok (.istore 10, 2) := dop_54 (zb_X12_share_1 14 rfl) (zb_X12_share_1 15 rfl)
theorem dX12_share_56 : decode cX12_share 56 = .ok (.iconst 1, 1) := dop_4 (zb_X12_share_1 16 rfl)
theorem dX12_share_57 : decode cX12_share 57 = .ok (.istore 11, 2) := dop_54 (zb_X12_share_1 17 rfl) (zb_X12_share_1 18 rfl)
theorem dX12_share_59 : decode cX12_share 59 = .ok (.bipush 9, 2) := dop_16 (zb_X12_share_1 19 rfl) (zb_X12_share_1 20 rfl) rfl
theorem dX12_share_61 : decode cX12_share 61 = .ok (.istore 12, 2) := dop_54 (zb_X12_share_1 21 rfl) (zb_X12_share_1 22 rfl)
theorem dX12_share_63 : decode cX12_share 63 = .ok (.iload 12, 2) := dop_21 (zb_X12_share_1 23 rfl) (zb_X12_share_1 24 rfl)
theorem dX12_share_65 : decode cX12_share 65 = .ok (.ifCond .lt 64, 3) := dop_155 (zb_X12_share_1 25 rfl) (zb_X12_share_1 26 rfl) (zb_X12_share_1 27 rfl) rfl
theorem dX12_share_68 : decode cX12_share 68 = .ok (.iload 11, 2) := dop_21 (zb_X12_share_1 28 rfl) (zb_X12_share_1 29 rfl)
theorem dX12_share_70 : decode cX12_share 70 = .ok (.ifCond .eq 59, 3) := dop_153 (zb_X12_share_1 30 rfl) (zb_X12_share_1 31 rfl) (zb_X12_share_1 32 rfl) rfl
theorem dX12_share_73 : decode cX12_share 73 = .ok (.aload_n 0, 1) := dop_42 (zb_X12_share_1 33 rfl)
theorem dX12_share_74 : decode cX12_share 74 = .ok (.getfield 97, 3) := dop_180 (zb_X12_share_1 34 rfl) (zb_X12_share_1 35 rfl) (zb_X12_share_1 36 rfl) rfl
theorem dX12_share_77 : decode cX12_share 77 = .ok (.iload 12, 2) := dop_21 (zb_X12_share_1 37 rfl) (zb_X12_share_1 38 rfl)
theorem dX12_share_79 : decode cX12_share 79 = .ok (.laload, 1) := dop_47 (zb_X12_share_1 39 rfl)
theorem ze_X12_share_3 : (dcn cX12_share).drop 120 = zt_X12_share_3 := dw_n (wl := zw_X12_share_2) ze_X12_share_2 rfl
theorem zb_X12_share_2 (j : Nat) {n : Nat} (e : zw_X12_share_2[j]? = some n) : dby cX12_share (80 + j) n := dw_b (t := zt_X12_share_3) ze_X12_share_2 j e
theorem dX12_share_80 : decode cX12_share 80 = .ok (.aload_n 0, 1) := dop_42 (zb_X12_share_2 0 rfl)
theorem dX12_share_81 : decode cX12_share 81 = .ok (.getfield 94, 3) := dop_180 (zb_X12_share_2 1 rfl) (zb_X12_share_2 2 rfl) (zb_X12_share_2 3 rfl) rfl
theorem dX12_share_84 : decode cX12_share 84 = .ok (.iload 12, 2) := dop_21 (zb_X12_share_2 4 rfl) (zb_X12_share_2 5 rfl)
theorem dX12_share_86 : decode cX12_share 86 = .ok (.laload, 1) := dop_47 (zb_X12_share_2 6 rfl)
theorem dX12_share_87 : decode cX12_share 87 = .ok (.lcmp, 1) := dop_148 (zb_X12_share_2 7 rfl)
theorem dX12_share_88 : decode cX12_share 88 = .ok (.ifCond .ne 7, 3) := dop_154 (zb_X12_share_2 8 rfl) (zb_X12_share_2 9 rfl) (zb_X12_share_2 10 rfl) rfl
theorem dX12_share_91 : decode cX12_share 91 = .ok (.iconst 1, 1) := dop_4 (zb_X12_share_2 11 rfl)
theorem dX12_share_92 : decode cX12_share 92 = .ok (.goto 4, 3) := dop_167 (zb_X12_share_2 12 rfl) (zb_X12_share_2 13 rfl) (zb_X12_share_2 14 rfl) rfl
theorem dX12_share_95 : decode cX12_share 95 = .ok (.iconst 0, 1) := dop_3 (zb_X12_share_2 15 rfl)
theorem dX12_share_96 : decode cX12_share 96 = .ok (.istore 11, 2) := dop_54 (zb_X12_share_2 16 rfl) (zb_X12_share_2 17 rfl)
theorem dX12_share_98 : decode cX12_share 98 = .ok (.aload_n 0, 1) := dop_42 (zb_X12_share_2 18 rfl)
theorem dX12_share_99 : decode cX12_share 99 = .ok (.getfield 97, 3) := dop_180 (zb_X12_share_2 19 rfl) (zb_X12_share_2 20 rfl) (zb_X12_share_2 21 rfl) rfl
theorem dX12_share_102 : decode cX12_share 102 = .ok (.iload 12, 2) := dop_21 (zb_X12_share_2 22 rfl) (zb_X12_share_2 23 rfl)
theorem dX12_share_104 : decode cX12_share 104 = .ok (.laload, 1) := dop_47 (zb_X12_share_2 24 rfl)
theorem dX12_share_105 : decode cX12_share 105 = .ok (.aload_n 0, 1) := dop_42 (zb_X12_share_2 25 rfl)
theorem dX12_share_106 : decode cX12_share 106 = .ok (.getfield 94, 3) := dop_180 (zb_X12_share_2 26 rfl) (zb_X12_share_2 27 rfl) (zb_X12_share_2 28 rfl) rfl
theorem dX12_share_109 : decode cX12_share 109 = .ok (.iload 12, 2) := dop_21 (zb_X12_share_2 29 rfl) (zb_X12_share_2 30 rfl)
theorem dX12_share_111 : decode cX12_share 111 = .ok (.laload, 1) := dop_47 (zb_X12_share_2 31 rfl)
theorem dX12_share_112 : decode cX12_share 112 = .ok (.lcmp, 1) := dop_148 (zb_X12_share_2 32 rfl)
theorem dX12_share_113 : decode cX12_share 113 = .ok (.ifCond .gt 7, 3) := dop_157 (zb_X12_share_2 33 rfl) (zb_X12_share_2 34 rfl) (zb_X12_share_2 35 rfl) rfl
theorem dX12_share_116 : decode cX12_share 116 = .ok (.iconst 1, 1) := dop_4 (zb_X12_share_2 36 rfl)
theorem dX12_share_117 : decode cX12_share 117 = .ok (.goto 4, 3) := dop_167 (zb_X12_share_2 37 rfl) (zb_X12_share_2 38 rfl) (zb_X12_share_2 39 rfl) rfl
theorem zb_X12_share_3 (j : Nat) {n : Nat} (e : zw_X12_share_3[j]? = some n) : dby cX12_share (120 + j) n := dw_b (t := []) ze_X12_share_3 j e
theorem dX12_share_120 : decode cX12_share 120 = .ok (.iconst 0, 1) := dop_3 (zb_X12_share_3 0 rfl)
theorem dX12_share_121 : decode cX12_share 121 = .ok (.istore 10, 2) := dop_54 (zb_X12_share_3 1 rfl) (zb_X12_share_3 2 rfl)
theorem dX12_share_123 : decode cX12_share 123 = .ok (.iinc 12 (-1), 3) := dop_132 (zb_X12_share_3 3 rfl) (zb_X12_share_3 4 rfl) (zb_X12_share_3 5 rfl) rfl
theorem dX12_share_126 : decode cX12_share 126 = .ok (.goto (-63), 3) := dop_167 (zb_X12_share_3 6 rfl) (zb_X12_share_3 7 rfl) (zb_X12_share_3 8 rfl) rfl
theorem dX12_share_129 : decode cX12_share 129 = .ok (.iload 10, 2) := dop_21 (zb_X12_share_3 9 rfl) (zb_X12_share_3 10 rfl)
theorem dX12_share_131 : decode cX12_share 131 = .ok (.ifCond .eq 10, 3) := dop_153 (zb_X12_share_3 11 rfl) (zb_X12_share_3 12 rfl) (zb_X12_share_3 13 rfl) rfl
theorem dX12_share_134 : decode cX12_share 134 = .ok (.iload 9, 2) := dop_21 (zb_X12_share_3 14 rfl) (zb_X12_share_3 15 rfl)
theorem dX12_share_136 : decode cX12_share 136 = .ok (.istore 7, 2) := dop_54 (zb_X12_share_3 16 rfl) (zb_X12_share_3 17 rfl)
theorem dX12_share_138 : decode cX12_share 138 = .ok (.goto 9, 3) := dop_167 (zb_X12_share_3 18 rfl) (zb_X12_share_3 19 rfl) (zb_X12_share_3 20 rfl) rfl
theorem dX12_share_141 : decode cX12_share 141 = .ok (.iload 9, 2) := dop_21 (zb_X12_share_3 21 rfl) (zb_X12_share_3 22 rfl)
theorem dX12_share_143 : decode cX12_share 143 = .ok (.iconst 1, 1) := dop_4 (zb_X12_share_3 23 rfl)
theorem dX12_share_144 : decode cX12_share 144 = .ok (.isub, 1) := dop_100 (zb_X12_share_3 24 rfl)
theorem dX12_share_145 : decode cX12_share 145 = .ok (.istore 8, 2) := dop_54 (zb_X12_share_3 25 rfl) (zb_X12_share_3 26 rfl)
theorem dX12_share_147 : decode cX12_share 147 = .ok (.goto (-128), 3) := dop_167 (zb_X12_share_3 27 rfl) (zb_X12_share_3 28 rfl) (zb_X12_share_3 29 rfl) rfl
theorem dX12_share_150 : decode cX12_share 150 = .ok (.iload 7, 2) := dop_21 (zb_X12_share_3 30 rfl) (zb_X12_share_3 31 rfl)
theorem dX12_share_152 : decode cX12_share 152 = .ok (.ireturn, 1) := dop_172 (zb_X12_share_3 32 rfl)
def zw_X12_wide_1 : List Nat := [22, 8, 20, 1, 71, 113, 80, 22, 8, 20, 1, 71, 109, 55, 5, 132, 7, 1, 167, 255, 205, 177]
def zt_X12_wide_1 : List Nat := zw_X12_wide_1 ++ []
def zw_X12_wide_0 : List Nat := [9, 55, 5, 3, 54, 7, 21, 7, 16, 10, 162, 0, 50, 21, 7, 8, 162, 0, 14, 43, 28, 21, 7, 96, 47, 33, 105, 167, 0, 4, 9, 22, 5, 97, 55, 8, 42, 21, 7]
def zt_X12_wide_0 : List Nat := zw_X12_wide_0 ++ zt_X12_wide_1
theorem ze_X12_wide_0 : (dcn cX12_wide).drop 0 = zt_X12_wide_0 := by decide +kernel
theorem ze_X12_wide_1 : (dcn cX12_wide).drop 39 = zt_X12_wide_1 := dw_n (wl := zw_X12_wide_0) ze_X12_wide_0 rfl
theorem zb_X12_wide_0 (j : Nat) {n : Nat} (e : zw_X12_wide_0[j]? = some n) : dby cX12_wide (0 + j) n := dw_b (t := zt_X12_wide_1) ze_X12_wide_0 j e
theorem dX12_wide_0 : decode cX12_wide 0 = .ok (.lconst 0, 1) := dop_9 (zb_X12_wide_0 0 rfl)
theorem dX12_wide_1 : decode cX12_wide 1 = .ok (.lstore 5, 2) := dop_55 (zb_X12_wide_0 1 rfl) (zb_X12_wide_0 2 rfl)
theorem dX12_wide_3 : decode cX12_wide 3 = .ok (.iconst 0, 1) := dop_3 (zb_X12_wide_0 3 rfl)
theorem dX12_wide_4 : decode cX12_wide 4 = .ok (.istore 7, 2) := dop_54 (zb_X12_wide_0 4 rfl) (zb_X12_wide_0 5 rfl)
theorem dX12_wide_6 : decode cX12_wide 6 = .ok (.iload 7, 2) := dop_21 (zb_X12_wide_0 6 rfl) (zb_X12_wide_0 7 rfl)
theorem dX12_wide_8 : decode cX12_wide 8 = .ok (.bipush 10, 2) := dop_16 (zb_X12_wide_0 8 rfl) (zb_X12_wide_0 9 rfl) rfl
theorem dX12_wide_10 : decode cX12_wide 10 = .ok (.if_icmp .ge 50, 3) := dop_162 (zb_X12_wide_0 10 rfl) (zb_X12_wide_0 11 rfl) (zb_X12_wide_0 12 rfl) rfl
theorem dX12_wide_13 : decode cX12_wide 13 = .ok (.iload 7, 2) := dop_21 (zb_X12_wide_0 13 rfl) (zb_X12_wide_0 14 rfl)
theorem dX12_wide_15 : decode cX12_wide 15 = .ok (.iconst 5, 1) := dop_8 (zb_X12_wide_0 15 rfl)
theorem dX12_wide_16 : decode cX12_wide 16 = .ok (.if_icmp .ge 14, 3) := dop_162 (zb_X12_wide_0 16 rfl) (zb_X12_wide_0 17 rfl) (zb_X12_wide_0 18 rfl) rfl
theorem dX12_wide_19 : decode cX12_wide 19 = .ok (.aload_n 1, 1) := dop_43 (zb_X12_wide_0 19 rfl)
theorem dX12_wide_20 : decode cX12_wide 20 = .ok (.iload_n 2, 1) := dop_28 (zb_X12_wide_0 20 rfl)
theorem dX12_wide_21 : decode cX12_wide 21 = .ok (.iload 7, 2) := dop_21 (zb_X12_wide_0 21 rfl) (zb_X12_wide_0 22 rfl)
theorem dX12_wide_23 : decode cX12_wide 23 = .ok (.iadd, 1) := dop_96 (zb_X12_wide_0 23 rfl)
theorem dX12_wide_24 : decode cX12_wide 24 = .ok (.laload, 1) := dop_47 (zb_X12_wide_0 24 rfl)
theorem dX12_wide_25 : decode cX12_wide 25 = .ok (.lload_n 3, 1) := dop_33 (zb_X12_wide_0 25 rfl)
theorem dX12_wide_26 : decode cX12_wide 26 = .ok (.lmul, 1) := dop_105 (zb_X12_wide_0 26 rfl)
theorem dX12_wide_27 : decode cX12_wide 27 = .ok (.goto 4, 3) := dop_167 (zb_X12_wide_0 27 rfl) (zb_X12_wide_0 28 rfl) (zb_X12_wide_0 29 rfl) rfl
theorem dX12_wide_30 : decode cX12_wide 30 = .ok (.lconst 0, 1) := dop_9 (zb_X12_wide_0 30 rfl)
theorem dX12_wide_31 : decode cX12_wide 31 = .ok (.lload 5, 2) := dop_22 (zb_X12_wide_0 31 rfl) (zb_X12_wide_0 32 rfl)
theorem dX12_wide_33 : decode cX12_wide 33 = .ok (.ladd, 1) := dop_97 (zb_X12_wide_0 33 rfl)
theorem dX12_wide_34 : decode cX12_wide 34 = .ok (.lstore 8, 2) := dop_55 (zb_X12_wide_0 34 rfl) (zb_X12_wide_0 35 rfl)
theorem dX12_wide_36 : decode cX12_wide 36 = .ok (.aload_n 0, 1) := dop_42 (zb_X12_wide_0 36 rfl)
theorem dX12_wide_37 : decode cX12_wide 37 = .ok (.iload 7, 2) := dop_21 (zb_X12_wide_0 37 rfl) (zb_X12_wide_0 38 rfl)
theorem zb_X12_wide_1 (j : Nat) {n : Nat} (e : zw_X12_wide_1[j]? = some n) : dby cX12_wide (39 + j) n := dw_b (t := []) ze_X12_wide_1 j e
theorem dX12_wide_39 : decode cX12_wide 39 = .ok (.lload 8, 2) := dop_22 (zb_X12_wide_1 0 rfl) (zb_X12_wide_1 1 rfl)
