def zw_X11_init_5 : List Nat := [2, 181, 0, 105, 177]
def zt_X11_init_5 : List Nat := zw_X11_init_5 ++ []
def zw_X11_init_4 : List Nat := [89, 42, 180, 0, 46, 183, 0, 82, 181, 0, 83, 42, 187, 0, 87, 89, 183, 0, 89, 181, 0, 90, 42, 8, 188, 10, 181, 0, 94, 42, 3, 181, 0, 98, 42, 3, 181, 0, 102, 42]
def zt_X11_init_4 : List Nat := zw_X11_init_4 ++ zt_X11_init_5
def zw_X11_init_3 : List Nat := [187, 0, 57, 89, 183, 0, 59, 181, 0, 60, 42, 187, 0, 64, 89, 183, 0, 66, 181, 0, 67, 42, 187, 0, 71, 89, 42, 180, 0, 46, 183, 0, 73, 181, 0, 76, 42, 187, 0, 80]
def zt_X11_init_3 : List Nat := zw_X11_init_3 ++ zt_X11_init_4
def zw_X11_init_2 : List Nat := [42, 187, 0, 34, 89, 42, 180, 0, 30, 183, 0, 36, 181, 0, 39, 42, 187, 0, 43, 89, 183, 0, 45, 181, 0, 46, 42, 187, 0, 50, 89, 183, 0, 52, 181, 0, 53, 42]
def zt_X11_init_2 : List Nat := zw_X11_init_2 ++ zt_X11_init_3
def zw_X11_init_1 : List Nat := [162, 0, 22, 42, 180, 0, 19, 27, 187, 0, 9, 89, 183, 0, 11, 83, 132, 1, 1, 167, 255, 235, 42, 5, 188, 4, 181, 0, 23, 42, 187, 0, 27, 89, 183, 0, 29, 181, 0, 30]
def zt_X11_init_1 : List Nat := zw_X11_init_1 ++ zt_X11_init_2
def zw_X11_init_0 : List Nat := [42, 183, 0, 3, 42, 187, 0, 9, 89, 183, 0, 11, 181, 0, 12, 42, 187, 0, 9, 89, 183, 0, 11, 181, 0, 16, 42, 5, 189, 0, 9, 181, 0, 19, 3, 60, 27, 5]
def zt_X11_init_0 : List Nat := zw_X11_init_0 ++ zt_X11_init_1
theorem ze_X11_init_0 : (dcn cX11_init).drop 0 = zt_X11_init_0 := by decide +kernel
theorem ze_X11_init_1 : (dcn cX11_init).drop 38 = zt_X11_init_1 := dw_n (wl := zw_X11_init_0) ze_X11_init_0 rfl
theorem zb_X11_init_0 (j : Nat) {n : Nat} (e : zw_X11_init_0[j]? = some n) : dby cX11_init (0 + j) n := dw_b (t := zt_X11_init_1) ze_X11_init_0 j e
theorem dX11_init_0 : decode cX11_init 0 = .ok (.aload_n 0, 1) := dop_42 (zb_X11_init_0 0 rfl)
theorem dX11_init_1 : decode cX11_init 1 = .ok (.invokespecial 3, 3) := dop_183 (zb_X11_init_0 1 rfl) (zb_X11_init_0 2 rfl) (zb_X11_init_0 3 rfl) rfl
theorem dX11_init_4 : decode cX11_init 4 = .ok (.aload_n 0, 1) := dop_42 (zb_X11_init_0 4 rfl)
theorem dX11_init_5 : decode cX11_init 5 = .ok (.new 9, 3) := dop_187 (zb_X11_init_0 5 rfl) (zb_X11_init_0 6 rfl) (zb_X11_init_0 7 rfl) rfl
theorem dX11_init_8 : decode cX11_init 8 = .ok (.dup, 1) := dop_89 (zb_X11_init_0 8 rfl)
theorem dX11_init_9 : decode cX11_init 9 = .ok (.invokespecial 11, 3) := dop_183 (zb_X11_init_0 9 rfl) (zb_X11_init_0 10 rfl) (zb_X11_init_0 11 rfl) rfl
theorem dX11_init_12 : decode cX11_init 12 = .ok (.putfield 12, 3) := dop_181 (zb_X11_init_0 12 rfl) (zb_X11_init_0 13 rfl) (zb_X11_init_0 14 rfl) rfl
theorem dX11_init_15 : decode cX11_init 15 = .ok (.aload_n 0, 1) := dop_42 (zb_X11_init_0 15 rfl)
theorem dX11_init_16 : decode cX11_init 16 = .ok (.new 9, 3) := dop_187 (zb_X11_init_0 16 rfl) (zb_X11_init_0 17 rfl) (zb_X11_init_0 18 rfl) rfl
theorem dX11_init_19 : decode cX11_init 19 = .ok (.dup, 1) := dop_89 (zb_X11_init_0 19 rfl)
theorem dX11_init_20 : decode cX11_init 20 = .ok (.invokespecial 11, 3) := dop_183 (zb_X11_init_0 20 rfl) (zb_X11_init_0 21 rfl) (zb_X11_init_0 22 rfl) rfl
theorem dX11_init_23 : decode cX11_init 23 = .ok (.putfield 16, 3) := dop_181 (zb_X11_init_0 23 rfl) (zb_X11_init_0 24 rfl) (zb_X11_init_0 25 rfl) rfl
theorem dX11_init_26 : decode cX11_init 26 = .ok (.aload_n 0, 1) := dop_42 (zb_X11_init_0 26 rfl)
theorem dX11_init_27 : decode cX11_init 27 = .ok (.iconst 2, 1) := dop_5 (zb_X11_init_0 27 rfl)
theorem dX11_init_28 : decode cX11_init 28 = .ok (.anewarray 9, 3) := dop_189 (zb_X11_init_0 28 rfl) (zb_X11_init_0 29 rfl) (zb_X11_init_0 30 rfl) rfl
theorem dX11_init_31 : decode cX11_init 31 = .ok (.putfield 19, 3) := dop_181 (zb_X11_init_0 31 rfl) (zb_X11_init_0 32 rfl) (zb_X11_init_0 33 rfl) rfl
theorem dX11_init_34 : decode cX11_init 34 = .ok (.iconst 0, 1) := dop_3 (zb_X11_init_0 34 rfl)
theorem dX11_init_35 : decode cX11_init 35 = .ok (.istore_n 1, 1) := dop_60 (zb_X11_init_0 35 rfl)
theorem dX11_init_36 : decode cX11_init 36 = .ok (.iload_n 1, 1) := dop_27 (zb_X11_init_0 36 rfl)
theorem dX11_init_37 : decode cX11_init 37 = .ok (.iconst 2, 1) := dop_5 (zb_X11_init_0 37 rfl)
theorem ze_X11_init_2 : (dcn cX11_init).drop 78 = zt_X11_init_2 := dw_n (wl := zw_X11_init_1) ze_X11_init_1 rfl
theorem zb_X11_init_1 (j : Nat) {n : Nat} (e : zw_X11_init_1[j]? = some n) : dby cX11_init (38 + j) n := dw_b (t := zt_X11_init_2) ze_X11_init_1 j e
theorem dX11_init_38 : decode cX11_init 38 = .ok (.if_icmp .ge 22, 3) := dop_162 (zb_X11_init_1 0 rfl) (zb_X11_init_1 1 rfl) (zb_X11_init_1 2 rfl) rfl
theorem dX11_init_41 : decode cX11_init 41 = .ok (.aload_n 0, 1) := dop_42 (zb_X11_init_1 3 rfl)
theorem dX11_init_42 : decode cX11_init 42 = .ok (.getfield 19, 3) := dop_180 (zb_X11_init_1 4 rfl) (zb_X11_init_1 5 rfl) (zb_X11_init_1 6 rfl) rfl
theorem dX11_init_45 : decode cX11_init 45 = .ok (.iload_n 1, 1) := dop_27 (zb_X11_init_1 7 rfl)
theorem dX11_init_46 : decode cX11_init 46 = .ok (.new 9, 3) := dop_187 (zb_X11_init_1 8 rfl) (zb_X11_init_1 9 rfl) (zb_X11_init_1 10 rfl) rfl
theorem dX11_init_49 : decode cX11_init 49 = .ok (.dup, 1) := dop_89 (zb_X11_init_1 11 rfl)
theorem dX11_init_50 : decode cX11_init 50 = .ok (.invokespecial 11, 3) := dop_183 (zb_X11_init_1 12 rfl) (zb_X11_init_1 13 rfl) (zb_X11_init_1 14 rfl) rfl
theorem dX11_init_53 : decode cX11_init 53 = .ok (.aastore, 1) := dop_83 (zb_X11_init_1 15 rfl)
theorem dX11_init_54 : decode cX11_init 54 = .ok (.iinc 1 1, 3) := dop_132 (zb_X11_init_1 16 rfl) (zb_X11_init_1 17 rfl) (zb_X11_init_1 18 rfl) rfl
theorem dX11_init_57 : decode cX11_init 57 = .ok (.goto (-21), 3) := dop_167 (zb_X11_init_1 19 rfl) (zb_X11_init_1 20 rfl) (zb_X11_init_1 21 rfl) rfl
theorem dX11_init_60 : decode cX11_init 60 = .ok (.aload_n 0, 1) := dop_42 (zb_X11_init_1 22 rfl)
theorem dX11_init_61 : decode cX11_init 61 = .ok (.iconst 2, 1) := dop_5 (zb_X11_init_1 23 rfl)
theorem dX11_init_62 : decode cX11_init 62 = .ok (.newarray .boolean, 2) := dop_188_4 (zb_X11_init_1 24 rfl) (zb_X11_init_1 25 rfl)
theorem dX11_init_64 : decode cX11_init 64 = .ok (.putfield 23, 3) := dop_181 (zb_X11_init_1 26 rfl) (zb_X11_init_1 27 rfl) (zb_X11_init_1 28 rfl) rfl
theorem dX11_init_67 : decode cX11_init 67 = .ok (.aload_n 0, 1) := dop_42 (zb_X11_init_1 29 rfl)
theorem dX11_init_68 : decode cX11_init 68 = .ok (.new 27, 3) := dop_187 (zb_X11_init_1 30 rfl) (zb_X11_init_1 31 rfl) (zb_X11_init_1 32 rfl) rfl
theorem dX11_init_71 : decode cX11_init 71 = .ok (.dup, 1) := dop_89 (zb_X11_init_1 33 rfl)
theorem dX11_init_72 : decode cX11_init 72 = .ok (.invokespecial 29, 3) := dop_183 (zb_X11_init_1 34 rfl) (zb_X11_init_1 35 rfl) (zb_X11_init_1 36 rfl) rfl
theorem dX11_init_75 : decode cX11_init 75 = .ok (.putfield 30, 3) := dop_181 (zb_X11_init_1 37 rfl) (zb_X11_init_1 38 rfl) (zb_X11_init_1 39 rfl) rfl
theorem ze_X11_init_3 : (dcn cX11_init).drop 116 = zt_X11_init_3 := dw_n (wl := zw_X11_init_2) ze_X11_init_2 rfl
theorem zb_X11_init_2 (j : Nat) {n : Nat} (e : zw_X11_init_2[j]? = some n) : dby cX11_init (78 + j) n := dw_b (t := zt_X11_init_3) ze_X11_init_2 j e
theorem dX11_init_78 : decode cX11_init 78 = .ok (.aload_n 0, 1) := dop_42 (zb_X11_init_2 0 rfl)
theorem dX11_init_79 : decode cX11_init 79 = .ok (.new 34, 3) := dop_187 (zb_X11_init_2 1 rfl) (zb_X11_init_2 2 rfl) (zb_X11_init_2 3 rfl) rfl
theorem dX11_init_82 : decode cX11_init 82 = .ok (.dup, 1) := dop_89 (zb_X11_init_2 4 rfl)
theorem dX11_init_83 : decode cX11_init 83 = .ok (.aload_n 0, 1) := dop_42 (zb_X11_init_2 5 rfl)
theorem dX11_init_84 : decode cX11_init 84 = .ok (.getfield 30, 3) := dop_180 (zb_X11_init_2 6 rfl) (zb_X11_init_2 7 rfl) (zb_X11_init_2 8 rfl) rfl
theorem dX11_init_87 : decode cX11_init 87 = .ok (.invokespecial 36, 3) := dop_183 (zb_X11_init_2 9 rfl) (zb_X11_init_2 10 rfl) (zb_X11_init_2 11 rfl) rfl
theorem dX11_init_90 : decode cX11_init 90 = .ok (.putfield 39, 3) := dop_181 (zb_X11_init_2 12 rfl) (zb_X11_init_2 13 rfl) (zb_X11_init_2 14 rfl) rfl
theorem dX11_init_93 : decode cX11_init 93 = .ok (.aload_n 0, 1) := dop_42 (zb_X11_init_2 15 rfl)
theorem dX11_init_94 : decode cX11_init 94 = .ok (.new 43, 3) := dop_187 (zb_X11_init_2 16 rfl) (zb_X11_init_2 17 rfl) (zb_X11_init_2 18 rfl) rfl
theorem dX11_init_97 : decode cX11_init 97 = .ok (.dup, 1) := dop_89 (zb_X11_init_2 19 rfl)
theorem dX11_init_98 : decode cX11_init 98 = .ok (.invokespecial 45, 3) := dop_183 (zb_X11_init_2 20 rfl) (zb_X11_init_2 21 rfl) (zb_X11_init_2 22 rfl) rfl
theorem dX11_init_101 : decode cX11_init 101 = .ok (.putfield 46, 3) := dop_181 (zb_X11_init_2 23 rfl) (zb_X11_init_2 24 rfl) (zb_X11_init_2 25 rfl) rfl
theorem dX11_init_104 : decode cX11_init 104 = .ok (.aload_n 0, 1) := dop_42 (zb_X11_init_2 26 rfl)
theorem dX11_init_105 : decode cX11_init 105 = .ok (.new 50, 3) := dop_187 (zb_X11_init_2 27 rfl) (zb_X11_init_2 28 rfl) (zb_X11_init_2 29 rfl) rfl
theorem dX11_init_108 : decode cX11_init 108 = .ok (.dup, 1) := dop_89 (zb_X11_init_2 30 rfl)
theorem dX11_init_109 : decode cX11_init 109 = .ok (.invokespecial 52, 3) := dop_183 (zb_X11_init_2 31 rfl) (zb_X11_init_2 32 rfl) (zb_X11_init_2 33 rfl) rfl
theorem dX11_init_112 : decode cX11_init 112 = .ok (.putfield 53, 3) := dop_181 (zb_X11_init_2 34 rfl) (zb_X11_init_2 35 rfl) (zb_X11_init_2 36 rfl) rfl
theorem dX11_init_115 : decode cX11_init 115 = .ok (.aload_n 0, 1) := dop_42 (zb_X11_init_2 37 rfl)
theorem ze_X11_init_4 : (dcn cX11_init).drop 156 = zt_X11_init_4 := dw_n (wl := zw_X11_init_3) ze_X11_init_3 rfl
theorem zb_X11_init_3 (j : Nat) {n : Nat} (e : zw_X11_init_3[j]? = some n) : dby cX11_init (116 + j) n := dw_b (t := zt_X11_init_4) ze_X11_init_3 j e
theorem dX11_init_116 : decode cX11_init 116 = .ok (.new 57, 3) := dop_187 (zb_X11_init_3 0 rfl) (zb_X11_init_3 1 rfl) (zb_X11_init_3 2 rfl) rfl
theorem dX11_init_119 : decode cX11_init 119 = .ok (.dup, 1) := dop_89 (zb_X11_init_3 3 rfl)
theorem dX11_init_120 : decode cX11_init 120 = .ok (.invokespecial 59, 3) := dop_183 (zb_X11_init_3 4 rfl) (zb_X11_init_3 5 rfl) (zb_X11_init_3 6 rfl) rfl
theorem dX11_init_123 : decode cX11_init 123 = .ok (.putfield 60, 3) := dop_181 (zb_X11_init_3 7 rfl) (zb_X11_init_3 8 rfl) (zb_X11_init_3 9 rfl) rfl
theorem dX11_init_126 : decode cX11_init 126 = .ok (.aload_n 0, 1) := dop_42 (zb_X11_init_3 10 rfl)
theorem dX11_init_127 : decode cX11_init 127 = .ok (.new 64, 3) := dop_187 (zb_X11_init_3 11 rfl) (zb_X11_init_3 12 rfl) (zb_X11_init_3 13 rfl) rfl
theorem dX11_init_130 : decode cX11_init 130 = .ok (.dup, 1) := dop_89 (zb_X11_init_3 14 rfl)
theorem dX11_init_131 : decode cX11_init 131 = .ok (.invokespecial 66, 3) := dop_183 (zb_X11_init_3 15 rfl) (zb_X11_init_3 16 rfl) (zb_X11_init_3 17 rfl) rfl
theorem dX11_init_134 : decode cX11_init 134 = .ok (.putfield 67, 3) := dop_181 (zb_X11_init_3 18 rfl) (zb_X11_init_3 19 rfl) (zb_X11_init_3 20 rfl) rfl
theorem dX11_init_137 : decode cX11_init 137 = .ok (.aload_n 0, 1) := dop_42 (zb_X11_init_3 21 rfl)
theorem dX11_init_138 : decode cX11_init 138 = .ok (.new 71, 3) := dop_187 (zb_X11_init_3 22 rfl) (zb_X11_init_3 23 rfl) (zb_X11_init_3 24 rfl) rfl
theorem dX11_init_141 : decode cX11_init 141 = .ok (.dup, 1) := dop_89 (zb_X11_init_3 25 rfl)
theorem dX11_init_142 : decode cX11_init 142 = .ok (.aload_n 0, 1) := dop_42 (zb_X11_init_3 26 rfl)
theorem dX11_init_143 : decode cX11_init 143 = .ok (.getfield 46, 3) := dop_180 (zb_X11_init_3 27 rfl) (zb_X11_init_3 28 rfl) (zb_X11_init_3 29 rfl) rfl
theorem dX11_init_146 : decode cX11_init 146 = .ok (.invokespecial 73, 3) := dop_183 (zb_X11_init_3 30 rfl) (zb_X11_init_3 31 rfl) (zb_X11_init_3 32 rfl) rfl
theorem dX11_init_149 : decode cX11_init 149 = .ok (.putfield 76, 3) := dop_181 (zb_X11_init_3 33 rfl) (zb_X11_init_3 34 rfl) (zb_X11_init_3 35 rfl) rfl
theorem dX11_init_152 : decode cX11_init 152 = .ok (.aload_n 0, 1) := dop_42 (zb_X11_init_3 36 rfl)
theorem dX11_init_153 : decode cX11_init 153 = .ok (.new 80, 3) := dop_187 (zb_X11_init_3 37 rfl) (zb_X11_init_3 38 rfl) (zb_X11_init_3 39 rfl) rfl
theorem ze_X11_init_5 : (dcn cX11_init).drop 196 = zt_X11_init_5 := dw_n (wl := zw_X11_init_4) ze_X11_init_4 rfl
theorem zb_X11_init_4 (j : Nat) {n : Nat} (e : zw_X11_init_4[j]? = some n) : dby cX11_init (156 + j) n := dw_b (t := zt_X11_init_5) ze_X11_init_4 j e
theorem dX11_init_156 : decode cX11_init 156 = .ok (.dup, 1) := dop_89 (zb_X11_init_4 0 rfl)
theorem dX11_init_157 : decode cX11_init 157 = .ok (.aload_n 0, 1) := dop_42 (zb_X11_init_4 1 rfl)
theorem dX11_init_158 : decode cX11_init 158 = .ok (.getfield 46, 3) := dop_180 (zb_X11_init_4 2 rfl) (zb_X11_init_4 3 rfl) (zb_X11_init_4 4 rfl) rfl
theorem dX11_init_161 : decode cX11_init 161 = .ok (.invokespecial 82, 3) := dop_183 (zb_X11_init_4 5 rfl) (zb_X11_init_4 6 rfl) (zb_X11_init_4 7 rfl) rfl
theorem dX11_init_164 : decode cX11_init 164 = .ok (.putfield 83, 3) := dop_181 (zb_X11_init_4 8 rfl) (zb_X11_init_4 9 rfl) (zb_X11_init_4 10 rfl) rfl
theorem dX11_init_167 : decode cX11_init 167 = .ok (.aload_n 0, 1) := dop_42 (zb_X11_init_4 11 rfl)
theorem dX11_init_168 : decode cX11_init 168 = .ok (.new 87, 3) := dop_187 (zb_X11_init_4 12 rfl) (zb_X11_init_4 13 rfl) (zb_X11_init_4 14 rfl) rfl
theorem dX11_init_171 : decode cX11_init 171 = .ok (.dup, 1) := dop_89 (zb_X11_init_4 15 rfl)
theorem dX11_init_172 : decode cX11_init 172 = .ok (.invokespecial 89, 3) := dop_183 (zb_X11_init_4 16 rfl) (zb_X11_init_4 17 rfl) (zb_X11_init_4 18 rfl) rfl
theorem dX11_init_175 : decode cX11_init 175 = .ok (.putfield 90, 3) := dop_181 (zb_X11_init_4 19 rfl) (zb_X11_init_4 20 rfl) (zb_X11_init_4 21 rfl) rfl
theorem dX11_init_178 : decode cX11_init 178 = .ok (.aload_n 0, 1) := dop_42 (zb_X11_init_4 22 rfl)
theorem dX11_init_179 : decode cX11_init 179 = .ok (.iconst 5, 1) := dop_8 (zb_X11_init_4 23 rfl)
theorem dX11_init_180 : decode cX11_init 180 = .ok (.newarray .int, 2) := dop_188_10 (zb_X11_init_4 24 rfl) (zb_X11_init_4 25 rfl)
theorem dX11_init_182 : decode cX11_init 182 = .ok (.putfield 94, 3) := dop_181 (zb_X11_init_4 26 rfl) (zb_X11_init_4 27 rfl) (zb_X11_init_4 28 rfl) rfl
theorem dX11_init_185 : decode cX11_init 185 = .ok (.aload_n 0, 1) := dop_42 (zb_X11_init_4 29 rfl)
theorem dX11_init_186 : decode cX11_init 186 = .ok (.iconst 0, 1) := dop_3 (zb_X11_init_4 30 rfl)
theorem dX11_init_187 : decode cX11_init 187 = .ok (.putfield 98, 3) := dop_181 (zb_X11_init_4 31 rfl) (zb_X11_init_4 32 rfl) (zb_X11_init_4 33 rfl) rfl
theorem dX11_init_190 : decode cX11_init 190 = .ok (.aload_n 0, 1) := dop_42 (zb_X11_init_4 34 rfl)
theorem dX11_init_191 : decode cX11_init 191 = .ok (.iconst 0, 1) := dop_3 (zb_X11_init_4 35 rfl)
theorem dX11_init_192 : decode cX11_init 192 = .ok (.putfield 102, 3) := dop_181 (zb_X11_init_4 36 rfl) (zb_X11_init_4 37 rfl) (zb_X11_init_4 38 rfl) rfl
theorem dX11_init_195 : decode cX11_init 195 = .ok (.aload_n 0, 1) := dop_42 (zb_X11_init_4 39 rfl)
theorem zb_X11_init_5 (j : Nat) {n : Nat} (e : zw_X11_init_5[j]? = some n) : dby cX11_init (196 + j) n := dw_b (t := []) ze_X11_init_5 j e
theorem dX11_init_196 : decode cX11_init 196 = .ok (.iconst (-1), 1) := dop_2 (zb_X11_init_5 0 rfl)
theorem dX11_init_197 : decode cX11_init 197 = .ok (.putfield 105, 3) := dop_181 (zb_X11_init_5 1 rfl) (zb_X11_init_5 2 rfl) (zb_X11_init_5 3 rfl) rfl
theorem dX11_init_200 : decode cX11_init 200 = .ok (.return_, 1) := dop_177 (zb_X11_init_5 4 rfl)
def zw_X11_week_1 : List Nat := [28, 79, 42, 29, 182, 0, 123, 172]
def zt_X11_week_1 : List Nat := zw_X11_week_1 ++ []
def zw_X11_week_0 : List Nat := [27, 184, 0, 108, 153, 0, 12, 28, 2, 6, 184, 0, 112, 154, 0, 9, 42, 2, 182, 0, 116, 172, 42, 180, 0, 12, 180, 0, 120, 27, 46, 62, 42, 180, 0, 12, 180, 0, 120, 27]
def zt_X11_week_0 : List Nat := zw_X11_week_0 ++ zt_X11_week_1
theorem ze_X11_week_0 : (dcn cX11_week).drop 0 = zt_X11_week_0 := by decide +kernel
theorem ze_X11_week_1 : (dcn cX11_week).drop 40 = zt_X11_week_1 := dw_n (wl := zw_X11_week_0) ze_X11_week_0 rfl
theorem zb_X11_week_0 (j : Nat) {n : Nat} (e : zw_X11_week_0[j]? = some n) : dby cX11_week (0 + j) n := dw_b (t := zt_X11_week_1) ze_X11_week_0 j e
theorem dX11_week_0 : decode cX11_week 0 = .ok (.iload_n 1, 1) := dop_27 (zb_X11_week_0 0 rfl)
theorem dX11_week_1 : decode cX11_week 1 = .ok (.invokestatic 108, 3) := dop_184 (zb_X11_week_0 1 rfl) (zb_X11_week_0 2 rfl) (zb_X11_week_0 3 rfl) rfl
theorem dX11_week_4 : decode cX11_week 4 = .ok (.ifCond .eq 12, 3) := dop_153 (zb_X11_week_0 4 rfl) (zb_X11_week_0 5 rfl) (zb_X11_week_0 6 rfl) rfl
theorem dX11_week_7 : decode cX11_week 7 = .ok (.iload_n 2, 1) := dop_28 (zb_X11_week_0 7 rfl)
theorem dX11_week_8 : decode cX11_week 8 = .ok (.iconst (-1), 1) := dop_2 (zb_X11_week_0 8 rfl)
theorem dX11_week_9 : decode cX11_week 9 = .ok (.iconst 3, 1) := dop_6 (zb_X11_week_0 9 rfl)
theorem dX11_week_10 : decode cX11_week 10 = .ok (.invokestatic 112, 3) := dop_184 (zb_X11_week_0 10 rfl) (zb_X11_week_0 11 rfl) (zb_X11_week_0 12 rfl) rfl
theorem dX11_week_13 : decode cX11_week 13 = .ok (.ifCond .ne 9, 3) := dop_154 (zb_X11_week_0 13 rfl) (zb_X11_week_0 14 rfl) (zb_X11_week_0 15 rfl) rfl
theorem dX11_week_16 : decode cX11_week 16 = .ok (.aload_n 0, 1) := dop_42 (zb_X11_week_0 16 rfl)
theorem dX11_week_17 : decode cX11_week 17 = .ok (.iconst (-1), 1) := dop_2 (zb_X11_week_0 17 rfl)
theorem dX11_week_18 : decode cX11_week 18 = .ok (.invokevirtual 116, 3) := dop_182 (zb_X11_week_0 18 rfl) (zb_X11_week_0 19 rfl) (zb_X11_week_0 20 rfl) rfl
theorem dX11_week_21 : decode cX11_week 21 = .ok (.ireturn, 1) := dop_172 (zb_X11_week_0 21 rfl)
theorem dX11_week_22 : decode cX11_week 22 = .ok (.aload_n 0, 1) := dop_42 (zb_X11_week_0 22 rfl)
theorem dX11_week_23 : decode cX11_week 23 = .ok (.getfield 12, 3) := dop_180 (zb_X11_week_0 23 rfl) (zb_X11_week_0 24 rfl) (zb_X11_week_0 25 rfl) rfl
theorem dX11_week_26 : decode cX11_week 26 = .ok (.getfield 120, 3) := dop_180 (zb_X11_week_0 26 rfl) (zb_X11_week_0 27 rfl) (zb_X11_week_0 28 rfl) rfl
theorem dX11_week_29 : decode cX11_week 29 = .ok (.iload_n 1, 1) := dop_27 (zb_X11_week_0 29 rfl)
theorem dX11_week_30 : decode cX11_week 30 = .ok (.iaload, 1) := dop_46 (zb_X11_week_0 30 rfl)
theorem dX11_week_31 : decode cX11_week 31 = .ok (.istore_n 3, 1) := dop_62 (zb_X11_week_0 31 rfl)
theorem dX11_week_32 : decode cX11_week 32 = .ok (.aload_n 0, 1) := dop_42 (zb_X11_week_0 32 rfl)
theorem dX11_week_33 : decode cX11_week 33 = .ok (.getfield 12, 3) := dop_180 (zb_X11_week_0 33 rfl) (zb_X11_week_0 34 rfl) (zb_X11_week_0 35 rfl) rfl
theorem dX11_week_36 : decode cX11_week 36 = .ok (.getfield 120, 3) := dop_180 (zb_X11_week_0 36 rfl) (zb_X11_week_0 37 rfl) (zb_X11_week_0 38 rfl) rfl
theorem dX11_week_39 : decode cX11_week 39 = .ok (.iload_n 1, 1) := dop_27 (zb_X11_week_0 39 rfl)
theorem zb_X11_week_1 (j : Nat) {n : Nat} (e : zw_X11_week_1[j]? = some n) : dby cX11_week (40 + j) n := dw_b (t := []) ze_X11_week_1 j e
theorem dX11_week_40 : decode cX11_week 40 = .ok (.iload_n 2, 1) := dop_28 (zb_X11_week_1 0 rfl)
theorem dX11_week_41 : decode cX11_week 41 = .ok (.iastore, 1) := dop_79 (zb_X11_week_1 1 rfl)
theorem dX11_week_42 : decode cX11_week 42 = .ok (.aload_n 0, 1) := dop_42 (zb_X11_week_1 2 rfl)
theorem dX11_week_43 : decode cX11_week 43 = .ok (.iload_n 3, 1) := dop_29 (zb_X11_week_1 3 rfl)
theorem dX11_week_44 : decode cX11_week 44 = .ok (.invokevirtual 123, 3) := dop_182 (zb_X11_week_1 4 rfl) (zb_X11_week_1 5 rfl) (zb_X11_week_1 6 rfl) rfl
theorem dX11_week_47 : decode cX11_week 47 = .ok (.ireturn, 1) := dop_172 (zb_X11_week_1 7 rfl)
def zw_X11_cut_1 : List Nat := [180, 0, 12, 180, 0, 129, 27, 28, 79, 42, 29, 182, 0, 123, 172]
def zt_X11_cut_1 : List Nat := zw_X11_cut_1 ++ []
def zw_X11_cut_0 : List Nat := [27, 184, 0, 126, 153, 0, 18, 28, 2, 159, 0, 19, 28, 4, 16, 31, 184, 0, 112, 154, 0, 9, 42, 2, 182, 0, 116, 172, 42, 180, 0, 12, 180, 0, 129, 27, 46, 62, 42]
def zt_X11_cut_0 : List Nat := zw_X11_cut_0 ++ zt_X11_cut_1
theorem ze_X11_cut_0 : (dcn cX11_cut).drop 0 = zt_X11_cut_0 := by decide +kernel
theorem ze_X11_cut_1 : (dcn cX11_cut).drop 39 = zt_X11_cut_1 := dw_n (wl := zw_X11_cut_0) ze_X11_cut_0 rfl
theorem zb_X11_cut_0 (j : Nat) {n : Nat} (e : zw_X11_cut_0[j]? = some n) : dby cX11_cut (0 + j) n := dw_b (t := zt_X11_cut_1) ze_X11_cut_0 j e
theorem dX11_cut_0 : decode cX11_cut 0 = .ok (.iload_n 1, 1) := dop_27 (zb_X11_cut_0 0 rfl)
theorem dX11_cut_1 : decode cX11_cut 1 = .ok (.invokestatic 126, 3) := dop_184 (zb_X11_cut_0 1 rfl) (zb_X11_cut_0 2 rfl) (zb_X11_cut_0 3 rfl) rfl
theorem dX11_cut_4 : decode cX11_cut 4 = .ok (.ifCond .eq 18, 3) := dop_153 (zb_X11_cut_0 4 rfl) (zb_X11_cut_0 5 rfl) (zb_X11_cut_0 6 rfl) rfl
theorem dX11_cut_7 : decode cX11_cut 7 = .ok (.iload_n 2, 1) := dop_28 (zb_X11_cut_0 7 rfl)
theorem dX11_cut_8 : decode cX11_cut 8 = .ok (.iconst (-1), 1) := dop_2 (zb_X11_cut_0 8 rfl)
theorem dX11_cut_9 : decode cX11_cut 9 = .ok (.if_icmp .eq 19, 3) := dop_159 (zb_X11_cut_0 9 rfl) (zb_X11_cut_0 10 rfl) (zb_X11_cut_0 11 rfl) rfl
theorem dX11_cut_12 : decode cX11_cut 12 = .ok (.iload_n 2, 1) := dop_28 (zb_X11_cut_0 12 rfl)
theorem dX11_cut_13 : decode cX11_cut 13 = .ok (.iconst 1, 1) := dop_4 (zb_X11_cut_0 13 rfl)
theorem dX11_cut_14 : decode cX11_cut 14 = .ok (.bipush 31, 2) := dop_16 (zb_X11_cut_0 14 rfl) (zb_X11_cut_0 15 rfl) rfl
theorem dX11_cut_16 : decode cX11_cut 16 = .ok (.invokestatic 112, 3) := dop_184 (zb_X11_cut_0 16 rfl) (zb_X11_cut_0 17 rfl) (zb_X11_cut_0 18 rfl) rfl
theorem dX11_cut_19 : decode cX11_cut 19 = .ok (.ifCond .ne 9, 3) := dop_154 (zb_X11_cut_0 19 rfl) (zb_X11_cut_0 20 rfl) (zb_X11_cut_0 21 rfl) rfl
theorem dX11_cut_22 : decode cX11_cut 22 = .ok (.aload_n 0, 1) := dop_42 (zb_X11_cut_0 22 rfl)
theorem dX11_cut_23 : decode cX11_cut 23 = .ok (.iconst (-1), 1) := dop_2 (zb_X11_cut_0 23 rfl)
theorem dX11_cut_24 : decode cX11_cut 24 = .ok (.invokevirtual 116, 3) := dop_182 (zb_X11_cut_0 24 rfl) (zb_X11_cut_0 25 rfl) (zb_X11_cut_0 26 rfl) rfl
theorem dX11_cut_27 : decode cX11_cut 27 = .ok (.ireturn, 1) := dop_172 (zb_X11_cut_0 27 rfl)
theorem dX11_cut_28 : decode cX11_cut 28 = .ok (.aload_n 0, 1) := dop_42 (zb_X11_cut_0 28 rfl)
theorem dX11_cut_29 : decode cX11_cut 29 = .ok (.getfield 12, 3) := dop_180 (zb_X11_cut_0 29 rfl) (zb_X11_cut_0 30 rfl) (zb_X11_cut_0 31 rfl) rfl
theorem dX11_cut_32 : decode cX11_cut 32 = .ok (.getfield 129, 3) := dop_180 (zb_X11_cut_0 32 rfl) (zb_X11_cut_0 33 rfl) (zb_X11_cut_0 34 rfl) rfl
theorem dX11_cut_35 : decode cX11_cut 35 = .ok (.iload_n 1, 1) := dop_27 (zb_X11_cut_0 35 rfl)
theorem dX11_cut_36 : decode cX11_cut 36 = .ok (.iaload, 1) := dop_46 (zb_X11_cut_0 36 rfl)
theorem dX11_cut_37 : decode cX11_cut 37 = .ok (.istore_n 3, 1) := dop_62 (zb_X11_cut_0 37 rfl)
theorem dX11_cut_38 : decode cX11_cut 38 = .ok (.aload_n 0, 1) := dop_42 (zb_X11_cut_0 38 rfl)
theorem zb_X11_cut_1 (j : Nat) {n : Nat} (e : zw_X11_cut_1[j]? = some n) : dby cX11_cut (39 + j) n := dw_b (t := []) ze_X11_cut_1 j e
theorem dX11_cut_39 : decode cX11_cut 39 = .ok (.getfield 12, 3) := dop_180 (zb_X11_cut_1 0 rfl) (zb_X11_cut_1 1 rfl) (zb_X11_cut_1 2 rfl) rfl
theorem dX11_cut_42 : decode cX11_cut 42 = .ok (.getfield 129, 3) := dop_180 (zb_X11_cut_1 3 rfl) (zb_X11_cut_1 4 rfl) (zb_X11_cut_1 5 rfl) rfl
theorem dX11_cut_45 : decode cX11_cut 45 = .ok (.iload_n 1, 1) := dop_27 (zb_X11_cut_1 6 rfl)
theorem dX11_cut_46 : decode cX11_cut 46 = .ok (.iload_n 2, 1) := dop_28 (zb_X11_cut_1 7 rfl)
theorem dX11_cut_47 : decode cX11_cut 47 = .ok (.iastore, 1) := dop_79 (zb_X11_cut_1 8 rfl)
theorem dX11_cut_48 : decode cX11_cut 48 = .ok (.aload_n 0, 1) := dop_42 (zb_X11_cut_1 9 rfl)
theorem dX11_cut_49 : decode cX11_cut 49 = .ok (.iload_n 3, 1) := dop_29 (zb_X11_cut_1 10 rfl)
theorem dX11_cut_50 : decode cX11_cut 50 = .ok (.invokevirtual 123, 3) := dop_182 (zb_X11_cut_1 11 rfl) (zb_X11_cut_1 12 rfl) (zb_X11_cut_1 13 rfl) rfl
theorem dX11_cut_53 : decode cX11_cut 53 = .ok (.ireturn, 1) := dop_172 (zb_X11_cut_1 14 rfl)
def zw_X11_shorter_2 : List Nat := [182, 0, 123, 172]
def zt_X11_shorter_2 : List Nat := zw_X11_shorter_2 ++ []
def zw_X11_shorter_1 : List Nat := [182, 0, 116, 172, 42, 180, 0, 12, 182, 0, 139, 154, 0, 10, 42, 16, 251, 182, 0, 116, 172, 42, 180, 0, 12, 27, 28, 182, 0, 143, 42, 42, 180, 0, 12, 182, 0, 147]
def zt_X11_shorter_1 : List Nat := zw_X11_shorter_1 ++ zt_X11_shorter_2
def zw_X11_shorter_0 : List Nat := [27, 184, 0, 132, 153, 0, 15, 28, 184, 0, 132, 153, 0, 8, 27, 28, 160, 0, 9, 42, 2, 182, 0, 116, 172, 42, 180, 0, 12, 27, 28, 182, 0, 135, 153, 0, 10, 42, 16, 253]
def zt_X11_shorter_0 : List Nat := zw_X11_shorter_0 ++ zt_X11_shorter_1
theorem ze_X11_shorter_0 : (dcn cX11_shorter).drop 0 = zt_X11_shorter_0 := by decide +kernel
theorem ze_X11_shorter_1 : (dcn cX11_shorter).drop 40 = zt_X11_shorter_1 := dw_n (wl := zw_X11_shorter_0) ze_X11_shorter_0 rfl
theorem zb_X11_shorter_0 (j : Nat) {n : Nat} (e : zw_X11_shorter_0[j]? = some n) : dby cX11_shorter (0 + j) n := dw_b (t := zt_X11_shorter_1) ze_X11_shorter_0 j e
theorem dX11_shorter_0 : decode cX11_shorter 0 = .ok (.iload_n 1, 1) := dop_27 (zb_X11_shorter_0 0 rfl)
theorem dX11_shorter_1 : decode cX11_shorter 1 = .ok (.invokestatic 132, 3) := dop_184 (zb_X11_shorter_0 1 rfl) (zb_X11_shorter_0 2 rfl) (zb_X11_shorter_0 3 rfl) rfl
theorem dX11_shorter_4 : decode cX11_shorter 4 = .ok (.ifCond .eq 15, 3) := dop_153 (zb_X11_shorter_0 4 rfl) (zb_X11_shorter_0 5 rfl) (zb_X11_shorter_0 6 rfl) rfl
theorem dX11_shorter_7 : decode cX11_shorter 7 = .ok (.iload_n 2, 1) := dop_28 (zb_X11_shorter_0 7 rfl)
theorem dX11_shorter_8 : decode cX11_shorter 8 = .ok (.invokestatic 132, 3) := dop_184 (zb_X11_shorter_0 8 rfl) (zb_X11_shorter_0 9 rfl) (zb_X11_shorter_0 10 rfl) rfl
theorem dX11_shorter_11 : decode cX11_shorter 11 = .ok (.ifCond .eq 8, 3) := dop_153 (zb_X11_shorter_0 11 rfl) (zb_X11_shorter_0 12 rfl) (zb_X11_shorter_0 13 rfl) rfl
theorem dX11_shorter_14 : decode cX11_shorter 14 = .ok (.iload_n 1, 1) := dop_27 (zb_X11_shorter_0 14 rfl)
theorem dX11_shorter_15 : decode cX11_shorter 15 = .ok (.iload_n 2, 1) := dop_28 (zb_X11_shorter_0 15 rfl)
theorem dX11_shorter_16 : decode cX11_shorter 16 = .ok (.if_icmp .ne 9, 3) := dop_160 (zb_X11_shorter_0 16 rfl) (zb_X11_shorter_0 17 rfl) (zb_X11_shorter_0 18 rfl) rfl
theorem dX11_shorter_19 : decode cX11_shorter 19 = .ok (.aload_n 0, 1) := dop_42 (zb_X11_shorter_0 19 rfl)
theorem dX11_shorter_20 : decode cX11_shorter 20 = .ok (.iconst (-1), 1) := dop_2 (zb_X11_shorter_0 20 rfl)
theorem dX11_shorter_21 : decode cX11_shorter 21 = .ok (.invokevirtual 116, 3) := dop_182 (zb_X11_shorter_0 21 rfl) (zb_X11_shorter_0 22 rfl) (zb_X11_shorter_0 23 rfl) rfl
theorem dX11_shorter_24 : decode cX11_shorter 24 = .ok (.ireturn, 1) := dop_172 (zb_X11_shorter_0 24 rfl)
theorem dX11_shorter_25 : decode cX11_shorter 25 = .ok (.aload_n 0, 1) := dop_42 (zb_X11_shorter_0 25 rfl)
theorem dX11_shorter_26 : decode cX11_shorter 26 = .ok (.getfield 12, 3) := dop_180 (zb_X11_shorter_0 26 rfl) (zb_X11_shorter_0 27 rfl) (zb_X11_shorter_0 28 rfl) rfl
theorem dX11_shorter_29 : decode cX11_shorter 29 = .ok (.iload_n 1, 1) := dop_27 (zb_X11_shorter_0 29 rfl)
theorem dX11_shorter_30 : decode cX11_shorter 30 = .ok (.iload_n 2, 1) := dop_28 (zb_X11_shorter_0 30 rfl)
theorem dX11_shorter_31 : decode cX11_shorter 31 = .ok (.invokevirtual 135, 3) := dop_182 (zb_X11_shorter_0 31 rfl) (zb_X11_shorter_0 32 rfl) (zb_X11_shorter_0 33 rfl) rfl
theorem dX11_shorter_34 : decode cX11_shorter 34 = .ok (.ifCond .eq 10, 3) := dop_153 (zb_X11_shorter_0 34 rfl) (zb_X11_shorter_0 35 rfl) (zb_X11_shorter_0 36 rfl) rfl
theorem dX11_shorter_37 : decode cX11_shorter 37 = .ok (.aload_n 0, 1) := dop_42 (zb_X11_shorter_0 37 rfl)
theorem dX11_shorter_38 : decode cX11_shorter 38 = .ok (.bipush (-3), 2) := dop_16 (zb_X11_shorter_0 38 rfl) (zb_X11_shorter_0 39 rfl) rfl
theorem ze_X11_shorter_2 : (dcn cX11_shorter).drop 78 = zt_X11_shorter_2 := dw_n (wl := zw_X11_shorter_1) ze_X11_shorter_1 rfl
theorem zb_X11_shorter_1 (j : Nat) {n : Nat} (e : zw_X11_shorter_1[j]? = some n) : dby cX11_shorter (40 + j) n := dw_b (t := zt_X11_shorter_2) ze_X11_shorter_1 j e
theorem dX11_shorter_40 : decode cX11_shorter 40 = .ok (.invokevirtual 116, 3) := dop_182 (zb_X11_shorter_1 0 rfl) (zb_X11_shorter_1 1 rfl) (zb_X11_shorter_1 2 rfl) rfl
theorem dX11_shorter_43 : decode cX11_shorter 43 = .ok (.ireturn, 1) := dop_172 (zb_X11_shorter_1 3 rfl)
theorem dX11_shorter_44 : decode cX11_shorter 44 = .ok (.aload_n 0, 1) := dop_42 (zb_X11_shorter_1 4 rfl)
theorem dX11_shorter_45 : decode cX11_shorter 45 = .ok (.getfield 12, 3) := dop_180 (zb_X11_shorter_1 5 rfl) (zb_X11_shorter_1 6 rfl) (zb_X11_shorter_1 7 rfl) rfl
theorem dX11_shorter_48 : decode cX11_shorter 48 = .ok (.invokevirtual 139, 3) := dop_182 (zb_X11_shorter_1 8 rfl) (zb_X11_shorter_1 9 rfl) (zb_X11_shorter_1 10 rfl) rfl
theorem dX11_shorter_51 : decode cX11_shorter 51 = .ok (.ifCond .ne 10, 3) := dop_154 (zb_X11_shorter_1 11 rfl) (zb_X11_shorter_1 12 rfl) (zb_X11_shorter_1 13 rfl) rfl
theorem dX11_shorter_54 : decode cX11_shorter 54 = .ok (.aload_n 0, 1) := dop_42 (zb_X11_shorter_1 14 rfl)
theorem dX11_shorter_55 : decode cX11_shorter 55 = .ok (.bipush (-5), 2) := dop_16 (zb_X11_shorter_1 15 rfl) (zb_X11_shorter_1 16 rfl) rfl
theorem dX11_shorter_57 : decode cX11_shorter 57 = .ok (.invokevirtual 116, 3) := dop_182 (zb_X11_shorter_1 17 rfl) (zb_X11_shorter_1 18 rfl) (zb_X11_shorter_1 19 rfl) rfl
theorem dX11_shorter_60 : decode cX11_shorter 60 = .ok (.ireturn, 1) := dop_172 (zb_X11_shorter_1 20 rfl)
theorem dX11_shorter_61 : decode cX11_shorter 61 = .ok (.aload_n 0, 1) := dop_42 (zb_X11_shorter_1 21 rfl)
theorem dX11_shorter_62 : decode cX11_shorter 62 = .ok (.getfield 12, 3) := dop_180 (zb_X11_shorter_1 22 rfl) (zb_X11_shorter_1 23 rfl) (zb_X11_shorter_1 24 rfl) rfl
theorem dX11_shorter_65 : decode cX11_shorter 65 = .ok (.iload_n 1, 1) := dop_27 (zb_X11_shorter_1 25 rfl)
theorem dX11_shorter_66 : decode cX11_shorter 66 = .ok (.iload_n 2, 1) := dop_28 (zb_X11_shorter_1 26 rfl)
theorem dX11_shorter_67 : decode cX11_shorter 67 = .ok (.invokevirtual 143, 3) := dop_182 (zb_X11_shorter_1 27 rfl) (zb_X11_shorter_1 28 rfl) (zb_X11_shorter_1 29 rfl) rfl
theorem dX11_shorter_70 : decode cX11_shorter 70 = .ok (.aload_n 0, 1) := dop_42 (zb_X11_shorter_1 30 rfl)
theorem dX11_shorter_71 : decode cX11_shorter 71 = .ok (.aload_n 0, 1) := dop_42 (zb_X11_shorter_1 31 rfl)
theorem dX11_shorter_72 : decode cX11_shorter 72 = .ok (.getfield 12, 3) := dop_180 (zb_X11_shorter_1 32 rfl) (zb_X11_shorter_1 33 rfl) (zb_X11_shorter_1 34 rfl) rfl
theorem dX11_shorter_75 : decode cX11_shorter 75 = .ok (.invokevirtual 147, 3) := dop_182 (zb_X11_shorter_1 35 rfl) (zb_X11_shorter_1 36 rfl) (zb_X11_shorter_1 37 rfl) rfl
theorem zb_X11_shorter_2 (j : Nat) {n : Nat} (e : zw_X11_shorter_2[j]? = some n) : dby cX11_shorter (78 + j) n := dw_b (t := []) ze_X11_shorter_2 j e
theorem dX11_shorter_78 : decode cX11_shorter 78 = .ok (.invokevirtual 123, 3) := dop_182 (zb_X11_shorter_2 0 rfl) (zb_X11_shorter_2 1 rfl) (zb_X11_shorter_2 2 rfl) rfl
theorem dX11_shorter_81 : decode cX11_shorter 81 = .ok (.ireturn, 1) := dop_172 (zb_X11_shorter_2 3 rfl)
def zw_X11_entry_1 : List Nat := [29, 21, 4, 182, 0, 158, 42, 42, 180, 0, 12, 180, 0, 162, 4, 100, 182, 0, 123, 172]
def zt_X11_entry_1 : List Nat := zw_X11_entry_1 ++ []
def zw_X11_entry_0 : List Nat := [27, 28, 29, 21, 4, 184, 0, 151, 154, 0, 9, 42, 2, 182, 0, 116, 172, 42, 180, 0, 12, 182, 0, 155, 154, 0, 10, 42, 16, 251, 182, 0, 116, 172, 42, 180, 0, 12, 27, 28]
def zt_X11_entry_0 : List Nat := zw_X11_entry_0 ++ zt_X11_entry_1
theorem ze_X11_entry_0 : (dcn cX11_entry).drop 0 = zt_X11_entry_0 := by decide +kernel
theorem ze_X11_entry_1 : (dcn cX11_entry).drop 40 = zt_X11_entry_1 := dw_n (wl := zw_X11_entry_0) ze_X11_entry_0 rfl
theorem zb_X11_entry_0 (j : Nat) {n : Nat} (e : zw_X11_entry_0[j]? = some n) : dby cX11_entry (0 + j) n := dw_b (t := zt_X11_entry_1) ze_X11_entry_0 j e
theorem dX11_entry_0 : decode cX11_entry 0 = .ok (.iload_n 1, 1) := dop_27 (zb_X11_entry_0 0 rfl)
theorem dX11_entry_1 : decode cX11_entry 1 = .ok (.iload_n 2, 1) := dop_28 (zb_X11_entry_0 1 rfl)
theorem dX11_entry_2 : decode cX11_entry 2 = .ok (.iload_n 3, 1) := dop_29 (zb_X11_entry_0 2 rfl)
theorem dX11_entry_3 : decode cX11_entry 3 = .ok (.iload 4, 2) := dop_21 (zb_X11_entry_0 3 rfl) (zb_X11_entry_0 4 rfl)
theorem dX11_entry_5 : decode cX11_entry 5 = .ok (.invokestatic 151, 3) := dop_184 (zb_X11_entry_0 5 rfl) (zb_X11_entry_0 6 rfl) (zb_X11_entry_0 7 rfl) rfl
theorem dX11_entry_8 : decode cX11_entry 8 = .ok (.ifCond .ne 9, 3) := dop_154 (zb_X11_entry_0 8 rfl) (zb_X11_entry_0 9 rfl) (zb_X11_entry_0 10 rfl) rfl
theorem dX11_entry_11 : decode cX11_entry 11 = .ok (.aload_n 0, 1) := dop_42 (zb_X11_entry_0 11 rfl)
theorem dX11_entry_12 : decode cX11_entry 12 = .ok (.iconst (-1), 1) := dop_2 (zb_X11_entry_0 12 rfl)
theorem dX11_entry_13 : decode cX11_entry 13 = .ok (.invokevirtual 116, 3) := dop_182 (zb_X11_entry_0 13 rfl) (zb_X11_entry_0 14 rfl) (zb_X11_entry_0 15 rfl) rfl
theorem dX11_entry_16 : decode cX11_entry 16 = .ok (.ireturn, 1) := dop_172 (zb_X11_entry_0 16 rfl)
theorem dX11_entry_17 : decode cX11_entry 17 = .ok (.aload_n 0, 1) := dop_42 (zb_X11_entry_0 17 rfl)
theorem dX11_entry_18 : decode cX11_entry 18 = .ok (.getfield 12, 3) := dop_180 (zb_X11_entry_0 18 rfl) (zb_X11_entry_0 19 rfl) (zb_X11_entry_0 20 rfl) rfl
theorem dX11_entry_21 : decode cX11_entry 21 = .ok (.invokevirtual 155, 3) := dop_182 (zb_X11_entry_0 21 rfl) (zb_X11_entry_0 22 rfl) (zb_X11_entry_0 23 rfl) rfl
theorem dX11_entry_24 : decode cX11_entry 24 = .ok (.ifCond .ne 10, 3) := dop_154 (zb_X11_entry_0 24 rfl) (zb_X11_entry_0 25 rfl) (zb_X11_entry_0 26 rfl) rfl
theorem dX11_entry_27 : decode cX11_entry 27 = .ok (.aload_n 0, 1) := dop_42 (zb_X11_entry_0 27 rfl)
theorem dX11_entry_28 : decode cX11_entry 28 = .ok (.bipush (-5), 2) := dop_16 (zb_X11_entry_0 28 rfl) (zb_X11_entry_0 29 rfl) rfl
theorem dX11_entry_30 : decode cX11_entry 30 = .ok (.invokevirtual 116, 3) := dop_182 (zb_X11_entry_0 30 rfl) (zb_X11_entry_0 31 rfl) (zb_X11_entry_0 32 rfl) rfl
theorem dX11_entry_33 : decode cX11_entry 33 = .ok (.ireturn, 1) := dop_172 (zb_X11_entry_0 33 rfl)
theorem dX11_entry_34 : decode cX11_entry 34 = .ok (.aload_n 0, 1) := dop_42 (zb_X11_entry_0 34 rfl)
theorem dX11_entry_35 : decode cX11_entry 35 = .ok (.getfield 12, 3) := dop_180 (zb_X11_entry_0 35 rfl) (zb_X11_entry_0 36 rfl) (zb_X11_entry_0 37 rfl) rfl
theorem dX11_entry_38 : decode cX11_entry 38 = .ok (.iload_n 1, 1) := dop_27 (zb_X11_entry_0 38 rfl)
theorem dX11_entry_39 : decode cX11_entry 39 = .ok (.iload_n 2, 1) := dop_28 (zb_X11_entry_0 39 rfl)
theorem zb_X11_entry_1 (j : Nat) {n : Nat} (e : zw_X11_entry_1[j]? = some n) : dby cX11_entry (40 + j) n := dw_b (t := []) ze_X11_entry_1 j e
theorem dX11_entry_40 : decode cX11_entry 40 = .ok (.iload_n 3, 1) := dop_29 (zb_X11_entry_1 0 rfl)
theorem dX11_entry_41 : decode cX11_entry 41 = .ok (.iload 4, 2) := dop_21 (zb_X11_entry_1 1 rfl) (zb_X11_entry_1 2 rfl)
theorem dX11_entry_43 : decode cX11_entry 43 = .ok (.invokevirtual 158, 3) := dop_182 (zb_X11_entry_1 3 rfl) (zb_X11_entry_1 4 rfl) (zb_X11_entry_1 5 rfl) rfl
theorem dX11_entry_46 : decode cX11_entry 46 = .ok (.aload_n 0, 1) := dop_42 (zb_X11_entry_1 6 rfl)
theorem dX11_entry_47 : decode cX11_entry 47 = .ok (.aload_n 0, 1) := dop_42 (zb_X11_entry_1 7 rfl)
theorem dX11_entry_48 : decode cX11_entry 48 = .ok (.getfield 12, 3) := dop_180 (zb_X11_entry_1 8 rfl) (zb_X11_entry_1 9 rfl) (zb_X11_entry_1 10 rfl) rfl
theorem dX11_entry_51 : decode cX11_entry 51 = .ok (.getfield 162, 3) := dop_180 (zb_X11_entry_1 11 rfl) (zb_X11_entry_1 12 rfl) (zb_X11_entry_1 13 rfl) rfl
theorem dX11_entry_54 : decode cX11_entry 54 = .ok (.iconst 1, 1) := dop_4 (zb_X11_entry_1 14 rfl)
theorem dX11_entry_55 : decode cX11_entry 55 = .ok (.isub, 1) := dop_100 (zb_X11_entry_1 15 rfl)
theorem dX11_entry_56 : decode cX11_entry 56 = .ok (.invokevirtual 123, 3) := dop_182 (zb_X11_entry_1 16 rfl) (zb_X11_entry_1 17 rfl) (zb_X11_entry_1 18 rfl) rfl
theorem dX11_entry_59 : decode cX11_entry 59 = .ok (.ireturn, 1) := dop_172 (zb_X11_entry_1 19 rfl)
def zw_X11_counts_2 : List Nat := [29, 182, 0, 123, 172]
def zt_X11_counts_2 : List Nat := zw_X11_counts_2 ++ []
def zw_X11_counts_1 : List Nat := [182, 0, 116, 172, 42, 180, 0, 12, 27, 182, 0, 165, 153, 0, 7, 4, 167, 0, 4, 3, 62, 42, 180, 0, 12, 27, 28, 4, 160, 0, 7, 4, 167, 0, 4, 3, 182, 0, 168, 42]
def zt_X11_counts_1 : List Nat := zw_X11_counts_1 ++ zt_X11_counts_2
def zw_X11_counts_0 : List Nat := [27, 3, 16, 23, 184, 0, 112, 153, 0, 12, 28, 3, 4, 184, 0, 112, 154, 0, 9, 42, 2, 182, 0, 116, 172, 27, 42, 180, 0, 12, 180, 0, 162, 161, 0, 10, 42, 16, 254]
def zt_X11_counts_0 : List Nat := zw_X11_counts_0 ++ zt_X11_counts_1
theorem ze_X11_counts_0 : (dcn cX11_counts).drop 0 = zt_X11_counts_0 := by decide +kernel
theorem ze_X11_counts_1 : (dcn cX11_counts).drop 39 = zt_X11_counts_1 := dw_n (wl := zw_X11_counts_0) ze_X11_counts_0 rfl
theorem zb_X11_counts_0 (j : Nat) {n : Nat} (e : zw_X11_counts_0[j]? = some n) : dby cX11_counts (0 + j) n := dw_b (t := zt_X11_counts_1) ze_X11_counts_0 j e
theorem dX11_counts_0 : decode cX11_counts 0 = .ok (.iload_n 1, 1) := dop_27 (zb_X11_counts_0 0 rfl)
theorem dX11_counts_1 : decode cX11_counts 1 = .ok (.iconst 0, 1) := dop_3 (zb_X11_counts_0 1 rfl)
theorem dX11_counts_2 : decode cX11_counts 2 = .ok (.bipush 23, 2) := dop_16 (zb_X11_counts_0 2 rfl) (zb_X11_counts_0 3 rfl) rfl
theorem dX11_counts_4 : decode cX11_counts 4 = .ok (.invokestatic 112, 3) := dop_184 (zb_X11_counts_0 4 rfl) (zb_X11_counts_0 5 rfl) (zb_X11_counts_0 6 rfl) rfl
theorem dX11_counts_7 : decode cX11_counts 7 = .ok (.ifCond .eq 12, 3) := dop_153 (zb_X11_counts_0 7 rfl) (zb_X11_counts_0 8 rfl) (zb_X11_counts_0 9 rfl) rfl
theorem dX11_counts_10 : decode cX11_counts 10 = .ok (.iload_n 2, 1) := dop_28 (zb_X11_counts_0 10 rfl)
theorem dX11_counts_11 : decode cX11_counts 11 = .ok (.iconst 0, 1) := dop_3 (zb_X11_counts_0 11 rfl)
theorem dX11_counts_12 : decode cX11_counts 12 = .ok (.iconst 1, 1) := dop_4 (zb_X11_counts_0 12 rfl)
theorem dX11_counts_13 : decode cX11_counts 13 = .ok (.invokestatic 112, 3) := dop_184 (zb_X11_counts_0 13 rfl) (zb_X11_counts_0 14 rfl) (zb_X11_counts_0 15 rfl) rfl
theorem dX11_counts_16 : decode cX11_counts 16 = .ok (.ifCond .ne 9, 3) := dop_154 (zb_X11_counts_0 16 rfl) (zb_X11_counts_0 17 rfl) (zb_X11_counts_0 18 rfl) rfl
theorem dX11_counts_19 : decode cX11_counts 19 = .ok (.aload_n 0, 1) := dop_42 (zb_X11_counts_0 19 rfl)
theorem dX11_counts_20 : decode cX11_counts 20 = .ok (.iconst (-1), 1) := dop_2 (zb_X11_counts_0 20 rfl)
theorem dX11_counts_21 : decode cX11_counts 21 = .ok (.invokevirtual 116, 3) := dop_182 (zb_X11_counts_0 21 rfl) (zb_X11_counts_0 22 rfl) (zb_X11_counts_0 23 rfl) rfl
theorem dX11_counts_24 : decode cX11_counts 24 = .ok (.ireturn, 1) := dop_172 (zb_X11_counts_0 24 rfl)
theorem dX11_counts_25 : decode cX11_counts 25 = .ok (.iload_n 1, 1) := dop_27 (zb_X11_counts_0 25 rfl)
theorem dX11_counts_26 : decode cX11_counts 26 = .ok (.aload_n 0, 1) := dop_42 (zb_X11_counts_0 26 rfl)
theorem dX11_counts_27 : decode cX11_counts 27 = .ok (.getfield 12, 3) := dop_180 (zb_X11_counts_0 27 rfl) (zb_X11_counts_0 28 rfl) (zb_X11_counts_0 29 rfl) rfl
theorem dX11_counts_30 : decode cX11_counts 30 = .ok (.getfield 162, 3) := dop_180 (zb_X11_counts_0 30 rfl) (zb_X11_counts_0 31 rfl) (zb_X11_counts_0 32 rfl) rfl
theorem dX11_counts_33 : decode cX11_counts 33 = .ok (.if_icmp .lt 10, 3) := dop_161 (zb_X11_counts_0 33 rfl) (zb_X11_counts_0 34 rfl) (zb_X11_counts_0 35 rfl) rfl
theorem dX11_counts_36 : decode cX11_counts 36 = .ok (.aload_n 0, 1) := dop_42 (zb_X11_counts_0 36 rfl)
theorem dX11_counts_37 : decode cX11_counts 37 = .ok (.bipush (-2), 2) := dop_16 (zb_X11_counts_0 37 rfl) (zb_X11_counts_0 38 rfl) rfl
theorem ze_X11_counts_2 : (dcn cX11_counts).drop 79 = zt_X11_counts_2 := dw_n (wl := zw_X11_counts_1) ze_X11_counts_1 rfl
theorem zb_X11_counts_1 (j : Nat) {n : Nat} (e : zw_X11_counts_1[j]? = some n) : dby cX11_counts (39 + j) n := dw_b (t := zt_X11_counts_2) ze_X11_counts_1 j e
theorem dX11_counts_39 : decode cX11_counts 39 = .ok (.invokevirtual 116, 3) := dop_182 (zb_X11_counts_1 0 rfl) (zb_X11_counts_1 1 rfl) (zb_X11_counts_1 2 rfl) rfl
theorem dX11_counts_42 : decode cX11_counts 42 = .ok (.ireturn, 1) := dop_172 (zb_X11_counts_1 3 rfl)
theorem dX11_counts_43 : decode cX11_counts 43 = .ok (.aload_n 0, 1) := dop_42 (zb_X11_counts_1 4 rfl)
theorem dX11_counts_44 : decode cX11_counts 44 = .ok (.getfield 12, 3) := dop_180 (zb_X11_counts_1 5 rfl) (zb_X11_counts_1 6 rfl) (zb_X11_counts_1 7 rfl) rfl
theorem dX11_counts_47 : decode cX11_counts 47 = .ok (.iload_n 1, 1) := dop_27 (zb_X11_counts_1 8 rfl)
theorem dX11_counts_48 : decode cX11_counts 48 = .ok (.invokevirtual 165, 3) := dop_182 (zb_X11_counts_1 9 rfl) (zb_X11_counts_1 10 rfl) (zb_X11_counts_1 11 rfl) rfl
theorem dX11_counts_51 : decode cX11_counts 51 = .ok (.ifCond .eq 7, 3) := dop_153 (zb_X11_counts_1 12 rfl) (zb_X11_counts_1 13 rfl) (zb_X11_counts_1 14 rfl) rfl
theorem dX11_counts_54 : decode cX11_counts 54 = .ok (.iconst 1, 1) := dop_4 (zb_X11_counts_1 15 rfl)
theorem dX11_counts_55 : decode cX11_counts 55 = .ok (.goto 4, 3) := dop_167 (zb_X11_counts_1 16 rfl) (zb_X11_counts_1 17 rfl) (zb_X11_counts_1 18 rfl) rfl
theorem dX11_counts_58 : decode cX11_counts 58 = .ok (.iconst 0, 1) := dop_3 (zb_X11_counts_1 19 rfl)
theorem dX11_counts_59 : decode cX11_counts 59 = .ok (.istore_n 3, 1) := dop_62 (zb_X11_counts_1 20 rfl)
theorem dX11_counts_60 : decode cX11_counts 60 = .ok (.aload_n 0, 1) := dop_42 (zb_X11_counts_1 21 rfl)
theorem dX11_counts_61 : decode cX11_counts 61 = .ok (.getfield 12, 3) := dop_180 (zb_X11_counts_1 22 rfl) (zb_X11_counts_1 23 rfl) (zb_X11_counts_1 24 rfl) rfl
theorem dX11_counts_64 : decode cX11_counts 64 = .ok (.iload_n 1, 1) := dop_27 (zb_X11_counts_1 25 rfl)
theorem dX11_counts_65 : decode cX11_counts 65 = .ok (.iload_n 2, 1) := dop_28 (zb_X11_counts_1 26 rfl)
theorem dX11_counts_66 : decode cX11_counts 66 = .ok (.iconst 1, 1) := dop_4 (zb_X11_counts_1 27 rfl)
theorem dX11_counts_67 : decode cX11_counts 67 = .ok (.if_icmp .ne 7, 3) := dop_160 (zb_X11_counts_1 28 rfl) (zb_X11_counts_1 29 rfl) (zb_X11_counts_1 30 rfl) rfl
theorem dX11_counts_70 : decode cX11_counts 70 = .ok (.iconst 1, 1) := dop_4 (zb_X11_counts_1 31 rfl)
theorem dX11_counts_71 : decode cX11_counts 71 = .ok (.goto 4, 3) := dop_167 (zb_X11_counts_1 32 rfl) (zb_X11_counts_1 33 rfl) (zb_X11_counts_1 34 rfl) rfl
theorem dX11_counts_74 : decode cX11_counts 74 = .ok (.iconst 0, 1) := dop_3 (zb_X11_counts_1 35 rfl)
theorem dX11_counts_75 : decode cX11_counts 75 = .ok (.invokevirtual 168, 3) := dop_182 (zb_X11_counts_1 36 rfl) (zb_X11_counts_1 37 rfl) (zb_X11_counts_1 38 rfl) rfl
theorem dX11_counts_78 : decode cX11_counts 78 = .ok (.aload_n 0, 1) := dop_42 (zb_X11_counts_1 39 rfl)
theorem zb_X11_counts_2 (j : Nat) {n : Nat} (e : zw_X11_counts_2[j]? = some n) : dby cX11_counts (79 + j) n := dw_b (t := []) ze_X11_counts_2 j e
theorem dX11_counts_79 : decode cX11_counts 79 = .ok (.iload_n 3, 1) := dop_29 (zb_X11_counts_2 0 rfl)
theorem dX11_counts_80 : decode cX11_counts 80 = .ok (.invokevirtual 123, 3) := dop_182 (zb_X11_counts_2 1 rfl) (zb_X11_counts_2 2 rfl) (zb_X11_counts_2 3 rfl) rfl
theorem dX11_counts_83 : decode cX11_counts 83 = .ok (.ireturn, 1) := dop_172 (zb_X11_counts_2 4 rfl)
def zw_X11_of_3 : List Nat := [42, 180, 0, 12, 27, 182, 0, 165, 153, 0, 7, 4, 167, 0, 4, 3, 172, 42, 180, 0, 12, 27, 182, 0, 184, 172, 2, 172]
def zt_X11_of_3 : List Nat := zw_X11_of_3 ++ []
def zw_X11_of_2 : List Nat := [42, 180, 0, 12, 180, 0, 172, 27, 46, 172, 42, 180, 0, 12, 180, 0, 175, 27, 46, 172, 42, 180, 0, 12, 180, 0, 178, 27, 46, 172, 42, 180, 0, 12, 180, 0, 181, 27, 46, 172]
def zt_X11_of_2 : List Nat := zw_X11_of_2 ++ zt_X11_of_3
def zw_X11_of_1 : List Nat := [170, 0, 0, 0, 0, 0, 0, 106, 0, 0, 0, 0, 0, 0, 0, 5, 0, 0, 0, 40, 0, 0, 0, 50, 0, 0, 0, 60, 0, 0, 0, 70, 0, 0, 0, 80, 0, 0, 0, 97]
def zt_X11_of_1 : List Nat := zw_X11_of_1 ++ zt_X11_of_2
def zw_X11_of_0 : List Nat := [27, 3, 42, 180, 0, 12, 180, 0, 162, 4, 100, 184, 0, 112, 154, 0, 5, 2, 172, 28]
def zt_X11_of_0 : List Nat := zw_X11_of_0 ++ zt_X11_of_1
theorem ze_X11_of_0 : (dcn cX11_of).drop 0 = zt_X11_of_0 := by decide +kernel
theorem ze_X11_of_1 : (dcn cX11_of).drop 20 = zt_X11_of_1 := dw_n (wl := zw_X11_of_0) ze_X11_of_0 rfl
theorem zb_X11_of_0 (j : Nat) {n : Nat} (e : zw_X11_of_0[j]? = some n) : dby cX11_of (0 + j) n := dw_b (t := zt_X11_of_1) ze_X11_of_0 j e
theorem dX11_of_0 : decode cX11_of 0 = .ok (.iload_n 1, 1) := dop_27 (zb_X11_of_0 0 rfl)
theorem dX11_of_1 : decode cX11_of 1 = .ok (.iconst 0, 1) := dop_3 (zb_X11_of_0 1 rfl)
theorem dX11_of_2 : decode cX11_of 2 = .ok (.aload_n 0, 1) := dop_42 (zb_X11_of_0 2 rfl)
theorem dX11_of_3 : decode cX11_of 3 = .ok (.getfield 12, 3) := dop_180 (zb_X11_of_0 3 rfl) (zb_X11_of_0 4 rfl) (zb_X11_of_0 5 rfl) rfl
theorem dX11_of_6 : decode cX11_of 6 = .ok (.getfield 162, 3) := dop_180 (zb_X11_of_0 6 rfl) (zb_X11_of_0 7 rfl) (zb_X11_of_0 8 rfl) rfl
theorem dX11_of_9 : decode cX11_of 9 = .ok (.iconst 1, 1) := dop_4 (zb_X11_of_0 9 rfl)
theorem dX11_of_10 : decode cX11_of 10 = .ok (.isub, 1) := dop_100 (zb_X11_of_0 10 rfl)
theorem dX11_of_11 : decode cX11_of 11 = .ok (.invokestatic 112, 3) := dop_184 (zb_X11_of_0 11 rfl) (zb_X11_of_0 12 rfl) (zb_X11_of_0 13 rfl) rfl
theorem dX11_of_14 : decode cX11_of 14 = .ok (.ifCond .ne 5, 3) := dop_154 (zb_X11_of_0 14 rfl) (zb_X11_of_0 15 rfl) (zb_X11_of_0 16 rfl) rfl
theorem dX11_of_17 : decode cX11_of 17 = .ok (.iconst (-1), 1) := dop_2 (zb_X11_of_0 17 rfl)
theorem dX11_of_18 : decode cX11_of 18 = .ok (.ireturn, 1) := dop_172 (zb_X11_of_0 18 rfl)
theorem dX11_of_19 : decode cX11_of 19 = .ok (.iload_n 2, 1) := dop_28 (zb_X11_of_0 19 rfl)
theorem ze_X11_of_2 : (dcn cX11_of).drop 60 = zt_X11_of_2 := dw_n (wl := zw_X11_of_1) ze_X11_of_1 rfl
theorem zb_X11_of_1 (j : Nat) {n : Nat} (e : zw_X11_of_1[j]? = some n) : dby cX11_of (20 + j) n := dw_b (t := zt_X11_of_2) ze_X11_of_1 j e
theorem dX11_of_20 : decode cX11_of 20 = .ok (.tableswitch 106 0 5 #[40, 50, 60, 70, 80, 97], 40) := by decide +kernel
theorem ze_X11_of_3 : (dcn cX11_of).drop 100 = zt_X11_of_3 := dw_n (wl := zw_X11_of_2) ze_X11_of_2 rfl
theorem zb_X11_of_2 (j : Nat) {n : Nat} (e : zw_X11_of_2[j]? = some n) : dby cX11_of (60 + j) n := dw_b (t := zt_X11_of_3) ze_X11_of_2 j e
theorem dX11_of_60 : decode cX11_of 60 = .ok (.aload_n 0, 1) := dop_42 (zb_X11_of_2 0 rfl)
theorem dX11_of_61 : decode cX11_of 61 = .ok (.getfield 12, 3) := dop_180 (zb_X11_of_2 1 rfl) (zb_X11_of_2 2 rfl) (zb_X11_of_2 3 rfl) rfl
theorem dX11_of_64 : decode cX11_of 64 = .ok (.getfield 172, 3) := dop_180 (zb_X11_of_2 4 rfl) (zb_X11_of_2 5 rfl) (zb_X11_of_2 6 rfl) rfl
theorem dX11_of_67 : decode cX11_of 67 = .ok (.iload_n 1, 1) := dop_27 (zb_X11_of_2 7 rfl)
theorem dX11_of_68 : decode cX11_of 68 = .ok (.iaload, 1) := dop_46 (zb_X11_of_2 8 rfl)
theorem dX11_of_69 : decode cX11_of 69 = .ok (.ireturn, 1) := dop_172 (zb_X11_of_2 9 rfl)
theorem dX11_of_70 : decode cX11_of 70 = .ok (.aload_n 0, 1) := dop_42 (zb_X11_of_2 10 rfl)
theorem dX11_of_71 : decode cX11_of 71 = .ok (.getfield 12, 3) := dop_180 (zb_X11_of_2 11 rfl) (zb_X11_of_2 12 rfl) (zb_X11_of_2 13 rfl) rfl
theorem dX11_of_74 : decode cX11_of 74 = .ok (.getfield 175, 3) := dop_180 (zb_X11_of_2 14 rfl) (zb_X11_of_2 15 rfl) (zb_X11_of_2 16 rfl) rfl
theorem dX11_of_77 : decode cX11_of 77 = .ok (.iload_n 1, 1) := dop_27 (zb_X11_of_2 17 rfl)
theorem dX11_of_78 : decode cX11_of 78 = .ok (.iaload, 1) := dop_46 (zb_X11_of_2 18 rfl)
theorem dX11_of_79 : decode cX11_of 79 = .ok (.ireturn, 1) := dop_172 (zb_X11_of_2 19 rfl)
theorem dX11_of_80 : decode cX11_of 80 = .ok (.aload_n 0, 1) := dop_42 (zb_X11_of_2 20 rfl)
theorem dX11_of_81 : decode cX11_of 81 = .ok (.getfield 12, 3) := dop_180 (zb_X11_of_2 21 rfl) (zb_X11_of_2 22 rfl) (zb_X11_of_2 23 rfl) rfl
theorem dX11_of_84 : decode cX11_of 84 = .ok (.getfield 178, 3) := dop_180 (zb_X11_of_2 24 rfl) (zb_X11_of_2 25 rfl) (zb_X11_of_2 26 rfl) rfl
theorem dX11_of_87 : decode cX11_of 87 = .ok (.iload_n 1, 1) := dop_27 (zb_X11_of_2 27 rfl)
theorem dX11_of_88 : decode cX11_of 88 = .ok (.iaload, 1) := dop_46 (zb_X11_of_2 28 rfl)
theorem dX11_of_89 : decode cX11_of 89 = .ok (.ireturn, 1) := dop_172 (zb_X11_of_2 29 rfl)
theorem dX11_of_90 : decode cX11_of 90 = .ok (.aload_n 0, 1) := dop_42 (zb_X11_of_2 30 rfl)
theorem dX11_of_91 : decode cX11_of 91 = .ok (.getfield 12, 3) := dop_180 (zb_X11_of_2 31 rfl) (zb_X11_of_2 32 rfl) (zb_X11_of_2 33 rfl) rfl
theorem dX11_of_94 : decode cX11_of 94 = .ok (.getfield 181, 3) := dop_180 (zb_X11_of_2 34 rfl) (zb_X11_of_2 35 rfl) (zb_X11_of_2 36 rfl) rfl
theorem dX11_of_97 : decode cX11_of 97 = .ok (.iload_n 1, 1) := dop_27 (zb_X11_of_2 37 rfl)
theorem dX11_of_98 : decode cX11_of 98 = .ok (.iaload, 1) := dop_46 (zb_X11_of_2 38 rfl)
theorem dX11_of_99 : decode cX11_of 99 = .ok (.ireturn, 1) := dop_172 (zb_X11_of_2 39 rfl)
theorem zb_X11_of_3 (j : Nat) {n : Nat} (e : zw_X11_of_3[j]? = some n) : dby cX11_of (100 + j) n := dw_b (t := []) ze_X11_of_3 j e
theorem dX11_of_100 : decode cX11_of 100 = .ok (.aload_n 0, 1) := dop_42 (zb_X11_of_3 0 rfl)
theorem dX11_of_101 : decode cX11_of 101 = .ok (.getfield 12, 3) := dop_180 (zb_X11_of_3 1 rfl) (zb_X11_of_3 2 rfl) (zb_X11_of_3 3 rfl) rfl
theorem dX11_of_104 : decode cX11_of 104 = .ok (.iload_n 1, 1) := dop_27 (zb_X11_of_3 4 rfl)
theorem dX11_of_105 : decode cX11_of 105 = .ok (.invokevirtual 165, 3) := dop_182 (zb_X11_of_3 5 rfl) (zb_X11_of_3 6 rfl) (zb_X11_of_3 7 rfl) rfl
theorem dX11_of_108 : decode cX11_of 108 = .ok (.ifCond .eq 7, 3) := dop_153 (zb_X11_of_3 8 rfl) (zb_X11_of_3 9 rfl) (zb_X11_of_3 10 rfl) rfl
theorem dX11_of_111 : decode cX11_of 111 = .ok (.iconst 1, 1) := dop_4 (zb_X11_of_3 11 rfl)
theorem dX11_of_112 : decode cX11_of 112 = .ok (.goto 4, 3) := dop_167 (zb_X11_of_3 12 rfl) (zb_X11_of_3 13 rfl) (zb_X11_of_3 14 rfl) rfl
theorem dX11_of_115 : decode cX11_of 115 = .ok (.iconst 0, 1) := dop_3 (zb_X11_of_3 15 rfl)
theorem dX11_of_116 : decode cX11_of 116 = .ok (.ireturn, 1) := dop_172 (zb_X11_of_3 16 rfl)
theorem dX11_of_117 : decode cX11_of 117 = .ok (.aload_n 0, 1) := dop_42 (zb_X11_of_3 17 rfl)
theorem dX11_of_118 : decode cX11_of 118 = .ok (.getfield 12, 3) := dop_180 (zb_X11_of_3 18 rfl) (zb_X11_of_3 19 rfl) (zb_X11_of_3 20 rfl) rfl
theorem dX11_of_121 : decode cX11_of 121 = .ok (.iload_n 1, 1) := dop_27 (zb_X11_of_3 21 rfl)
theorem dX11_of_122 : decode cX11_of 122 = .ok (.invokevirtual 184, 3) := dop_182 (zb_X11_of_3 22 rfl) (zb_X11_of_3 23 rfl) (zb_X11_of_3 24 rfl) rfl
theorem dX11_of_125 : decode cX11_of 125 = .ok (.ireturn, 1) := dop_172 (zb_X11_of_3 25 rfl)
theorem dX11_of_126 : decode cX11_of 126 = .ok (.iconst (-1), 1) := dop_2 (zb_X11_of_3 26 rfl)
theorem dX11_of_127 : decode cX11_of 127 = .ok (.ireturn, 1) := dop_172 (zb_X11_of_3 27 rfl)
def zw_X11_feed_1 : List Nat := [182, 0, 190, 42, 180, 0, 30, 21, 4, 182, 0, 190, 42, 180, 0, 30, 21, 5, 182, 0, 190, 42, 180, 0, 30, 180, 0, 187, 172]
def zt_X11_feed_1 : List Nat := zw_X11_feed_1 ++ []
def zw_X11_feed_0 : List Nat := [42, 180, 0, 30, 180, 0, 187, 16, 20, 96, 17, 1, 144, 164, 0, 5, 2, 172, 42, 180, 0, 30, 27, 182, 0, 190, 42, 180, 0, 30, 28, 182, 0, 190, 42, 180, 0, 30, 29]
def zt_X11_feed_0 : List Nat := zw_X11_feed_0 ++ zt_X11_feed_1
theorem ze_X11_feed_0 : (dcn cX11_feed).drop 0 = zt_X11_feed_0 := by decide +kernel
theorem ze_X11_feed_1 : (dcn cX11_feed).drop 39 = zt_X11_feed_1 := dw_n (wl := zw_X11_feed_0) ze_X11_feed_0 rfl
theorem zb_X11_feed_0 (j : Nat) {n : Nat} (e : zw_X11_feed_0[j]? = some n) : dby cX11_feed (0 + j) n := dw_b (t := zt_X11_feed_1) ze_X11_feed_0 j e
theorem dX11_feed_0 : decode cX11_feed 0 = .ok (.aload_n 0, 1) := dop_42 (zb_X11_feed_0 0 rfl)
theorem dX11_feed_1 : decode cX11_feed 1 = .ok (.getfield 30, 3) := dop_180 (zb_X11_feed_0 1 rfl) (zb_X11_feed_0 2 rfl) (zb_X11_feed_0 3 rfl) rfl
theorem dX11_feed_4 : decode cX11_feed 4 = .ok (.getfield 187, 3) := dop_180 (zb_X11_feed_0 4 rfl) (zb_X11_feed_0 5 rfl) (zb_X11_feed_0 6 rfl) rfl
theorem dX11_feed_7 : decode cX11_feed 7 = .ok (.bipush 20, 2) := dop_16 (zb_X11_feed_0 7 rfl) (zb_X11_feed_0 8 rfl) rfl
theorem dX11_feed_9 : decode cX11_feed 9 = .ok (.iadd, 1) := dop_96 (zb_X11_feed_0 9 rfl)
theorem dX11_feed_10 : decode cX11_feed 10 = .ok (.sipush 400, 3) := dop_17 (zb_X11_feed_0 10 rfl) (zb_X11_feed_0 11 rfl) (zb_X11_feed_0 12 rfl) rfl
theorem dX11_feed_13 : decode cX11_feed 13 = .ok (.if_icmp .le 5, 3) := dop_164 (zb_X11_feed_0 13 rfl) (zb_X11_feed_0 14 rfl) (zb_X11_feed_0 15 rfl) rfl
theorem dX11_feed_16 : decode cX11_feed 16 = .ok (.iconst (-1), 1) := dop_2 (zb_X11_feed_0 16 rfl)
theorem dX11_feed_17 : decode cX11_feed 17 = .ok (.ireturn, 1) := dop_172 (zb_X11_feed_0 17 rfl)
theorem dX11_feed_18 : decode cX11_feed 18 = .ok (.aload_n 0, 1) := dop_42 (zb_X11_feed_0 18 rfl)
theorem dX11_feed_19 : decode cX11_feed 19 = .ok (.getfield 30, 3) := dop_180 (zb_X11_feed_0 19 rfl) (zb_X11_feed_0 20 rfl) (zb_X11_feed_0 21 rfl) rfl
theorem dX11_feed_22 : decode cX11_feed 22 = .ok (.iload_n 1, 1) := dop_27 (zb_X11_feed_0 22 rfl)
theorem dX11_feed_23 : decode cX11_feed 23 = .ok (.invokevirtual 190, 3) := dop_182 (zb_X11_feed_0 23 rfl) (zb_X11_feed_0 24 rfl) (zb_X11_feed_0 25 rfl) rfl
theorem dX11_feed_26 : decode cX11_feed 26 = .ok (.aload_n 0, 1) := dop_42 (zb_X11_feed_0 26 rfl)
theorem dX11_feed_27 : decode cX11_feed 27 = .ok (.getfield 30, 3) := dop_180 (zb_X11_feed_0 27 rfl) (zb_X11_feed_0 28 rfl) (zb_X11_feed_0 29 rfl) rfl
theorem dX11_feed_30 : decode cX11_feed 30 = .ok (.iload_n 2, 1) := dop_28 (zb_X11_feed_0 30 rfl)
theorem dX11_feed_31 : decode cX11_feed 31 = .ok (.invokevirtual 190, 3) := dop_182 (zb_X11_feed_0 31 rfl) (zb_X11_feed_0 32 rfl) (zb_X11_feed_0 33 rfl) rfl
theorem dX11_feed_34 : decode cX11_feed 34 = .ok (.aload_n 0, 1) := dop_42 (zb_X11_feed_0 34 rfl)
theorem dX11_feed_35 : decode cX11_feed 35 = .ok (.getfield 30, 3) := dop_180 (zb_X11_feed_0 35 rfl) (zb_X11_feed_0 36 rfl) (zb_X11_feed_0 37 rfl) rfl
theorem dX11_feed_38 : decode cX11_feed 38 = .ok (.iload_n 3, 1) := dop_29 (zb_X11_feed_0 38 rfl)
theorem zb_X11_feed_1 (j : Nat) {n : Nat} (e : zw_X11_feed_1[j]? = some n) : dby cX11_feed (39 + j) n := dw_b (t := []) ze_X11_feed_1 j e
theorem dX11_feed_39 : decode cX11_feed 39 = .ok (.invokevirtual 190, 3) := dop_182 (zb_X11_feed_1 0 rfl) (zb_X11_feed_1 1 rfl) (zb_X11_feed_1 2 rfl) rfl
theorem dX11_feed_42 : decode cX11_feed 42 = .ok (.aload_n 0, 1) := dop_42 (zb_X11_feed_1 3 rfl)
theorem dX11_feed_43 : decode cX11_feed 43 = .ok (.getfield 30, 3) := dop_180 (zb_X11_feed_1 4 rfl) (zb_X11_feed_1 5 rfl) (zb_X11_feed_1 6 rfl) rfl
theorem dX11_feed_46 : decode cX11_feed 46 = .ok (.iload 4, 2) := dop_21 (zb_X11_feed_1 7 rfl) (zb_X11_feed_1 8 rfl)
theorem dX11_feed_48 : decode cX11_feed 48 = .ok (.invokevirtual 190, 3) := dop_182 (zb_X11_feed_1 9 rfl) (zb_X11_feed_1 10 rfl) (zb_X11_feed_1 11 rfl) rfl
theorem dX11_feed_51 : decode cX11_feed 51 = .ok (.aload_n 0, 1) := dop_42 (zb_X11_feed_1 12 rfl)
theorem dX11_feed_52 : decode cX11_feed 52 = .ok (.getfield 30, 3) := dop_180 (zb_X11_feed_1 13 rfl) (zb_X11_feed_1 14 rfl) (zb_X11_feed_1 15 rfl) rfl
theorem dX11_feed_55 : decode cX11_feed 55 = .ok (.iload 5, 2) := dop_21 (zb_X11_feed_1 16 rfl) (zb_X11_feed_1 17 rfl)
theorem dX11_feed_57 : decode cX11_feed 57 = .ok (.invokevirtual 190, 3) := dop_182 (zb_X11_feed_1 18 rfl) (zb_X11_feed_1 19 rfl) (zb_X11_feed_1 20 rfl) rfl
theorem dX11_feed_60 : decode cX11_feed 60 = .ok (.aload_n 0, 1) := dop_42 (zb_X11_feed_1 21 rfl)
theorem dX11_feed_61 : decode cX11_feed 61 = .ok (.getfield 30, 3) := dop_180 (zb_X11_feed_1 22 rfl) (zb_X11_feed_1 23 rfl) (zb_X11_feed_1 24 rfl) rfl
theorem dX11_feed_64 : decode cX11_feed 64 = .ok (.getfield 187, 3) := dop_180 (zb_X11_feed_1 25 rfl) (zb_X11_feed_1 26 rfl) (zb_X11_feed_1 27 rfl) rfl
theorem dX11_feed_67 : decode cX11_feed 67 = .ok (.ireturn, 1) := dop_172 (zb_X11_feed_1 28 rfl)
def zw_X11_end_0 : List Nat := [27, 3, 42, 180, 0, 30, 180, 0, 187, 184, 0, 112, 154, 0, 5, 2, 172, 42, 180, 0, 30, 27, 181, 0, 187, 27, 172]
def zt_X11_end_0 : List Nat := zw_X11_end_0 ++ []
theorem ze_X11_end_0 : (dcn cX11_end).drop 0 = zt_X11_end_0 := by decide +kernel
theorem zb_X11_end_0 (j : Nat) {n : Nat} (e : zw_X11_end_0[j]? = some n) : dby cX11_end (0 + j) n := dw_b (t := []) ze_X11_end_0 j e
theorem dX11_end_0 : decode cX11_end 0 = .ok (.iload_n 1, 1) := dop_27 (zb_X11_end_0 0 rfl)
theorem dX11_end_1 : decode cX11_end 1 = .ok (.iconst 0, 1) := dop_3 (zb_X11_end_0 1 rfl)
theorem dX11_end_2 : decode cX11_end 2 = .ok (.aload_n 0, 1) := dop_42 (zb_X11_end_0 2 rfl)
theorem dX11_end_3 : decode cX11_end 3 = .ok (.getfield 30, 3) := dop_180 (zb_X11_end_0 3 rfl) (zb_X11_end_0 4 rfl) (zb_X11_end_0 5 rfl) rfl
theorem dX11_end_6 : decode cX11_end 6 = .ok (.getfield 187, 3) := dop_180 (zb_X11_end_0 6 rfl) (zb_X11_end_0 7 rfl) (zb_X11_end_0 8 rfl) rfl
theorem dX11_end_9 : decode cX11_end 9 = .ok (.invokestatic 112, 3) := dop_184 (zb_X11_end_0 9 rfl) (zb_X11_end_0 10 rfl) (zb_X11_end_0 11 rfl) rfl
theorem dX11_end_12 : decode cX11_end 12 = .ok (.ifCond .ne 5, 3) := dop_154 (zb_X11_end_0 12 rfl) (zb_X11_end_0 13 rfl) (zb_X11_end_0 14 rfl) rfl
theorem dX11_end_15 : decode cX11_end 15 = .ok (.iconst (-1), 1) := dop_2 (zb_X11_end_0 15 rfl)
theorem dX11_end_16 : decode cX11_end 16 = .ok (.ireturn, 1) := dop_172 (zb_X11_end_0 16 rfl)
theorem dX11_end_17 : decode cX11_end 17 = .ok (.aload_n 0, 1) := dop_42 (zb_X11_end_0 17 rfl)
theorem dX11_end_18 : decode cX11_end 18 = .ok (.getfield 30, 3) := dop_180 (zb_X11_end_0 18 rfl) (zb_X11_end_0 19 rfl) (zb_X11_end_0 20 rfl) rfl
theorem dX11_end_21 : decode cX11_end 21 = .ok (.iload_n 1, 1) := dop_27 (zb_X11_end_0 21 rfl)
theorem dX11_end_22 : decode cX11_end 22 = .ok (.putfield 187, 3) := dop_181 (zb_X11_end_0 22 rfl) (zb_X11_end_0 23 rfl) (zb_X11_end_0 24 rfl) rfl
theorem dX11_end_25 : decode cX11_end 25 = .ok (.iload_n 1, 1) := dop_27 (zb_X11_end_0 25 rfl)
theorem dX11_end_26 : decode cX11_end 26 = .ok (.ireturn, 1) := dop_172 (zb_X11_end_0 26 rfl)
def zw_X11_row_2 : List Nat := [180, 0, 162, 27, 100, 182, 0, 123, 172]
def zt_X11_row_2 : List Nat := zw_X11_row_2 ++ []
def zw_X11_row_1 : List Nat := [162, 0, 27, 42, 28, 182, 0, 194, 154, 0, 13, 42, 89, 180, 0, 102, 4, 96, 181, 0, 102, 132, 2, 4, 167, 255, 224, 42, 180, 0, 30, 3, 181, 0, 187, 42, 42, 180, 0, 12]
def zt_X11_row_1 : List Nat := zw_X11_row_1 ++ zt_X11_row_2
def zw_X11_row_0 : List Nat := [42, 180, 0, 30, 180, 0, 187, 154, 0, 10, 42, 16, 250, 182, 0, 116, 172, 42, 180, 0, 12, 180, 0, 162, 60, 42, 3, 181, 0, 102, 3, 61, 28, 42, 180, 0, 30, 180, 0, 187]
def zt_X11_row_0 : List Nat := zw_X11_row_0 ++ zt_X11_row_1
theorem ze_X11_row_0 : (dcn cX11_row).drop 0 = zt_X11_row_0 := by decide +kernel
theorem ze_X11_row_1 : (dcn cX11_row).drop 40 = zt_X11_row_1 := dw_n (wl := zw_X11_row_0) ze_X11_row_0 rfl
theorem zb_X11_row_0 (j : Nat) {n : Nat} (e : zw_X11_row_0[j]? = some n) : dby cX11_row (0 + j) n := dw_b (t := zt_X11_row_1) ze_X11_row_0 j e
theorem dX11_row_0 : decode cX11_row 0 = .ok (.aload_n 0, 1) := dop_42 (zb_X11_row_0 0 rfl)
theorem dX11_row_1 : decode cX11_row 1 = .ok (.getfield 30, 3) := dop_180 (zb_X11_row_0 1 rfl) (zb_X11_row_0 2 rfl) (zb_X11_row_0 3 rfl) rfl
theorem dX11_row_4 : decode cX11_row 4 = .ok (.getfield 187, 3) := dop_180 (zb_X11_row_0 4 rfl) (zb_X11_row_0 5 rfl) (zb_X11_row_0 6 rfl) rfl
theorem dX11_row_7 : decode cX11_row 7 = .ok (.ifCond .ne 10, 3) := dop_154 (zb_X11_row_0 7 rfl) (zb_X11_row_0 8 rfl) (zb_X11_row_0 9 rfl) rfl
theorem dX11_row_10 : decode cX11_row 10 = .ok (.aload_n 0, 1) := dop_42 (zb_X11_row_0 10 rfl)
theorem dX11_row_11 : decode cX11_row 11 = .ok (.bipush (-6), 2) := dop_16 (zb_X11_row_0 11 rfl) (zb_X11_row_0 12 rfl) rfl
theorem dX11_row_13 : decode cX11_row 13 = .ok (.invokevirtual 116, 3) := dop_182 (zb_X11_row_0 13 rfl) (zb_X11_row_0 14 rfl) (zb_X11_row_0 15 rfl) rfl
theorem dX11_row_16 : decode cX11_row 16 = .ok (.ireturn, 1) := dop_172 (zb_X11_row_0 16 rfl)
theorem dX11_row_17 : decode cX11_row 17 = .ok (.aload_n 0, 1) := dop_42 (zb_X11_row_0 17 rfl)
theorem dX11_row_18 : decode cX11_row 18 = .ok (.getfield 12, 3) := dop_180 (zb_X11_row_0 18 rfl) (zb_X11_row_0 19 rfl) (zb_X11_row_0 20 rfl) rfl
theorem dX11_row_21 : decode cX11_row 21 = .ok (.getfield 162, 3) := dop_180 (zb_X11_row_0 21 rfl) (zb_X11_row_0 22 rfl) (zb_X11_row_0 23 rfl) rfl
theorem dX11_row_24 : decode cX11_row 24 = .ok (.istore_n 1, 1) := dop_60 (zb_X11_row_0 24 rfl)
theorem dX11_row_25 : decode cX11_row 25 = .ok (.aload_n 0, 1) := dop_42 (zb_X11_row_0 25 rfl)
theorem dX11_row_26 : decode cX11_row 26 = .ok (.iconst 0, 1) := dop_3 (zb_X11_row_0 26 rfl)
theorem dX11_row_27 : decode cX11_row 27 = .ok (.putfield 102, 3) := dop_181 (zb_X11_row_0 27 rfl) (zb_X11_row_0 28 rfl) (zb_X11_row_0 29 rfl) rfl
theorem dX11_row_30 : decode cX11_row 30 = .ok (.iconst 0, 1) := dop_3 (zb_X11_row_0 30 rfl)
theorem dX11_row_31 : decode cX11_row 31 = .ok (.istore_n 2, 1) := dop_61 (zb_X11_row_0 31 rfl)
theorem dX11_row_32 : decode cX11_row 32 = .ok (.iload_n 2, 1) := dop_28 (zb_X11_row_0 32 rfl)
theorem dX11_row_33 : decode cX11_row 33 = .ok (.aload_n 0, 1) := dop_42 (zb_X11_row_0 33 rfl)
theorem dX11_row_34 : decode cX11_row 34 = .ok (.getfield 30, 3) := dop_180 (zb_X11_row_0 34 rfl) (zb_X11_row_0 35 rfl) (zb_X11_row_0 36 rfl) rfl
theorem dX11_row_37 : decode cX11_row 37 = .ok (.getfield 187, 3) := dop_180 (zb_X11_row_0 37 rfl) (zb_X11_row_0 38 rfl) (zb_X11_row_0 39 rfl) rfl
theorem ze_X11_row_2 : (dcn cX11_row).drop 80 = zt_X11_row_2 := dw_n (wl := zw_X11_row_1) ze_X11_row_1 rfl
theorem zb_X11_row_1 (j : Nat) {n : Nat} (e : zw_X11_row_1[j]? = some n) : dby cX11_row (40 + j) n := dw_b (t := zt_X11_row_2) ze_X11_row_1 j e
theorem dX11_row_40 : decode cX11_row 40 = .ok (.if_icmp .ge 27, 3) := dop_162 (zb_X11_row_1 0 rfl) (zb_X11_row_1 1 rfl) (zb_X11_row_1 2 rfl) rfl
theorem dX11_row_43 : decode cX11_row 43 = .ok (.aload_n 0, 1) := dop_42 (zb_X11_row_1 3 rfl)
theorem dX11_row_44 : decode cX11_row 44 = .ok (.iload_n 2, 1) := dop_28 (zb_X11_row_1 4 rfl)
theorem dX11_row_45 : decode cX11_row 45 = .ok (.invokevirtual 194, 3) := dop_182 (zb_X11_row_1 5 rfl) (zb_X11_row_1 6 rfl) (zb_X11_row_1 7 rfl) rfl
theorem dX11_row_48 : decode cX11_row 48 = .ok (.ifCond .ne 13, 3) := dop_154 (zb_X11_row_1 8 rfl) (zb_X11_row_1 9 rfl) (zb_X11_row_1 10 rfl) rfl
theorem dX11_row_51 : decode cX11_row 51 = .ok (.aload_n 0, 1) := dop_42 (zb_X11_row_1 11 rfl)
theorem dX11_row_52 : decode cX11_row 52 = .ok (.dup, 1) := dop_89 (zb_X11_row_1 12 rfl)
theorem dX11_row_53 : decode cX11_row 53 = .ok (.getfield 102, 3) := dop_180 (zb_X11_row_1 13 rfl) (zb_X11_row_1 14 rfl) (zb_X11_row_1 15 rfl) rfl
theorem dX11_row_56 : decode cX11_row 56 = .ok (.iconst 1, 1) := dop_4 (zb_X11_row_1 16 rfl)
theorem dX11_row_57 : decode cX11_row 57 = .ok (.iadd, 1) := dop_96 (zb_X11_row_1 17 rfl)
theorem dX11_row_58 : decode cX11_row 58 = .ok (.putfield 102, 3) := dop_181 (zb_X11_row_1 18 rfl) (zb_X11_row_1 19 rfl) (zb_X11_row_1 20 rfl) rfl
theorem dX11_row_61 : decode cX11_row 61 = .ok (.iinc 2 4, 3) := dop_132 (zb_X11_row_1 21 rfl) (zb_X11_row_1 22 rfl) (zb_X11_row_1 23 rfl) rfl
theorem dX11_row_64 : decode cX11_row 64 = .ok (.goto (-32), 3) := dop_167 (zb_X11_row_1 24 rfl) (zb_X11_row_1 25 rfl) (zb_X11_row_1 26 rfl) rfl
theorem dX11_row_67 : decode cX11_row 67 = .ok (.aload_n 0, 1) := dop_42 (zb_X11_row_1 27 rfl)
theorem dX11_row_68 : decode cX11_row 68 = .ok (.getfield 30, 3) := dop_180 (zb_X11_row_1 28 rfl) (zb_X11_row_1 29 rfl) (zb_X11_row_1 30 rfl) rfl
theorem dX11_row_71 : decode cX11_row 71 = .ok (.iconst 0, 1) := dop_3 (zb_X11_row_1 31 rfl)
theorem dX11_row_72 : decode cX11_row 72 = .ok (.putfield 187, 3) := dop_181 (zb_X11_row_1 32 rfl) (zb_X11_row_1 33 rfl) (zb_X11_row_1 34 rfl) rfl
theorem dX11_row_75 : decode cX11_row 75 = .ok (.aload_n 0, 1) := dop_42 (zb_X11_row_1 35 rfl)
theorem dX11_row_76 : decode cX11_row 76 = .ok (.aload_n 0, 1) := dop_42 (zb_X11_row_1 36 rfl)
theorem dX11_row_77 : decode cX11_row 77 = .ok (.getfield 12, 3) := dop_180 (zb_X11_row_1 37 rfl) (zb_X11_row_1 38 rfl) (zb_X11_row_1 39 rfl) rfl
theorem zb_X11_row_2 (j : Nat) {n : Nat} (e : zw_X11_row_2[j]? = some n) : dby cX11_row (80 + j) n := dw_b (t := []) ze_X11_row_2 j e
theorem dX11_row_80 : decode cX11_row 80 = .ok (.getfield 162, 3) := dop_180 (zb_X11_row_2 0 rfl) (zb_X11_row_2 1 rfl) (zb_X11_row_2 2 rfl) rfl
theorem dX11_row_83 : decode cX11_row 83 = .ok (.iload_n 1, 1) := dop_27 (zb_X11_row_2 3 rfl)
theorem dX11_row_84 : decode cX11_row 84 = .ok (.isub, 1) := dop_100 (zb_X11_row_2 4 rfl)
theorem dX11_row_85 : decode cX11_row 85 = .ok (.invokevirtual 123, 3) := dop_182 (zb_X11_row_2 5 rfl) (zb_X11_row_2 6 rfl) (zb_X11_row_2 7 rfl) rfl
theorem dX11_row_88 : decode cX11_row 88 = .ok (.ireturn, 1) := dop_172 (zb_X11_row_2 8 rfl)
theorem dX11_blurred_0 : decode cX11_blurred 0 = .ok (.aload_n 0, 1) := by decide +kernel
theorem dX11_blurred_1 : decode cX11_blurred 1 = .ok (.getfield 102, 3) := by decide +kernel
theorem dX11_blurred_4 : decode cX11_blurred 4 = .ok (.ireturn, 1) := by decide +kernel
def zw_X11_book_1 : List Nat := [181, 0, 187, 27, 2, 160, 0, 10, 42, 16, 250, 182, 0, 116, 172, 42, 180, 0, 12, 42, 180, 0, 16, 182, 0, 197, 42, 27, 182, 0, 123, 172]
def zt_X11_book_1 : List Nat := zw_X11_book_1 ++ []
def zw_X11_book_0 : List Nat := [42, 180, 0, 16, 42, 180, 0, 12, 182, 0, 197, 42, 180, 0, 39, 42, 180, 0, 16, 182, 0, 201, 60, 42, 42, 180, 0, 39, 180, 0, 205, 181, 0, 105, 42, 180, 0, 30, 3]
def zt_X11_book_0 : List Nat := zw_X11_book_0 ++ zt_X11_book_1
theorem ze_X11_book_0 : (dcn cX11_book).drop 0 = zt_X11_book_0 := by decide +kernel
theorem ze_X11_book_1 : (dcn cX11_book).drop 39 = zt_X11_book_1 := dw_n (wl := zw_X11_book_0) ze_X11_book_0 rfl
theorem zb_X11_book_0 (j : Nat) {n : Nat} (e : zw_X11_book_0[j]? = some n) : dby cX11_book (0 + j) n := dw_b (t := zt_X11_book_1) ze_X11_book_0 j e
theorem dX11_book_0 : decode cX11_book 0 = .ok (.aload_n 0, 1) := dop_42 (zb_X11_book_0 0 rfl)
theorem dX11_book_1 : decode cX11_book 1 = .ok (.getfield 16, 3) := dop_180 (zb_X11_book_0 1 rfl) (zb_X11_book_0 2 rfl) (zb_X11_book_0 3 rfl) rfl
theorem dX11_book_4 : decode cX11_book 4 = .ok (.aload_n 0, 1) := dop_42 (zb_X11_book_0 4 rfl)
theorem dX11_book_5 : decode cX11_book 5 = .ok (.getfield 12, 3) := dop_180 (zb_X11_book_0 5 rfl) (zb_X11_book_0 6 rfl) (zb_X11_book_0 7 rfl) rfl
theorem dX11_book_8 : decode cX11_book 8 = .ok (.invokevirtual 197, 3) := dop_182 (zb_X11_book_0 8 rfl) (zb_X11_book_0 9 rfl) (zb_X11_book_0 10 rfl) rfl
theorem dX11_book_11 : decode cX11_book 11 = .ok (.aload_n 0, 1) := dop_42 (zb_X11_book_0 11 rfl)
theorem dX11_book_12 : decode cX11_book 12 = .ok (.getfield 39, 3) := dop_180 (zb_X11_book_0 12 rfl) (zb_X11_book_0 13 rfl) (zb_X11_book_0 14 rfl) rfl
theorem dX11_book_15 : decode cX11_book 15 = .ok (.aload_n 0, 1) := dop_42 (zb_X11_book_0 15 rfl)
theorem dX11_book_16 : decode cX11_book 16 = .ok (.getfield 16, 3) := dop_180 (zb_X11_book_0 16 rfl) (zb_X11_book_0 17 rfl) (zb_X11_book_0 18 rfl) rfl
theorem dX11_book_19 : decode cX11_book 19 = .ok (.invokevirtual 201, 3) := dop_182 (zb_X11_book_0 19 rfl) (zb_X11_book_0 20 rfl) (zb_X11_book_0 21 rfl) rfl
theorem dX11_book_22 : decode cX11_book 22 = .ok (.istore_n 1, 1) := dop_60 (zb_X11_book_0 22 rfl)
theorem dX11_book_23 : decode cX11_book 23 = .ok (.aload_n 0, 1) := dop_42 (zb_X11_book_0 23 rfl)
theorem dX11_book_24 : decode cX11_book 24 = .ok (.aload_n 0, 1) := dop_42 (zb_X11_book_0 24 rfl)
theorem dX11_book_25 : decode cX11_book 25 = .ok (.getfield 39, 3) := dop_180 (zb_X11_book_0 25 rfl) (zb_X11_book_0 26 rfl) (zb_X11_book_0 27 rfl) rfl
theorem dX11_book_28 : decode cX11_book 28 = .ok (.getfield 205, 3) := dop_180 (zb_X11_book_0 28 rfl) (zb_X11_book_0 29 rfl) (zb_X11_book_0 30 rfl) rfl
theorem dX11_book_31 : decode cX11_book 31 = .ok (.putfield 105, 3) := dop_181 (zb_X11_book_0 31 rfl) (zb_X11_book_0 32 rfl) (zb_X11_book_0 33 rfl) rfl
theorem dX11_book_34 : decode cX11_book 34 = .ok (.aload_n 0, 1) := dop_42 (zb_X11_book_0 34 rfl)
theorem dX11_book_35 : decode cX11_book 35 = .ok (.getfield 30, 3) := dop_180 (zb_X11_book_0 35 rfl) (zb_X11_book_0 36 rfl) (zb_X11_book_0 37 rfl) rfl
theorem dX11_book_38 : decode cX11_book 38 = .ok (.iconst 0, 1) := dop_3 (zb_X11_book_0 38 rfl)
theorem zb_X11_book_1 (j : Nat) {n : Nat} (e : zw_X11_book_1[j]? = some n) : dby cX11_book (39 + j) n := dw_b (t := []) ze_X11_book_1 j e
theorem dX11_book_39 : decode cX11_book 39 = .ok (.putfield 187, 3) := dop_181 (zb_X11_book_1 0 rfl) (zb_X11_book_1 1 rfl) (zb_X11_book_1 2 rfl) rfl
theorem dX11_book_42 : decode cX11_book 42 = .ok (.iload_n 1, 1) := dop_27 (zb_X11_book_1 3 rfl)
theorem dX11_book_43 : decode cX11_book 43 = .ok (.iconst (-1), 1) := dop_2 (zb_X11_book_1 4 rfl)
theorem dX11_book_44 : decode cX11_book 44 = .ok (.if_icmp .ne 10, 3) := dop_160 (zb_X11_book_1 5 rfl) (zb_X11_book_1 6 rfl) (zb_X11_book_1 7 rfl) rfl
theorem dX11_book_47 : decode cX11_book 47 = .ok (.aload_n 0, 1) := dop_42 (zb_X11_book_1 8 rfl)
theorem dX11_book_48 : decode cX11_book 48 = .ok (.bipush (-6), 2) := dop_16 (zb_X11_book_1 9 rfl) (zb_X11_book_1 10 rfl) rfl
theorem dX11_book_50 : decode cX11_book 50 = .ok (.invokevirtual 116, 3) := dop_182 (zb_X11_book_1 11 rfl) (zb_X11_book_1 12 rfl) (zb_X11_book_1 13 rfl) rfl
theorem dX11_book_53 : decode cX11_book 53 = .ok (.ireturn, 1) := dop_172 (zb_X11_book_1 14 rfl)
theorem dX11_book_54 : decode cX11_book 54 = .ok (.aload_n 0, 1) := dop_42 (zb_X11_book_1 15 rfl)
theorem dX11_book_55 : decode cX11_book 55 = .ok (.getfield 12, 3) := dop_180 (zb_X11_book_1 16 rfl) (zb_X11_book_1 17 rfl) (zb_X11_book_1 18 rfl) rfl
theorem dX11_book_58 : decode cX11_book 58 = .ok (.aload_n 0, 1) := dop_42 (zb_X11_book_1 19 rfl)
theorem dX11_book_59 : decode cX11_book 59 = .ok (.getfield 16, 3) := dop_180 (zb_X11_book_1 20 rfl) (zb_X11_book_1 21 rfl) (zb_X11_book_1 22 rfl) rfl
theorem dX11_book_62 : decode cX11_book 62 = .ok (.invokevirtual 197, 3) := dop_182 (zb_X11_book_1 23 rfl) (zb_X11_book_1 24 rfl) (zb_X11_book_1 25 rfl) rfl
theorem dX11_book_65 : decode cX11_book 65 = .ok (.aload_n 0, 1) := dop_42 (zb_X11_book_1 26 rfl)
theorem dX11_book_66 : decode cX11_book 66 = .ok (.iload_n 1, 1) := dop_27 (zb_X11_book_1 27 rfl)
theorem dX11_book_67 : decode cX11_book 67 = .ok (.invokevirtual 123, 3) := dop_182 (zb_X11_book_1 28 rfl) (zb_X11_book_1 29 rfl) (zb_X11_book_1 30 rfl) rfl
theorem dX11_book_70 : decode cX11_book 70 = .ok (.ireturn, 1) := dop_172 (zb_X11_book_1 31 rfl)
theorem dX11_fault_0 : decode cX11_fault 0 = .ok (.aload_n 0, 1) := by decide +kernel
theorem dX11_fault_1 : decode cX11_fault 1 = .ok (.getfield 105, 3) := by decide +kernel
theorem dX11_fault_4 : decode cX11_fault 4 = .ok (.ireturn, 1) := by decide +kernel
def zw_X11_fits_0 : List Nat := [42, 182, 0, 208, 153, 0, 7, 4, 167, 0, 4, 3, 172]
def zt_X11_fits_0 : List Nat := zw_X11_fits_0 ++ []
theorem ze_X11_fits_0 : (dcn cX11_fits).drop 0 = zt_X11_fits_0 := by decide +kernel
theorem zb_X11_fits_0 (j : Nat) {n : Nat} (e : zw_X11_fits_0[j]? = some n) : dby cX11_fits (0 + j) n := dw_b (t := []) ze_X11_fits_0 j e
theorem dX11_fits_0 : decode cX11_fits 0 = .ok (.aload_n 0, 1) := dop_42 (zb_X11_fits_0 0 rfl)
theorem dX11_fits_1 : decode cX11_fits 1 = .ok (.invokevirtual 208, 3) := dop_182 (zb_X11_fits_0 1 rfl) (zb_X11_fits_0 2 rfl) (zb_X11_fits_0 3 rfl) rfl
theorem dX11_fits_4 : decode cX11_fits 4 = .ok (.ifCond .eq 7, 3) := dop_153 (zb_X11_fits_0 4 rfl) (zb_X11_fits_0 5 rfl) (zb_X11_fits_0 6 rfl) rfl
theorem dX11_fits_7 : decode cX11_fits 7 = .ok (.iconst 1, 1) := dop_4 (zb_X11_fits_0 7 rfl)
theorem dX11_fits_8 : decode cX11_fits 8 = .ok (.goto 4, 3) := dop_167 (zb_X11_fits_0 8 rfl) (zb_X11_fits_0 9 rfl) (zb_X11_fits_0 10 rfl) rfl
theorem dX11_fits_11 : decode cX11_fits 11 = .ok (.iconst 0, 1) := dop_3 (zb_X11_fits_0 11 rfl)
theorem dX11_fits_12 : decode cX11_fits 12 = .ok (.ireturn, 1) := dop_172 (zb_X11_fits_0 12 rfl)
def zw_X11_between_3 : List Nat := [180, 0, 231, 153, 0, 7, 3, 167, 0, 4, 4, 172]
def zt_X11_between_3 : List Nat := zw_X11_between_3 ++ []
def zw_X11_between_2 : List Nat := [42, 180, 0, 53, 182, 0, 224, 20, 0, 218, 184, 0, 220, 172, 42, 180, 0, 53, 180, 0, 227, 180, 0, 231, 153, 0, 7, 3, 167, 0, 4, 4, 172, 42, 180, 0, 53, 180, 0, 237]
def zt_X11_between_2 : List Nat := zw_X11_between_2 ++ zt_X11_between_3
def zw_X11_between_1 : List Nat := [170, 0, 0, 0, 0, 73, 0, 0, 0, 0, 0, 0, 0, 2, 0, 0, 0, 26, 0, 0, 0, 40, 0, 0, 0, 54, 42, 180, 0, 53, 182, 0, 214, 20, 0, 218, 184, 0, 220, 172]
def zt_X11_between_1 : List Nat := zw_X11_between_1 ++ zt_X11_between_2
def zw_X11_between_0 : List Nat := [29, 3, 6, 184, 0, 112, 153, 0, 12, 42, 27, 28, 182, 0, 211, 154, 0, 6, 16, 254, 172, 29]
def zt_X11_between_0 : List Nat := zw_X11_between_0 ++ zt_X11_between_1
theorem ze_X11_between_0 : (dcn cX11_between).drop 0 = zt_X11_between_0 := by decide +kernel
theorem ze_X11_between_1 : (dcn cX11_between).drop 22 = zt_X11_between_1 := dw_n (wl := zw_X11_between_0) ze_X11_between_0 rfl
theorem zb_X11_between_0 (j : Nat) {n : Nat} (e : zw_X11_between_0[j]? = some n) : dby cX11_between (0 + j) n := dw_b (t := zt_X11_between_1) ze_X11_between_0 j e
theorem dX11_between_0 : decode cX11_between 0 = .ok (.iload_n 3, 1) := dop_29 (zb_X11_between_0 0 rfl)
theorem dX11_between_1 : decode cX11_between 1 = .ok (.iconst 0, 1) := dop_3 (zb_X11_between_0 1 rfl)
theorem dX11_between_2 : decode cX11_between 2 = .ok (.iconst 3, 1) := dop_6 (zb_X11_between_0 2 rfl)
theorem dX11_between_3 : decode cX11_between 3 = .ok (.invokestatic 112, 3) := dop_184 (zb_X11_between_0 3 rfl) (zb_X11_between_0 4 rfl) (zb_X11_between_0 5 rfl) rfl
theorem dX11_between_6 : decode cX11_between 6 = .ok (.ifCond .eq 12, 3) := dop_153 (zb_X11_between_0 6 rfl) (zb_X11_between_0 7 rfl) (zb_X11_between_0 8 rfl) rfl
theorem dX11_between_9 : decode cX11_between 9 = .ok (.aload_n 0, 1) := dop_42 (zb_X11_between_0 9 rfl)
theorem dX11_between_10 : decode cX11_between 10 = .ok (.iload_n 1, 1) := dop_27 (zb_X11_between_0 10 rfl)
theorem dX11_between_11 : decode cX11_between 11 = .ok (.iload_n 2, 1) := dop_28 (zb_X11_between_0 11 rfl)
theorem dX11_between_12 : decode cX11_between 12 = .ok (.invokevirtual 211, 3) := dop_182 (zb_X11_between_0 12 rfl) (zb_X11_between_0 13 rfl) (zb_X11_between_0 14 rfl) rfl
theorem dX11_between_15 : decode cX11_between 15 = .ok (.ifCond .ne 6, 3) := dop_154 (zb_X11_between_0 15 rfl) (zb_X11_between_0 16 rfl) (zb_X11_between_0 17 rfl) rfl
theorem dX11_between_18 : decode cX11_between 18 = .ok (.bipush (-2), 2) := dop_16 (zb_X11_between_0 18 rfl) (zb_X11_between_0 19 rfl) rfl
theorem dX11_between_20 : decode cX11_between 20 = .ok (.ireturn, 1) := dop_172 (zb_X11_between_0 20 rfl)
theorem dX11_between_21 : decode cX11_between 21 = .ok (.iload_n 3, 1) := dop_29 (zb_X11_between_0 21 rfl)
theorem ze_X11_between_2 : (dcn cX11_between).drop 62 = zt_X11_between_2 := dw_n (wl := zw_X11_between_1) ze_X11_between_1 rfl
theorem zb_X11_between_1 (j : Nat) {n : Nat} (e : zw_X11_between_1[j]? = some n) : dby cX11_between (22 + j) n := dw_b (t := zt_X11_between_2) ze_X11_between_1 j e
theorem dX11_between_22 : decode cX11_between 22 = .ok (.tableswitch 73 0 2 #[26, 40, 54], 26) := by decide +kernel
theorem dX11_between_48 : decode cX11_between 48 = .ok (.aload_n 0, 1) := dop_42 (zb_X11_between_1 26 rfl)
theorem dX11_between_49 : decode cX11_between 49 = .ok (.getfield 53, 3) := dop_180 (zb_X11_between_1 27 rfl) (zb_X11_between_1 28 rfl) (zb_X11_between_1 29 rfl) rfl
theorem dX11_between_52 : decode cX11_between 52 = .ok (.invokevirtual 214, 3) := dop_182 (zb_X11_between_1 30 rfl) (zb_X11_between_1 31 rfl) (zb_X11_between_1 32 rfl) rfl
theorem dX11_between_55 : decode cX11_between 55 = .ok (.ldc2_w 218, 3) := dop_20 (zb_X11_between_1 33 rfl) (zb_X11_between_1 34 rfl) (zb_X11_between_1 35 rfl) rfl
theorem dX11_between_58 : decode cX11_between 58 = .ok (.invokestatic 220, 3) := dop_184 (zb_X11_between_1 36 rfl) (zb_X11_between_1 37 rfl) (zb_X11_between_1 38 rfl) rfl
theorem dX11_between_61 : decode cX11_between 61 = .ok (.ireturn, 1) := dop_172 (zb_X11_between_1 39 rfl)
theorem ze_X11_between_3 : (dcn cX11_between).drop 102 = zt_X11_between_3 := dw_n (wl := zw_X11_between_2) ze_X11_between_2 rfl
theorem zb_X11_between_2 (j : Nat) {n : Nat} (e : zw_X11_between_2[j]? = some n) : dby cX11_between (62 + j) n := dw_b (t := zt_X11_between_3) ze_X11_between_2 j e
theorem dX11_between_62 : decode cX11_between 62 = .ok (.aload_n 0, 1) := dop_42 (zb_X11_between_2 0 rfl)
theorem dX11_between_63 : decode cX11_between 63 = .ok (.getfield 53, 3) := dop_180 (zb_X11_between_2 1 rfl) (zb_X11_between_2 2 rfl) (zb_X11_between_2 3 rfl) rfl
theorem dX11_between_66 : decode cX11_between 66 = .ok (.invokevirtual 224, 3) := dop_182 (zb_X11_between_2 4 rfl) (zb_X11_between_2 5 rfl) (zb_X11_between_2 6 rfl) rfl
theorem dX11_between_69 : decode cX11_between 69 = .ok (.ldc2_w 218, 3) := dop_20 (zb_X11_between_2 7 rfl) (zb_X11_between_2 8 rfl) (zb_X11_between_2 9 rfl) rfl
theorem dX11_between_72 : decode cX11_between 72 = .ok (.invokestatic 220, 3) := dop_184 (zb_X11_between_2 10 rfl) (zb_X11_between_2 11 rfl) (zb_X11_between_2 12 rfl) rfl
theorem dX11_between_75 : decode cX11_between 75 = .ok (.ireturn, 1) := dop_172 (zb_X11_between_2 13 rfl)
theorem dX11_between_76 : decode cX11_between 76 = .ok (.aload_n 0, 1) := dop_42 (zb_X11_between_2 14 rfl)
theorem dX11_between_77 : decode cX11_between 77 = .ok (.getfield 53, 3) := dop_180 (zb_X11_between_2 15 rfl) (zb_X11_between_2 16 rfl) (zb_X11_between_2 17 rfl) rfl
theorem dX11_between_80 : decode cX11_between 80 = .ok (.getfield 227, 3) := dop_180 (zb_X11_between_2 18 rfl) (zb_X11_between_2 19 rfl) (zb_X11_between_2 20 rfl) rfl
theorem dX11_between_83 : decode cX11_between 83 = .ok (.getfield 231, 3) := dop_180 (zb_X11_between_2 21 rfl) (zb_X11_between_2 22 rfl) (zb_X11_between_2 23 rfl) rfl
theorem dX11_between_86 : decode cX11_between 86 = .ok (.ifCond .eq 7, 3) := dop_153 (zb_X11_between_2 24 rfl) (zb_X11_between_2 25 rfl) (zb_X11_between_2 26 rfl) rfl
theorem dX11_between_89 : decode cX11_between 89 = .ok (.iconst 0, 1) := dop_3 (zb_X11_between_2 27 rfl)
theorem dX11_between_90 : decode cX11_between 90 = .ok (.goto 4, 3) := dop_167 (zb_X11_between_2 28 rfl) (zb_X11_between_2 29 rfl) (zb_X11_between_2 30 rfl) rfl
theorem dX11_between_93 : decode cX11_between 93 = .ok (.iconst 1, 1) := dop_4 (zb_X11_between_2 31 rfl)
theorem dX11_between_94 : decode cX11_between 94 = .ok (.ireturn, 1) := dop_172 (zb_X11_between_2 32 rfl)
theorem dX11_between_95 : decode cX11_between 95 = .ok (.aload_n 0, 1) := dop_42 (zb_X11_between_2 33 rfl)
theorem dX11_between_96 : decode cX11_between 96 = .ok (.getfield 53, 3) := dop_180 (zb_X11_between_2 34 rfl) (zb_X11_between_2 35 rfl) (zb_X11_between_2 36 rfl) rfl
theorem dX11_between_99 : decode cX11_between 99 = .ok (.getfield 237, 3) := dop_180 (zb_X11_between_2 37 rfl) (zb_X11_between_2 38 rfl) (zb_X11_between_2 39 rfl) rfl
theorem zb_X11_between_3 (j : Nat) {n : Nat} (e : zw_X11_between_3[j]? = some n) : dby cX11_between (102 + j) n := dw_b (t := []) ze_X11_between_3 j e
theorem dX11_between_102 : decode cX11_between 102 = .ok (.getfield 231, 3) := dop_180 (zb_X11_between_3 0 rfl) (zb_X11_between_3 1 rfl) (zb_X11_between_3 2 rfl) rfl
theorem dX11_between_105 : decode cX11_between 105 = .ok (.ifCond .eq 7, 3) := dop_153 (zb_X11_between_3 3 rfl) (zb_X11_between_3 4 rfl) (zb_X11_between_3 5 rfl) rfl
theorem dX11_between_108 : decode cX11_between 108 = .ok (.iconst 0, 1) := dop_3 (zb_X11_between_3 6 rfl)
theorem dX11_between_109 : decode cX11_between 109 = .ok (.goto 4, 3) := dop_167 (zb_X11_between_3 7 rfl) (zb_X11_between_3 8 rfl) (zb_X11_between_3 9 rfl) rfl
theorem dX11_between_112 : decode cX11_between 112 = .ok (.iconst 1, 1) := dop_4 (zb_X11_between_3 10 rfl)
theorem dX11_between_113 : decode cX11_between 113 = .ok (.ireturn, 1) := dop_172 (zb_X11_between_3 11 rfl)
def zw_X11_sure_1 : List Nat := [42, 180, 0, 53, 180, 0, 237, 182, 0, 244, 153, 0, 7, 5, 167, 0, 4, 3, 172]
def zt_X11_sure_1 : List Nat := zw_X11_sure_1 ++ []
def zw_X11_sure_0 : List Nat := [42, 27, 28, 182, 0, 211, 154, 0, 6, 16, 254, 172, 42, 180, 0, 53, 10, 182, 0, 240, 153, 0, 5, 6, 172, 42, 180, 0, 53, 180, 0, 227, 182, 0, 244, 153, 0, 5, 4, 172]
def zt_X11_sure_0 : List Nat := zw_X11_sure_0 ++ zt_X11_sure_1
theorem ze_X11_sure_0 : (dcn cX11_sure).drop 0 = zt_X11_sure_0 := by decide +kernel
theorem ze_X11_sure_1 : (dcn cX11_sure).drop 40 = zt_X11_sure_1 := dw_n (wl := zw_X11_sure_0) ze_X11_sure_0 rfl
theorem zb_X11_sure_0 (j : Nat) {n : Nat} (e : zw_X11_sure_0[j]? = some n) : dby cX11_sure (0 + j) n := dw_b (t := zt_X11_sure_1) ze_X11_sure_0 j e
theorem dX11_sure_0 : decode cX11_sure 0 = .ok (.aload_n 0, 1) := dop_42 (zb_X11_sure_0 0 rfl)
theorem dX11_sure_1 : decode cX11_sure 1 = .ok (.iload_n 1, 1) := dop_27 (zb_X11_sure_0 1 rfl)
theorem dX11_sure_2 : decode cX11_sure 2 = .ok (.iload_n 2, 1) := dop_28 (zb_X11_sure_0 2 rfl)
theorem dX11_sure_3 : decode cX11_sure 3 = .ok (.invokevirtual 211, 3) := dop_182 (zb_X11_sure_0 3 rfl) (zb_X11_sure_0 4 rfl) (zb_X11_sure_0 5 rfl) rfl
theorem dX11_sure_6 : decode cX11_sure 6 = .ok (.ifCond .ne 6, 3) := dop_154 (zb_X11_sure_0 6 rfl) (zb_X11_sure_0 7 rfl) (zb_X11_sure_0 8 rfl) rfl
theorem dX11_sure_9 : decode cX11_sure 9 = .ok (.bipush (-2), 2) := dop_16 (zb_X11_sure_0 9 rfl) (zb_X11_sure_0 10 rfl) rfl
theorem dX11_sure_11 : decode cX11_sure 11 = .ok (.ireturn, 1) := dop_172 (zb_X11_sure_0 11 rfl)
theorem dX11_sure_12 : decode cX11_sure 12 = .ok (.aload_n 0, 1) := dop_42 (zb_X11_sure_0 12 rfl)
theorem dX11_sure_13 : decode cX11_sure 13 = .ok (.getfield 53, 3) := dop_180 (zb_X11_sure_0 13 rfl) (zb_X11_sure_0 14 rfl) (zb_X11_sure_0 15 rfl) rfl
theorem dX11_sure_16 : decode cX11_sure 16 = .ok (.lconst 1, 1) := dop_10 (zb_X11_sure_0 16 rfl)
theorem dX11_sure_17 : decode cX11_sure 17 = .ok (.invokevirtual 240, 3) := dop_182 (zb_X11_sure_0 17 rfl) (zb_X11_sure_0 18 rfl) (zb_X11_sure_0 19 rfl) rfl
theorem dX11_sure_20 : decode cX11_sure 20 = .ok (.ifCond .eq 5, 3) := dop_153 (zb_X11_sure_0 20 rfl) (zb_X11_sure_0 21 rfl) (zb_X11_sure_0 22 rfl) rfl
theorem dX11_sure_23 : decode cX11_sure 23 = .ok (.iconst 3, 1) := dop_6 (zb_X11_sure_0 23 rfl)
theorem dX11_sure_24 : decode cX11_sure 24 = .ok (.ireturn, 1) := dop_172 (zb_X11_sure_0 24 rfl)
theorem dX11_sure_25 : decode cX11_sure 25 = .ok (.aload_n 0, 1) := dop_42 (zb_X11_sure_0 25 rfl)
theorem dX11_sure_26 : decode cX11_sure 26 = .ok (.getfield 53, 3) := dop_180 (zb_X11_sure_0 26 rfl) (zb_X11_sure_0 27 rfl) (zb_X11_sure_0 28 rfl) rfl
theorem dX11_sure_29 : decode cX11_sure 29 = .ok (.getfield 227, 3) := dop_180 (zb_X11_sure_0 29 rfl) (zb_X11_sure_0 30 rfl) (zb_X11_sure_0 31 rfl) rfl
theorem dX11_sure_32 : decode cX11_sure 32 = .ok (.invokevirtual 244, 3) := dop_182 (zb_X11_sure_0 32 rfl) (zb_X11_sure_0 33 rfl) (zb_X11_sure_0 34 rfl) rfl
theorem dX11_sure_35 : decode cX11_sure 35 = .ok (.ifCond .eq 5, 3) := dop_153 (zb_X11_sure_0 35 rfl) (zb_X11_sure_0 36 rfl) (zb_X11_sure_0 37 rfl) rfl
theorem dX11_sure_38 : decode cX11_sure 38 = .ok (.iconst 1, 1) := dop_4 (zb_X11_sure_0 38 rfl)
theorem dX11_sure_39 : decode cX11_sure 39 = .ok (.ireturn, 1) := dop_172 (zb_X11_sure_0 39 rfl)
theorem zb_X11_sure_1 (j : Nat) {n : Nat} (e : zw_X11_sure_1[j]? = some n) : dby cX11_sure (40 + j) n := dw_b (t := []) ze_X11_sure_1 j e
theorem dX11_sure_40 : decode cX11_sure 40 = .ok (.aload_n 0, 1) := dop_42 (zb_X11_sure_1 0 rfl)
theorem dX11_sure_41 : decode cX11_sure 41 = .ok (.getfield 53, 3) := dop_180 (zb_X11_sure_1 1 rfl) (zb_X11_sure_1 2 rfl) (zb_X11_sure_1 3 rfl) rfl
theorem dX11_sure_44 : decode cX11_sure 44 = .ok (.getfield 237, 3) := dop_180 (zb_X11_sure_1 4 rfl) (zb_X11_sure_1 5 rfl) (zb_X11_sure_1 6 rfl) rfl
theorem dX11_sure_47 : decode cX11_sure 47 = .ok (.invokevirtual 244, 3) := dop_182 (zb_X11_sure_1 7 rfl) (zb_X11_sure_1 8 rfl) (zb_X11_sure_1 9 rfl) rfl
theorem dX11_sure_50 : decode cX11_sure 50 = .ok (.ifCond .eq 7, 3) := dop_153 (zb_X11_sure_1 10 rfl) (zb_X11_sure_1 11 rfl) (zb_X11_sure_1 12 rfl) rfl
theorem dX11_sure_53 : decode cX11_sure 53 = .ok (.iconst 2, 1) := dop_5 (zb_X11_sure_1 13 rfl)
theorem dX11_sure_54 : decode cX11_sure 54 = .ok (.goto 4, 3) := dop_167 (zb_X11_sure_1 14 rfl) (zb_X11_sure_1 15 rfl) (zb_X11_sure_1 16 rfl) rfl
theorem dX11_sure_57 : decode cX11_sure 57 = .ok (.iconst 0, 1) := dop_3 (zb_X11_sure_1 17 rfl)
theorem dX11_sure_58 : decode cX11_sure 58 = .ok (.ireturn, 1) := dop_172 (zb_X11_sure_1 18 rfl)
def zw_X11_feet_1 : List Nat := [4, 182, 0, 254, 20, 1, 1, 184, 0, 220, 172]
def zt_X11_feet_1 : List Nat := zw_X11_feet_1 ++ []
def zw_X11_feet_0 : List Nat := [29, 3, 4, 184, 0, 112, 153, 0, 12, 42, 27, 28, 182, 0, 247, 154, 0, 6, 16, 254, 172, 29, 154, 0, 14, 42, 180, 0, 53, 4, 182, 0, 250, 167, 0, 11, 42, 180, 0, 53]
def zt_X11_feet_0 : List Nat := zw_X11_feet_0 ++ zt_X11_feet_1
theorem ze_X11_feet_0 : (dcn cX11_feet).drop 0 = zt_X11_feet_0 := by decide +kernel
theorem ze_X11_feet_1 : (dcn cX11_feet).drop 40 = zt_X11_feet_1 := dw_n (wl := zw_X11_feet_0) ze_X11_feet_0 rfl
theorem zb_X11_feet_0 (j : Nat) {n : Nat} (e : zw_X11_feet_0[j]? = some n) : dby cX11_feet (0 + j) n := dw_b (t := zt_X11_feet_1) ze_X11_feet_0 j e
theorem dX11_feet_0 : decode cX11_feet 0 = .ok (.iload_n 3, 1) := dop_29 (zb_X11_feet_0 0 rfl)
theorem dX11_feet_1 : decode cX11_feet 1 = .ok (.iconst 0, 1) := dop_3 (zb_X11_feet_0 1 rfl)
theorem dX11_feet_2 : decode cX11_feet 2 = .ok (.iconst 1, 1) := dop_4 (zb_X11_feet_0 2 rfl)
theorem dX11_feet_3 : decode cX11_feet 3 = .ok (.invokestatic 112, 3) := dop_184 (zb_X11_feet_0 3 rfl) (zb_X11_feet_0 4 rfl) (zb_X11_feet_0 5 rfl) rfl
theorem dX11_feet_6 : decode cX11_feet 6 = .ok (.ifCond .eq 12, 3) := dop_153 (zb_X11_feet_0 6 rfl) (zb_X11_feet_0 7 rfl) (zb_X11_feet_0 8 rfl) rfl
theorem dX11_feet_9 : decode cX11_feet 9 = .ok (.aload_n 0, 1) := dop_42 (zb_X11_feet_0 9 rfl)
theorem dX11_feet_10 : decode cX11_feet 10 = .ok (.iload_n 1, 1) := dop_27 (zb_X11_feet_0 10 rfl)
theorem dX11_feet_11 : decode cX11_feet 11 = .ok (.iload_n 2, 1) := dop_28 (zb_X11_feet_0 11 rfl)
theorem dX11_feet_12 : decode cX11_feet 12 = .ok (.invokevirtual 247, 3) := dop_182 (zb_X11_feet_0 12 rfl) (zb_X11_feet_0 13 rfl) (zb_X11_feet_0 14 rfl) rfl
theorem dX11_feet_15 : decode cX11_feet 15 = .ok (.ifCond .ne 6, 3) := dop_154 (zb_X11_feet_0 15 rfl) (zb_X11_feet_0 16 rfl) (zb_X11_feet_0 17 rfl) rfl
theorem dX11_feet_18 : decode cX11_feet 18 = .ok (.bipush (-2), 2) := dop_16 (zb_X11_feet_0 18 rfl) (zb_X11_feet_0 19 rfl) rfl
theorem dX11_feet_20 : decode cX11_feet 20 = .ok (.ireturn, 1) := dop_172 (zb_X11_feet_0 20 rfl)
theorem dX11_feet_21 : decode cX11_feet 21 = .ok (.iload_n 3, 1) := dop_29 (zb_X11_feet_0 21 rfl)
theorem dX11_feet_22 : decode cX11_feet 22 = .ok (.ifCond .ne 14, 3) := dop_154 (zb_X11_feet_0 22 rfl) (zb_X11_feet_0 23 rfl) (zb_X11_feet_0 24 rfl) rfl
theorem dX11_feet_25 : decode cX11_feet 25 = .ok (.aload_n 0, 1) := dop_42 (zb_X11_feet_0 25 rfl)
theorem dX11_feet_26 : decode cX11_feet 26 = .ok (.getfield 53, 3) := dop_180 (zb_X11_feet_0 26 rfl) (zb_X11_feet_0 27 rfl) (zb_X11_feet_0 28 rfl) rfl
theorem dX11_feet_29 : decode cX11_feet 29 = .ok (.iconst 1, 1) := dop_4 (zb_X11_feet_0 29 rfl)
theorem dX11_feet_30 : decode cX11_feet 30 = .ok (.invokevirtual 250, 3) := dop_182 (zb_X11_feet_0 30 rfl) (zb_X11_feet_0 31 rfl) (zb_X11_feet_0 32 rfl) rfl
theorem dX11_feet_33 : decode cX11_feet 33 = .ok (.goto 11, 3) := dop_167 (zb_X11_feet_0 33 rfl) (zb_X11_feet_0 34 rfl) (zb_X11_feet_0 35 rfl) rfl
theorem dX11_feet_36 : decode cX11_feet 36 = .ok (.aload_n 0, 1) := dop_42 (zb_X11_feet_0 36 rfl)
theorem dX11_feet_37 : decode cX11_feet 37 = .ok (.getfield 53, 3) := dop_180 (zb_X11_feet_0 37 rfl) (zb_X11_feet_0 38 rfl) (zb_X11_feet_0 39 rfl) rfl
theorem zb_X11_feet_1 (j : Nat) {n : Nat} (e : zw_X11_feet_1[j]? = some n) : dby cX11_feet (40 + j) n := dw_b (t := []) ze_X11_feet_1 j e
theorem dX11_feet_40 : decode cX11_feet 40 = .ok (.iconst 1, 1) := dop_4 (zb_X11_feet_1 0 rfl)
theorem dX11_feet_41 : decode cX11_feet 41 = .ok (.invokevirtual 254, 3) := dop_182 (zb_X11_feet_1 1 rfl) (zb_X11_feet_1 2 rfl) (zb_X11_feet_1 3 rfl) rfl
theorem dX11_feet_44 : decode cX11_feet 44 = .ok (.ldc2_w 257, 3) := dop_20 (zb_X11_feet_1 4 rfl) (zb_X11_feet_1 5 rfl) (zb_X11_feet_1 6 rfl) rfl
theorem dX11_feet_47 : decode cX11_feet 47 = .ok (.invokestatic 220, 3) := dop_184 (zb_X11_feet_1 7 rfl) (zb_X11_feet_1 8 rfl) (zb_X11_feet_1 9 rfl) rfl
theorem dX11_feet_50 : decode cX11_feet 50 = .ok (.ireturn, 1) := dop_172 (zb_X11_feet_1 10 rfl)
def zw_X11_part_1 : List Nat := [180, 0, 237, 58, 4, 29, 154, 0, 11, 25, 4, 180, 1, 8, 167, 0, 8, 25, 4, 180, 1, 12, 25, 4, 180, 1, 8, 25, 4, 180, 1, 12, 184, 1, 15, 184, 1, 19, 173]
def zt_X11_part_1 : List Nat := zw_X11_part_1 ++ []
def zw_X11_part_0 : List Nat := [29, 3, 4, 184, 0, 112, 153, 0, 12, 42, 27, 28, 182, 0, 211, 154, 0, 7, 20, 1, 3, 173, 42, 180, 0, 53, 182, 1, 5, 154, 0, 5, 9, 173, 42, 180, 0, 53]
def zt_X11_part_0 : List Nat := zw_X11_part_0 ++ zt_X11_part_1
theorem ze_X11_part_0 : (dcn cX11_part).drop 0 = zt_X11_part_0 := by decide +kernel
theorem ze_X11_part_1 : (dcn cX11_part).drop 38 = zt_X11_part_1 := dw_n (wl := zw_X11_part_0) ze_X11_part_0 rfl
theorem zb_X11_part_0 (j : Nat) {n : Nat} (e : zw_X11_part_0[j]? = some n) : dby cX11_part (0 + j) n := dw_b (t := zt_X11_part_1) ze_X11_part_0 j e
theorem dX11_part_0 : decode cX11_part 0 = .ok (.iload_n 3, 1) := dop_29 (zb_X11_part_0 0 rfl)
theorem dX11_part_1 : decode cX11_part 1 = .ok (.iconst 0, 1) := dop_3 (zb_X11_part_0 1 rfl)
theorem dX11_part_2 : decode cX11_part 2 = .ok (.iconst 1, 1) := dop_4 (zb_X11_part_0 2 rfl)
theorem dX11_part_3 : decode cX11_part 3 = .ok (.invokestatic 112, 3) := dop_184 (zb_X11_part_0 3 rfl) (zb_X11_part_0 4 rfl) (zb_X11_part_0 5 rfl) rfl
theorem dX11_part_6 : decode cX11_part 6 = .ok (.ifCond .eq 12, 3) := dop_153 (zb_X11_part_0 6 rfl) (zb_X11_part_0 7 rfl) (zb_X11_part_0 8 rfl) rfl
theorem dX11_part_9 : decode cX11_part 9 = .ok (.aload_n 0, 1) := dop_42 (zb_X11_part_0 9 rfl)
theorem dX11_part_10 : decode cX11_part 10 = .ok (.iload_n 1, 1) := dop_27 (zb_X11_part_0 10 rfl)
theorem dX11_part_11 : decode cX11_part 11 = .ok (.iload_n 2, 1) := dop_28 (zb_X11_part_0 11 rfl)
theorem dX11_part_12 : decode cX11_part 12 = .ok (.invokevirtual 211, 3) := dop_182 (zb_X11_part_0 12 rfl) (zb_X11_part_0 13 rfl) (zb_X11_part_0 14 rfl) rfl
theorem dX11_part_15 : decode cX11_part 15 = .ok (.ifCond .ne 7, 3) := dop_154 (zb_X11_part_0 15 rfl) (zb_X11_part_0 16 rfl) (zb_X11_part_0 17 rfl) rfl
theorem dX11_part_18 : decode cX11_part 18 = .ok (.ldc2_w 259, 3) := dop_20 (zb_X11_part_0 18 rfl) (zb_X11_part_0 19 rfl) (zb_X11_part_0 20 rfl) rfl
theorem dX11_part_21 : decode cX11_part 21 = .ok (.lreturn, 1) := dop_173 (zb_X11_part_0 21 rfl)
theorem dX11_part_22 : decode cX11_part 22 = .ok (.aload_n 0, 1) := dop_42 (zb_X11_part_0 22 rfl)
theorem dX11_part_23 : decode cX11_part 23 = .ok (.getfield 53, 3) := dop_180 (zb_X11_part_0 23 rfl) (zb_X11_part_0 24 rfl) (zb_X11_part_0 25 rfl) rfl
theorem dX11_part_26 : decode cX11_part 26 = .ok (.invokevirtual 261, 3) := dop_182 (zb_X11_part_0 26 rfl) (zb_X11_part_0 27 rfl) (zb_X11_part_0 28 rfl) rfl
theorem dX11_part_29 : decode cX11_part 29 = .ok (.ifCond .ne 5, 3) := dop_154 (zb_X11_part_0 29 rfl) (zb_X11_part_0 30 rfl) (zb_X11_part_0 31 rfl) rfl
theorem dX11_part_32 : decode cX11_part 32 = .ok (.lconst 0, 1) := dop_9 (zb_X11_part_0 32 rfl)
theorem dX11_part_33 : decode cX11_part 33 = .ok (.lreturn, 1) := dop_173 (zb_X11_part_0 33 rfl)
theorem dX11_part_34 : decode cX11_part 34 = .ok (.aload_n 0, 1) := dop_42 (zb_X11_part_0 34 rfl)
theorem dX11_part_35 : decode cX11_part 35 = .ok (.getfield 53, 3) := dop_180 (zb_X11_part_0 35 rfl) (zb_X11_part_0 36 rfl) (zb_X11_part_0 37 rfl) rfl
theorem zb_X11_part_1 (j : Nat) {n : Nat} (e : zw_X11_part_1[j]? = some n) : dby cX11_part (38 + j) n := dw_b (t := []) ze_X11_part_1 j e
theorem dX11_part_38 : decode cX11_part 38 = .ok (.getfield 237, 3) := dop_180 (zb_X11_part_1 0 rfl) (zb_X11_part_1 1 rfl) (zb_X11_part_1 2 rfl) rfl
theorem dX11_part_41 : decode cX11_part 41 = .ok (.astore 4, 2) := dop_58 (zb_X11_part_1 3 rfl) (zb_X11_part_1 4 rfl)
theorem dX11_part_43 : decode cX11_part 43 = .ok (.iload_n 3, 1) := dop_29 (zb_X11_part_1 5 rfl)
theorem dX11_part_44 : decode cX11_part 44 = .ok (.ifCond .ne 11, 3) := dop_154 (zb_X11_part_1 6 rfl) (zb_X11_part_1 7 rfl) (zb_X11_part_1 8 rfl) rfl
theorem dX11_part_47 : decode cX11_part 47 = .ok (.aload 4, 2) := dop_25 (zb_X11_part_1 9 rfl) (zb_X11_part_1 10 rfl)
theorem dX11_part_49 : decode cX11_part 49 = .ok (.getfield 264, 3) := dop_180 (zb_X11_part_1 11 rfl) (zb_X11_part_1 12 rfl) (zb_X11_part_1 13 rfl) rfl
theorem dX11_part_52 : decode cX11_part 52 = .ok (.goto 8, 3) := dop_167 (zb_X11_part_1 14 rfl) (zb_X11_part_1 15 rfl) (zb_X11_part_1 16 rfl) rfl
theorem dX11_part_55 : decode cX11_part 55 = .ok (.aload 4, 2) := dop_25 (zb_X11_part_1 17 rfl) (zb_X11_part_1 18 rfl)
theorem dX11_part_57 : decode cX11_part 57 = .ok (.getfield 268, 3) := dop_180 (zb_X11_part_1 19 rfl) (zb_X11_part_1 20 rfl) (zb_X11_part_1 21 rfl) rfl
theorem dX11_part_60 : decode cX11_part 60 = .ok (.aload 4, 2) := dop_25 (zb_X11_part_1 22 rfl) (zb_X11_part_1 23 rfl)
theorem dX11_part_62 : decode cX11_part 62 = .ok (.getfield 264, 3) := dop_180 (zb_X11_part_1 24 rfl) (zb_X11_part_1 25 rfl) (zb_X11_part_1 26 rfl) rfl
theorem dX11_part_65 : decode cX11_part 65 = .ok (.aload 4, 2) := dop_25 (zb_X11_part_1 27 rfl) (zb_X11_part_1 28 rfl)
theorem dX11_part_67 : decode cX11_part 67 = .ok (.getfield 268, 3) := dop_180 (zb_X11_part_1 29 rfl) (zb_X11_part_1 30 rfl) (zb_X11_part_1 31 rfl) rfl
theorem dX11_part_70 : decode cX11_part 70 = .ok (.invokestatic 271, 3) := dop_184 (zb_X11_part_1 32 rfl) (zb_X11_part_1 33 rfl) (zb_X11_part_1 34 rfl) rfl
theorem dX11_part_73 : decode cX11_part 73 = .ok (.invokestatic 275, 3) := dop_184 (zb_X11_part_1 35 rfl) (zb_X11_part_1 36 rfl) (zb_X11_part_1 37 rfl) rfl
theorem dX11_part_76 : decode cX11_part 76 = .ok (.lreturn, 1) := dop_173 (zb_X11_part_1 38 rfl)
def zw_X11_lay_3 : List Nat := [184, 0, 220, 172]
def zt_X11_lay_3 : List Nat := zw_X11_lay_3 ++ []
def zw_X11_lay_2 : List Nat := [21, 4, 21, 5, 182, 1, 28, 42, 28, 21, 4, 21, 5, 182, 1, 28, 29, 2, 159, 0, 12, 42, 29, 21, 4, 21, 5, 182, 1, 28, 42, 180, 0, 60, 182, 1, 32, 20, 1, 35]
def zt_X11_lay_2 : List Nat := zw_X11_lay_2 ++ zt_X11_lay_3
def zw_X11_lay_1 : List Nat := [153, 0, 28, 21, 4, 184, 0, 132, 153, 0, 20, 21, 5, 3, 4, 184, 0, 112, 153, 0, 10, 42, 182, 0, 208, 154, 0, 6, 16, 254, 172, 42, 180, 0, 60, 182, 1, 25, 42, 27]
def zt_X11_lay_1 : List Nat := zw_X11_lay_1 ++ zt_X11_lay_2
def zw_X11_lay_0 : List Nat := [42, 27, 182, 1, 22, 153, 0, 28, 42, 28, 182, 1, 22, 153, 0, 20, 29, 2, 159, 0, 11, 42, 29, 182, 1, 22, 153, 0, 7, 4, 167, 0, 4, 3, 54, 6, 21, 6]
def zt_X11_lay_0 : List Nat := zw_X11_lay_0 ++ zt_X11_lay_1
theorem ze_X11_lay_0 : (dcn cX11_lay).drop 0 = zt_X11_lay_0 := by decide +kernel
theorem ze_X11_lay_1 : (dcn cX11_lay).drop 38 = zt_X11_lay_1 := dw_n (wl := zw_X11_lay_0) ze_X11_lay_0 rfl
theorem zb_X11_lay_0 (j : Nat) {n : Nat} (e : zw_X11_lay_0[j]? = some n) : dby cX11_lay (0 + j) n := dw_b (t := zt_X11_lay_1) ze_X11_lay_0 j e
theorem dX11_lay_0 : decode cX11_lay 0 = .ok (.aload_n 0, 1) := dop_42 (zb_X11_lay_0 0 rfl)
theorem dX11_lay_1 : decode cX11_lay 1 = .ok (.iload_n 1, 1) := dop_27 (zb_X11_lay_0 1 rfl)
theorem dX11_lay_2 : decode cX11_lay 2 = .ok (.invokevirtual 278, 3) := dop_182 (zb_X11_lay_0 2 rfl) (zb_X11_lay_0 3 rfl) (zb_X11_lay_0 4 rfl) rfl
theorem dX11_lay_5 : decode cX11_lay 5 = .ok (.ifCond .eq 28, 3) := dop_153 (zb_X11_lay_0 5 rfl) (zb_X11_lay_0 6 rfl) (zb_X11_lay_0 7 rfl) rfl
theorem dX11_lay_8 : decode cX11_lay 8 = .ok (.aload_n 0, 1) := dop_42 (zb_X11_lay_0 8 rfl)
theorem dX11_lay_9 : decode cX11_lay 9 = .ok (.iload_n 2, 1) := dop_28 (zb_X11_lay_0 9 rfl)
theorem dX11_lay_10 : decode cX11_lay 10 = .ok (.invokevirtual 278, 3) := dop_182 (zb_X11_lay_0 10 rfl) (zb_X11_lay_0 11 rfl) (zb_X11_lay_0 12 rfl) rfl
theorem dX11_lay_13 : decode cX11_lay 13 = .ok (.ifCond .eq 20, 3) := dop_153 (zb_X11_lay_0 13 rfl) (zb_X11_lay_0 14 rfl) (zb_X11_lay_0 15 rfl) rfl
theorem dX11_lay_16 : decode cX11_lay 16 = .ok (.iload_n 3, 1) := dop_29 (zb_X11_lay_0 16 rfl)
theorem dX11_lay_17 : decode cX11_lay 17 = .ok (.iconst (-1), 1) := dop_2 (zb_X11_lay_0 17 rfl)
theorem dX11_lay_18 : decode cX11_lay 18 = .ok (.if_icmp .eq 11, 3) := dop_159 (zb_X11_lay_0 18 rfl) (zb_X11_lay_0 19 rfl) (zb_X11_lay_0 20 rfl) rfl
theorem dX11_lay_21 : decode cX11_lay 21 = .ok (.aload_n 0, 1) := dop_42 (zb_X11_lay_0 21 rfl)
theorem dX11_lay_22 : decode cX11_lay 22 = .ok (.iload_n 3, 1) := dop_29 (zb_X11_lay_0 22 rfl)
theorem dX11_lay_23 : decode cX11_lay 23 = .ok (.invokevirtual 278, 3) := dop_182 (zb_X11_lay_0 23 rfl) (zb_X11_lay_0 24 rfl) (zb_X11_lay_0 25 rfl) rfl
theorem dX11_lay_26 : decode cX11_lay 26 = .ok (.ifCond .eq 7, 3) := dop_153 (zb_X11_lay_0 26 rfl) (zb_X11_lay_0 27 rfl) (zb_X11_lay_0 28 rfl) rfl
theorem dX11_lay_29 : decode cX11_lay 29 = .ok (.iconst 1, 1) := dop_4 (zb_X11_lay_0 29 rfl)
theorem dX11_lay_30 : decode cX11_lay 30 = .ok (.goto 4, 3) := dop_167 (zb_X11_lay_0 30 rfl) (zb_X11_lay_0 31 rfl) (zb_X11_lay_0 32 rfl) rfl
theorem dX11_lay_33 : decode cX11_lay 33 = .ok (.iconst 0, 1) := dop_3 (zb_X11_lay_0 33 rfl)
theorem dX11_lay_34 : decode cX11_lay 34 = .ok (.istore 6, 2) := dop_54 (zb_X11_lay_0 34 rfl) (zb_X11_lay_0 35 rfl)
theorem dX11_lay_36 : decode cX11_lay 36 = .ok (.iload 6, 2) := dop_21 (zb_X11_lay_0 36 rfl) (zb_X11_lay_0 37 rfl)
theorem ze_X11_lay_2 : (dcn cX11_lay).drop 78 = zt_X11_lay_2 := dw_n (wl := zw_X11_lay_1) ze_X11_lay_1 rfl
theorem zb_X11_lay_1 (j : Nat) {n : Nat} (e : zw_X11_lay_1[j]? = some n) : dby cX11_lay (38 + j) n := dw_b (t := zt_X11_lay_2) ze_X11_lay_1 j e
theorem dX11_lay_38 : decode cX11_lay 38 = .ok (.ifCond .eq 28, 3) := dop_153 (zb_X11_lay_1 0 rfl) (zb_X11_lay_1 1 rfl) (zb_X11_lay_1 2 rfl) rfl
theorem dX11_lay_41 : decode cX11_lay 41 = .ok (.iload 4, 2) := dop_21 (zb_X11_lay_1 3 rfl) (zb_X11_lay_1 4 rfl)
theorem dX11_lay_43 : decode cX11_lay 43 = .ok (.invokestatic 132, 3) := dop_184 (zb_X11_lay_1 5 rfl) (zb_X11_lay_1 6 rfl) (zb_X11_lay_1 7 rfl) rfl
theorem dX11_lay_46 : decode cX11_lay 46 = .ok (.ifCond .eq 20, 3) := dop_153 (zb_X11_lay_1 8 rfl) (zb_X11_lay_1 9 rfl) (zb_X11_lay_1 10 rfl) rfl
theorem dX11_lay_49 : decode cX11_lay 49 = .ok (.iload 5, 2) := dop_21 (zb_X11_lay_1 11 rfl) (zb_X11_lay_1 12 rfl)
theorem dX11_lay_51 : decode cX11_lay 51 = .ok (.iconst 0, 1) := dop_3 (zb_X11_lay_1 13 rfl)
theorem dX11_lay_52 : decode cX11_lay 52 = .ok (.iconst 1, 1) := dop_4 (zb_X11_lay_1 14 rfl)
theorem dX11_lay_53 : decode cX11_lay 53 = .ok (.invokestatic 112, 3) := dop_184 (zb_X11_lay_1 15 rfl) (zb_X11_lay_1 16 rfl) (zb_X11_lay_1 17 rfl) rfl
theorem dX11_lay_56 : decode cX11_lay 56 = .ok (.ifCond .eq 10, 3) := dop_153 (zb_X11_lay_1 18 rfl) (zb_X11_lay_1 19 rfl) (zb_X11_lay_1 20 rfl) rfl
theorem dX11_lay_59 : decode cX11_lay 59 = .ok (.aload_n 0, 1) := dop_42 (zb_X11_lay_1 21 rfl)
theorem dX11_lay_60 : decode cX11_lay 60 = .ok (.invokevirtual 208, 3) := dop_182 (zb_X11_lay_1 22 rfl) (zb_X11_lay_1 23 rfl) (zb_X11_lay_1 24 rfl) rfl
theorem dX11_lay_63 : decode cX11_lay 63 = .ok (.ifCond .ne 6, 3) := dop_154 (zb_X11_lay_1 25 rfl) (zb_X11_lay_1 26 rfl) (zb_X11_lay_1 27 rfl) rfl
theorem dX11_lay_66 : decode cX11_lay 66 = .ok (.bipush (-2), 2) := dop_16 (zb_X11_lay_1 28 rfl) (zb_X11_lay_1 29 rfl) rfl
theorem dX11_lay_68 : decode cX11_lay 68 = .ok (.ireturn, 1) := dop_172 (zb_X11_lay_1 30 rfl)
theorem dX11_lay_69 : decode cX11_lay 69 = .ok (.aload_n 0, 1) := dop_42 (zb_X11_lay_1 31 rfl)
theorem dX11_lay_70 : decode cX11_lay 70 = .ok (.getfield 60, 3) := dop_180 (zb_X11_lay_1 32 rfl) (zb_X11_lay_1 33 rfl) (zb_X11_lay_1 34 rfl) rfl
theorem dX11_lay_73 : decode cX11_lay 73 = .ok (.invokevirtual 281, 3) := dop_182 (zb_X11_lay_1 35 rfl) (zb_X11_lay_1 36 rfl) (zb_X11_lay_1 37 rfl) rfl
theorem dX11_lay_76 : decode cX11_lay 76 = .ok (.aload_n 0, 1) := dop_42 (zb_X11_lay_1 38 rfl)
theorem dX11_lay_77 : decode cX11_lay 77 = .ok (.iload_n 1, 1) := dop_27 (zb_X11_lay_1 39 rfl)
theorem ze_X11_lay_3 : (dcn cX11_lay).drop 118 = zt_X11_lay_3 := dw_n (wl := zw_X11_lay_2) ze_X11_lay_2 rfl
theorem zb_X11_lay_2 (j : Nat) {n : Nat} (e : zw_X11_lay_2[j]? = some n) : dby cX11_lay (78 + j) n := dw_b (t := zt_X11_lay_3) ze_X11_lay_2 j e
theorem dX11_lay_78 : decode cX11_lay 78 = .ok (.iload 4, 2) := dop_21 (zb_X11_lay_2 0 rfl) (zb_X11_lay_2 1 rfl)
theorem dX11_lay_80 : decode cX11_lay 80 = .ok (.iload 5, 2) := dop_21 (zb_X11_lay_2 2 rfl) (zb_X11_lay_2 3 rfl)
theorem dX11_lay_82 : decode cX11_lay 82 = .ok (.invokevirtual 284, 3) := dop_182 (zb_X11_lay_2 4 rfl) (zb_X11_lay_2 5 rfl) (zb_X11_lay_2 6 rfl) rfl
theorem dX11_lay_85 : decode cX11_lay 85 = .ok (.aload_n 0, 1) := dop_42 (zb_X11_lay_2 7 rfl)
theorem dX11_lay_86 : decode cX11_lay 86 = .ok (.iload_n 2, 1) := dop_28 (zb_X11_lay_2 8 rfl)
theorem dX11_lay_87 : decode cX11_lay 87 = .ok (.iload 4, 2) := dop_21 (zb_X11_lay_2 9 rfl) (zb_X11_lay_2 10 rfl)
theorem dX11_lay_89 : decode cX11_lay 89 = .ok (.iload 5, 2) := dop_21 (zb_X11_lay_2 11 rfl) (zb_X11_lay_2 12 rfl)
theorem dX11_lay_91 : decode cX11_lay 91 = .ok (.invokevirtual 284, 3) := dop_182 (zb_X11_lay_2 13 rfl) (zb_X11_lay_2 14 rfl) (zb_X11_lay_2 15 rfl) rfl
theorem dX11_lay_94 : decode cX11_lay 94 = .ok (.iload_n 3, 1) := dop_29 (zb_X11_lay_2 16 rfl)
theorem dX11_lay_95 : decode cX11_lay 95 = .ok (.iconst (-1), 1) := dop_2 (zb_X11_lay_2 17 rfl)
theorem dX11_lay_96 : decode cX11_lay 96 = .ok (.if_icmp .eq 12, 3) := dop_159 (zb_X11_lay_2 18 rfl) (zb_X11_lay_2 19 rfl) (zb_X11_lay_2 20 rfl) rfl
theorem dX11_lay_99 : decode cX11_lay 99 = .ok (.aload_n 0, 1) := dop_42 (zb_X11_lay_2 21 rfl)
theorem dX11_lay_100 : decode cX11_lay 100 = .ok (.iload_n 3, 1) := dop_29 (zb_X11_lay_2 22 rfl)
theorem dX11_lay_101 : decode cX11_lay 101 = .ok (.iload 4, 2) := dop_21 (zb_X11_lay_2 23 rfl) (zb_X11_lay_2 24 rfl)
theorem dX11_lay_103 : decode cX11_lay 103 = .ok (.iload 5, 2) := dop_21 (zb_X11_lay_2 25 rfl) (zb_X11_lay_2 26 rfl)
theorem dX11_lay_105 : decode cX11_lay 105 = .ok (.invokevirtual 284, 3) := dop_182 (zb_X11_lay_2 27 rfl) (zb_X11_lay_2 28 rfl) (zb_X11_lay_2 29 rfl) rfl
theorem dX11_lay_108 : decode cX11_lay 108 = .ok (.aload_n 0, 1) := dop_42 (zb_X11_lay_2 30 rfl)
theorem dX11_lay_109 : decode cX11_lay 109 = .ok (.getfield 60, 3) := dop_180 (zb_X11_lay_2 31 rfl) (zb_X11_lay_2 32 rfl) (zb_X11_lay_2 33 rfl) rfl
theorem dX11_lay_112 : decode cX11_lay 112 = .ok (.invokevirtual 288, 3) := dop_182 (zb_X11_lay_2 34 rfl) (zb_X11_lay_2 35 rfl) (zb_X11_lay_2 36 rfl) rfl
theorem dX11_lay_115 : decode cX11_lay 115 = .ok (.ldc2_w 291, 3) := dop_20 (zb_X11_lay_2 37 rfl) (zb_X11_lay_2 38 rfl) (zb_X11_lay_2 39 rfl) rfl
theorem zb_X11_lay_3 (j : Nat) {n : Nat} (e : zw_X11_lay_3[j]? = some n) : dby cX11_lay (118 + j) n := dw_b (t := []) ze_X11_lay_3 j e
theorem dX11_lay_118 : decode cX11_lay 118 = .ok (.invokestatic 220, 3) := dop_184 (zb_X11_lay_3 0 rfl) (zb_X11_lay_3 1 rfl) (zb_X11_lay_3 2 rfl) rfl
theorem dX11_lay_121 : decode cX11_lay 121 = .ok (.ireturn, 1) := dop_172 (zb_X11_lay_3 3 rfl)
def zw_X11_area_2 : List Nat := [180, 0, 60, 182, 1, 37, 20, 1, 40, 184, 0, 220, 172]
def zt_X11_area_2 : List Nat := zw_X11_area_2 ++ []
def zw_X11_area_1 : List Nat := [184, 0, 112, 153, 0, 10, 42, 182, 0, 208, 154, 0, 6, 16, 254, 172, 42, 180, 0, 60, 182, 1, 25, 42, 27, 29, 21, 4, 182, 1, 28, 42, 28, 29, 21, 4, 182, 1, 28, 42]
def zt_X11_area_1 : List Nat := zw_X11_area_1 ++ zt_X11_area_2
def zw_X11_area_0 : List Nat := [42, 27, 182, 1, 22, 153, 0, 15, 42, 28, 182, 1, 22, 153, 0, 7, 4, 167, 0, 4, 3, 54, 5, 21, 5, 153, 0, 27, 29, 184, 0, 132, 153, 0, 20, 21, 4, 3, 4]
def zt_X11_area_0 : List Nat := zw_X11_area_0 ++ zt_X11_area_1
theorem ze_X11_area_0 : (dcn cX11_area).drop 0 = zt_X11_area_0 := by decide +kernel
theorem ze_X11_area_1 : (dcn cX11_area).drop 39 = zt_X11_area_1 := dw_n (wl := zw_X11_area_0) ze_X11_area_0 rfl
theorem zb_X11_area_0 (j : Nat) {n : Nat} (e : zw_X11_area_0[j]? = some n) : dby cX11_area (0 + j) n := dw_b (t := zt_X11_area_1) ze_X11_area_0 j e
theorem dX11_area_0 : decode cX11_area 0 = .ok (.aload_n 0, 1) := dop_42 (zb_X11_area_0 0 rfl)
theorem dX11_area_1 : decode cX11_area 1 = .ok (.iload_n 1, 1) := dop_27 (zb_X11_area_0 1 rfl)
theorem dX11_area_2 : decode cX11_area 2 = .ok (.invokevirtual 278, 3) := dop_182 (zb_X11_area_0 2 rfl) (zb_X11_area_0 3 rfl) (zb_X11_area_0 4 rfl) rfl
theorem dX11_area_5 : decode cX11_area 5 = .ok (.ifCond .eq 15, 3) := dop_153 (zb_X11_area_0 5 rfl) (zb_X11_area_0 6 rfl) (zb_X11_area_0 7 rfl) rfl
theorem dX11_area_8 : decode cX11_area 8 = .ok (.aload_n 0, 1) := dop_42 (zb_X11_area_0 8 rfl)
theorem dX11_area_9 : decode cX11_area 9 = .ok (.iload_n 2, 1) := dop_28 (zb_X11_area_0 9 rfl)
theorem dX11_area_10 : decode cX11_area 10 = .ok (.invokevirtual 278, 3) := dop_182 (zb_X11_area_0 10 rfl) (zb_X11_area_0 11 rfl) (zb_X11_area_0 12 rfl) rfl
theorem dX11_area_13 : decode cX11_area 13 = .ok (.ifCond .eq 7, 3) := dop_153 (zb_X11_area_0 13 rfl) (zb_X11_area_0 14 rfl) (zb_X11_area_0 15 rfl) rfl
theorem dX11_area_16 : decode cX11_area 16 = .ok (.iconst 1, 1) := dop_4 (zb_X11_area_0 16 rfl)
theorem dX11_area_17 : decode cX11_area 17 = .ok (.goto 4, 3) := dop_167 (zb_X11_area_0 17 rfl) (zb_X11_area_0 18 rfl) (zb_X11_area_0 19 rfl) rfl
theorem dX11_area_20 : decode cX11_area 20 = .ok (.iconst 0, 1) := dop_3 (zb_X11_area_0 20 rfl)
theorem dX11_area_21 : decode cX11_area 21 = .ok (.istore 5, 2) := dop_54 (zb_X11_area_0 21 rfl) (zb_X11_area_0 22 rfl)
theorem dX11_area_23 : decode cX11_area 23 = .ok (.iload 5, 2) := dop_21 (zb_X11_area_0 23 rfl) (zb_X11_area_0 24 rfl)
theorem dX11_area_25 : decode cX11_area 25 = .ok (.ifCond .eq 27, 3) := dop_153 (zb_X11_area_0 25 rfl) (zb_X11_area_0 26 rfl) (zb_X11_area_0 27 rfl) rfl
theorem dX11_area_28 : decode cX11_area 28 = .ok (.iload_n 3, 1) := dop_29 (zb_X11_area_0 28 rfl)
theorem dX11_area_29 : decode cX11_area 29 = .ok (.invokestatic 132, 3) := dop_184 (zb_X11_area_0 29 rfl) (zb_X11_area_0 30 rfl) (zb_X11_area_0 31 rfl) rfl
theorem dX11_area_32 : decode cX11_area 32 = .ok (.ifCond .eq 20, 3) := dop_153 (zb_X11_area_0 32 rfl) (zb_X11_area_0 33 rfl) (zb_X11_area_0 34 rfl) rfl
theorem dX11_area_35 : decode cX11_area 35 = .ok (.iload 4, 2) := dop_21 (zb_X11_area_0 35 rfl) (zb_X11_area_0 36 rfl)
theorem dX11_area_37 : decode cX11_area 37 = .ok (.iconst 0, 1) := dop_3 (zb_X11_area_0 37 rfl)
theorem dX11_area_38 : decode cX11_area 38 = .ok (.iconst 1, 1) := dop_4 (zb_X11_area_0 38 rfl)
theorem ze_X11_area_2 : (dcn cX11_area).drop 79 = zt_X11_area_2 := dw_n (wl := zw_X11_area_1) ze_X11_area_1 rfl
theorem zb_X11_area_1 (j : Nat) {n : Nat} (e : zw_X11_area_1[j]? = some n) : dby cX11_area (39 + j) n := dw_b (t := zt_X11_area_2) ze_X11_area_1 j e
theorem dX11_area_39 : decode cX11_area 39 = .ok (.invokestatic 112, 3) := dop_184 (zb_X11_area_1 0 rfl) (zb_X11_area_1 1 rfl) (zb_X11_area_1 2 rfl) rfl
theorem dX11_area_42 : decode cX11_area 42 = .ok (.ifCond .eq 10, 3) := dop_153 (zb_X11_area_1 3 rfl) (zb_X11_area_1 4 rfl) (zb_X11_area_1 5 rfl) rfl
theorem dX11_area_45 : decode cX11_area 45 = .ok (.aload_n 0, 1) := dop_42 (zb_X11_area_1 6 rfl)
theorem dX11_area_46 : decode cX11_area 46 = .ok (.invokevirtual 208, 3) := dop_182 (zb_X11_area_1 7 rfl) (zb_X11_area_1 8 rfl) (zb_X11_area_1 9 rfl) rfl
theorem dX11_area_49 : decode cX11_area 49 = .ok (.ifCond .ne 6, 3) := dop_154 (zb_X11_area_1 10 rfl) (zb_X11_area_1 11 rfl) (zb_X11_area_1 12 rfl) rfl
theorem dX11_area_52 : decode cX11_area 52 = .ok (.bipush (-2), 2) := dop_16 (zb_X11_area_1 13 rfl) (zb_X11_area_1 14 rfl) rfl
theorem dX11_area_54 : decode cX11_area 54 = .ok (.ireturn, 1) := dop_172 (zb_X11_area_1 15 rfl)
theorem dX11_area_55 : decode cX11_area 55 = .ok (.aload_n 0, 1) := dop_42 (zb_X11_area_1 16 rfl)
theorem dX11_area_56 : decode cX11_area 56 = .ok (.getfield 60, 3) := dop_180 (zb_X11_area_1 17 rfl) (zb_X11_area_1 18 rfl) (zb_X11_area_1 19 rfl) rfl
theorem dX11_area_59 : decode cX11_area 59 = .ok (.invokevirtual 281, 3) := dop_182 (zb_X11_area_1 20 rfl) (zb_X11_area_1 21 rfl) (zb_X11_area_1 22 rfl) rfl
theorem dX11_area_62 : decode cX11_area 62 = .ok (.aload_n 0, 1) := dop_42 (zb_X11_area_1 23 rfl)
theorem dX11_area_63 : decode cX11_area 63 = .ok (.iload_n 1, 1) := dop_27 (zb_X11_area_1 24 rfl)
theorem dX11_area_64 : decode cX11_area 64 = .ok (.iload_n 3, 1) := dop_29 (zb_X11_area_1 25 rfl)
theorem dX11_area_65 : decode cX11_area 65 = .ok (.iload 4, 2) := dop_21 (zb_X11_area_1 26 rfl) (zb_X11_area_1 27 rfl)
theorem dX11_area_67 : decode cX11_area 67 = .ok (.invokevirtual 284, 3) := dop_182 (zb_X11_area_1 28 rfl) (zb_X11_area_1 29 rfl) (zb_X11_area_1 30 rfl) rfl
theorem dX11_area_70 : decode cX11_area 70 = .ok (.aload_n 0, 1) := dop_42 (zb_X11_area_1 31 rfl)
theorem dX11_area_71 : decode cX11_area 71 = .ok (.iload_n 2, 1) := dop_28 (zb_X11_area_1 32 rfl)
theorem dX11_area_72 : decode cX11_area 72 = .ok (.iload_n 3, 1) := dop_29 (zb_X11_area_1 33 rfl)
theorem dX11_area_73 : decode cX11_area 73 = .ok (.iload 4, 2) := dop_21 (zb_X11_area_1 34 rfl) (zb_X11_area_1 35 rfl)
theorem dX11_area_75 : decode cX11_area 75 = .ok (.invokevirtual 284, 3) := dop_182 (zb_X11_area_1 36 rfl) (zb_X11_area_1 37 rfl) (zb_X11_area_1 38 rfl) rfl
theorem dX11_area_78 : decode cX11_area 78 = .ok (.aload_n 0, 1) := dop_42 (zb_X11_area_1 39 rfl)
theorem zb_X11_area_2 (j : Nat) {n : Nat} (e : zw_X11_area_2[j]? = some n) : dby cX11_area (79 + j) n := dw_b (t := []) ze_X11_area_2 j e
theorem dX11_area_79 : decode cX11_area 79 = .ok (.getfield 60, 3) := dop_180 (zb_X11_area_2 0 rfl) (zb_X11_area_2 1 rfl) (zb_X11_area_2 2 rfl) rfl
theorem dX11_area_82 : decode cX11_area 82 = .ok (.invokevirtual 293, 3) := dop_182 (zb_X11_area_2 3 rfl) (zb_X11_area_2 4 rfl) (zb_X11_area_2 5 rfl) rfl
theorem dX11_area_85 : decode cX11_area 85 = .ok (.ldc2_w 296, 3) := dop_20 (zb_X11_area_2 6 rfl) (zb_X11_area_2 7 rfl) (zb_X11_area_2 8 rfl) rfl
theorem dX11_area_88 : decode cX11_area 88 = .ok (.invokestatic 220, 3) := dop_184 (zb_X11_area_2 9 rfl) (zb_X11_area_2 10 rfl) (zb_X11_area_2 11 rfl) rfl
theorem dX11_area_91 : decode cX11_area 91 = .ok (.ireturn, 1) := dop_172 (zb_X11_area_2 12 rfl)
def zw_X11_would_1 : List Nat := [3, 172, 42, 180, 0, 53, 29, 21, 4, 182, 1, 51, 153, 0, 7, 4, 167, 0, 4, 5, 172]
def zt_X11_would_1 : List Nat := zw_X11_would_1 ++ []
def zw_X11_would_0 : List Nat := [29, 184, 1, 42, 153, 0, 20, 21, 4, 184, 1, 45, 153, 0, 12, 42, 27, 28, 182, 0, 247, 154, 0, 6, 16, 254, 172, 42, 180, 0, 53, 29, 21, 4, 182, 1, 48, 154, 0, 5]
def zt_X11_would_0 : List Nat := zw_X11_would_0 ++ zt_X11_would_1
theorem ze_X11_would_0 : (dcn cX11_would).drop 0 = zt_X11_would_0 := by decide +kernel
theorem ze_X11_would_1 : (dcn cX11_would).drop 40 = zt_X11_would_1 := dw_n (wl := zw_X11_would_0) ze_X11_would_0 rfl
theorem zb_X11_would_0 (j : Nat) {n : Nat} (e : zw_X11_would_0[j]? = some n) : dby cX11_would (0 + j) n := dw_b (t := zt_X11_would_1) ze_X11_would_0 j e
theorem dX11_would_0 : decode cX11_would 0 = .ok (.iload_n 3, 1) := dop_29 (zb_X11_would_0 0 rfl)
theorem dX11_would_1 : decode cX11_would 1 = .ok (.invokestatic 298, 3) := dop_184 (zb_X11_would_0 1 rfl) (zb_X11_would_0 2 rfl) (zb_X11_would_0 3 rfl) rfl
theorem dX11_would_4 : decode cX11_would 4 = .ok (.ifCond .eq 20, 3) := dop_153 (zb_X11_would_0 4 rfl) (zb_X11_would_0 5 rfl) (zb_X11_would_0 6 rfl) rfl
theorem dX11_would_7 : decode cX11_would 7 = .ok (.iload 4, 2) := dop_21 (zb_X11_would_0 7 rfl) (zb_X11_would_0 8 rfl)
theorem dX11_would_9 : decode cX11_would 9 = .ok (.invokestatic 301, 3) := dop_184 (zb_X11_would_0 9 rfl) (zb_X11_would_0 10 rfl) (zb_X11_would_0 11 rfl) rfl
theorem dX11_would_12 : decode cX11_would 12 = .ok (.ifCond .eq 12, 3) := dop_153 (zb_X11_would_0 12 rfl) (zb_X11_would_0 13 rfl) (zb_X11_would_0 14 rfl) rfl
theorem dX11_would_15 : decode cX11_would 15 = .ok (.aload_n 0, 1) := dop_42 (zb_X11_would_0 15 rfl)
theorem dX11_would_16 : decode cX11_would 16 = .ok (.iload_n 1, 1) := dop_27 (zb_X11_would_0 16 rfl)
theorem dX11_would_17 : decode cX11_would 17 = .ok (.iload_n 2, 1) := dop_28 (zb_X11_would_0 17 rfl)
theorem dX11_would_18 : decode cX11_would 18 = .ok (.invokevirtual 247, 3) := dop_182 (zb_X11_would_0 18 rfl) (zb_X11_would_0 19 rfl) (zb_X11_would_0 20 rfl) rfl
theorem dX11_would_21 : decode cX11_would 21 = .ok (.ifCond .ne 6, 3) := dop_154 (zb_X11_would_0 21 rfl) (zb_X11_would_0 22 rfl) (zb_X11_would_0 23 rfl) rfl
theorem dX11_would_24 : decode cX11_would 24 = .ok (.bipush (-2), 2) := dop_16 (zb_X11_would_0 24 rfl) (zb_X11_would_0 25 rfl) rfl
theorem dX11_would_26 : decode cX11_would 26 = .ok (.ireturn, 1) := dop_172 (zb_X11_would_0 26 rfl)
theorem dX11_would_27 : decode cX11_would 27 = .ok (.aload_n 0, 1) := dop_42 (zb_X11_would_0 27 rfl)
theorem dX11_would_28 : decode cX11_would 28 = .ok (.getfield 53, 3) := dop_180 (zb_X11_would_0 28 rfl) (zb_X11_would_0 29 rfl) (zb_X11_would_0 30 rfl) rfl
theorem dX11_would_31 : decode cX11_would 31 = .ok (.iload_n 3, 1) := dop_29 (zb_X11_would_0 31 rfl)
theorem dX11_would_32 : decode cX11_would 32 = .ok (.iload 4, 2) := dop_21 (zb_X11_would_0 32 rfl) (zb_X11_would_0 33 rfl)
theorem dX11_would_34 : decode cX11_would 34 = .ok (.invokevirtual 304, 3) := dop_182 (zb_X11_would_0 34 rfl) (zb_X11_would_0 35 rfl) (zb_X11_would_0 36 rfl) rfl
theorem dX11_would_37 : decode cX11_would 37 = .ok (.ifCond .ne 5, 3) := dop_154 (zb_X11_would_0 37 rfl) (zb_X11_would_0 38 rfl) (zb_X11_would_0 39 rfl) rfl
theorem zb_X11_would_1 (j : Nat) {n : Nat} (e : zw_X11_would_1[j]? = some n) : dby cX11_would (40 + j) n := dw_b (t := []) ze_X11_would_1 j e
theorem dX11_would_40 : decode cX11_would 40 = .ok (.iconst 0, 1) := dop_3 (zb_X11_would_1 0 rfl)
theorem dX11_would_41 : decode cX11_would 41 = .ok (.ireturn, 1) := dop_172 (zb_X11_would_1 1 rfl)
theorem dX11_would_42 : decode cX11_would 42 = .ok (.aload_n 0, 1) := dop_42 (zb_X11_would_1 2 rfl)
theorem dX11_would_43 : decode cX11_would 43 = .ok (.getfield 53, 3) := dop_180 (zb_X11_would_1 3 rfl) (zb_X11_would_1 4 rfl) (zb_X11_would_1 5 rfl) rfl
theorem dX11_would_46 : decode cX11_would 46 = .ok (.iload_n 3, 1) := dop_29 (zb_X11_would_1 6 rfl)
theorem dX11_would_47 : decode cX11_would 47 = .ok (.iload 4, 2) := dop_21 (zb_X11_would_1 7 rfl) (zb_X11_would_1 8 rfl)
theorem dX11_would_49 : decode cX11_would 49 = .ok (.invokevirtual 307, 3) := dop_182 (zb_X11_would_1 9 rfl) (zb_X11_would_1 10 rfl) (zb_X11_would_1 11 rfl) rfl
theorem dX11_would_52 : decode cX11_would 52 = .ok (.ifCond .eq 7, 3) := dop_153 (zb_X11_would_1 12 rfl) (zb_X11_would_1 13 rfl) (zb_X11_would_1 14 rfl) rfl
theorem dX11_would_55 : decode cX11_would 55 = .ok (.iconst 1, 1) := dop_4 (zb_X11_would_1 15 rfl)
theorem dX11_would_56 : decode cX11_would 56 = .ok (.goto 4, 3) := dop_167 (zb_X11_would_1 16 rfl) (zb_X11_would_1 17 rfl) (zb_X11_would_1 18 rfl) rfl
theorem dX11_would_59 : decode cX11_would 59 = .ok (.iconst 2, 1) := dop_5 (zb_X11_would_1 19 rfl)
theorem dX11_would_60 : decode cX11_would 60 = .ok (.ireturn, 1) := dop_172 (zb_X11_would_1 20 rfl)
def zw_X11_numbers_2 : List Nat := [172]
def zt_X11_numbers_2 : List Nat := zw_X11_numbers_2 ++ []
def zw_X11_numbers_1 : List Nat := [21, 4, 154, 0, 6, 21, 5, 172, 21, 5, 154, 0, 5, 2, 172, 21, 4, 4, 160, 0, 14, 42, 180, 0, 53, 29, 182, 1, 57, 167, 0, 11, 42, 180, 0, 53, 29, 182, 1, 60]
def zt_X11_numbers_1 : List Nat := zw_X11_numbers_1 ++ zt_X11_numbers_2
def zw_X11_numbers_0 : List Nat := [29, 184, 1, 45, 153, 0, 22, 21, 4, 3, 5, 184, 0, 112, 153, 0, 12, 42, 27, 28, 182, 0, 247, 154, 0, 6, 16, 254, 172, 42, 180, 0, 53, 29, 182, 1, 54, 54, 5]
def zt_X11_numbers_0 : List Nat := zw_X11_numbers_0 ++ zt_X11_numbers_1
theorem ze_X11_numbers_0 : (dcn cX11_numbers).drop 0 = zt_X11_numbers_0 := by decide +kernel
theorem ze_X11_numbers_1 : (dcn cX11_numbers).drop 39 = zt_X11_numbers_1 := dw_n (wl := zw_X11_numbers_0) ze_X11_numbers_0 rfl
theorem zb_X11_numbers_0 (j : Nat) {n : Nat} (e : zw_X11_numbers_0[j]? = some n) : dby cX11_numbers (0 + j) n := dw_b (t := zt_X11_numbers_1) ze_X11_numbers_0 j e
theorem dX11_numbers_0 : decode cX11_numbers 0 = .ok (.iload_n 3, 1) := dop_29 (zb_X11_numbers_0 0 rfl)
theorem dX11_numbers_1 : decode cX11_numbers 1 = .ok (.invokestatic 301, 3) := dop_184 (zb_X11_numbers_0 1 rfl) (zb_X11_numbers_0 2 rfl) (zb_X11_numbers_0 3 rfl) rfl
theorem dX11_numbers_4 : decode cX11_numbers 4 = .ok (.ifCond .eq 22, 3) := dop_153 (zb_X11_numbers_0 4 rfl) (zb_X11_numbers_0 5 rfl) (zb_X11_numbers_0 6 rfl) rfl
theorem dX11_numbers_7 : decode cX11_numbers 7 = .ok (.iload 4, 2) := dop_21 (zb_X11_numbers_0 7 rfl) (zb_X11_numbers_0 8 rfl)
theorem dX11_numbers_9 : decode cX11_numbers 9 = .ok (.iconst 0, 1) := dop_3 (zb_X11_numbers_0 9 rfl)
theorem dX11_numbers_10 : decode cX11_numbers 10 = .ok (.iconst 2, 1) := dop_5 (zb_X11_numbers_0 10 rfl)
theorem dX11_numbers_11 : decode cX11_numbers 11 = .ok (.invokestatic 112, 3) := dop_184 (zb_X11_numbers_0 11 rfl) (zb_X11_numbers_0 12 rfl) (zb_X11_numbers_0 13 rfl) rfl
theorem dX11_numbers_14 : decode cX11_numbers 14 = .ok (.ifCond .eq 12, 3) := dop_153 (zb_X11_numbers_0 14 rfl) (zb_X11_numbers_0 15 rfl) (zb_X11_numbers_0 16 rfl) rfl
theorem dX11_numbers_17 : decode cX11_numbers 17 = .ok (.aload_n 0, 1) := dop_42 (zb_X11_numbers_0 17 rfl)
theorem dX11_numbers_18 : decode cX11_numbers 18 = .ok (.iload_n 1, 1) := dop_27 (zb_X11_numbers_0 18 rfl)
theorem dX11_numbers_19 : decode cX11_numbers 19 = .ok (.iload_n 2, 1) := dop_28 (zb_X11_numbers_0 19 rfl)
theorem dX11_numbers_20 : decode cX11_numbers 20 = .ok (.invokevirtual 247, 3) := dop_182 (zb_X11_numbers_0 20 rfl) (zb_X11_numbers_0 21 rfl) (zb_X11_numbers_0 22 rfl) rfl
theorem dX11_numbers_23 : decode cX11_numbers 23 = .ok (.ifCond .ne 6, 3) := dop_154 (zb_X11_numbers_0 23 rfl) (zb_X11_numbers_0 24 rfl) (zb_X11_numbers_0 25 rfl) rfl
theorem dX11_numbers_26 : decode cX11_numbers 26 = .ok (.bipush (-2), 2) := dop_16 (zb_X11_numbers_0 26 rfl) (zb_X11_numbers_0 27 rfl) rfl
theorem dX11_numbers_28 : decode cX11_numbers 28 = .ok (.ireturn, 1) := dop_172 (zb_X11_numbers_0 28 rfl)
theorem dX11_numbers_29 : decode cX11_numbers 29 = .ok (.aload_n 0, 1) := dop_42 (zb_X11_numbers_0 29 rfl)
theorem dX11_numbers_30 : decode cX11_numbers 30 = .ok (.getfield 53, 3) := dop_180 (zb_X11_numbers_0 30 rfl) (zb_X11_numbers_0 31 rfl) (zb_X11_numbers_0 32 rfl) rfl
theorem dX11_numbers_33 : decode cX11_numbers 33 = .ok (.iload_n 3, 1) := dop_29 (zb_X11_numbers_0 33 rfl)
theorem dX11_numbers_34 : decode cX11_numbers 34 = .ok (.invokevirtual 310, 3) := dop_182 (zb_X11_numbers_0 34 rfl) (zb_X11_numbers_0 35 rfl) (zb_X11_numbers_0 36 rfl) rfl
theorem dX11_numbers_37 : decode cX11_numbers 37 = .ok (.istore 5, 2) := dop_54 (zb_X11_numbers_0 37 rfl) (zb_X11_numbers_0 38 rfl)
theorem ze_X11_numbers_2 : (dcn cX11_numbers).drop 79 = zt_X11_numbers_2 := dw_n (wl := zw_X11_numbers_1) ze_X11_numbers_1 rfl
theorem zb_X11_numbers_1 (j : Nat) {n : Nat} (e : zw_X11_numbers_1[j]? = some n) : dby cX11_numbers (39 + j) n := dw_b (t := zt_X11_numbers_2) ze_X11_numbers_1 j e
theorem dX11_numbers_39 : decode cX11_numbers 39 = .ok (.iload 4, 2) := dop_21 (zb_X11_numbers_1 0 rfl) (zb_X11_numbers_1 1 rfl)
theorem dX11_numbers_41 : decode cX11_numbers 41 = .ok (.ifCond .ne 6, 3) := dop_154 (zb_X11_numbers_1 2 rfl) (zb_X11_numbers_1 3 rfl) (zb_X11_numbers_1 4 rfl) rfl
theorem dX11_numbers_44 : decode cX11_numbers 44 = .ok (.iload 5, 2) := dop_21 (zb_X11_numbers_1 5 rfl) (zb_X11_numbers_1 6 rfl)
theorem dX11_numbers_46 : decode cX11_numbers 46 = .ok (.ireturn, 1) := dop_172 (zb_X11_numbers_1 7 rfl)
theorem dX11_numbers_47 : decode cX11_numbers 47 = .ok (.iload 5, 2) := dop_21 (zb_X11_numbers_1 8 rfl) (zb_X11_numbers_1 9 rfl)
theorem dX11_numbers_49 : decode cX11_numbers 49 = .ok (.ifCond .ne 5, 3) := dop_154 (zb_X11_numbers_1 10 rfl) (zb_X11_numbers_1 11 rfl) (zb_X11_numbers_1 12 rfl) rfl
theorem dX11_numbers_52 : decode cX11_numbers 52 = .ok (.iconst (-1), 1) := dop_2 (zb_X11_numbers_1 13 rfl)
theorem dX11_numbers_53 : decode cX11_numbers 53 = .ok (.ireturn, 1) := dop_172 (zb_X11_numbers_1 14 rfl)
theorem dX11_numbers_54 : decode cX11_numbers 54 = .ok (.iload 4, 2) := dop_21 (zb_X11_numbers_1 15 rfl) (zb_X11_numbers_1 16 rfl)
theorem dX11_numbers_56 : decode cX11_numbers 56 = .ok (.iconst 1, 1) := dop_4 (zb_X11_numbers_1 17 rfl)
theorem dX11_numbers_57 : decode cX11_numbers 57 = .ok (.if_icmp .ne 14, 3) := dop_160 (zb_X11_numbers_1 18 rfl) (zb_X11_numbers_1 19 rfl) (zb_X11_numbers_1 20 rfl) rfl
theorem dX11_numbers_60 : decode cX11_numbers 60 = .ok (.aload_n 0, 1) := dop_42 (zb_X11_numbers_1 21 rfl)
theorem dX11_numbers_61 : decode cX11_numbers 61 = .ok (.getfield 53, 3) := dop_180 (zb_X11_numbers_1 22 rfl) (zb_X11_numbers_1 23 rfl) (zb_X11_numbers_1 24 rfl) rfl
theorem dX11_numbers_64 : decode cX11_numbers 64 = .ok (.iload_n 3, 1) := dop_29 (zb_X11_numbers_1 25 rfl)
theorem dX11_numbers_65 : decode cX11_numbers 65 = .ok (.invokevirtual 313, 3) := dop_182 (zb_X11_numbers_1 26 rfl) (zb_X11_numbers_1 27 rfl) (zb_X11_numbers_1 28 rfl) rfl
theorem dX11_numbers_68 : decode cX11_numbers 68 = .ok (.goto 11, 3) := dop_167 (zb_X11_numbers_1 29 rfl) (zb_X11_numbers_1 30 rfl) (zb_X11_numbers_1 31 rfl) rfl
theorem dX11_numbers_71 : decode cX11_numbers 71 = .ok (.aload_n 0, 1) := dop_42 (zb_X11_numbers_1 32 rfl)
theorem dX11_numbers_72 : decode cX11_numbers 72 = .ok (.getfield 53, 3) := dop_180 (zb_X11_numbers_1 33 rfl) (zb_X11_numbers_1 34 rfl) (zb_X11_numbers_1 35 rfl) rfl
theorem dX11_numbers_75 : decode cX11_numbers 75 = .ok (.iload_n 3, 1) := dop_29 (zb_X11_numbers_1 36 rfl)
theorem dX11_numbers_76 : decode cX11_numbers 76 = .ok (.invokevirtual 316, 3) := dop_182 (zb_X11_numbers_1 37 rfl) (zb_X11_numbers_1 38 rfl) (zb_X11_numbers_1 39 rfl) rfl
theorem zb_X11_numbers_2 (j : Nat) {n : Nat} (e : zw_X11_numbers_2[j]? = some n) : dby cX11_numbers (79 + j) n := dw_b (t := []) ze_X11_numbers_2 j e
theorem dX11_numbers_79 : decode cX11_numbers 79 = .ok (.ireturn, 1) := dop_172 (zb_X11_numbers_2 0 rfl)
def zw_X11_ask_2 : List Nat := [167, 0, 6, 29, 7, 112, 172]
def zt_X11_ask_2 : List Nat := zw_X11_ask_2 ++ []
def zw_X11_ask_1 : List Nat := [112, 182, 1, 63, 54, 5, 21, 5, 28, 164, 0, 9, 21, 5, 61, 21, 4, 62, 132, 4, 1, 167, 255, 220, 27, 5, 160, 0, 5, 28, 172, 27, 154, 0, 9, 29, 7, 108]
def zt_X11_ask_1 : List Nat := zw_X11_ask_1 ++ zt_X11_ask_2
def zw_X11_ask_0 : List Nat := [27, 3, 5, 184, 0, 112, 153, 0, 10, 42, 182, 0, 208, 154, 0, 5, 2, 172, 2, 61, 3, 62, 3, 54, 4, 21, 4, 16, 48, 162, 0, 35, 42, 21, 4, 7, 108, 21, 4, 7]
def zt_X11_ask_0 : List Nat := zw_X11_ask_0 ++ zt_X11_ask_1
theorem ze_X11_ask_0 : (dcn cX11_ask).drop 0 = zt_X11_ask_0 := by decide +kernel
theorem ze_X11_ask_1 : (dcn cX11_ask).drop 40 = zt_X11_ask_1 := dw_n (wl := zw_X11_ask_0) ze_X11_ask_0 rfl
theorem zb_X11_ask_0 (j : Nat) {n : Nat} (e : zw_X11_ask_0[j]? = some n) : dby cX11_ask (0 + j) n := dw_b (t := zt_X11_ask_1) ze_X11_ask_0 j e
theorem dX11_ask_0 : decode cX11_ask 0 = .ok (.iload_n 1, 1) := dop_27 (zb_X11_ask_0 0 rfl)
theorem dX11_ask_1 : decode cX11_ask 1 = .ok (.iconst 0, 1) := dop_3 (zb_X11_ask_0 1 rfl)
theorem dX11_ask_2 : decode cX11_ask 2 = .ok (.iconst 2, 1) := dop_5 (zb_X11_ask_0 2 rfl)
theorem dX11_ask_3 : decode cX11_ask 3 = .ok (.invokestatic 112, 3) := dop_184 (zb_X11_ask_0 3 rfl) (zb_X11_ask_0 4 rfl) (zb_X11_ask_0 5 rfl) rfl
theorem dX11_ask_6 : decode cX11_ask 6 = .ok (.ifCond .eq 10, 3) := dop_153 (zb_X11_ask_0 6 rfl) (zb_X11_ask_0 7 rfl) (zb_X11_ask_0 8 rfl) rfl
theorem dX11_ask_9 : decode cX11_ask 9 = .ok (.aload_n 0, 1) := dop_42 (zb_X11_ask_0 9 rfl)
theorem dX11_ask_10 : decode cX11_ask 10 = .ok (.invokevirtual 208, 3) := dop_182 (zb_X11_ask_0 10 rfl) (zb_X11_ask_0 11 rfl) (zb_X11_ask_0 12 rfl) rfl
theorem dX11_ask_13 : decode cX11_ask 13 = .ok (.ifCond .ne 5, 3) := dop_154 (zb_X11_ask_0 13 rfl) (zb_X11_ask_0 14 rfl) (zb_X11_ask_0 15 rfl) rfl
theorem dX11_ask_16 : decode cX11_ask 16 = .ok (.iconst (-1), 1) := dop_2 (zb_X11_ask_0 16 rfl)
theorem dX11_ask_17 : decode cX11_ask 17 = .ok (.ireturn, 1) := dop_172 (zb_X11_ask_0 17 rfl)
theorem dX11_ask_18 : decode cX11_ask 18 = .ok (.iconst (-1), 1) := dop_2 (zb_X11_ask_0 18 rfl)
theorem dX11_ask_19 : decode cX11_ask 19 = .ok (.istore_n 2, 1) := dop_61 (zb_X11_ask_0 19 rfl)
theorem dX11_ask_20 : decode cX11_ask 20 = .ok (.iconst 0, 1) := dop_3 (zb_X11_ask_0 20 rfl)
theorem dX11_ask_21 : decode cX11_ask 21 = .ok (.istore_n 3, 1) := dop_62 (zb_X11_ask_0 21 rfl)
theorem dX11_ask_22 : decode cX11_ask 22 = .ok (.iconst 0, 1) := dop_3 (zb_X11_ask_0 22 rfl)
theorem dX11_ask_23 : decode cX11_ask 23 = .ok (.istore 4, 2) := dop_54 (zb_X11_ask_0 23 rfl) (zb_X11_ask_0 24 rfl)
theorem dX11_ask_25 : decode cX11_ask 25 = .ok (.iload 4, 2) := dop_21 (zb_X11_ask_0 25 rfl) (zb_X11_ask_0 26 rfl)
theorem dX11_ask_27 : decode cX11_ask 27 = .ok (.bipush 48, 2) := dop_16 (zb_X11_ask_0 27 rfl) (zb_X11_ask_0 28 rfl) rfl
theorem dX11_ask_29 : decode cX11_ask 29 = .ok (.if_icmp .ge 35, 3) := dop_162 (zb_X11_ask_0 29 rfl) (zb_X11_ask_0 30 rfl) (zb_X11_ask_0 31 rfl) rfl
theorem dX11_ask_32 : decode cX11_ask 32 = .ok (.aload_n 0, 1) := dop_42 (zb_X11_ask_0 32 rfl)
theorem dX11_ask_33 : decode cX11_ask 33 = .ok (.iload 4, 2) := dop_21 (zb_X11_ask_0 33 rfl) (zb_X11_ask_0 34 rfl)
theorem dX11_ask_35 : decode cX11_ask 35 = .ok (.iconst 4, 1) := dop_7 (zb_X11_ask_0 35 rfl)
theorem dX11_ask_36 : decode cX11_ask 36 = .ok (.idiv, 1) := dop_108 (zb_X11_ask_0 36 rfl)
theorem dX11_ask_37 : decode cX11_ask 37 = .ok (.iload 4, 2) := dop_21 (zb_X11_ask_0 37 rfl) (zb_X11_ask_0 38 rfl)
theorem dX11_ask_39 : decode cX11_ask 39 = .ok (.iconst 4, 1) := dop_7 (zb_X11_ask_0 39 rfl)
theorem ze_X11_ask_2 : (dcn cX11_ask).drop 78 = zt_X11_ask_2 := dw_n (wl := zw_X11_ask_1) ze_X11_ask_1 rfl
theorem zb_X11_ask_1 (j : Nat) {n : Nat} (e : zw_X11_ask_1[j]? = some n) : dby cX11_ask (40 + j) n := dw_b (t := zt_X11_ask_2) ze_X11_ask_1 j e
theorem dX11_ask_40 : decode cX11_ask 40 = .ok (.irem, 1) := dop_112 (zb_X11_ask_1 0 rfl)
theorem dX11_ask_41 : decode cX11_ask 41 = .ok (.invokevirtual 319, 3) := dop_182 (zb_X11_ask_1 1 rfl) (zb_X11_ask_1 2 rfl) (zb_X11_ask_1 3 rfl) rfl
theorem dX11_ask_44 : decode cX11_ask 44 = .ok (.istore 5, 2) := dop_54 (zb_X11_ask_1 4 rfl) (zb_X11_ask_1 5 rfl)
theorem dX11_ask_46 : decode cX11_ask 46 = .ok (.iload 5, 2) := dop_21 (zb_X11_ask_1 6 rfl) (zb_X11_ask_1 7 rfl)
theorem dX11_ask_48 : decode cX11_ask 48 = .ok (.iload_n 2, 1) := dop_28 (zb_X11_ask_1 8 rfl)
theorem dX11_ask_49 : decode cX11_ask 49 = .ok (.if_icmp .le 9, 3) := dop_164 (zb_X11_ask_1 9 rfl) (zb_X11_ask_1 10 rfl) (zb_X11_ask_1 11 rfl) rfl
theorem dX11_ask_52 : decode cX11_ask 52 = .ok (.iload 5, 2) := dop_21 (zb_X11_ask_1 12 rfl) (zb_X11_ask_1 13 rfl)
theorem dX11_ask_54 : decode cX11_ask 54 = .ok (.istore_n 2, 1) := dop_61 (zb_X11_ask_1 14 rfl)
theorem dX11_ask_55 : decode cX11_ask 55 = .ok (.iload 4, 2) := dop_21 (zb_X11_ask_1 15 rfl) (zb_X11_ask_1 16 rfl)
theorem dX11_ask_57 : decode cX11_ask 57 = .ok (.istore_n 3, 1) := dop_62 (zb_X11_ask_1 17 rfl)
theorem dX11_ask_58 : decode cX11_ask 58 = .ok (.iinc 4 1, 3) := dop_132 (zb_X11_ask_1 18 rfl) (zb_X11_ask_1 19 rfl) (zb_X11_ask_1 20 rfl) rfl
theorem dX11_ask_61 : decode cX11_ask 61 = .ok (.goto (-36), 3) := dop_167 (zb_X11_ask_1 21 rfl) (zb_X11_ask_1 22 rfl) (zb_X11_ask_1 23 rfl) rfl
theorem dX11_ask_64 : decode cX11_ask 64 = .ok (.iload_n 1, 1) := dop_27 (zb_X11_ask_1 24 rfl)
theorem dX11_ask_65 : decode cX11_ask 65 = .ok (.iconst 2, 1) := dop_5 (zb_X11_ask_1 25 rfl)
theorem dX11_ask_66 : decode cX11_ask 66 = .ok (.if_icmp .ne 5, 3) := dop_160 (zb_X11_ask_1 26 rfl) (zb_X11_ask_1 27 rfl) (zb_X11_ask_1 28 rfl) rfl
theorem dX11_ask_69 : decode cX11_ask 69 = .ok (.iload_n 2, 1) := dop_28 (zb_X11_ask_1 29 rfl)
theorem dX11_ask_70 : decode cX11_ask 70 = .ok (.ireturn, 1) := dop_172 (zb_X11_ask_1 30 rfl)
theorem dX11_ask_71 : decode cX11_ask 71 = .ok (.iload_n 1, 1) := dop_27 (zb_X11_ask_1 31 rfl)
theorem dX11_ask_72 : decode cX11_ask 72 = .ok (.ifCond .ne 9, 3) := dop_154 (zb_X11_ask_1 32 rfl) (zb_X11_ask_1 33 rfl) (zb_X11_ask_1 34 rfl) rfl
theorem dX11_ask_75 : decode cX11_ask 75 = .ok (.iload_n 3, 1) := dop_29 (zb_X11_ask_1 35 rfl)
theorem dX11_ask_76 : decode cX11_ask 76 = .ok (.iconst 4, 1) := dop_7 (zb_X11_ask_1 36 rfl)
theorem dX11_ask_77 : decode cX11_ask 77 = .ok (.idiv, 1) := dop_108 (zb_X11_ask_1 37 rfl)
theorem zb_X11_ask_2 (j : Nat) {n : Nat} (e : zw_X11_ask_2[j]? = some n) : dby cX11_ask (78 + j) n := dw_b (t := []) ze_X11_ask_2 j e
theorem dX11_ask_78 : decode cX11_ask 78 = .ok (.goto 6, 3) := dop_167 (zb_X11_ask_2 0 rfl) (zb_X11_ask_2 1 rfl) (zb_X11_ask_2 2 rfl) rfl
theorem dX11_ask_81 : decode cX11_ask 81 = .ok (.iload_n 3, 1) := dop_29 (zb_X11_ask_2 3 rfl)
theorem dX11_ask_82 : decode cX11_ask 82 = .ok (.iconst 4, 1) := dop_7 (zb_X11_ask_2 4 rfl)
theorem dX11_ask_83 : decode cX11_ask 83 = .ok (.irem, 1) := dop_112 (zb_X11_ask_2 5 rfl)
theorem dX11_ask_84 : decode cX11_ask 84 = .ok (.ireturn, 1) := dop_172 (zb_X11_ask_2 6 rfl)
def zw_X11_dates_2 : List Nat := [4, 21, 7, 120, 128, 54, 6, 132, 7, 1, 167, 255, 225, 21, 6, 21, 4, 184, 1, 70, 172]
def zt_X11_dates_2 : List Nat := zw_X11_dates_2 ++ []
def zw_X11_dates_1 : List Nat := [153, 0, 10, 42, 182, 0, 208, 154, 0, 6, 16, 254, 172, 3, 54, 6, 3, 54, 7, 21, 7, 16, 32, 162, 0, 30, 42, 27, 21, 7, 28, 29, 182, 1, 67, 153, 0, 12, 21, 6]
def zt_X11_dates_1 : List Nat := zw_X11_dates_1 ++ zt_X11_dates_2
def zw_X11_dates_0 : List Nat := [27, 184, 0, 126, 153, 0, 31, 28, 184, 1, 42, 153, 0, 24, 29, 184, 1, 45, 153, 0, 17, 21, 4, 3, 5, 184, 0, 112, 153, 0, 7, 4, 167, 0, 4, 3, 54, 5, 21, 5]
def zt_X11_dates_0 : List Nat := zw_X11_dates_0 ++ zt_X11_dates_1
theorem ze_X11_dates_0 : (dcn cX11_dates).drop 0 = zt_X11_dates_0 := by decide +kernel
theorem ze_X11_dates_1 : (dcn cX11_dates).drop 40 = zt_X11_dates_1 := dw_n (wl := zw_X11_dates_0) ze_X11_dates_0 rfl
theorem zb_X11_dates_0 (j : Nat) {n : Nat} (e : zw_X11_dates_0[j]? = some n) : dby cX11_dates (0 + j) n := dw_b (t := zt_X11_dates_1) ze_X11_dates_0 j e
theorem dX11_dates_0 : decode cX11_dates 0 = .ok (.iload_n 1, 1) := dop_27 (zb_X11_dates_0 0 rfl)
theorem dX11_dates_1 : decode cX11_dates 1 = .ok (.invokestatic 126, 3) := dop_184 (zb_X11_dates_0 1 rfl) (zb_X11_dates_0 2 rfl) (zb_X11_dates_0 3 rfl) rfl
theorem dX11_dates_4 : decode cX11_dates 4 = .ok (.ifCond .eq 31, 3) := dop_153 (zb_X11_dates_0 4 rfl) (zb_X11_dates_0 5 rfl) (zb_X11_dates_0 6 rfl) rfl
theorem dX11_dates_7 : decode cX11_dates 7 = .ok (.iload_n 2, 1) := dop_28 (zb_X11_dates_0 7 rfl)
theorem dX11_dates_8 : decode cX11_dates 8 = .ok (.invokestatic 298, 3) := dop_184 (zb_X11_dates_0 8 rfl) (zb_X11_dates_0 9 rfl) (zb_X11_dates_0 10 rfl) rfl
theorem dX11_dates_11 : decode cX11_dates 11 = .ok (.ifCond .eq 24, 3) := dop_153 (zb_X11_dates_0 11 rfl) (zb_X11_dates_0 12 rfl) (zb_X11_dates_0 13 rfl) rfl
theorem dX11_dates_14 : decode cX11_dates 14 = .ok (.iload_n 3, 1) := dop_29 (zb_X11_dates_0 14 rfl)
theorem dX11_dates_15 : decode cX11_dates 15 = .ok (.invokestatic 301, 3) := dop_184 (zb_X11_dates_0 15 rfl) (zb_X11_dates_0 16 rfl) (zb_X11_dates_0 17 rfl) rfl
theorem dX11_dates_18 : decode cX11_dates 18 = .ok (.ifCond .eq 17, 3) := dop_153 (zb_X11_dates_0 18 rfl) (zb_X11_dates_0 19 rfl) (zb_X11_dates_0 20 rfl) rfl
theorem dX11_dates_21 : decode cX11_dates 21 = .ok (.iload 4, 2) := dop_21 (zb_X11_dates_0 21 rfl) (zb_X11_dates_0 22 rfl)
theorem dX11_dates_23 : decode cX11_dates 23 = .ok (.iconst 0, 1) := dop_3 (zb_X11_dates_0 23 rfl)
theorem dX11_dates_24 : decode cX11_dates 24 = .ok (.iconst 2, 1) := dop_5 (zb_X11_dates_0 24 rfl)
theorem dX11_dates_25 : decode cX11_dates 25 = .ok (.invokestatic 112, 3) := dop_184 (zb_X11_dates_0 25 rfl) (zb_X11_dates_0 26 rfl) (zb_X11_dates_0 27 rfl) rfl
theorem dX11_dates_28 : decode cX11_dates 28 = .ok (.ifCond .eq 7, 3) := dop_153 (zb_X11_dates_0 28 rfl) (zb_X11_dates_0 29 rfl) (zb_X11_dates_0 30 rfl) rfl
theorem dX11_dates_31 : decode cX11_dates 31 = .ok (.iconst 1, 1) := dop_4 (zb_X11_dates_0 31 rfl)
theorem dX11_dates_32 : decode cX11_dates 32 = .ok (.goto 4, 3) := dop_167 (zb_X11_dates_0 32 rfl) (zb_X11_dates_0 33 rfl) (zb_X11_dates_0 34 rfl) rfl
theorem dX11_dates_35 : decode cX11_dates 35 = .ok (.iconst 0, 1) := dop_3 (zb_X11_dates_0 35 rfl)
theorem dX11_dates_36 : decode cX11_dates 36 = .ok (.istore 5, 2) := dop_54 (zb_X11_dates_0 36 rfl) (zb_X11_dates_0 37 rfl)
theorem dX11_dates_38 : decode cX11_dates 38 = .ok (.iload 5, 2) := dop_21 (zb_X11_dates_0 38 rfl) (zb_X11_dates_0 39 rfl)
theorem ze_X11_dates_2 : (dcn cX11_dates).drop 80 = zt_X11_dates_2 := dw_n (wl := zw_X11_dates_1) ze_X11_dates_1 rfl
theorem zb_X11_dates_1 (j : Nat) {n : Nat} (e : zw_X11_dates_1[j]? = some n) : dby cX11_dates (40 + j) n := dw_b (t := zt_X11_dates_2) ze_X11_dates_1 j e
theorem dX11_dates_40 : decode cX11_dates 40 = .ok (.ifCond .eq 10, 3) := dop_153 (zb_X11_dates_1 0 rfl) (zb_X11_dates_1 1 rfl) (zb_X11_dates_1 2 rfl) rfl
theorem dX11_dates_43 : decode cX11_dates 43 = .ok (.aload_n 0, 1) := dop_42 (zb_X11_dates_1 3 rfl)
theorem dX11_dates_44 : decode cX11_dates 44 = .ok (.invokevirtual 208, 3) := dop_182 (zb_X11_dates_1 4 rfl) (zb_X11_dates_1 5 rfl) (zb_X11_dates_1 6 rfl) rfl
theorem dX11_dates_47 : decode cX11_dates 47 = .ok (.ifCond .ne 6, 3) := dop_154 (zb_X11_dates_1 7 rfl) (zb_X11_dates_1 8 rfl) (zb_X11_dates_1 9 rfl) rfl
theorem dX11_dates_50 : decode cX11_dates 50 = .ok (.bipush (-2), 2) := dop_16 (zb_X11_dates_1 10 rfl) (zb_X11_dates_1 11 rfl) rfl
theorem dX11_dates_52 : decode cX11_dates 52 = .ok (.ireturn, 1) := dop_172 (zb_X11_dates_1 12 rfl)
theorem dX11_dates_53 : decode cX11_dates 53 = .ok (.iconst 0, 1) := dop_3 (zb_X11_dates_1 13 rfl)
theorem dX11_dates_54 : decode cX11_dates 54 = .ok (.istore 6, 2) := dop_54 (zb_X11_dates_1 14 rfl) (zb_X11_dates_1 15 rfl)
theorem dX11_dates_56 : decode cX11_dates 56 = .ok (.iconst 0, 1) := dop_3 (zb_X11_dates_1 16 rfl)
theorem dX11_dates_57 : decode cX11_dates 57 = .ok (.istore 7, 2) := dop_54 (zb_X11_dates_1 17 rfl) (zb_X11_dates_1 18 rfl)
theorem dX11_dates_59 : decode cX11_dates 59 = .ok (.iload 7, 2) := dop_21 (zb_X11_dates_1 19 rfl) (zb_X11_dates_1 20 rfl)
theorem dX11_dates_61 : decode cX11_dates 61 = .ok (.bipush 32, 2) := dop_16 (zb_X11_dates_1 21 rfl) (zb_X11_dates_1 22 rfl) rfl
theorem dX11_dates_63 : decode cX11_dates 63 = .ok (.if_icmp .ge 30, 3) := dop_162 (zb_X11_dates_1 23 rfl) (zb_X11_dates_1 24 rfl) (zb_X11_dates_1 25 rfl) rfl
theorem dX11_dates_66 : decode cX11_dates 66 = .ok (.aload_n 0, 1) := dop_42 (zb_X11_dates_1 26 rfl)
theorem dX11_dates_67 : decode cX11_dates 67 = .ok (.iload_n 1, 1) := dop_27 (zb_X11_dates_1 27 rfl)
theorem dX11_dates_68 : decode cX11_dates 68 = .ok (.iload 7, 2) := dop_21 (zb_X11_dates_1 28 rfl) (zb_X11_dates_1 29 rfl)
theorem dX11_dates_70 : decode cX11_dates 70 = .ok (.iload_n 2, 1) := dop_28 (zb_X11_dates_1 30 rfl)
theorem dX11_dates_71 : decode cX11_dates 71 = .ok (.iload_n 3, 1) := dop_29 (zb_X11_dates_1 31 rfl)
theorem dX11_dates_72 : decode cX11_dates 72 = .ok (.invokevirtual 323, 3) := dop_182 (zb_X11_dates_1 32 rfl) (zb_X11_dates_1 33 rfl) (zb_X11_dates_1 34 rfl) rfl
theorem dX11_dates_75 : decode cX11_dates 75 = .ok (.ifCond .eq 12, 3) := dop_153 (zb_X11_dates_1 35 rfl) (zb_X11_dates_1 36 rfl) (zb_X11_dates_1 37 rfl) rfl
theorem dX11_dates_78 : decode cX11_dates 78 = .ok (.iload 6, 2) := dop_21 (zb_X11_dates_1 38 rfl) (zb_X11_dates_1 39 rfl)
theorem zb_X11_dates_2 (j : Nat) {n : Nat} (e : zw_X11_dates_2[j]? = some n) : dby cX11_dates (80 + j) n := dw_b (t := []) ze_X11_dates_2 j e
theorem dX11_dates_80 : decode cX11_dates 80 = .ok (.iconst 1, 1) := dop_4 (zb_X11_dates_2 0 rfl)
theorem dX11_dates_81 : decode cX11_dates 81 = .ok (.iload 7, 2) := dop_21 (zb_X11_dates_2 1 rfl) (zb_X11_dates_2 2 rfl)
theorem dX11_dates_83 : decode cX11_dates 83 = .ok (.ishl, 1) := dop_120 (zb_X11_dates_2 3 rfl)
theorem dX11_dates_84 : decode cX11_dates 84 = .ok (.ior, 1) := dop_128 (zb_X11_dates_2 4 rfl)
theorem dX11_dates_85 : decode cX11_dates 85 = .ok (.istore 6, 2) := dop_54 (zb_X11_dates_2 5 rfl) (zb_X11_dates_2 6 rfl)
theorem dX11_dates_87 : decode cX11_dates 87 = .ok (.iinc 7 1, 3) := dop_132 (zb_X11_dates_2 7 rfl) (zb_X11_dates_2 8 rfl) (zb_X11_dates_2 9 rfl) rfl
theorem dX11_dates_90 : decode cX11_dates 90 = .ok (.goto (-31), 3) := dop_167 (zb_X11_dates_2 10 rfl) (zb_X11_dates_2 11 rfl) (zb_X11_dates_2 12 rfl) rfl
theorem dX11_dates_93 : decode cX11_dates 93 = .ok (.iload 6, 2) := dop_21 (zb_X11_dates_2 13 rfl) (zb_X11_dates_2 14 rfl)
theorem dX11_dates_95 : decode cX11_dates 95 = .ok (.iload 4, 2) := dop_21 (zb_X11_dates_2 15 rfl) (zb_X11_dates_2 16 rfl)
theorem dX11_dates_97 : decode cX11_dates 97 = .ok (.invokestatic 326, 3) := dop_184 (zb_X11_dates_2 17 rfl) (zb_X11_dates_2 18 rfl) (zb_X11_dates_2 19 rfl) rfl
theorem dX11_dates_100 : decode cX11_dates 100 = .ok (.ireturn, 1) := dop_172 (zb_X11_dates_2 20 rfl)
def zw_X11_joined_1 : List Nat := [27, 28, 182, 1, 79, 153, 0, 7, 4, 167, 0, 4, 3, 172]
def zt_X11_joined_1 : List Nat := zw_X11_joined_1 ++ []
def zw_X11_joined_0 : List Nat := [42, 180, 0, 12, 27, 182, 1, 73, 153, 0, 14, 42, 180, 0, 12, 28, 182, 1, 73, 154, 0, 6, 16, 254, 172, 42, 180, 0, 67, 42, 180, 0, 12, 182, 1, 76, 42, 180, 0, 67]
def zt_X11_joined_0 : List Nat := zw_X11_joined_0 ++ zt_X11_joined_1
theorem ze_X11_joined_0 : (dcn cX11_joined).drop 0 = zt_X11_joined_0 := by decide +kernel
theorem ze_X11_joined_1 : (dcn cX11_joined).drop 40 = zt_X11_joined_1 := dw_n (wl := zw_X11_joined_0) ze_X11_joined_0 rfl
theorem zb_X11_joined_0 (j : Nat) {n : Nat} (e : zw_X11_joined_0[j]? = some n) : dby cX11_joined (0 + j) n := dw_b (t := zt_X11_joined_1) ze_X11_joined_0 j e
theorem dX11_joined_0 : decode cX11_joined 0 = .ok (.aload_n 0, 1) := dop_42 (zb_X11_joined_0 0 rfl)
theorem dX11_joined_1 : decode cX11_joined 1 = .ok (.getfield 12, 3) := dop_180 (zb_X11_joined_0 1 rfl) (zb_X11_joined_0 2 rfl) (zb_X11_joined_0 3 rfl) rfl
theorem dX11_joined_4 : decode cX11_joined 4 = .ok (.iload_n 1, 1) := dop_27 (zb_X11_joined_0 4 rfl)
theorem dX11_joined_5 : decode cX11_joined 5 = .ok (.invokevirtual 329, 3) := dop_182 (zb_X11_joined_0 5 rfl) (zb_X11_joined_0 6 rfl) (zb_X11_joined_0 7 rfl) rfl
theorem dX11_joined_8 : decode cX11_joined 8 = .ok (.ifCond .eq 14, 3) := dop_153 (zb_X11_joined_0 8 rfl) (zb_X11_joined_0 9 rfl) (zb_X11_joined_0 10 rfl) rfl
theorem dX11_joined_11 : decode cX11_joined 11 = .ok (.aload_n 0, 1) := dop_42 (zb_X11_joined_0 11 rfl)
theorem dX11_joined_12 : decode cX11_joined 12 = .ok (.getfield 12, 3) := dop_180 (zb_X11_joined_0 12 rfl) (zb_X11_joined_0 13 rfl) (zb_X11_joined_0 14 rfl) rfl
theorem dX11_joined_15 : decode cX11_joined 15 = .ok (.iload_n 2, 1) := dop_28 (zb_X11_joined_0 15 rfl)
theorem dX11_joined_16 : decode cX11_joined 16 = .ok (.invokevirtual 329, 3) := dop_182 (zb_X11_joined_0 16 rfl) (zb_X11_joined_0 17 rfl) (zb_X11_joined_0 18 rfl) rfl
theorem dX11_joined_19 : decode cX11_joined 19 = .ok (.ifCond .ne 6, 3) := dop_154 (zb_X11_joined_0 19 rfl) (zb_X11_joined_0 20 rfl) (zb_X11_joined_0 21 rfl) rfl
theorem dX11_joined_22 : decode cX11_joined 22 = .ok (.bipush (-2), 2) := dop_16 (zb_X11_joined_0 22 rfl) (zb_X11_joined_0 23 rfl) rfl
theorem dX11_joined_24 : decode cX11_joined 24 = .ok (.ireturn, 1) := dop_172 (zb_X11_joined_0 24 rfl)
theorem dX11_joined_25 : decode cX11_joined 25 = .ok (.aload_n 0, 1) := dop_42 (zb_X11_joined_0 25 rfl)
theorem dX11_joined_26 : decode cX11_joined 26 = .ok (.getfield 67, 3) := dop_180 (zb_X11_joined_0 26 rfl) (zb_X11_joined_0 27 rfl) (zb_X11_joined_0 28 rfl) rfl
theorem dX11_joined_29 : decode cX11_joined 29 = .ok (.aload_n 0, 1) := dop_42 (zb_X11_joined_0 29 rfl)
theorem dX11_joined_30 : decode cX11_joined 30 = .ok (.getfield 12, 3) := dop_180 (zb_X11_joined_0 30 rfl) (zb_X11_joined_0 31 rfl) (zb_X11_joined_0 32 rfl) rfl
theorem dX11_joined_33 : decode cX11_joined 33 = .ok (.invokevirtual 332, 3) := dop_182 (zb_X11_joined_0 33 rfl) (zb_X11_joined_0 34 rfl) (zb_X11_joined_0 35 rfl) rfl
theorem dX11_joined_36 : decode cX11_joined 36 = .ok (.aload_n 0, 1) := dop_42 (zb_X11_joined_0 36 rfl)
theorem dX11_joined_37 : decode cX11_joined 37 = .ok (.getfield 67, 3) := dop_180 (zb_X11_joined_0 37 rfl) (zb_X11_joined_0 38 rfl) (zb_X11_joined_0 39 rfl) rfl
theorem zb_X11_joined_1 (j : Nat) {n : Nat} (e : zw_X11_joined_1[j]? = some n) : dby cX11_joined (40 + j) n := dw_b (t := []) ze_X11_joined_1 j e
theorem dX11_joined_40 : decode cX11_joined 40 = .ok (.iload_n 1, 1) := dop_27 (zb_X11_joined_1 0 rfl)
theorem dX11_joined_41 : decode cX11_joined 41 = .ok (.iload_n 2, 1) := dop_28 (zb_X11_joined_1 1 rfl)
theorem dX11_joined_42 : decode cX11_joined 42 = .ok (.invokevirtual 335, 3) := dop_182 (zb_X11_joined_1 2 rfl) (zb_X11_joined_1 3 rfl) (zb_X11_joined_1 4 rfl) rfl
theorem dX11_joined_45 : decode cX11_joined 45 = .ok (.ifCond .eq 7, 3) := dop_153 (zb_X11_joined_1 5 rfl) (zb_X11_joined_1 6 rfl) (zb_X11_joined_1 7 rfl) rfl
theorem dX11_joined_48 : decode cX11_joined 48 = .ok (.iconst 1, 1) := dop_4 (zb_X11_joined_1 8 rfl)
theorem dX11_joined_49 : decode cX11_joined 49 = .ok (.goto 4, 3) := dop_167 (zb_X11_joined_1 9 rfl) (zb_X11_joined_1 10 rfl) (zb_X11_joined_1 11 rfl) rfl
theorem dX11_joined_52 : decode cX11_joined 52 = .ok (.iconst 0, 1) := dop_3 (zb_X11_joined_1 12 rfl)
theorem dX11_joined_53 : decode cX11_joined 53 = .ok (.ireturn, 1) := dop_172 (zb_X11_joined_1 13 rfl)
def zw_X11_groups_1 : List Nat := [180, 0, 67, 42, 180, 0, 12, 182, 1, 84, 27, 100, 172]
def zt_X11_groups_1 : List Nat := zw_X11_groups_1 ++ []
def zw_X11_groups_0 : List Nat := [27, 3, 5, 184, 0, 112, 154, 0, 5, 2, 172, 42, 180, 0, 67, 42, 180, 0, 12, 182, 1, 76, 27, 5, 160, 0, 15, 42, 180, 0, 67, 42, 180, 0, 12, 182, 1, 82, 172, 42]
def zt_X11_groups_0 : List Nat := zw_X11_groups_0 ++ zt_X11_groups_1
theorem ze_X11_groups_0 : (dcn cX11_groups).drop 0 = zt_X11_groups_0 := by decide +kernel
theorem ze_X11_groups_1 : (dcn cX11_groups).drop 40 = zt_X11_groups_1 := dw_n (wl := zw_X11_groups_0) ze_X11_groups_0 rfl
theorem zb_X11_groups_0 (j : Nat) {n : Nat} (e : zw_X11_groups_0[j]? = some n) : dby cX11_groups (0 + j) n := dw_b (t := zt_X11_groups_1) ze_X11_groups_0 j e
theorem dX11_groups_0 : decode cX11_groups 0 = .ok (.iload_n 1, 1) := dop_27 (zb_X11_groups_0 0 rfl)
theorem dX11_groups_1 : decode cX11_groups 1 = .ok (.iconst 0, 1) := dop_3 (zb_X11_groups_0 1 rfl)
theorem dX11_groups_2 : decode cX11_groups 2 = .ok (.iconst 2, 1) := dop_5 (zb_X11_groups_0 2 rfl)
theorem dX11_groups_3 : decode cX11_groups 3 = .ok (.invokestatic 112, 3) := dop_184 (zb_X11_groups_0 3 rfl) (zb_X11_groups_0 4 rfl) (zb_X11_groups_0 5 rfl) rfl
theorem dX11_groups_6 : decode cX11_groups 6 = .ok (.ifCond .ne 5, 3) := dop_154 (zb_X11_groups_0 6 rfl) (zb_X11_groups_0 7 rfl) (zb_X11_groups_0 8 rfl) rfl
theorem dX11_groups_9 : decode cX11_groups 9 = .ok (.iconst (-1), 1) := dop_2 (zb_X11_groups_0 9 rfl)
theorem dX11_groups_10 : decode cX11_groups 10 = .ok (.ireturn, 1) := dop_172 (zb_X11_groups_0 10 rfl)
theorem dX11_groups_11 : decode cX11_groups 11 = .ok (.aload_n 0, 1) := dop_42 (zb_X11_groups_0 11 rfl)
theorem dX11_groups_12 : decode cX11_groups 12 = .ok (.getfield 67, 3) := dop_180 (zb_X11_groups_0 12 rfl) (zb_X11_groups_0 13 rfl) (zb_X11_groups_0 14 rfl) rfl
theorem dX11_groups_15 : decode cX11_groups 15 = .ok (.aload_n 0, 1) := dop_42 (zb_X11_groups_0 15 rfl)
theorem dX11_groups_16 : decode cX11_groups 16 = .ok (.getfield 12, 3) := dop_180 (zb_X11_groups_0 16 rfl) (zb_X11_groups_0 17 rfl) (zb_X11_groups_0 18 rfl) rfl
theorem dX11_groups_19 : decode cX11_groups 19 = .ok (.invokevirtual 332, 3) := dop_182 (zb_X11_groups_0 19 rfl) (zb_X11_groups_0 20 rfl) (zb_X11_groups_0 21 rfl) rfl
theorem dX11_groups_22 : decode cX11_groups 22 = .ok (.iload_n 1, 1) := dop_27 (zb_X11_groups_0 22 rfl)
theorem dX11_groups_23 : decode cX11_groups 23 = .ok (.iconst 2, 1) := dop_5 (zb_X11_groups_0 23 rfl)
theorem dX11_groups_24 : decode cX11_groups 24 = .ok (.if_icmp .ne 15, 3) := dop_160 (zb_X11_groups_0 24 rfl) (zb_X11_groups_0 25 rfl) (zb_X11_groups_0 26 rfl) rfl
theorem dX11_groups_27 : decode cX11_groups 27 = .ok (.aload_n 0, 1) := dop_42 (zb_X11_groups_0 27 rfl)
theorem dX11_groups_28 : decode cX11_groups 28 = .ok (.getfield 67, 3) := dop_180 (zb_X11_groups_0 28 rfl) (zb_X11_groups_0 29 rfl) (zb_X11_groups_0 30 rfl) rfl
theorem dX11_groups_31 : decode cX11_groups 31 = .ok (.aload_n 0, 1) := dop_42 (zb_X11_groups_0 31 rfl)
theorem dX11_groups_32 : decode cX11_groups 32 = .ok (.getfield 12, 3) := dop_180 (zb_X11_groups_0 32 rfl) (zb_X11_groups_0 33 rfl) (zb_X11_groups_0 34 rfl) rfl
theorem dX11_groups_35 : decode cX11_groups 35 = .ok (.invokevirtual 338, 3) := dop_182 (zb_X11_groups_0 35 rfl) (zb_X11_groups_0 36 rfl) (zb_X11_groups_0 37 rfl) rfl
theorem dX11_groups_38 : decode cX11_groups 38 = .ok (.ireturn, 1) := dop_172 (zb_X11_groups_0 38 rfl)
theorem dX11_groups_39 : decode cX11_groups 39 = .ok (.aload_n 0, 1) := dop_42 (zb_X11_groups_0 39 rfl)
theorem zb_X11_groups_1 (j : Nat) {n : Nat} (e : zw_X11_groups_1[j]? = some n) : dby cX11_groups (40 + j) n := dw_b (t := []) ze_X11_groups_1 j e
theorem dX11_groups_40 : decode cX11_groups 40 = .ok (.getfield 67, 3) := dop_180 (zb_X11_groups_1 0 rfl) (zb_X11_groups_1 1 rfl) (zb_X11_groups_1 2 rfl) rfl
theorem dX11_groups_43 : decode cX11_groups 43 = .ok (.aload_n 0, 1) := dop_42 (zb_X11_groups_1 3 rfl)
theorem dX11_groups_44 : decode cX11_groups 44 = .ok (.getfield 12, 3) := dop_180 (zb_X11_groups_1 4 rfl) (zb_X11_groups_1 5 rfl) (zb_X11_groups_1 6 rfl) rfl
theorem dX11_groups_47 : decode cX11_groups 47 = .ok (.invokevirtual 340, 3) := dop_182 (zb_X11_groups_1 7 rfl) (zb_X11_groups_1 8 rfl) (zb_X11_groups_1 9 rfl) rfl
theorem dX11_groups_50 : decode cX11_groups 50 = .ok (.iload_n 1, 1) := dop_27 (zb_X11_groups_1 10 rfl)
theorem dX11_groups_51 : decode cX11_groups 51 = .ok (.isub, 1) := dop_100 (zb_X11_groups_1 11 rfl)
theorem dX11_groups_52 : decode cX11_groups 52 = .ok (.ireturn, 1) := dop_172 (zb_X11_groups_1 12 rfl)
def zw_X11_core_1 : List Nat := [180, 1, 90, 182, 1, 93, 172]
def zt_X11_core_1 : List Nat := zw_X11_core_1 ++ []
def zw_X11_core_0 : List Nat := [42, 182, 0, 208, 153, 0, 5, 3, 172, 42, 180, 0, 46, 42, 180, 0, 12, 3, 182, 1, 87, 154, 0, 5, 2, 172, 42, 180, 0, 76, 42, 180, 0, 12, 42, 180, 0, 12]
def zt_X11_core_0 : List Nat := zw_X11_core_0 ++ zt_X11_core_1
theorem ze_X11_core_0 : (dcn cX11_core).drop 0 = zt_X11_core_0 := by decide +kernel
theorem ze_X11_core_1 : (dcn cX11_core).drop 38 = zt_X11_core_1 := dw_n (wl := zw_X11_core_0) ze_X11_core_0 rfl
theorem zb_X11_core_0 (j : Nat) {n : Nat} (e : zw_X11_core_0[j]? = some n) : dby cX11_core (0 + j) n := dw_b (t := zt_X11_core_1) ze_X11_core_0 j e
theorem dX11_core_0 : decode cX11_core 0 = .ok (.aload_n 0, 1) := dop_42 (zb_X11_core_0 0 rfl)
theorem dX11_core_1 : decode cX11_core 1 = .ok (.invokevirtual 208, 3) := dop_182 (zb_X11_core_0 1 rfl) (zb_X11_core_0 2 rfl) (zb_X11_core_0 3 rfl) rfl
theorem dX11_core_4 : decode cX11_core 4 = .ok (.ifCond .eq 5, 3) := dop_153 (zb_X11_core_0 4 rfl) (zb_X11_core_0 5 rfl) (zb_X11_core_0 6 rfl) rfl
theorem dX11_core_7 : decode cX11_core 7 = .ok (.iconst 0, 1) := dop_3 (zb_X11_core_0 7 rfl)
theorem dX11_core_8 : decode cX11_core 8 = .ok (.ireturn, 1) := dop_172 (zb_X11_core_0 8 rfl)
theorem dX11_core_9 : decode cX11_core 9 = .ok (.aload_n 0, 1) := dop_42 (zb_X11_core_0 9 rfl)
theorem dX11_core_10 : decode cX11_core 10 = .ok (.getfield 46, 3) := dop_180 (zb_X11_core_0 10 rfl) (zb_X11_core_0 11 rfl) (zb_X11_core_0 12 rfl) rfl
theorem dX11_core_13 : decode cX11_core 13 = .ok (.aload_n 0, 1) := dop_42 (zb_X11_core_0 13 rfl)
theorem dX11_core_14 : decode cX11_core 14 = .ok (.getfield 12, 3) := dop_180 (zb_X11_core_0 14 rfl) (zb_X11_core_0 15 rfl) (zb_X11_core_0 16 rfl) rfl
theorem dX11_core_17 : decode cX11_core 17 = .ok (.iconst 0, 1) := dop_3 (zb_X11_core_0 17 rfl)
theorem dX11_core_18 : decode cX11_core 18 = .ok (.invokevirtual 343, 3) := dop_182 (zb_X11_core_0 18 rfl) (zb_X11_core_0 19 rfl) (zb_X11_core_0 20 rfl) rfl
theorem dX11_core_21 : decode cX11_core 21 = .ok (.ifCond .ne 5, 3) := dop_154 (zb_X11_core_0 21 rfl) (zb_X11_core_0 22 rfl) (zb_X11_core_0 23 rfl) rfl
theorem dX11_core_24 : decode cX11_core 24 = .ok (.iconst (-1), 1) := dop_2 (zb_X11_core_0 24 rfl)
theorem dX11_core_25 : decode cX11_core 25 = .ok (.ireturn, 1) := dop_172 (zb_X11_core_0 25 rfl)
theorem dX11_core_26 : decode cX11_core 26 = .ok (.aload_n 0, 1) := dop_42 (zb_X11_core_0 26 rfl)
theorem dX11_core_27 : decode cX11_core 27 = .ok (.getfield 76, 3) := dop_180 (zb_X11_core_0 27 rfl) (zb_X11_core_0 28 rfl) (zb_X11_core_0 29 rfl) rfl
theorem dX11_core_30 : decode cX11_core 30 = .ok (.aload_n 0, 1) := dop_42 (zb_X11_core_0 30 rfl)
theorem dX11_core_31 : decode cX11_core 31 = .ok (.getfield 12, 3) := dop_180 (zb_X11_core_0 31 rfl) (zb_X11_core_0 32 rfl) (zb_X11_core_0 33 rfl) rfl
theorem dX11_core_34 : decode cX11_core 34 = .ok (.aload_n 0, 1) := dop_42 (zb_X11_core_0 34 rfl)
theorem dX11_core_35 : decode cX11_core 35 = .ok (.getfield 12, 3) := dop_180 (zb_X11_core_0 35 rfl) (zb_X11_core_0 36 rfl) (zb_X11_core_0 37 rfl) rfl
theorem zb_X11_core_1 (j : Nat) {n : Nat} (e : zw_X11_core_1[j]? = some n) : dby cX11_core (38 + j) n := dw_b (t := []) ze_X11_core_1 j e
theorem dX11_core_38 : decode cX11_core 38 = .ok (.getfield 346, 3) := dop_180 (zb_X11_core_1 0 rfl) (zb_X11_core_1 1 rfl) (zb_X11_core_1 2 rfl) rfl
theorem dX11_core_41 : decode cX11_core 41 = .ok (.invokevirtual 349, 3) := dop_182 (zb_X11_core_1 3 rfl) (zb_X11_core_1 4 rfl) (zb_X11_core_1 5 rfl) rfl
theorem dX11_core_44 : decode cX11_core 44 = .ok (.ireturn, 1) := dop_172 (zb_X11_core_1 6 rfl)
def zw_X11_wrong_1 : List Nat := [160, 0, 13, 42, 180, 0, 76, 180, 1, 104, 167, 0, 10, 42, 180, 0, 76, 180, 1, 107, 172]
def zt_X11_wrong_1 : List Nat := zw_X11_wrong_1 ++ []
def zw_X11_wrong_0 : List Nat := [27, 3, 5, 184, 0, 112, 153, 0, 17, 42, 180, 0, 76, 42, 180, 0, 12, 182, 1, 97, 154, 0, 5, 2, 172, 27, 154, 0, 11, 42, 180, 0, 76, 180, 1, 101, 172, 27, 4]
def zt_X11_wrong_0 : List Nat := zw_X11_wrong_0 ++ zt_X11_wrong_1
theorem ze_X11_wrong_0 : (dcn cX11_wrong).drop 0 = zt_X11_wrong_0 := by decide +kernel
theorem ze_X11_wrong_1 : (dcn cX11_wrong).drop 39 = zt_X11_wrong_1 := dw_n (wl := zw_X11_wrong_0) ze_X11_wrong_0 rfl
theorem zb_X11_wrong_0 (j : Nat) {n : Nat} (e : zw_X11_wrong_0[j]? = some n) : dby cX11_wrong (0 + j) n := dw_b (t := zt_X11_wrong_1) ze_X11_wrong_0 j e
theorem dX11_wrong_0 : decode cX11_wrong 0 = .ok (.iload_n 1, 1) := dop_27 (zb_X11_wrong_0 0 rfl)
theorem dX11_wrong_1 : decode cX11_wrong 1 = .ok (.iconst 0, 1) := dop_3 (zb_X11_wrong_0 1 rfl)
theorem dX11_wrong_2 : decode cX11_wrong 2 = .ok (.iconst 2, 1) := dop_5 (zb_X11_wrong_0 2 rfl)
theorem dX11_wrong_3 : decode cX11_wrong 3 = .ok (.invokestatic 112, 3) := dop_184 (zb_X11_wrong_0 3 rfl) (zb_X11_wrong_0 4 rfl) (zb_X11_wrong_0 5 rfl) rfl
theorem dX11_wrong_6 : decode cX11_wrong 6 = .ok (.ifCond .eq 17, 3) := dop_153 (zb_X11_wrong_0 6 rfl) (zb_X11_wrong_0 7 rfl) (zb_X11_wrong_0 8 rfl) rfl
theorem dX11_wrong_9 : decode cX11_wrong 9 = .ok (.aload_n 0, 1) := dop_42 (zb_X11_wrong_0 9 rfl)
theorem dX11_wrong_10 : decode cX11_wrong 10 = .ok (.getfield 76, 3) := dop_180 (zb_X11_wrong_0 10 rfl) (zb_X11_wrong_0 11 rfl) (zb_X11_wrong_0 12 rfl) rfl
theorem dX11_wrong_13 : decode cX11_wrong 13 = .ok (.aload_n 0, 1) := dop_42 (zb_X11_wrong_0 13 rfl)
theorem dX11_wrong_14 : decode cX11_wrong 14 = .ok (.getfield 12, 3) := dop_180 (zb_X11_wrong_0 14 rfl) (zb_X11_wrong_0 15 rfl) (zb_X11_wrong_0 16 rfl) rfl
theorem dX11_wrong_17 : decode cX11_wrong 17 = .ok (.invokevirtual 353, 3) := dop_182 (zb_X11_wrong_0 17 rfl) (zb_X11_wrong_0 18 rfl) (zb_X11_wrong_0 19 rfl) rfl
theorem dX11_wrong_20 : decode cX11_wrong 20 = .ok (.ifCond .ne 5, 3) := dop_154 (zb_X11_wrong_0 20 rfl) (zb_X11_wrong_0 21 rfl) (zb_X11_wrong_0 22 rfl) rfl
theorem dX11_wrong_23 : decode cX11_wrong 23 = .ok (.iconst (-1), 1) := dop_2 (zb_X11_wrong_0 23 rfl)
theorem dX11_wrong_24 : decode cX11_wrong 24 = .ok (.ireturn, 1) := dop_172 (zb_X11_wrong_0 24 rfl)
theorem dX11_wrong_25 : decode cX11_wrong 25 = .ok (.iload_n 1, 1) := dop_27 (zb_X11_wrong_0 25 rfl)
theorem dX11_wrong_26 : decode cX11_wrong 26 = .ok (.ifCond .ne 11, 3) := dop_154 (zb_X11_wrong_0 26 rfl) (zb_X11_wrong_0 27 rfl) (zb_X11_wrong_0 28 rfl) rfl
theorem dX11_wrong_29 : decode cX11_wrong 29 = .ok (.aload_n 0, 1) := dop_42 (zb_X11_wrong_0 29 rfl)
theorem dX11_wrong_30 : decode cX11_wrong 30 = .ok (.getfield 76, 3) := dop_180 (zb_X11_wrong_0 30 rfl) (zb_X11_wrong_0 31 rfl) (zb_X11_wrong_0 32 rfl) rfl
theorem dX11_wrong_33 : decode cX11_wrong 33 = .ok (.getfield 357, 3) := dop_180 (zb_X11_wrong_0 33 rfl) (zb_X11_wrong_0 34 rfl) (zb_X11_wrong_0 35 rfl) rfl
theorem dX11_wrong_36 : decode cX11_wrong 36 = .ok (.ireturn, 1) := dop_172 (zb_X11_wrong_0 36 rfl)
theorem dX11_wrong_37 : decode cX11_wrong 37 = .ok (.iload_n 1, 1) := dop_27 (zb_X11_wrong_0 37 rfl)
theorem dX11_wrong_38 : decode cX11_wrong 38 = .ok (.iconst 1, 1) := dop_4 (zb_X11_wrong_0 38 rfl)
theorem zb_X11_wrong_1 (j : Nat) {n : Nat} (e : zw_X11_wrong_1[j]? = some n) : dby cX11_wrong (39 + j) n := dw_b (t := []) ze_X11_wrong_1 j e
theorem dX11_wrong_39 : decode cX11_wrong 39 = .ok (.if_icmp .ne 13, 3) := dop_160 (zb_X11_wrong_1 0 rfl) (zb_X11_wrong_1 1 rfl) (zb_X11_wrong_1 2 rfl) rfl
theorem dX11_wrong_42 : decode cX11_wrong 42 = .ok (.aload_n 0, 1) := dop_42 (zb_X11_wrong_1 3 rfl)
theorem dX11_wrong_43 : decode cX11_wrong 43 = .ok (.getfield 76, 3) := dop_180 (zb_X11_wrong_1 4 rfl) (zb_X11_wrong_1 5 rfl) (zb_X11_wrong_1 6 rfl) rfl
theorem dX11_wrong_46 : decode cX11_wrong 46 = .ok (.getfield 360, 3) := dop_180 (zb_X11_wrong_1 7 rfl) (zb_X11_wrong_1 8 rfl) (zb_X11_wrong_1 9 rfl) rfl
theorem dX11_wrong_49 : decode cX11_wrong 49 = .ok (.goto 10, 3) := dop_167 (zb_X11_wrong_1 10 rfl) (zb_X11_wrong_1 11 rfl) (zb_X11_wrong_1 12 rfl) rfl
theorem dX11_wrong_52 : decode cX11_wrong 52 = .ok (.aload_n 0, 1) := dop_42 (zb_X11_wrong_1 13 rfl)
theorem dX11_wrong_53 : decode cX11_wrong 53 = .ok (.getfield 76, 3) := dop_180 (zb_X11_wrong_1 14 rfl) (zb_X11_wrong_1 15 rfl) (zb_X11_wrong_1 16 rfl) rfl
theorem dX11_wrong_56 : decode cX11_wrong 56 = .ok (.getfield 363, 3) := dop_180 (zb_X11_wrong_1 17 rfl) (zb_X11_wrong_1 18 rfl) (zb_X11_wrong_1 19 rfl) rfl
theorem dX11_wrong_59 : decode cX11_wrong 59 = .ok (.ireturn, 1) := dop_172 (zb_X11_wrong_1 20 rfl)
def zw_X11_whose_1 : List Nat := [172, 27, 2, 160, 0, 13, 42, 180, 0, 83, 180, 1, 113, 167, 0, 11, 42, 180, 0, 83, 27, 182, 1, 114, 172]
def zt_X11_whose_1 : List Nat := zw_X11_whose_1 ++ []
def zw_X11_whose_0 : List Nat := [27, 2, 159, 0, 12, 27, 184, 0, 108, 154, 0, 5, 2, 172, 42, 180, 0, 16, 42, 180, 0, 12, 182, 0, 197, 42, 180, 0, 83, 42, 180, 0, 16, 182, 1, 110, 154, 0, 5, 2]
def zt_X11_whose_0 : List Nat := zw_X11_whose_0 ++ zt_X11_whose_1
theorem ze_X11_whose_0 : (dcn cX11_whose).drop 0 = zt_X11_whose_0 := by decide +kernel
theorem ze_X11_whose_1 : (dcn cX11_whose).drop 40 = zt_X11_whose_1 := dw_n (wl := zw_X11_whose_0) ze_X11_whose_0 rfl
theorem zb_X11_whose_0 (j : Nat) {n : Nat} (e : zw_X11_whose_0[j]? = some n) : dby cX11_whose (0 + j) n := dw_b (t := zt_X11_whose_1) ze_X11_whose_0 j e
theorem dX11_whose_0 : decode cX11_whose 0 = .ok (.iload_n 1, 1) := dop_27 (zb_X11_whose_0 0 rfl)
theorem dX11_whose_1 : decode cX11_whose 1 = .ok (.iconst (-1), 1) := dop_2 (zb_X11_whose_0 1 rfl)
theorem dX11_whose_2 : decode cX11_whose 2 = .ok (.if_icmp .eq 12, 3) := dop_159 (zb_X11_whose_0 2 rfl) (zb_X11_whose_0 3 rfl) (zb_X11_whose_0 4 rfl) rfl
theorem dX11_whose_5 : decode cX11_whose 5 = .ok (.iload_n 1, 1) := dop_27 (zb_X11_whose_0 5 rfl)
theorem dX11_whose_6 : decode cX11_whose 6 = .ok (.invokestatic 108, 3) := dop_184 (zb_X11_whose_0 6 rfl) (zb_X11_whose_0 7 rfl) (zb_X11_whose_0 8 rfl) rfl
theorem dX11_whose_9 : decode cX11_whose 9 = .ok (.ifCond .ne 5, 3) := dop_154 (zb_X11_whose_0 9 rfl) (zb_X11_whose_0 10 rfl) (zb_X11_whose_0 11 rfl) rfl
theorem dX11_whose_12 : decode cX11_whose 12 = .ok (.iconst (-1), 1) := dop_2 (zb_X11_whose_0 12 rfl)
theorem dX11_whose_13 : decode cX11_whose 13 = .ok (.ireturn, 1) := dop_172 (zb_X11_whose_0 13 rfl)
theorem dX11_whose_14 : decode cX11_whose 14 = .ok (.aload_n 0, 1) := dop_42 (zb_X11_whose_0 14 rfl)
theorem dX11_whose_15 : decode cX11_whose 15 = .ok (.getfield 16, 3) := dop_180 (zb_X11_whose_0 15 rfl) (zb_X11_whose_0 16 rfl) (zb_X11_whose_0 17 rfl) rfl
theorem dX11_whose_18 : decode cX11_whose 18 = .ok (.aload_n 0, 1) := dop_42 (zb_X11_whose_0 18 rfl)
theorem dX11_whose_19 : decode cX11_whose 19 = .ok (.getfield 12, 3) := dop_180 (zb_X11_whose_0 19 rfl) (zb_X11_whose_0 20 rfl) (zb_X11_whose_0 21 rfl) rfl
theorem dX11_whose_22 : decode cX11_whose 22 = .ok (.invokevirtual 197, 3) := dop_182 (zb_X11_whose_0 22 rfl) (zb_X11_whose_0 23 rfl) (zb_X11_whose_0 24 rfl) rfl
theorem dX11_whose_25 : decode cX11_whose 25 = .ok (.aload_n 0, 1) := dop_42 (zb_X11_whose_0 25 rfl)
theorem dX11_whose_26 : decode cX11_whose 26 = .ok (.getfield 83, 3) := dop_180 (zb_X11_whose_0 26 rfl) (zb_X11_whose_0 27 rfl) (zb_X11_whose_0 28 rfl) rfl
theorem dX11_whose_29 : decode cX11_whose 29 = .ok (.aload_n 0, 1) := dop_42 (zb_X11_whose_0 29 rfl)
theorem dX11_whose_30 : decode cX11_whose 30 = .ok (.getfield 16, 3) := dop_180 (zb_X11_whose_0 30 rfl) (zb_X11_whose_0 31 rfl) (zb_X11_whose_0 32 rfl) rfl
theorem dX11_whose_33 : decode cX11_whose 33 = .ok (.invokevirtual 366, 3) := dop_182 (zb_X11_whose_0 33 rfl) (zb_X11_whose_0 34 rfl) (zb_X11_whose_0 35 rfl) rfl
theorem dX11_whose_36 : decode cX11_whose 36 = .ok (.ifCond .ne 5, 3) := dop_154 (zb_X11_whose_0 36 rfl) (zb_X11_whose_0 37 rfl) (zb_X11_whose_0 38 rfl) rfl
theorem dX11_whose_39 : decode cX11_whose 39 = .ok (.iconst (-1), 1) := dop_2 (zb_X11_whose_0 39 rfl)
theorem zb_X11_whose_1 (j : Nat) {n : Nat} (e : zw_X11_whose_1[j]? = some n) : dby cX11_whose (40 + j) n := dw_b (t := []) ze_X11_whose_1 j e
theorem dX11_whose_40 : decode cX11_whose 40 = .ok (.ireturn, 1) := dop_172 (zb_X11_whose_1 0 rfl)
theorem dX11_whose_41 : decode cX11_whose 41 = .ok (.iload_n 1, 1) := dop_27 (zb_X11_whose_1 1 rfl)
theorem dX11_whose_42 : decode cX11_whose 42 = .ok (.iconst (-1), 1) := dop_2 (zb_X11_whose_1 2 rfl)
theorem dX11_whose_43 : decode cX11_whose 43 = .ok (.if_icmp .ne 13, 3) := dop_160 (zb_X11_whose_1 3 rfl) (zb_X11_whose_1 4 rfl) (zb_X11_whose_1 5 rfl) rfl
theorem dX11_whose_46 : decode cX11_whose 46 = .ok (.aload_n 0, 1) := dop_42 (zb_X11_whose_1 6 rfl)
theorem dX11_whose_47 : decode cX11_whose 47 = .ok (.getfield 83, 3) := dop_180 (zb_X11_whose_1 7 rfl) (zb_X11_whose_1 8 rfl) (zb_X11_whose_1 9 rfl) rfl
theorem dX11_whose_50 : decode cX11_whose 50 = .ok (.getfield 369, 3) := dop_180 (zb_X11_whose_1 10 rfl) (zb_X11_whose_1 11 rfl) (zb_X11_whose_1 12 rfl) rfl
theorem dX11_whose_53 : decode cX11_whose 53 = .ok (.goto 11, 3) := dop_167 (zb_X11_whose_1 13 rfl) (zb_X11_whose_1 14 rfl) (zb_X11_whose_1 15 rfl) rfl
theorem dX11_whose_56 : decode cX11_whose 56 = .ok (.aload_n 0, 1) := dop_42 (zb_X11_whose_1 16 rfl)
theorem dX11_whose_57 : decode cX11_whose 57 = .ok (.getfield 83, 3) := dop_180 (zb_X11_whose_1 17 rfl) (zb_X11_whose_1 18 rfl) (zb_X11_whose_1 19 rfl) rfl
theorem dX11_whose_60 : decode cX11_whose 60 = .ok (.iload_n 1, 1) := dop_27 (zb_X11_whose_1 20 rfl)
theorem dX11_whose_61 : decode cX11_whose 61 = .ok (.invokevirtual 370, 3) := dop_182 (zb_X11_whose_1 21 rfl) (zb_X11_whose_1 22 rfl) (zb_X11_whose_1 23 rfl) rfl
theorem dX11_whose_64 : decode cX11_whose 64 = .ok (.ireturn, 1) := dop_172 (zb_X11_whose_1 24 rfl)
def zw_X11_could_1 : List Nat := [154, 0, 5, 2, 172, 42, 180, 0, 83, 27, 28, 182, 1, 117, 172]
def zt_X11_could_1 : List Nat := zw_X11_could_1 ++ []
def zw_X11_could_0 : List Nat := [27, 184, 0, 108, 153, 0, 10, 28, 184, 0, 132, 154, 0, 5, 2, 172, 42, 180, 0, 16, 42, 180, 0, 12, 182, 0, 197, 42, 180, 0, 83, 42, 180, 0, 16, 182, 1, 110]
def zt_X11_could_0 : List Nat := zw_X11_could_0 ++ zt_X11_could_1
theorem ze_X11_could_0 : (dcn cX11_could).drop 0 = zt_X11_could_0 := by decide +kernel
theorem ze_X11_could_1 : (dcn cX11_could).drop 38 = zt_X11_could_1 := dw_n (wl := zw_X11_could_0) ze_X11_could_0 rfl
theorem zb_X11_could_0 (j : Nat) {n : Nat} (e : zw_X11_could_0[j]? = some n) : dby cX11_could (0 + j) n := dw_b (t := zt_X11_could_1) ze_X11_could_0 j e
theorem dX11_could_0 : decode cX11_could 0 = .ok (.iload_n 1, 1) := dop_27 (zb_X11_could_0 0 rfl)
theorem dX11_could_1 : decode cX11_could 1 = .ok (.invokestatic 108, 3) := dop_184 (zb_X11_could_0 1 rfl) (zb_X11_could_0 2 rfl) (zb_X11_could_0 3 rfl) rfl
theorem dX11_could_4 : decode cX11_could 4 = .ok (.ifCond .eq 10, 3) := dop_153 (zb_X11_could_0 4 rfl) (zb_X11_could_0 5 rfl) (zb_X11_could_0 6 rfl) rfl
theorem dX11_could_7 : decode cX11_could 7 = .ok (.iload_n 2, 1) := dop_28 (zb_X11_could_0 7 rfl)
theorem dX11_could_8 : decode cX11_could 8 = .ok (.invokestatic 132, 3) := dop_184 (zb_X11_could_0 8 rfl) (zb_X11_could_0 9 rfl) (zb_X11_could_0 10 rfl) rfl
theorem dX11_could_11 : decode cX11_could 11 = .ok (.ifCond .ne 5, 3) := dop_154 (zb_X11_could_0 11 rfl) (zb_X11_could_0 12 rfl) (zb_X11_could_0 13 rfl) rfl
theorem dX11_could_14 : decode cX11_could 14 = .ok (.iconst (-1), 1) := dop_2 (zb_X11_could_0 14 rfl)
theorem dX11_could_15 : decode cX11_could 15 = .ok (.ireturn, 1) := dop_172 (zb_X11_could_0 15 rfl)
theorem dX11_could_16 : decode cX11_could 16 = .ok (.aload_n 0, 1) := dop_42 (zb_X11_could_0 16 rfl)
theorem dX11_could_17 : decode cX11_could 17 = .ok (.getfield 16, 3) := dop_180 (zb_X11_could_0 17 rfl) (zb_X11_could_0 18 rfl) (zb_X11_could_0 19 rfl) rfl
theorem dX11_could_20 : decode cX11_could 20 = .ok (.aload_n 0, 1) := dop_42 (zb_X11_could_0 20 rfl)
theorem dX11_could_21 : decode cX11_could 21 = .ok (.getfield 12, 3) := dop_180 (zb_X11_could_0 21 rfl) (zb_X11_could_0 22 rfl) (zb_X11_could_0 23 rfl) rfl
theorem dX11_could_24 : decode cX11_could 24 = .ok (.invokevirtual 197, 3) := dop_182 (zb_X11_could_0 24 rfl) (zb_X11_could_0 25 rfl) (zb_X11_could_0 26 rfl) rfl
theorem dX11_could_27 : decode cX11_could 27 = .ok (.aload_n 0, 1) := dop_42 (zb_X11_could_0 27 rfl)
theorem dX11_could_28 : decode cX11_could 28 = .ok (.getfield 83, 3) := dop_180 (zb_X11_could_0 28 rfl) (zb_X11_could_0 29 rfl) (zb_X11_could_0 30 rfl) rfl
theorem dX11_could_31 : decode cX11_could 31 = .ok (.aload_n 0, 1) := dop_42 (zb_X11_could_0 31 rfl)
theorem dX11_could_32 : decode cX11_could 32 = .ok (.getfield 16, 3) := dop_180 (zb_X11_could_0 32 rfl) (zb_X11_could_0 33 rfl) (zb_X11_could_0 34 rfl) rfl
theorem dX11_could_35 : decode cX11_could 35 = .ok (.invokevirtual 366, 3) := dop_182 (zb_X11_could_0 35 rfl) (zb_X11_could_0 36 rfl) (zb_X11_could_0 37 rfl) rfl
theorem zb_X11_could_1 (j : Nat) {n : Nat} (e : zw_X11_could_1[j]? = some n) : dby cX11_could (38 + j) n := dw_b (t := []) ze_X11_could_1 j e
theorem dX11_could_38 : decode cX11_could 38 = .ok (.ifCond .ne 5, 3) := dop_154 (zb_X11_could_1 0 rfl) (zb_X11_could_1 1 rfl) (zb_X11_could_1 2 rfl) rfl
theorem dX11_could_41 : decode cX11_could 41 = .ok (.iconst (-1), 1) := dop_2 (zb_X11_could_1 3 rfl)
theorem dX11_could_42 : decode cX11_could 42 = .ok (.ireturn, 1) := dop_172 (zb_X11_could_1 4 rfl)
theorem dX11_could_43 : decode cX11_could 43 = .ok (.aload_n 0, 1) := dop_42 (zb_X11_could_1 5 rfl)
theorem dX11_could_44 : decode cX11_could 44 = .ok (.getfield 83, 3) := dop_180 (zb_X11_could_1 6 rfl) (zb_X11_could_1 7 rfl) (zb_X11_could_1 8 rfl) rfl
theorem dX11_could_47 : decode cX11_could 47 = .ok (.iload_n 1, 1) := dop_27 (zb_X11_could_1 9 rfl)
theorem dX11_could_48 : decode cX11_could 48 = .ok (.iload_n 2, 1) := dop_28 (zb_X11_could_1 10 rfl)
theorem dX11_could_49 : decode cX11_could 49 = .ok (.invokevirtual 373, 3) := dop_182 (zb_X11_could_1 11 rfl) (zb_X11_could_1 12 rfl) (zb_X11_could_1 13 rfl) rfl
theorem dX11_could_52 : decode cX11_could 52 = .ok (.ireturn, 1) := dop_172 (zb_X11_could_1 14 rfl)
def zw_X11_when_2 : List Nat := [180, 1, 90, 182, 1, 87, 153, 0, 10, 29, 4, 21, 4, 120, 128, 62, 132, 4, 1, 167, 255, 207, 29, 28, 184, 1, 70, 172]
def zt_X11_when_2 : List Nat := zw_X11_when_2 ++ []
def zw_X11_when_1 : List Nat := [182, 0, 197, 3, 62, 4, 54, 4, 21, 4, 16, 32, 162, 0, 48, 42, 180, 0, 16, 180, 0, 129, 27, 21, 4, 79, 42, 180, 0, 46, 42, 180, 0, 16, 42, 180, 0, 16]
def zt_X11_when_1 : List Nat := zw_X11_when_1 ++ zt_X11_when_2
def zw_X11_when_0 : List Nat := [27, 184, 0, 126, 153, 0, 25, 28, 3, 5, 184, 0, 112, 153, 0, 16, 42, 180, 0, 12, 180, 0, 129, 27, 46, 2, 159, 0, 5, 2, 172, 42, 180, 0, 16, 42, 180, 0, 12]
def zt_X11_when_0 : List Nat := zw_X11_when_0 ++ zt_X11_when_1
theorem ze_X11_when_0 : (dcn cX11_when).drop 0 = zt_X11_when_0 := by decide +kernel
theorem ze_X11_when_1 : (dcn cX11_when).drop 39 = zt_X11_when_1 := dw_n (wl := zw_X11_when_0) ze_X11_when_0 rfl
theorem zb_X11_when_0 (j : Nat) {n : Nat} (e : zw_X11_when_0[j]? = some n) : dby cX11_when (0 + j) n := dw_b (t := zt_X11_when_1) ze_X11_when_0 j e
theorem dX11_when_0 : decode cX11_when 0 = .ok (.iload_n 1, 1) := dop_27 (zb_X11_when_0 0 rfl)
theorem dX11_when_1 : decode cX11_when 1 = .ok (.invokestatic 126, 3) := dop_184 (zb_X11_when_0 1 rfl) (zb_X11_when_0 2 rfl) (zb_X11_when_0 3 rfl) rfl
theorem dX11_when_4 : decode cX11_when 4 = .ok (.ifCond .eq 25, 3) := dop_153 (zb_X11_when_0 4 rfl) (zb_X11_when_0 5 rfl) (zb_X11_when_0 6 rfl) rfl
theorem dX11_when_7 : decode cX11_when 7 = .ok (.iload_n 2, 1) := dop_28 (zb_X11_when_0 7 rfl)
theorem dX11_when_8 : decode cX11_when 8 = .ok (.iconst 0, 1) := dop_3 (zb_X11_when_0 8 rfl)
theorem dX11_when_9 : decode cX11_when 9 = .ok (.iconst 2, 1) := dop_5 (zb_X11_when_0 9 rfl)
theorem dX11_when_10 : decode cX11_when 10 = .ok (.invokestatic 112, 3) := dop_184 (zb_X11_when_0 10 rfl) (zb_X11_when_0 11 rfl) (zb_X11_when_0 12 rfl) rfl
theorem dX11_when_13 : decode cX11_when 13 = .ok (.ifCond .eq 16, 3) := dop_153 (zb_X11_when_0 13 rfl) (zb_X11_when_0 14 rfl) (zb_X11_when_0 15 rfl) rfl
theorem dX11_when_16 : decode cX11_when 16 = .ok (.aload_n 0, 1) := dop_42 (zb_X11_when_0 16 rfl)
theorem dX11_when_17 : decode cX11_when 17 = .ok (.getfield 12, 3) := dop_180 (zb_X11_when_0 17 rfl) (zb_X11_when_0 18 rfl) (zb_X11_when_0 19 rfl) rfl
theorem dX11_when_20 : decode cX11_when 20 = .ok (.getfield 129, 3) := dop_180 (zb_X11_when_0 20 rfl) (zb_X11_when_0 21 rfl) (zb_X11_when_0 22 rfl) rfl
theorem dX11_when_23 : decode cX11_when 23 = .ok (.iload_n 1, 1) := dop_27 (zb_X11_when_0 23 rfl)
theorem dX11_when_24 : decode cX11_when 24 = .ok (.iaload, 1) := dop_46 (zb_X11_when_0 24 rfl)
theorem dX11_when_25 : decode cX11_when 25 = .ok (.iconst (-1), 1) := dop_2 (zb_X11_when_0 25 rfl)
theorem dX11_when_26 : decode cX11_when 26 = .ok (.if_icmp .eq 5, 3) := dop_159 (zb_X11_when_0 26 rfl) (zb_X11_when_0 27 rfl) (zb_X11_when_0 28 rfl) rfl
theorem dX11_when_29 : decode cX11_when 29 = .ok (.iconst (-1), 1) := dop_2 (zb_X11_when_0 29 rfl)
theorem dX11_when_30 : decode cX11_when 30 = .ok (.ireturn, 1) := dop_172 (zb_X11_when_0 30 rfl)
theorem dX11_when_31 : decode cX11_when 31 = .ok (.aload_n 0, 1) := dop_42 (zb_X11_when_0 31 rfl)
theorem dX11_when_32 : decode cX11_when 32 = .ok (.getfield 16, 3) := dop_180 (zb_X11_when_0 32 rfl) (zb_X11_when_0 33 rfl) (zb_X11_when_0 34 rfl) rfl
theorem dX11_when_35 : decode cX11_when 35 = .ok (.aload_n 0, 1) := dop_42 (zb_X11_when_0 35 rfl)
theorem dX11_when_36 : decode cX11_when 36 = .ok (.getfield 12, 3) := dop_180 (zb_X11_when_0 36 rfl) (zb_X11_when_0 37 rfl) (zb_X11_when_0 38 rfl) rfl
theorem ze_X11_when_2 : (dcn cX11_when).drop 77 = zt_X11_when_2 := dw_n (wl := zw_X11_when_1) ze_X11_when_1 rfl
theorem zb_X11_when_1 (j : Nat) {n : Nat} (e : zw_X11_when_1[j]? = some n) : dby cX11_when (39 + j) n := dw_b (t := zt_X11_when_2) ze_X11_when_1 j e
theorem dX11_when_39 : decode cX11_when 39 = .ok (.invokevirtual 197, 3) := dop_182 (zb_X11_when_1 0 rfl) (zb_X11_when_1 1 rfl) (zb_X11_when_1 2 rfl) rfl
theorem dX11_when_42 : decode cX11_when 42 = .ok (.iconst 0, 1) := dop_3 (zb_X11_when_1 3 rfl)
theorem dX11_when_43 : decode cX11_when 43 = .ok (.istore_n 3, 1) := dop_62 (zb_X11_when_1 4 rfl)
theorem dX11_when_44 : decode cX11_when 44 = .ok (.iconst 1, 1) := dop_4 (zb_X11_when_1 5 rfl)
theorem dX11_when_45 : decode cX11_when 45 = .ok (.istore 4, 2) := dop_54 (zb_X11_when_1 6 rfl) (zb_X11_when_1 7 rfl)
theorem dX11_when_47 : decode cX11_when 47 = .ok (.iload 4, 2) := dop_21 (zb_X11_when_1 8 rfl) (zb_X11_when_1 9 rfl)
theorem dX11_when_49 : decode cX11_when 49 = .ok (.bipush 32, 2) := dop_16 (zb_X11_when_1 10 rfl) (zb_X11_when_1 11 rfl) rfl
theorem dX11_when_51 : decode cX11_when 51 = .ok (.if_icmp .ge 48, 3) := dop_162 (zb_X11_when_1 12 rfl) (zb_X11_when_1 13 rfl) (zb_X11_when_1 14 rfl) rfl
theorem dX11_when_54 : decode cX11_when 54 = .ok (.aload_n 0, 1) := dop_42 (zb_X11_when_1 15 rfl)
theorem dX11_when_55 : decode cX11_when 55 = .ok (.getfield 16, 3) := dop_180 (zb_X11_when_1 16 rfl) (zb_X11_when_1 17 rfl) (zb_X11_when_1 18 rfl) rfl
theorem dX11_when_58 : decode cX11_when 58 = .ok (.getfield 129, 3) := dop_180 (zb_X11_when_1 19 rfl) (zb_X11_when_1 20 rfl) (zb_X11_when_1 21 rfl) rfl
theorem dX11_when_61 : decode cX11_when 61 = .ok (.iload_n 1, 1) := dop_27 (zb_X11_when_1 22 rfl)
theorem dX11_when_62 : decode cX11_when 62 = .ok (.iload 4, 2) := dop_21 (zb_X11_when_1 23 rfl) (zb_X11_when_1 24 rfl)
theorem dX11_when_64 : decode cX11_when 64 = .ok (.iastore, 1) := dop_79 (zb_X11_when_1 25 rfl)
theorem dX11_when_65 : decode cX11_when 65 = .ok (.aload_n 0, 1) := dop_42 (zb_X11_when_1 26 rfl)
theorem dX11_when_66 : decode cX11_when 66 = .ok (.getfield 46, 3) := dop_180 (zb_X11_when_1 27 rfl) (zb_X11_when_1 28 rfl) (zb_X11_when_1 29 rfl) rfl
theorem dX11_when_69 : decode cX11_when 69 = .ok (.aload_n 0, 1) := dop_42 (zb_X11_when_1 30 rfl)
theorem dX11_when_70 : decode cX11_when 70 = .ok (.getfield 16, 3) := dop_180 (zb_X11_when_1 31 rfl) (zb_X11_when_1 32 rfl) (zb_X11_when_1 33 rfl) rfl
theorem dX11_when_73 : decode cX11_when 73 = .ok (.aload_n 0, 1) := dop_42 (zb_X11_when_1 34 rfl)
theorem dX11_when_74 : decode cX11_when 74 = .ok (.getfield 16, 3) := dop_180 (zb_X11_when_1 35 rfl) (zb_X11_when_1 36 rfl) (zb_X11_when_1 37 rfl) rfl
theorem zb_X11_when_2 (j : Nat) {n : Nat} (e : zw_X11_when_2[j]? = some n) : dby cX11_when (77 + j) n := dw_b (t := []) ze_X11_when_2 j e
theorem dX11_when_77 : decode cX11_when 77 = .ok (.getfield 346, 3) := dop_180 (zb_X11_when_2 0 rfl) (zb_X11_when_2 1 rfl) (zb_X11_when_2 2 rfl) rfl
theorem dX11_when_80 : decode cX11_when 80 = .ok (.invokevirtual 343, 3) := dop_182 (zb_X11_when_2 3 rfl) (zb_X11_when_2 4 rfl) (zb_X11_when_2 5 rfl) rfl
theorem dX11_when_83 : decode cX11_when 83 = .ok (.ifCond .eq 10, 3) := dop_153 (zb_X11_when_2 6 rfl) (zb_X11_when_2 7 rfl) (zb_X11_when_2 8 rfl) rfl
theorem dX11_when_86 : decode cX11_when 86 = .ok (.iload_n 3, 1) := dop_29 (zb_X11_when_2 9 rfl)
theorem dX11_when_87 : decode cX11_when 87 = .ok (.iconst 1, 1) := dop_4 (zb_X11_when_2 10 rfl)
theorem dX11_when_88 : decode cX11_when 88 = .ok (.iload 4, 2) := dop_21 (zb_X11_when_2 11 rfl) (zb_X11_when_2 12 rfl)
theorem dX11_when_90 : decode cX11_when 90 = .ok (.ishl, 1) := dop_120 (zb_X11_when_2 13 rfl)
theorem dX11_when_91 : decode cX11_when 91 = .ok (.ior, 1) := dop_128 (zb_X11_when_2 14 rfl)
theorem dX11_when_92 : decode cX11_when 92 = .ok (.istore_n 3, 1) := dop_62 (zb_X11_when_2 15 rfl)
theorem dX11_when_93 : decode cX11_when 93 = .ok (.iinc 4 1, 3) := dop_132 (zb_X11_when_2 16 rfl) (zb_X11_when_2 17 rfl) (zb_X11_when_2 18 rfl) rfl
theorem dX11_when_96 : decode cX11_when 96 = .ok (.goto (-49), 3) := dop_167 (zb_X11_when_2 19 rfl) (zb_X11_when_2 20 rfl) (zb_X11_when_2 21 rfl) rfl
theorem dX11_when_99 : decode cX11_when 99 = .ok (.iload_n 3, 1) := dop_29 (zb_X11_when_2 22 rfl)
theorem dX11_when_100 : decode cX11_when 100 = .ok (.iload_n 2, 1) := dop_28 (zb_X11_when_2 23 rfl)
theorem dX11_when_101 : decode cX11_when 101 = .ok (.invokestatic 326, 3) := dop_184 (zb_X11_when_2 24 rfl) (zb_X11_when_2 25 rfl) (zb_X11_when_2 26 rfl) rfl
theorem dX11_when_104 : decode cX11_when 104 = .ok (.ireturn, 1) := dop_172 (zb_X11_when_2 27 rfl)
def zw_X11_tell_1 : List Nat := [180, 0, 12, 180, 1, 120, 27, 28, 79, 42, 29, 182, 0, 123, 172]
def zt_X11_tell_1 : List Nat := zw_X11_tell_1 ++ []
def zw_X11_tell_0 : List Nat := [27, 3, 16, 15, 184, 0, 112, 153, 0, 14, 28, 4, 17, 39, 15, 184, 0, 112, 154, 0, 9, 42, 2, 182, 0, 116, 172, 42, 180, 0, 12, 180, 1, 120, 27, 46, 62, 42]
def zt_X11_tell_0 : List Nat := zw_X11_tell_0 ++ zt_X11_tell_1
theorem ze_X11_tell_0 : (dcn cX11_tell).drop 0 = zt_X11_tell_0 := by decide +kernel
theorem ze_X11_tell_1 : (dcn cX11_tell).drop 38 = zt_X11_tell_1 := dw_n (wl := zw_X11_tell_0) ze_X11_tell_0 rfl
theorem zb_X11_tell_0 (j : Nat) {n : Nat} (e : zw_X11_tell_0[j]? = some n) : dby cX11_tell (0 + j) n := dw_b (t := zt_X11_tell_1) ze_X11_tell_0 j e
theorem dX11_tell_0 : decode cX11_tell 0 = .ok (.iload_n 1, 1) := dop_27 (zb_X11_tell_0 0 rfl)
theorem dX11_tell_1 : decode cX11_tell 1 = .ok (.iconst 0, 1) := dop_3 (zb_X11_tell_0 1 rfl)
theorem dX11_tell_2 : decode cX11_tell 2 = .ok (.bipush 15, 2) := dop_16 (zb_X11_tell_0 2 rfl) (zb_X11_tell_0 3 rfl) rfl
theorem dX11_tell_4 : decode cX11_tell 4 = .ok (.invokestatic 112, 3) := dop_184 (zb_X11_tell_0 4 rfl) (zb_X11_tell_0 5 rfl) (zb_X11_tell_0 6 rfl) rfl
theorem dX11_tell_7 : decode cX11_tell 7 = .ok (.ifCond .eq 14, 3) := dop_153 (zb_X11_tell_0 7 rfl) (zb_X11_tell_0 8 rfl) (zb_X11_tell_0 9 rfl) rfl
theorem dX11_tell_10 : decode cX11_tell 10 = .ok (.iload_n 2, 1) := dop_28 (zb_X11_tell_0 10 rfl)
theorem dX11_tell_11 : decode cX11_tell 11 = .ok (.iconst 1, 1) := dop_4 (zb_X11_tell_0 11 rfl)
theorem dX11_tell_12 : decode cX11_tell 12 = .ok (.sipush 9999, 3) := dop_17 (zb_X11_tell_0 12 rfl) (zb_X11_tell_0 13 rfl) (zb_X11_tell_0 14 rfl) rfl
theorem dX11_tell_15 : decode cX11_tell 15 = .ok (.invokestatic 112, 3) := dop_184 (zb_X11_tell_0 15 rfl) (zb_X11_tell_0 16 rfl) (zb_X11_tell_0 17 rfl) rfl
theorem dX11_tell_18 : decode cX11_tell 18 = .ok (.ifCond .ne 9, 3) := dop_154 (zb_X11_tell_0 18 rfl) (zb_X11_tell_0 19 rfl) (zb_X11_tell_0 20 rfl) rfl
theorem dX11_tell_21 : decode cX11_tell 21 = .ok (.aload_n 0, 1) := dop_42 (zb_X11_tell_0 21 rfl)
theorem dX11_tell_22 : decode cX11_tell 22 = .ok (.iconst (-1), 1) := dop_2 (zb_X11_tell_0 22 rfl)
theorem dX11_tell_23 : decode cX11_tell 23 = .ok (.invokevirtual 116, 3) := dop_182 (zb_X11_tell_0 23 rfl) (zb_X11_tell_0 24 rfl) (zb_X11_tell_0 25 rfl) rfl
theorem dX11_tell_26 : decode cX11_tell 26 = .ok (.ireturn, 1) := dop_172 (zb_X11_tell_0 26 rfl)
theorem dX11_tell_27 : decode cX11_tell 27 = .ok (.aload_n 0, 1) := dop_42 (zb_X11_tell_0 27 rfl)
theorem dX11_tell_28 : decode cX11_tell 28 = .ok (.getfield 12, 3) := dop_180 (zb_X11_tell_0 28 rfl) (zb_X11_tell_0 29 rfl) (zb_X11_tell_0 30 rfl) rfl
theorem dX11_tell_31 : decode cX11_tell 31 = .ok (.getfield 376, 3) := dop_180 (zb_X11_tell_0 31 rfl) (zb_X11_tell_0 32 rfl) (zb_X11_tell_0 33 rfl) rfl
theorem dX11_tell_34 : decode cX11_tell 34 = .ok (.iload_n 1, 1) := dop_27 (zb_X11_tell_0 34 rfl)
theorem dX11_tell_35 : decode cX11_tell 35 = .ok (.iaload, 1) := dop_46 (zb_X11_tell_0 35 rfl)
theorem dX11_tell_36 : decode cX11_tell 36 = .ok (.istore_n 3, 1) := dop_62 (zb_X11_tell_0 36 rfl)
theorem dX11_tell_37 : decode cX11_tell 37 = .ok (.aload_n 0, 1) := dop_42 (zb_X11_tell_0 37 rfl)
theorem zb_X11_tell_1 (j : Nat) {n : Nat} (e : zw_X11_tell_1[j]? = some n) : dby cX11_tell (38 + j) n := dw_b (t := []) ze_X11_tell_1 j e
theorem dX11_tell_38 : decode cX11_tell 38 = .ok (.getfield 12, 3) := dop_180 (zb_X11_tell_1 0 rfl) (zb_X11_tell_1 1 rfl) (zb_X11_tell_1 2 rfl) rfl
theorem dX11_tell_41 : decode cX11_tell 41 = .ok (.getfield 376, 3) := dop_180 (zb_X11_tell_1 3 rfl) (zb_X11_tell_1 4 rfl) (zb_X11_tell_1 5 rfl) rfl
theorem dX11_tell_44 : decode cX11_tell 44 = .ok (.iload_n 1, 1) := dop_27 (zb_X11_tell_1 6 rfl)
theorem dX11_tell_45 : decode cX11_tell 45 = .ok (.iload_n 2, 1) := dop_28 (zb_X11_tell_1 7 rfl)
theorem dX11_tell_46 : decode cX11_tell 46 = .ok (.iastore, 1) := dop_79 (zb_X11_tell_1 8 rfl)
theorem dX11_tell_47 : decode cX11_tell 47 = .ok (.aload_n 0, 1) := dop_42 (zb_X11_tell_1 9 rfl)
theorem dX11_tell_48 : decode cX11_tell 48 = .ok (.iload_n 3, 1) := dop_29 (zb_X11_tell_1 10 rfl)
theorem dX11_tell_49 : decode cX11_tell 49 = .ok (.invokevirtual 123, 3) := dop_182 (zb_X11_tell_1 11 rfl) (zb_X11_tell_1 12 rfl) (zb_X11_tell_1 13 rfl) rfl
theorem dX11_tell_52 : decode cX11_tell 52 = .ok (.ireturn, 1) := dop_172 (zb_X11_tell_1 14 rfl)
def zw_X11_says_3 : List Nat := [21, 4, 133, 105, 184, 1, 19, 136, 172]
def zt_X11_says_3 : List Nat := zw_X11_says_3 ++ []
def zw_X11_says_2 : List Nat := [20, 1, 123, 21, 5, 133, 105, 21, 4, 133, 184, 1, 19, 136, 172, 21, 5, 133, 21, 4, 133, 184, 1, 19, 136, 172, 20, 1, 125, 21, 5, 133, 105, 21, 4, 133, 97, 20, 1, 125]
def zt_X11_says_2 : List Nat := zw_X11_says_2 ++ zt_X11_says_3
def zw_X11_says_1 : List Nat := [42, 180, 0, 12, 180, 1, 120, 27, 46, 54, 5, 29, 171, 0, 0, 0, 0, 0, 0, 54, 0, 0, 0, 2, 0, 0, 0, 0, 0, 0, 0, 28, 0, 0, 0, 1, 0, 0, 0, 43]
def zt_X11_says_1 : List Nat := zw_X11_says_1 ++ zt_X11_says_2
def zw_X11_says_0 : List Nat := [27, 3, 16, 11, 184, 0, 112, 153, 0, 17, 28, 184, 0, 132, 153, 0, 10, 29, 184, 1, 45, 154, 0, 5, 2, 172, 42, 180, 0, 12, 180, 1, 120, 16, 12, 28, 96, 46, 54, 4]
def zt_X11_says_0 : List Nat := zw_X11_says_0 ++ zt_X11_says_1
theorem ze_X11_says_0 : (dcn cX11_says).drop 0 = zt_X11_says_0 := by decide +kernel
theorem ze_X11_says_1 : (dcn cX11_says).drop 40 = zt_X11_says_1 := dw_n (wl := zw_X11_says_0) ze_X11_says_0 rfl
theorem zb_X11_says_0 (j : Nat) {n : Nat} (e : zw_X11_says_0[j]? = some n) : dby cX11_says (0 + j) n := dw_b (t := zt_X11_says_1) ze_X11_says_0 j e
theorem dX11_says_0 : decode cX11_says 0 = .ok (.iload_n 1, 1) := dop_27 (zb_X11_says_0 0 rfl)
theorem dX11_says_1 : decode cX11_says 1 = .ok (.iconst 0, 1) := dop_3 (zb_X11_says_0 1 rfl)
theorem dX11_says_2 : decode cX11_says 2 = .ok (.bipush 11, 2) := dop_16 (zb_X11_says_0 2 rfl) (zb_X11_says_0 3 rfl) rfl
theorem dX11_says_4 : decode cX11_says 4 = .ok (.invokestatic 112, 3) := dop_184 (zb_X11_says_0 4 rfl) (zb_X11_says_0 5 rfl) (zb_X11_says_0 6 rfl) rfl
theorem dX11_says_7 : decode cX11_says 7 = .ok (.ifCond .eq 17, 3) := dop_153 (zb_X11_says_0 7 rfl) (zb_X11_says_0 8 rfl) (zb_X11_says_0 9 rfl) rfl
theorem dX11_says_10 : decode cX11_says 10 = .ok (.iload_n 2, 1) := dop_28 (zb_X11_says_0 10 rfl)
theorem dX11_says_11 : decode cX11_says 11 = .ok (.invokestatic 132, 3) := dop_184 (zb_X11_says_0 11 rfl) (zb_X11_says_0 12 rfl) (zb_X11_says_0 13 rfl) rfl
theorem dX11_says_14 : decode cX11_says 14 = .ok (.ifCond .eq 10, 3) := dop_153 (zb_X11_says_0 14 rfl) (zb_X11_says_0 15 rfl) (zb_X11_says_0 16 rfl) rfl
theorem dX11_says_17 : decode cX11_says 17 = .ok (.iload_n 3, 1) := dop_29 (zb_X11_says_0 17 rfl)
theorem dX11_says_18 : decode cX11_says 18 = .ok (.invokestatic 301, 3) := dop_184 (zb_X11_says_0 18 rfl) (zb_X11_says_0 19 rfl) (zb_X11_says_0 20 rfl) rfl
theorem dX11_says_21 : decode cX11_says 21 = .ok (.ifCond .ne 5, 3) := dop_154 (zb_X11_says_0 21 rfl) (zb_X11_says_0 22 rfl) (zb_X11_says_0 23 rfl) rfl
theorem dX11_says_24 : decode cX11_says 24 = .ok (.iconst (-1), 1) := dop_2 (zb_X11_says_0 24 rfl)
theorem dX11_says_25 : decode cX11_says 25 = .ok (.ireturn, 1) := dop_172 (zb_X11_says_0 25 rfl)
theorem dX11_says_26 : decode cX11_says 26 = .ok (.aload_n 0, 1) := dop_42 (zb_X11_says_0 26 rfl)
theorem dX11_says_27 : decode cX11_says 27 = .ok (.getfield 12, 3) := dop_180 (zb_X11_says_0 27 rfl) (zb_X11_says_0 28 rfl) (zb_X11_says_0 29 rfl) rfl
theorem dX11_says_30 : decode cX11_says 30 = .ok (.getfield 376, 3) := dop_180 (zb_X11_says_0 30 rfl) (zb_X11_says_0 31 rfl) (zb_X11_says_0 32 rfl) rfl
theorem dX11_says_33 : decode cX11_says 33 = .ok (.bipush 12, 2) := dop_16 (zb_X11_says_0 33 rfl) (zb_X11_says_0 34 rfl) rfl
theorem dX11_says_35 : decode cX11_says 35 = .ok (.iload_n 2, 1) := dop_28 (zb_X11_says_0 35 rfl)
theorem dX11_says_36 : decode cX11_says 36 = .ok (.iadd, 1) := dop_96 (zb_X11_says_0 36 rfl)
theorem dX11_says_37 : decode cX11_says 37 = .ok (.iaload, 1) := dop_46 (zb_X11_says_0 37 rfl)
theorem dX11_says_38 : decode cX11_says 38 = .ok (.istore 4, 2) := dop_54 (zb_X11_says_0 38 rfl) (zb_X11_says_0 39 rfl)
theorem ze_X11_says_2 : (dcn cX11_says).drop 80 = zt_X11_says_2 := dw_n (wl := zw_X11_says_1) ze_X11_says_1 rfl
theorem zb_X11_says_1 (j : Nat) {n : Nat} (e : zw_X11_says_1[j]? = some n) : dby cX11_says (40 + j) n := dw_b (t := zt_X11_says_2) ze_X11_says_1 j e
theorem dX11_says_40 : decode cX11_says 40 = .ok (.aload_n 0, 1) := dop_42 (zb_X11_says_1 0 rfl)
theorem dX11_says_41 : decode cX11_says 41 = .ok (.getfield 12, 3) := dop_180 (zb_X11_says_1 1 rfl) (zb_X11_says_1 2 rfl) (zb_X11_says_1 3 rfl) rfl
theorem dX11_says_44 : decode cX11_says 44 = .ok (.getfield 376, 3) := dop_180 (zb_X11_says_1 4 rfl) (zb_X11_says_1 5 rfl) (zb_X11_says_1 6 rfl) rfl
theorem dX11_says_47 : decode cX11_says 47 = .ok (.iload_n 1, 1) := dop_27 (zb_X11_says_1 7 rfl)
theorem dX11_says_48 : decode cX11_says 48 = .ok (.iaload, 1) := dop_46 (zb_X11_says_1 8 rfl)
theorem dX11_says_49 : decode cX11_says 49 = .ok (.istore 5, 2) := dop_54 (zb_X11_says_1 9 rfl) (zb_X11_says_1 10 rfl)
theorem dX11_says_51 : decode cX11_says 51 = .ok (.iload_n 3, 1) := dop_29 (zb_X11_says_1 11 rfl)
theorem dX11_says_52 : decode cX11_says 52 = .ok (.lookupswitch 54 #[(0, 28), (1, 43)], 28) := by decide +kernel
theorem ze_X11_says_3 : (dcn cX11_says).drop 120 = zt_X11_says_3 := dw_n (wl := zw_X11_says_2) ze_X11_says_2 rfl
theorem zb_X11_says_2 (j : Nat) {n : Nat} (e : zw_X11_says_2[j]? = some n) : dby cX11_says (80 + j) n := dw_b (t := zt_X11_says_3) ze_X11_says_2 j e
theorem dX11_says_80 : decode cX11_says 80 = .ok (.ldc2_w 379, 3) := dop_20 (zb_X11_says_2 0 rfl) (zb_X11_says_2 1 rfl) (zb_X11_says_2 2 rfl) rfl
theorem dX11_says_83 : decode cX11_says 83 = .ok (.iload 5, 2) := dop_21 (zb_X11_says_2 3 rfl) (zb_X11_says_2 4 rfl)
theorem dX11_says_85 : decode cX11_says 85 = .ok (.i2l, 1) := dop_133 (zb_X11_says_2 5 rfl)
theorem dX11_says_86 : decode cX11_says 86 = .ok (.lmul, 1) := dop_105 (zb_X11_says_2 6 rfl)
theorem dX11_says_87 : decode cX11_says 87 = .ok (.iload 4, 2) := dop_21 (zb_X11_says_2 7 rfl) (zb_X11_says_2 8 rfl)
theorem dX11_says_89 : decode cX11_says 89 = .ok (.i2l, 1) := dop_133 (zb_X11_says_2 9 rfl)
theorem dX11_says_90 : decode cX11_says 90 = .ok (.invokestatic 275, 3) := dop_184 (zb_X11_says_2 10 rfl) (zb_X11_says_2 11 rfl) (zb_X11_says_2 12 rfl) rfl
theorem dX11_says_93 : decode cX11_says 93 = .ok (.l2i, 1) := dop_136 (zb_X11_says_2 13 rfl)
theorem dX11_says_94 : decode cX11_says 94 = .ok (.ireturn, 1) := dop_172 (zb_X11_says_2 14 rfl)
theorem dX11_says_95 : decode cX11_says 95 = .ok (.iload 5, 2) := dop_21 (zb_X11_says_2 15 rfl) (zb_X11_says_2 16 rfl)
theorem dX11_says_97 : decode cX11_says 97 = .ok (.i2l, 1) := dop_133 (zb_X11_says_2 17 rfl)
theorem dX11_says_98 : decode cX11_says 98 = .ok (.iload 4, 2) := dop_21 (zb_X11_says_2 18 rfl) (zb_X11_says_2 19 rfl)
theorem dX11_says_100 : decode cX11_says 100 = .ok (.i2l, 1) := dop_133 (zb_X11_says_2 20 rfl)
theorem dX11_says_101 : decode cX11_says 101 = .ok (.invokestatic 275, 3) := dop_184 (zb_X11_says_2 21 rfl) (zb_X11_says_2 22 rfl) (zb_X11_says_2 23 rfl) rfl
theorem dX11_says_104 : decode cX11_says 104 = .ok (.l2i, 1) := dop_136 (zb_X11_says_2 24 rfl)
theorem dX11_says_105 : decode cX11_says 105 = .ok (.ireturn, 1) := dop_172 (zb_X11_says_2 25 rfl)
theorem dX11_says_106 : decode cX11_says 106 = .ok (.ldc2_w 381, 3) := dop_20 (zb_X11_says_2 26 rfl) (zb_X11_says_2 27 rfl) (zb_X11_says_2 28 rfl) rfl
theorem dX11_says_109 : decode cX11_says 109 = .ok (.iload 5, 2) := dop_21 (zb_X11_says_2 29 rfl) (zb_X11_says_2 30 rfl)
theorem dX11_says_111 : decode cX11_says 111 = .ok (.i2l, 1) := dop_133 (zb_X11_says_2 31 rfl)
theorem dX11_says_112 : decode cX11_says 112 = .ok (.lmul, 1) := dop_105 (zb_X11_says_2 32 rfl)
theorem dX11_says_113 : decode cX11_says 113 = .ok (.iload 4, 2) := dop_21 (zb_X11_says_2 33 rfl) (zb_X11_says_2 34 rfl)
theorem dX11_says_115 : decode cX11_says 115 = .ok (.i2l, 1) := dop_133 (zb_X11_says_2 35 rfl)
theorem dX11_says_116 : decode cX11_says 116 = .ok (.ladd, 1) := dop_97 (zb_X11_says_2 36 rfl)
theorem dX11_says_117 : decode cX11_says 117 = .ok (.ldc2_w 381, 3) := dop_20 (zb_X11_says_2 37 rfl) (zb_X11_says_2 38 rfl) (zb_X11_says_2 39 rfl) rfl
theorem zb_X11_says_3 (j : Nat) {n : Nat} (e : zw_X11_says_3[j]? = some n) : dby cX11_says (120 + j) n := dw_b (t := []) ze_X11_says_3 j e
theorem dX11_says_120 : decode cX11_says 120 = .ok (.iload 4, 2) := dop_21 (zb_X11_says_3 0 rfl) (zb_X11_says_3 1 rfl)
theorem dX11_says_122 : decode cX11_says 122 = .ok (.i2l, 1) := dop_133 (zb_X11_says_3 2 rfl)
theorem dX11_says_123 : decode cX11_says 123 = .ok (.lmul, 1) := dop_105 (zb_X11_says_3 3 rfl)
theorem dX11_says_124 : decode cX11_says 124 = .ok (.invokestatic 275, 3) := dop_184 (zb_X11_says_3 4 rfl) (zb_X11_says_3 5 rfl) (zb_X11_says_3 6 rfl) rfl
theorem dX11_says_127 : decode cX11_says 127 = .ok (.l2i, 1) := dop_136 (zb_X11_says_3 7 rfl)
theorem dX11_says_128 : decode cX11_says 128 = .ok (.ireturn, 1) := dop_172 (zb_X11_says_3 8 rfl)
def zw_X11_judge_2 : List Nat := [182, 1, 130, 153, 0, 17, 42, 180, 0, 12, 182, 1, 133, 153, 0, 7, 4, 167, 0, 4, 3, 172, 27, 154, 0, 7, 28, 167, 0, 4, 29, 172]
def zt_X11_judge_2 : List Nat := zw_X11_judge_2 ++ []
def zw_X11_judge_1 : List Nat := [153, 0, 21, 42, 180, 0, 12, 21, 4, 182, 1, 127, 154, 0, 9, 21, 4, 61, 132, 3, 1, 132, 4, 255, 167, 255, 218, 27, 5, 160, 0, 33, 29, 154, 0, 27, 42, 180, 0, 12]
def zt_X11_judge_1 : List Nat := zw_X11_judge_1 ++ zt_X11_judge_2
def zw_X11_judge_0 : List Nat := [27, 3, 5, 184, 0, 112, 154, 0, 5, 2, 172, 2, 61, 3, 62, 42, 180, 0, 12, 180, 0, 162, 4, 100, 54, 4, 21, 4, 155, 0, 39, 42, 180, 0, 12, 21, 4, 182, 0, 165]
def zt_X11_judge_0 : List Nat := zw_X11_judge_0 ++ zt_X11_judge_1
theorem ze_X11_judge_0 : (dcn cX11_judge).drop 0 = zt_X11_judge_0 := by decide +kernel
theorem ze_X11_judge_1 : (dcn cX11_judge).drop 40 = zt_X11_judge_1 := dw_n (wl := zw_X11_judge_0) ze_X11_judge_0 rfl
theorem zb_X11_judge_0 (j : Nat) {n : Nat} (e : zw_X11_judge_0[j]? = some n) : dby cX11_judge (0 + j) n := dw_b (t := zt_X11_judge_1) ze_X11_judge_0 j e
theorem dX11_judge_0 : decode cX11_judge 0 = .ok (.iload_n 1, 1) := dop_27 (zb_X11_judge_0 0 rfl)
theorem dX11_judge_1 : decode cX11_judge 1 = .ok (.iconst 0, 1) := dop_3 (zb_X11_judge_0 1 rfl)
theorem dX11_judge_2 : decode cX11_judge 2 = .ok (.iconst 2, 1) := dop_5 (zb_X11_judge_0 2 rfl)
theorem dX11_judge_3 : decode cX11_judge 3 = .ok (.invokestatic 112, 3) := dop_184 (zb_X11_judge_0 3 rfl) (zb_X11_judge_0 4 rfl) (zb_X11_judge_0 5 rfl) rfl
theorem dX11_judge_6 : decode cX11_judge 6 = .ok (.ifCond .ne 5, 3) := dop_154 (zb_X11_judge_0 6 rfl) (zb_X11_judge_0 7 rfl) (zb_X11_judge_0 8 rfl) rfl
theorem dX11_judge_9 : decode cX11_judge 9 = .ok (.iconst (-1), 1) := dop_2 (zb_X11_judge_0 9 rfl)
theorem dX11_judge_10 : decode cX11_judge 10 = .ok (.ireturn, 1) := dop_172 (zb_X11_judge_0 10 rfl)
theorem dX11_judge_11 : decode cX11_judge 11 = .ok (.iconst (-1), 1) := dop_2 (zb_X11_judge_0 11 rfl)
theorem dX11_judge_12 : decode cX11_judge 12 = .ok (.istore_n 2, 1) := dop_61 (zb_X11_judge_0 12 rfl)
theorem dX11_judge_13 : decode cX11_judge 13 = .ok (.iconst 0, 1) := dop_3 (zb_X11_judge_0 13 rfl)
theorem dX11_judge_14 : decode cX11_judge 14 = .ok (.istore_n 3, 1) := dop_62 (zb_X11_judge_0 14 rfl)
theorem dX11_judge_15 : decode cX11_judge 15 = .ok (.aload_n 0, 1) := dop_42 (zb_X11_judge_0 15 rfl)
theorem dX11_judge_16 : decode cX11_judge 16 = .ok (.getfield 12, 3) := dop_180 (zb_X11_judge_0 16 rfl) (zb_X11_judge_0 17 rfl) (zb_X11_judge_0 18 rfl) rfl
theorem dX11_judge_19 : decode cX11_judge 19 = .ok (.getfield 162, 3) := dop_180 (zb_X11_judge_0 19 rfl) (zb_X11_judge_0 20 rfl) (zb_X11_judge_0 21 rfl) rfl
theorem dX11_judge_22 : decode cX11_judge 22 = .ok (.iconst 1, 1) := dop_4 (zb_X11_judge_0 22 rfl)
theorem dX11_judge_23 : decode cX11_judge 23 = .ok (.isub, 1) := dop_100 (zb_X11_judge_0 23 rfl)
theorem dX11_judge_24 : decode cX11_judge 24 = .ok (.istore 4, 2) := dop_54 (zb_X11_judge_0 24 rfl) (zb_X11_judge_0 25 rfl)
theorem dX11_judge_26 : decode cX11_judge 26 = .ok (.iload 4, 2) := dop_21 (zb_X11_judge_0 26 rfl) (zb_X11_judge_0 27 rfl)
theorem dX11_judge_28 : decode cX11_judge 28 = .ok (.ifCond .lt 39, 3) := dop_155 (zb_X11_judge_0 28 rfl) (zb_X11_judge_0 29 rfl) (zb_X11_judge_0 30 rfl) rfl
theorem dX11_judge_31 : decode cX11_judge 31 = .ok (.aload_n 0, 1) := dop_42 (zb_X11_judge_0 31 rfl)
theorem dX11_judge_32 : decode cX11_judge 32 = .ok (.getfield 12, 3) := dop_180 (zb_X11_judge_0 32 rfl) (zb_X11_judge_0 33 rfl) (zb_X11_judge_0 34 rfl) rfl
theorem dX11_judge_35 : decode cX11_judge 35 = .ok (.iload 4, 2) := dop_21 (zb_X11_judge_0 35 rfl) (zb_X11_judge_0 36 rfl)
theorem dX11_judge_37 : decode cX11_judge 37 = .ok (.invokevirtual 165, 3) := dop_182 (zb_X11_judge_0 37 rfl) (zb_X11_judge_0 38 rfl) (zb_X11_judge_0 39 rfl) rfl
theorem ze_X11_judge_2 : (dcn cX11_judge).drop 80 = zt_X11_judge_2 := dw_n (wl := zw_X11_judge_1) ze_X11_judge_1 rfl
theorem zb_X11_judge_1 (j : Nat) {n : Nat} (e : zw_X11_judge_1[j]? = some n) : dby cX11_judge (40 + j) n := dw_b (t := zt_X11_judge_2) ze_X11_judge_1 j e
theorem dX11_judge_40 : decode cX11_judge 40 = .ok (.ifCond .eq 21, 3) := dop_153 (zb_X11_judge_1 0 rfl) (zb_X11_judge_1 1 rfl) (zb_X11_judge_1 2 rfl) rfl
theorem dX11_judge_43 : decode cX11_judge 43 = .ok (.aload_n 0, 1) := dop_42 (zb_X11_judge_1 3 rfl)
theorem dX11_judge_44 : decode cX11_judge 44 = .ok (.getfield 12, 3) := dop_180 (zb_X11_judge_1 4 rfl) (zb_X11_judge_1 5 rfl) (zb_X11_judge_1 6 rfl) rfl
theorem dX11_judge_47 : decode cX11_judge 47 = .ok (.iload 4, 2) := dop_21 (zb_X11_judge_1 7 rfl) (zb_X11_judge_1 8 rfl)
theorem dX11_judge_49 : decode cX11_judge 49 = .ok (.invokevirtual 383, 3) := dop_182 (zb_X11_judge_1 9 rfl) (zb_X11_judge_1 10 rfl) (zb_X11_judge_1 11 rfl) rfl
theorem dX11_judge_52 : decode cX11_judge 52 = .ok (.ifCond .ne 9, 3) := dop_154 (zb_X11_judge_1 12 rfl) (zb_X11_judge_1 13 rfl) (zb_X11_judge_1 14 rfl) rfl
theorem dX11_judge_55 : decode cX11_judge 55 = .ok (.iload 4, 2) := dop_21 (zb_X11_judge_1 15 rfl) (zb_X11_judge_1 16 rfl)
theorem dX11_judge_57 : decode cX11_judge 57 = .ok (.istore_n 2, 1) := dop_61 (zb_X11_judge_1 17 rfl)
theorem dX11_judge_58 : decode cX11_judge 58 = .ok (.iinc 3 1, 3) := dop_132 (zb_X11_judge_1 18 rfl) (zb_X11_judge_1 19 rfl) (zb_X11_judge_1 20 rfl) rfl
theorem dX11_judge_61 : decode cX11_judge 61 = .ok (.iinc 4 (-1), 3) := dop_132 (zb_X11_judge_1 21 rfl) (zb_X11_judge_1 22 rfl) (zb_X11_judge_1 23 rfl) rfl
theorem dX11_judge_64 : decode cX11_judge 64 = .ok (.goto (-38), 3) := dop_167 (zb_X11_judge_1 24 rfl) (zb_X11_judge_1 25 rfl) (zb_X11_judge_1 26 rfl) rfl
theorem dX11_judge_67 : decode cX11_judge 67 = .ok (.iload_n 1, 1) := dop_27 (zb_X11_judge_1 27 rfl)
theorem dX11_judge_68 : decode cX11_judge 68 = .ok (.iconst 2, 1) := dop_5 (zb_X11_judge_1 28 rfl)
theorem dX11_judge_69 : decode cX11_judge 69 = .ok (.if_icmp .ne 33, 3) := dop_160 (zb_X11_judge_1 29 rfl) (zb_X11_judge_1 30 rfl) (zb_X11_judge_1 31 rfl) rfl
theorem dX11_judge_72 : decode cX11_judge 72 = .ok (.iload_n 3, 1) := dop_29 (zb_X11_judge_1 32 rfl)
theorem dX11_judge_73 : decode cX11_judge 73 = .ok (.ifCond .ne 27, 3) := dop_154 (zb_X11_judge_1 33 rfl) (zb_X11_judge_1 34 rfl) (zb_X11_judge_1 35 rfl) rfl
theorem dX11_judge_76 : decode cX11_judge 76 = .ok (.aload_n 0, 1) := dop_42 (zb_X11_judge_1 36 rfl)
theorem dX11_judge_77 : decode cX11_judge 77 = .ok (.getfield 12, 3) := dop_180 (zb_X11_judge_1 37 rfl) (zb_X11_judge_1 38 rfl) (zb_X11_judge_1 39 rfl) rfl
theorem zb_X11_judge_2 (j : Nat) {n : Nat} (e : zw_X11_judge_2[j]? = some n) : dby cX11_judge (80 + j) n := dw_b (t := []) ze_X11_judge_2 j e
theorem dX11_judge_80 : decode cX11_judge 80 = .ok (.invokevirtual 386, 3) := dop_182 (zb_X11_judge_2 0 rfl) (zb_X11_judge_2 1 rfl) (zb_X11_judge_2 2 rfl) rfl
theorem dX11_judge_83 : decode cX11_judge 83 = .ok (.ifCond .eq 17, 3) := dop_153 (zb_X11_judge_2 3 rfl) (zb_X11_judge_2 4 rfl) (zb_X11_judge_2 5 rfl) rfl
theorem dX11_judge_86 : decode cX11_judge 86 = .ok (.aload_n 0, 1) := dop_42 (zb_X11_judge_2 6 rfl)
theorem dX11_judge_87 : decode cX11_judge 87 = .ok (.getfield 12, 3) := dop_180 (zb_X11_judge_2 7 rfl) (zb_X11_judge_2 8 rfl) (zb_X11_judge_2 9 rfl) rfl
theorem dX11_judge_90 : decode cX11_judge 90 = .ok (.invokevirtual 389, 3) := dop_182 (zb_X11_judge_2 10 rfl) (zb_X11_judge_2 11 rfl) (zb_X11_judge_2 12 rfl) rfl
theorem dX11_judge_93 : decode cX11_judge 93 = .ok (.ifCond .eq 7, 3) := dop_153 (zb_X11_judge_2 13 rfl) (zb_X11_judge_2 14 rfl) (zb_X11_judge_2 15 rfl) rfl
theorem dX11_judge_96 : decode cX11_judge 96 = .ok (.iconst 1, 1) := dop_4 (zb_X11_judge_2 16 rfl)
theorem dX11_judge_97 : decode cX11_judge 97 = .ok (.goto 4, 3) := dop_167 (zb_X11_judge_2 17 rfl) (zb_X11_judge_2 18 rfl) (zb_X11_judge_2 19 rfl) rfl
theorem dX11_judge_100 : decode cX11_judge 100 = .ok (.iconst 0, 1) := dop_3 (zb_X11_judge_2 20 rfl)
theorem dX11_judge_101 : decode cX11_judge 101 = .ok (.ireturn, 1) := dop_172 (zb_X11_judge_2 21 rfl)
theorem dX11_judge_102 : decode cX11_judge 102 = .ok (.iload_n 1, 1) := dop_27 (zb_X11_judge_2 22 rfl)
theorem dX11_judge_103 : decode cX11_judge 103 = .ok (.ifCond .ne 7, 3) := dop_154 (zb_X11_judge_2 23 rfl) (zb_X11_judge_2 24 rfl) (zb_X11_judge_2 25 rfl) rfl
theorem dX11_judge_106 : decode cX11_judge 106 = .ok (.iload_n 2, 1) := dop_28 (zb_X11_judge_2 26 rfl)
theorem dX11_judge_107 : decode cX11_judge 107 = .ok (.goto 4, 3) := dop_167 (zb_X11_judge_2 27 rfl) (zb_X11_judge_2 28 rfl) (zb_X11_judge_2 29 rfl) rfl
theorem dX11_judge_110 : decode cX11_judge 110 = .ok (.iload_n 3, 1) := dop_29 (zb_X11_judge_2 30 rfl)
theorem dX11_judge_111 : decode cX11_judge 111 = .ok (.ireturn, 1) := dop_172 (zb_X11_judge_2 31 rfl)
def zw_X11_year_1 : List Nat := [182, 1, 137, 42, 29, 42, 180, 0, 90, 42, 180, 0, 12, 28, 182, 1, 140, 104, 182, 0, 123, 172]
def zt_X11_year_1 : List Nat := zw_X11_year_1 ++ []
def zw_X11_year_0 : List Nat := [27, 3, 19, 1, 136, 184, 0, 112, 153, 0, 20, 28, 184, 0, 126, 153, 0, 13, 29, 4, 16, 99, 184, 0, 112, 154, 0, 9, 42, 2, 182, 0, 116, 172, 42, 180, 0, 90, 27]
def zt_X11_year_0 : List Nat := zw_X11_year_0 ++ zt_X11_year_1
theorem ze_X11_year_0 : (dcn cX11_year).drop 0 = zt_X11_year_0 := by decide +kernel
theorem ze_X11_year_1 : (dcn cX11_year).drop 39 = zt_X11_year_1 := dw_n (wl := zw_X11_year_0) ze_X11_year_0 rfl
theorem zb_X11_year_0 (j : Nat) {n : Nat} (e : zw_X11_year_0[j]? = some n) : dby cX11_year (0 + j) n := dw_b (t := zt_X11_year_1) ze_X11_year_0 j e
theorem dX11_year_0 : decode cX11_year 0 = .ok (.iload_n 1, 1) := dop_27 (zb_X11_year_0 0 rfl)
theorem dX11_year_1 : decode cX11_year 1 = .ok (.iconst 0, 1) := dop_3 (zb_X11_year_0 1 rfl)
theorem dX11_year_2 : decode cX11_year 2 = .ok (.ldc_w 392, 3) := dop_19 (zb_X11_year_0 2 rfl) (zb_X11_year_0 3 rfl) (zb_X11_year_0 4 rfl) rfl
theorem dX11_year_5 : decode cX11_year 5 = .ok (.invokestatic 112, 3) := dop_184 (zb_X11_year_0 5 rfl) (zb_X11_year_0 6 rfl) (zb_X11_year_0 7 rfl) rfl
theorem dX11_year_8 : decode cX11_year 8 = .ok (.ifCond .eq 20, 3) := dop_153 (zb_X11_year_0 8 rfl) (zb_X11_year_0 9 rfl) (zb_X11_year_0 10 rfl) rfl
theorem dX11_year_11 : decode cX11_year 11 = .ok (.iload_n 2, 1) := dop_28 (zb_X11_year_0 11 rfl)
theorem dX11_year_12 : decode cX11_year 12 = .ok (.invokestatic 126, 3) := dop_184 (zb_X11_year_0 12 rfl) (zb_X11_year_0 13 rfl) (zb_X11_year_0 14 rfl) rfl
theorem dX11_year_15 : decode cX11_year 15 = .ok (.ifCond .eq 13, 3) := dop_153 (zb_X11_year_0 15 rfl) (zb_X11_year_0 16 rfl) (zb_X11_year_0 17 rfl) rfl
theorem dX11_year_18 : decode cX11_year 18 = .ok (.iload_n 3, 1) := dop_29 (zb_X11_year_0 18 rfl)
theorem dX11_year_19 : decode cX11_year 19 = .ok (.iconst 1, 1) := dop_4 (zb_X11_year_0 19 rfl)
theorem dX11_year_20 : decode cX11_year 20 = .ok (.bipush 99, 2) := dop_16 (zb_X11_year_0 20 rfl) (zb_X11_year_0 21 rfl) rfl
theorem dX11_year_22 : decode cX11_year 22 = .ok (.invokestatic 112, 3) := dop_184 (zb_X11_year_0 22 rfl) (zb_X11_year_0 23 rfl) (zb_X11_year_0 24 rfl) rfl
theorem dX11_year_25 : decode cX11_year 25 = .ok (.ifCond .ne 9, 3) := dop_154 (zb_X11_year_0 25 rfl) (zb_X11_year_0 26 rfl) (zb_X11_year_0 27 rfl) rfl
theorem dX11_year_28 : decode cX11_year 28 = .ok (.aload_n 0, 1) := dop_42 (zb_X11_year_0 28 rfl)
theorem dX11_year_29 : decode cX11_year 29 = .ok (.iconst (-1), 1) := dop_2 (zb_X11_year_0 29 rfl)
theorem dX11_year_30 : decode cX11_year 30 = .ok (.invokevirtual 116, 3) := dop_182 (zb_X11_year_0 30 rfl) (zb_X11_year_0 31 rfl) (zb_X11_year_0 32 rfl) rfl
theorem dX11_year_33 : decode cX11_year 33 = .ok (.ireturn, 1) := dop_172 (zb_X11_year_0 33 rfl)
theorem dX11_year_34 : decode cX11_year 34 = .ok (.aload_n 0, 1) := dop_42 (zb_X11_year_0 34 rfl)
theorem dX11_year_35 : decode cX11_year 35 = .ok (.getfield 90, 3) := dop_180 (zb_X11_year_0 35 rfl) (zb_X11_year_0 36 rfl) (zb_X11_year_0 37 rfl) rfl
theorem dX11_year_38 : decode cX11_year 38 = .ok (.iload_n 1, 1) := dop_27 (zb_X11_year_0 38 rfl)
theorem zb_X11_year_1 (j : Nat) {n : Nat} (e : zw_X11_year_1[j]? = some n) : dby cX11_year (39 + j) n := dw_b (t := []) ze_X11_year_1 j e
theorem dX11_year_39 : decode cX11_year 39 = .ok (.invokevirtual 393, 3) := dop_182 (zb_X11_year_1 0 rfl) (zb_X11_year_1 1 rfl) (zb_X11_year_1 2 rfl) rfl
theorem dX11_year_42 : decode cX11_year 42 = .ok (.aload_n 0, 1) := dop_42 (zb_X11_year_1 3 rfl)
theorem dX11_year_43 : decode cX11_year 43 = .ok (.iload_n 3, 1) := dop_29 (zb_X11_year_1 4 rfl)
theorem dX11_year_44 : decode cX11_year 44 = .ok (.aload_n 0, 1) := dop_42 (zb_X11_year_1 5 rfl)
theorem dX11_year_45 : decode cX11_year 45 = .ok (.getfield 90, 3) := dop_180 (zb_X11_year_1 6 rfl) (zb_X11_year_1 7 rfl) (zb_X11_year_1 8 rfl) rfl
theorem dX11_year_48 : decode cX11_year 48 = .ok (.aload_n 0, 1) := dop_42 (zb_X11_year_1 9 rfl)
theorem dX11_year_49 : decode cX11_year 49 = .ok (.getfield 12, 3) := dop_180 (zb_X11_year_1 10 rfl) (zb_X11_year_1 11 rfl) (zb_X11_year_1 12 rfl) rfl
theorem dX11_year_52 : decode cX11_year 52 = .ok (.iload_n 2, 1) := dop_28 (zb_X11_year_1 13 rfl)
theorem dX11_year_53 : decode cX11_year 53 = .ok (.invokevirtual 396, 3) := dop_182 (zb_X11_year_1 14 rfl) (zb_X11_year_1 15 rfl) (zb_X11_year_1 16 rfl) rfl
theorem dX11_year_56 : decode cX11_year 56 = .ok (.imul, 1) := dop_104 (zb_X11_year_1 17 rfl)
theorem dX11_year_57 : decode cX11_year 57 = .ok (.invokevirtual 123, 3) := dop_182 (zb_X11_year_1 18 rfl) (zb_X11_year_1 19 rfl) (zb_X11_year_1 20 rfl) rfl
theorem dX11_year_60 : decode cX11_year 60 = .ok (.ireturn, 1) := dop_172 (zb_X11_year_1 21 rfl)
def zw_X11_trade_1 : List Nat := [16, 33, 184, 0, 112, 153, 0, 17, 42, 180, 0, 90, 180, 1, 152, 27, 5, 100, 46, 167, 0, 4, 2, 172]
def zt_X11_trade_1 : List Nat := zw_X11_trade_1 ++ []
def zw_X11_trade_0 : List Nat := [42, 180, 0, 90, 180, 1, 143, 154, 0, 5, 2, 172, 27, 154, 0, 11, 42, 180, 0, 90, 180, 1, 146, 172, 27, 4, 160, 0, 11, 42, 180, 0, 90, 180, 1, 149, 172, 27, 5]
def zt_X11_trade_0 : List Nat := zw_X11_trade_0 ++ zt_X11_trade_1
theorem ze_X11_trade_0 : (dcn cX11_trade).drop 0 = zt_X11_trade_0 := by decide +kernel
theorem ze_X11_trade_1 : (dcn cX11_trade).drop 39 = zt_X11_trade_1 := dw_n (wl := zw_X11_trade_0) ze_X11_trade_0 rfl
theorem zb_X11_trade_0 (j : Nat) {n : Nat} (e : zw_X11_trade_0[j]? = some n) : dby cX11_trade (0 + j) n := dw_b (t := zt_X11_trade_1) ze_X11_trade_0 j e
theorem dX11_trade_0 : decode cX11_trade 0 = .ok (.aload_n 0, 1) := dop_42 (zb_X11_trade_0 0 rfl)
theorem dX11_trade_1 : decode cX11_trade 1 = .ok (.getfield 90, 3) := dop_180 (zb_X11_trade_0 1 rfl) (zb_X11_trade_0 2 rfl) (zb_X11_trade_0 3 rfl) rfl
theorem dX11_trade_4 : decode cX11_trade 4 = .ok (.getfield 399, 3) := dop_180 (zb_X11_trade_0 4 rfl) (zb_X11_trade_0 5 rfl) (zb_X11_trade_0 6 rfl) rfl
theorem dX11_trade_7 : decode cX11_trade 7 = .ok (.ifCond .ne 5, 3) := dop_154 (zb_X11_trade_0 7 rfl) (zb_X11_trade_0 8 rfl) (zb_X11_trade_0 9 rfl) rfl
theorem dX11_trade_10 : decode cX11_trade 10 = .ok (.iconst (-1), 1) := dop_2 (zb_X11_trade_0 10 rfl)
theorem dX11_trade_11 : decode cX11_trade 11 = .ok (.ireturn, 1) := dop_172 (zb_X11_trade_0 11 rfl)
theorem dX11_trade_12 : decode cX11_trade 12 = .ok (.iload_n 1, 1) := dop_27 (zb_X11_trade_0 12 rfl)
theorem dX11_trade_13 : decode cX11_trade 13 = .ok (.ifCond .ne 11, 3) := dop_154 (zb_X11_trade_0 13 rfl) (zb_X11_trade_0 14 rfl) (zb_X11_trade_0 15 rfl) rfl
theorem dX11_trade_16 : decode cX11_trade 16 = .ok (.aload_n 0, 1) := dop_42 (zb_X11_trade_0 16 rfl)
theorem dX11_trade_17 : decode cX11_trade 17 = .ok (.getfield 90, 3) := dop_180 (zb_X11_trade_0 17 rfl) (zb_X11_trade_0 18 rfl) (zb_X11_trade_0 19 rfl) rfl
theorem dX11_trade_20 : decode cX11_trade 20 = .ok (.getfield 402, 3) := dop_180 (zb_X11_trade_0 20 rfl) (zb_X11_trade_0 21 rfl) (zb_X11_trade_0 22 rfl) rfl
theorem dX11_trade_23 : decode cX11_trade 23 = .ok (.ireturn, 1) := dop_172 (zb_X11_trade_0 23 rfl)
theorem dX11_trade_24 : decode cX11_trade 24 = .ok (.iload_n 1, 1) := dop_27 (zb_X11_trade_0 24 rfl)
theorem dX11_trade_25 : decode cX11_trade 25 = .ok (.iconst 1, 1) := dop_4 (zb_X11_trade_0 25 rfl)
theorem dX11_trade_26 : decode cX11_trade 26 = .ok (.if_icmp .ne 11, 3) := dop_160 (zb_X11_trade_0 26 rfl) (zb_X11_trade_0 27 rfl) (zb_X11_trade_0 28 rfl) rfl
theorem dX11_trade_29 : decode cX11_trade 29 = .ok (.aload_n 0, 1) := dop_42 (zb_X11_trade_0 29 rfl)
theorem dX11_trade_30 : decode cX11_trade 30 = .ok (.getfield 90, 3) := dop_180 (zb_X11_trade_0 30 rfl) (zb_X11_trade_0 31 rfl) (zb_X11_trade_0 32 rfl) rfl
theorem dX11_trade_33 : decode cX11_trade 33 = .ok (.getfield 405, 3) := dop_180 (zb_X11_trade_0 33 rfl) (zb_X11_trade_0 34 rfl) (zb_X11_trade_0 35 rfl) rfl
theorem dX11_trade_36 : decode cX11_trade 36 = .ok (.ireturn, 1) := dop_172 (zb_X11_trade_0 36 rfl)
theorem dX11_trade_37 : decode cX11_trade 37 = .ok (.iload_n 1, 1) := dop_27 (zb_X11_trade_0 37 rfl)
theorem dX11_trade_38 : decode cX11_trade 38 = .ok (.iconst 2, 1) := dop_5 (zb_X11_trade_0 38 rfl)
theorem zb_X11_trade_1 (j : Nat) {n : Nat} (e : zw_X11_trade_1[j]? = some n) : dby cX11_trade (39 + j) n := dw_b (t := []) ze_X11_trade_1 j e
theorem dX11_trade_39 : decode cX11_trade 39 = .ok (.bipush 33, 2) := dop_16 (zb_X11_trade_1 0 rfl) (zb_X11_trade_1 1 rfl) rfl
theorem dX11_trade_41 : decode cX11_trade 41 = .ok (.invokestatic 112, 3) := dop_184 (zb_X11_trade_1 2 rfl) (zb_X11_trade_1 3 rfl) (zb_X11_trade_1 4 rfl) rfl
theorem dX11_trade_44 : decode cX11_trade 44 = .ok (.ifCond .eq 17, 3) := dop_153 (zb_X11_trade_1 5 rfl) (zb_X11_trade_1 6 rfl) (zb_X11_trade_1 7 rfl) rfl
theorem dX11_trade_47 : decode cX11_trade 47 = .ok (.aload_n 0, 1) := dop_42 (zb_X11_trade_1 8 rfl)
theorem dX11_trade_48 : decode cX11_trade 48 = .ok (.getfield 90, 3) := dop_180 (zb_X11_trade_1 9 rfl) (zb_X11_trade_1 10 rfl) (zb_X11_trade_1 11 rfl) rfl
theorem dX11_trade_51 : decode cX11_trade 51 = .ok (.getfield 408, 3) := dop_180 (zb_X11_trade_1 12 rfl) (zb_X11_trade_1 13 rfl) (zb_X11_trade_1 14 rfl) rfl
theorem dX11_trade_54 : decode cX11_trade 54 = .ok (.iload_n 1, 1) := dop_27 (zb_X11_trade_1 15 rfl)
theorem dX11_trade_55 : decode cX11_trade 55 = .ok (.iconst 2, 1) := dop_5 (zb_X11_trade_1 16 rfl)
theorem dX11_trade_56 : decode cX11_trade 56 = .ok (.isub, 1) := dop_100 (zb_X11_trade_1 17 rfl)
theorem dX11_trade_57 : decode cX11_trade 57 = .ok (.iaload, 1) := dop_46 (zb_X11_trade_1 18 rfl)
theorem dX11_trade_58 : decode cX11_trade 58 = .ok (.goto 4, 3) := dop_167 (zb_X11_trade_1 19 rfl) (zb_X11_trade_1 20 rfl) (zb_X11_trade_1 21 rfl) rfl
theorem dX11_trade_61 : decode cX11_trade 61 = .ok (.iconst (-1), 1) := dop_2 (zb_X11_trade_1 22 rfl)
theorem dX11_trade_62 : decode cX11_trade 62 = .ok (.ireturn, 1) := dop_172 (zb_X11_trade_1 23 rfl)
def zw_X11_told_1 : List Nat := [182, 1, 153, 42, 180, 0, 90, 180, 1, 152, 29, 46, 182, 1, 156, 96, 61, 132, 3, 1, 167, 255, 219, 28, 172]
def zt_X11_told_1 : List Nat := zw_X11_told_1 ++ []
def zw_X11_told_0 : List Nat := [42, 180, 0, 90, 180, 1, 143, 153, 0, 10, 27, 184, 0, 126, 154, 0, 5, 2, 172, 3, 61, 3, 62, 29, 16, 32, 162, 0, 37, 28, 42, 180, 0, 12, 42, 180, 0, 12, 27, 29]
def zt_X11_told_0 : List Nat := zw_X11_told_0 ++ zt_X11_told_1
theorem ze_X11_told_0 : (dcn cX11_told).drop 0 = zt_X11_told_0 := by decide +kernel
theorem ze_X11_told_1 : (dcn cX11_told).drop 40 = zt_X11_told_1 := dw_n (wl := zw_X11_told_0) ze_X11_told_0 rfl
theorem zb_X11_told_0 (j : Nat) {n : Nat} (e : zw_X11_told_0[j]? = some n) : dby cX11_told (0 + j) n := dw_b (t := zt_X11_told_1) ze_X11_told_0 j e
theorem dX11_told_0 : decode cX11_told 0 = .ok (.aload_n 0, 1) := dop_42 (zb_X11_told_0 0 rfl)
theorem dX11_told_1 : decode cX11_told 1 = .ok (.getfield 90, 3) := dop_180 (zb_X11_told_0 1 rfl) (zb_X11_told_0 2 rfl) (zb_X11_told_0 3 rfl) rfl
theorem dX11_told_4 : decode cX11_told 4 = .ok (.getfield 399, 3) := dop_180 (zb_X11_told_0 4 rfl) (zb_X11_told_0 5 rfl) (zb_X11_told_0 6 rfl) rfl
theorem dX11_told_7 : decode cX11_told 7 = .ok (.ifCond .eq 10, 3) := dop_153 (zb_X11_told_0 7 rfl) (zb_X11_told_0 8 rfl) (zb_X11_told_0 9 rfl) rfl
theorem dX11_told_10 : decode cX11_told 10 = .ok (.iload_n 1, 1) := dop_27 (zb_X11_told_0 10 rfl)
theorem dX11_told_11 : decode cX11_told 11 = .ok (.invokestatic 126, 3) := dop_184 (zb_X11_told_0 11 rfl) (zb_X11_told_0 12 rfl) (zb_X11_told_0 13 rfl) rfl
theorem dX11_told_14 : decode cX11_told 14 = .ok (.ifCond .ne 5, 3) := dop_154 (zb_X11_told_0 14 rfl) (zb_X11_told_0 15 rfl) (zb_X11_told_0 16 rfl) rfl
theorem dX11_told_17 : decode cX11_told 17 = .ok (.iconst (-1), 1) := dop_2 (zb_X11_told_0 17 rfl)
theorem dX11_told_18 : decode cX11_told 18 = .ok (.ireturn, 1) := dop_172 (zb_X11_told_0 18 rfl)
theorem dX11_told_19 : decode cX11_told 19 = .ok (.iconst 0, 1) := dop_3 (zb_X11_told_0 19 rfl)
theorem dX11_told_20 : decode cX11_told 20 = .ok (.istore_n 2, 1) := dop_61 (zb_X11_told_0 20 rfl)
theorem dX11_told_21 : decode cX11_told 21 = .ok (.iconst 0, 1) := dop_3 (zb_X11_told_0 21 rfl)
theorem dX11_told_22 : decode cX11_told 22 = .ok (.istore_n 3, 1) := dop_62 (zb_X11_told_0 22 rfl)
theorem dX11_told_23 : decode cX11_told 23 = .ok (.iload_n 3, 1) := dop_29 (zb_X11_told_0 23 rfl)
theorem dX11_told_24 : decode cX11_told 24 = .ok (.bipush 32, 2) := dop_16 (zb_X11_told_0 24 rfl) (zb_X11_told_0 25 rfl) rfl
theorem dX11_told_26 : decode cX11_told 26 = .ok (.if_icmp .ge 37, 3) := dop_162 (zb_X11_told_0 26 rfl) (zb_X11_told_0 27 rfl) (zb_X11_told_0 28 rfl) rfl
theorem dX11_told_29 : decode cX11_told 29 = .ok (.iload_n 2, 1) := dop_28 (zb_X11_told_0 29 rfl)
theorem dX11_told_30 : decode cX11_told 30 = .ok (.aload_n 0, 1) := dop_42 (zb_X11_told_0 30 rfl)
theorem dX11_told_31 : decode cX11_told 31 = .ok (.getfield 12, 3) := dop_180 (zb_X11_told_0 31 rfl) (zb_X11_told_0 32 rfl) (zb_X11_told_0 33 rfl) rfl
theorem dX11_told_34 : decode cX11_told 34 = .ok (.aload_n 0, 1) := dop_42 (zb_X11_told_0 34 rfl)
theorem dX11_told_35 : decode cX11_told 35 = .ok (.getfield 12, 3) := dop_180 (zb_X11_told_0 35 rfl) (zb_X11_told_0 36 rfl) (zb_X11_told_0 37 rfl) rfl
theorem dX11_told_38 : decode cX11_told 38 = .ok (.iload_n 1, 1) := dop_27 (zb_X11_told_0 38 rfl)
theorem dX11_told_39 : decode cX11_told 39 = .ok (.iload_n 3, 1) := dop_29 (zb_X11_told_0 39 rfl)
theorem zb_X11_told_1 (j : Nat) {n : Nat} (e : zw_X11_told_1[j]? = some n) : dby cX11_told (40 + j) n := dw_b (t := []) ze_X11_told_1 j e
theorem dX11_told_40 : decode cX11_told 40 = .ok (.invokevirtual 409, 3) := dop_182 (zb_X11_told_1 0 rfl) (zb_X11_told_1 1 rfl) (zb_X11_told_1 2 rfl) rfl
theorem dX11_told_43 : decode cX11_told 43 = .ok (.aload_n 0, 1) := dop_42 (zb_X11_told_1 3 rfl)
theorem dX11_told_44 : decode cX11_told 44 = .ok (.getfield 90, 3) := dop_180 (zb_X11_told_1 4 rfl) (zb_X11_told_1 5 rfl) (zb_X11_told_1 6 rfl) rfl
theorem dX11_told_47 : decode cX11_told 47 = .ok (.getfield 408, 3) := dop_180 (zb_X11_told_1 7 rfl) (zb_X11_told_1 8 rfl) (zb_X11_told_1 9 rfl) rfl
theorem dX11_told_50 : decode cX11_told 50 = .ok (.iload_n 3, 1) := dop_29 (zb_X11_told_1 10 rfl)
theorem dX11_told_51 : decode cX11_told 51 = .ok (.iaload, 1) := dop_46 (zb_X11_told_1 11 rfl)
theorem dX11_told_52 : decode cX11_told 52 = .ok (.invokevirtual 412, 3) := dop_182 (zb_X11_told_1 12 rfl) (zb_X11_told_1 13 rfl) (zb_X11_told_1 14 rfl) rfl
theorem dX11_told_55 : decode cX11_told 55 = .ok (.iadd, 1) := dop_96 (zb_X11_told_1 15 rfl)
theorem dX11_told_56 : decode cX11_told 56 = .ok (.istore_n 2, 1) := dop_61 (zb_X11_told_1 16 rfl)
theorem dX11_told_57 : decode cX11_told 57 = .ok (.iinc 3 1, 3) := dop_132 (zb_X11_told_1 17 rfl) (zb_X11_told_1 18 rfl) (zb_X11_told_1 19 rfl) rfl
theorem dX11_told_60 : decode cX11_told 60 = .ok (.goto (-37), 3) := dop_167 (zb_X11_told_1 20 rfl) (zb_X11_told_1 21 rfl) (zb_X11_told_1 22 rfl) rfl
theorem dX11_told_63 : decode cX11_told 63 = .ok (.iload_n 2, 1) := dop_28 (zb_X11_told_1 23 rfl)
theorem dX11_told_64 : decode cX11_told 64 = .ok (.ireturn, 1) := dop_172 (zb_X11_told_1 24 rfl)
def zw_X11_image_1 : List Nat := [172]
def zt_X11_image_1 : List Nat := zw_X11_image_1 ++ []
def zw_X11_image_0 : List Nat := [27, 3, 4, 184, 0, 112, 154, 0, 9, 42, 2, 182, 0, 116, 172, 42, 180, 0, 19, 27, 50, 42, 180, 0, 12, 182, 0, 197, 42, 180, 0, 23, 27, 4, 84, 42, 3, 182, 0, 123]
def zt_X11_image_0 : List Nat := zw_X11_image_0 ++ zt_X11_image_1
theorem ze_X11_image_0 : (dcn cX11_image).drop 0 = zt_X11_image_0 := by decide +kernel
theorem ze_X11_image_1 : (dcn cX11_image).drop 40 = zt_X11_image_1 := dw_n (wl := zw_X11_image_0) ze_X11_image_0 rfl
theorem zb_X11_image_0 (j : Nat) {n : Nat} (e : zw_X11_image_0[j]? = some n) : dby cX11_image (0 + j) n := dw_b (t := zt_X11_image_1) ze_X11_image_0 j e
theorem dX11_image_0 : decode cX11_image 0 = .ok (.iload_n 1, 1) := dop_27 (zb_X11_image_0 0 rfl)
theorem dX11_image_1 : decode cX11_image 1 = .ok (.iconst 0, 1) := dop_3 (zb_X11_image_0 1 rfl)
theorem dX11_image_2 : decode cX11_image 2 = .ok (.iconst 1, 1) := dop_4 (zb_X11_image_0 2 rfl)
theorem dX11_image_3 : decode cX11_image 3 = .ok (.invokestatic 112, 3) := dop_184 (zb_X11_image_0 3 rfl) (zb_X11_image_0 4 rfl) (zb_X11_image_0 5 rfl) rfl
theorem dX11_image_6 : decode cX11_image 6 = .ok (.ifCond .ne 9, 3) := dop_154 (zb_X11_image_0 6 rfl) (zb_X11_image_0 7 rfl) (zb_X11_image_0 8 rfl) rfl
theorem dX11_image_9 : decode cX11_image 9 = .ok (.aload_n 0, 1) := dop_42 (zb_X11_image_0 9 rfl)
theorem dX11_image_10 : decode cX11_image 10 = .ok (.iconst (-1), 1) := dop_2 (zb_X11_image_0 10 rfl)
theorem dX11_image_11 : decode cX11_image 11 = .ok (.invokevirtual 116, 3) := dop_182 (zb_X11_image_0 11 rfl) (zb_X11_image_0 12 rfl) (zb_X11_image_0 13 rfl) rfl
theorem dX11_image_14 : decode cX11_image 14 = .ok (.ireturn, 1) := dop_172 (zb_X11_image_0 14 rfl)
theorem dX11_image_15 : decode cX11_image 15 = .ok (.aload_n 0, 1) := dop_42 (zb_X11_image_0 15 rfl)
theorem dX11_image_16 : decode cX11_image 16 = .ok (.getfield 19, 3) := dop_180 (zb_X11_image_0 16 rfl) (zb_X11_image_0 17 rfl) (zb_X11_image_0 18 rfl) rfl
theorem dX11_image_19 : decode cX11_image 19 = .ok (.iload_n 1, 1) := dop_27 (zb_X11_image_0 19 rfl)
theorem dX11_image_20 : decode cX11_image 20 = .ok (.aaload, 1) := dop_50 (zb_X11_image_0 20 rfl)
theorem dX11_image_21 : decode cX11_image 21 = .ok (.aload_n 0, 1) := dop_42 (zb_X11_image_0 21 rfl)
theorem dX11_image_22 : decode cX11_image 22 = .ok (.getfield 12, 3) := dop_180 (zb_X11_image_0 22 rfl) (zb_X11_image_0 23 rfl) (zb_X11_image_0 24 rfl) rfl
theorem dX11_image_25 : decode cX11_image 25 = .ok (.invokevirtual 197, 3) := dop_182 (zb_X11_image_0 25 rfl) (zb_X11_image_0 26 rfl) (zb_X11_image_0 27 rfl) rfl
theorem dX11_image_28 : decode cX11_image 28 = .ok (.aload_n 0, 1) := dop_42 (zb_X11_image_0 28 rfl)
theorem dX11_image_29 : decode cX11_image 29 = .ok (.getfield 23, 3) := dop_180 (zb_X11_image_0 29 rfl) (zb_X11_image_0 30 rfl) (zb_X11_image_0 31 rfl) rfl
theorem dX11_image_32 : decode cX11_image 32 = .ok (.iload_n 1, 1) := dop_27 (zb_X11_image_0 32 rfl)
theorem dX11_image_33 : decode cX11_image 33 = .ok (.iconst 1, 1) := dop_4 (zb_X11_image_0 33 rfl)
theorem dX11_image_34 : decode cX11_image 34 = .ok (.bastore, 1) := dop_84 (zb_X11_image_0 34 rfl)
theorem dX11_image_35 : decode cX11_image 35 = .ok (.aload_n 0, 1) := dop_42 (zb_X11_image_0 35 rfl)
theorem dX11_image_36 : decode cX11_image 36 = .ok (.iconst 0, 1) := dop_3 (zb_X11_image_0 36 rfl)
theorem dX11_image_37 : decode cX11_image 37 = .ok (.invokevirtual 123, 3) := dop_182 (zb_X11_image_0 37 rfl) (zb_X11_image_0 38 rfl) (zb_X11_image_0 39 rfl) rfl
theorem zb_X11_image_1 (j : Nat) {n : Nat} (e : zw_X11_image_1[j]? = some n) : dby cX11_image (40 + j) n := dw_b (t := []) ze_X11_image_1 j e
theorem dX11_image_40 : decode cX11_image 40 = .ok (.ireturn, 1) := dop_172 (zb_X11_image_1 0 rfl)
def zw_X11_back_1 : List Nat := [50, 182, 0, 197, 42, 3, 182, 0, 123, 172]
def zt_X11_back_1 : List Nat := zw_X11_back_1 ++ []
def zw_X11_back_0 : List Nat := [27, 3, 4, 184, 0, 112, 154, 0, 9, 42, 2, 182, 0, 116, 172, 42, 180, 0, 23, 27, 51, 154, 0, 10, 42, 16, 254, 182, 0, 116, 172, 42, 180, 0, 12, 42, 180, 0, 19, 27]
def zt_X11_back_0 : List Nat := zw_X11_back_0 ++ zt_X11_back_1
theorem ze_X11_back_0 : (dcn cX11_back).drop 0 = zt_X11_back_0 := by decide +kernel
theorem ze_X11_back_1 : (dcn cX11_back).drop 40 = zt_X11_back_1 := dw_n (wl := zw_X11_back_0) ze_X11_back_0 rfl
theorem zb_X11_back_0 (j : Nat) {n : Nat} (e : zw_X11_back_0[j]? = some n) : dby cX11_back (0 + j) n := dw_b (t := zt_X11_back_1) ze_X11_back_0 j e
theorem dX11_back_0 : decode cX11_back 0 = .ok (.iload_n 1, 1) := dop_27 (zb_X11_back_0 0 rfl)
theorem dX11_back_1 : decode cX11_back 1 = .ok (.iconst 0, 1) := dop_3 (zb_X11_back_0 1 rfl)
theorem dX11_back_2 : decode cX11_back 2 = .ok (.iconst 1, 1) := dop_4 (zb_X11_back_0 2 rfl)
theorem dX11_back_3 : decode cX11_back 3 = .ok (.invokestatic 112, 3) := dop_184 (zb_X11_back_0 3 rfl) (zb_X11_back_0 4 rfl) (zb_X11_back_0 5 rfl) rfl
theorem dX11_back_6 : decode cX11_back 6 = .ok (.ifCond .ne 9, 3) := dop_154 (zb_X11_back_0 6 rfl) (zb_X11_back_0 7 rfl) (zb_X11_back_0 8 rfl) rfl
theorem dX11_back_9 : decode cX11_back 9 = .ok (.aload_n 0, 1) := dop_42 (zb_X11_back_0 9 rfl)
theorem dX11_back_10 : decode cX11_back 10 = .ok (.iconst (-1), 1) := dop_2 (zb_X11_back_0 10 rfl)
theorem dX11_back_11 : decode cX11_back 11 = .ok (.invokevirtual 116, 3) := dop_182 (zb_X11_back_0 11 rfl) (zb_X11_back_0 12 rfl) (zb_X11_back_0 13 rfl) rfl
theorem dX11_back_14 : decode cX11_back 14 = .ok (.ireturn, 1) := dop_172 (zb_X11_back_0 14 rfl)
theorem dX11_back_15 : decode cX11_back 15 = .ok (.aload_n 0, 1) := dop_42 (zb_X11_back_0 15 rfl)
theorem dX11_back_16 : decode cX11_back 16 = .ok (.getfield 23, 3) := dop_180 (zb_X11_back_0 16 rfl) (zb_X11_back_0 17 rfl) (zb_X11_back_0 18 rfl) rfl
theorem dX11_back_19 : decode cX11_back 19 = .ok (.iload_n 1, 1) := dop_27 (zb_X11_back_0 19 rfl)
theorem dX11_back_20 : decode cX11_back 20 = .ok (.baload, 1) := dop_51 (zb_X11_back_0 20 rfl)
theorem dX11_back_21 : decode cX11_back 21 = .ok (.ifCond .ne 10, 3) := dop_154 (zb_X11_back_0 21 rfl) (zb_X11_back_0 22 rfl) (zb_X11_back_0 23 rfl) rfl
theorem dX11_back_24 : decode cX11_back 24 = .ok (.aload_n 0, 1) := dop_42 (zb_X11_back_0 24 rfl)
theorem dX11_back_25 : decode cX11_back 25 = .ok (.bipush (-2), 2) := dop_16 (zb_X11_back_0 25 rfl) (zb_X11_back_0 26 rfl) rfl
theorem dX11_back_27 : decode cX11_back 27 = .ok (.invokevirtual 116, 3) := dop_182 (zb_X11_back_0 27 rfl) (zb_X11_back_0 28 rfl) (zb_X11_back_0 29 rfl) rfl
theorem dX11_back_30 : decode cX11_back 30 = .ok (.ireturn, 1) := dop_172 (zb_X11_back_0 30 rfl)
theorem dX11_back_31 : decode cX11_back 31 = .ok (.aload_n 0, 1) := dop_42 (zb_X11_back_0 31 rfl)
theorem dX11_back_32 : decode cX11_back 32 = .ok (.getfield 12, 3) := dop_180 (zb_X11_back_0 32 rfl) (zb_X11_back_0 33 rfl) (zb_X11_back_0 34 rfl) rfl
theorem dX11_back_35 : decode cX11_back 35 = .ok (.aload_n 0, 1) := dop_42 (zb_X11_back_0 35 rfl)
theorem dX11_back_36 : decode cX11_back 36 = .ok (.getfield 19, 3) := dop_180 (zb_X11_back_0 36 rfl) (zb_X11_back_0 37 rfl) (zb_X11_back_0 38 rfl) rfl
theorem dX11_back_39 : decode cX11_back 39 = .ok (.iload_n 1, 1) := dop_27 (zb_X11_back_0 39 rfl)
theorem zb_X11_back_1 (j : Nat) {n : Nat} (e : zw_X11_back_1[j]? = some n) : dby cX11_back (40 + j) n := dw_b (t := []) ze_X11_back_1 j e
theorem dX11_back_40 : decode cX11_back 40 = .ok (.aaload, 1) := dop_50 (zb_X11_back_1 0 rfl)
theorem dX11_back_41 : decode cX11_back 41 = .ok (.invokevirtual 197, 3) := dop_182 (zb_X11_back_1 1 rfl) (zb_X11_back_1 2 rfl) (zb_X11_back_1 3 rfl) rfl
theorem dX11_back_44 : decode cX11_back 44 = .ok (.aload_n 0, 1) := dop_42 (zb_X11_back_1 4 rfl)
theorem dX11_back_45 : decode cX11_back 45 = .ok (.iconst 0, 1) := dop_3 (zb_X11_back_1 5 rfl)
theorem dX11_back_46 : decode cX11_back 46 = .ok (.invokevirtual 123, 3) := dop_182 (zb_X11_back_1 6 rfl) (zb_X11_back_1 7 rfl) (zb_X11_back_1 8 rfl) rfl
theorem dX11_back_49 : decode cX11_back 49 = .ok (.ireturn, 1) := dop_172 (zb_X11_back_1 9 rfl)
def zw_X11_count_3 : List Nat := [167, 0, 4, 2, 172]
def zt_X11_count_3 : List Nat := zw_X11_count_3 ++ []
def zw_X11_count_2 : List Nat := [180, 0, 12, 180, 0, 129, 184, 1, 164, 172, 42, 180, 0, 30, 180, 0, 187, 172, 27, 16, 6, 16, 10, 184, 0, 112, 153, 0, 15, 42, 180, 0, 94, 27, 16, 6, 100, 46]
def zt_X11_count_2 : List Nat := zw_X11_count_2 ++ zt_X11_count_3
def zw_X11_count_1 : List Nat := [42, 180, 0, 12, 180, 0, 162, 172, 42, 180, 0, 12, 180, 1, 90, 184, 1, 159, 172, 42, 180, 0, 12, 182, 0, 147, 172, 42, 180, 0, 12, 180, 0, 120, 184, 1, 164, 172, 42]
def zt_X11_count_1 : List Nat := zw_X11_count_1 ++ zt_X11_count_2
def zw_X11_count_0 : List Nat := [27, 170, 0, 0, 0, 0, 0, 96, 0, 0, 0, 0, 0, 0, 0, 5, 0, 0, 0, 39, 0, 0, 0, 47, 0, 0, 0, 58, 0, 0, 0, 66, 0, 0, 0, 77, 0, 0, 0, 88]
def zt_X11_count_0 : List Nat := zw_X11_count_0 ++ zt_X11_count_1
theorem ze_X11_count_0 : (dcn cX11_count).drop 0 = zt_X11_count_0 := by decide +kernel
theorem ze_X11_count_1 : (dcn cX11_count).drop 40 = zt_X11_count_1 := dw_n (wl := zw_X11_count_0) ze_X11_count_0 rfl
theorem zb_X11_count_0 (j : Nat) {n : Nat} (e : zw_X11_count_0[j]? = some n) : dby cX11_count (0 + j) n := dw_b (t := zt_X11_count_1) ze_X11_count_0 j e
theorem dX11_count_0 : decode cX11_count 0 = .ok (.iload_n 1, 1) := dop_27 (zb_X11_count_0 0 rfl)
theorem dX11_count_1 : decode cX11_count 1 = .ok (.tableswitch 96 0 5 #[39, 47, 58, 66, 77, 88], 39) := by decide +kernel
theorem ze_X11_count_2 : (dcn cX11_count).drop 79 = zt_X11_count_2 := dw_n (wl := zw_X11_count_1) ze_X11_count_1 rfl
theorem zb_X11_count_1 (j : Nat) {n : Nat} (e : zw_X11_count_1[j]? = some n) : dby cX11_count (40 + j) n := dw_b (t := zt_X11_count_2) ze_X11_count_1 j e
theorem dX11_count_40 : decode cX11_count 40 = .ok (.aload_n 0, 1) := dop_42 (zb_X11_count_1 0 rfl)
theorem dX11_count_41 : decode cX11_count 41 = .ok (.getfield 12, 3) := dop_180 (zb_X11_count_1 1 rfl) (zb_X11_count_1 2 rfl) (zb_X11_count_1 3 rfl) rfl
theorem dX11_count_44 : decode cX11_count 44 = .ok (.getfield 162, 3) := dop_180 (zb_X11_count_1 4 rfl) (zb_X11_count_1 5 rfl) (zb_X11_count_1 6 rfl) rfl
theorem dX11_count_47 : decode cX11_count 47 = .ok (.ireturn, 1) := dop_172 (zb_X11_count_1 7 rfl)
theorem dX11_count_48 : decode cX11_count 48 = .ok (.aload_n 0, 1) := dop_42 (zb_X11_count_1 8 rfl)
theorem dX11_count_49 : decode cX11_count 49 = .ok (.getfield 12, 3) := dop_180 (zb_X11_count_1 9 rfl) (zb_X11_count_1 10 rfl) (zb_X11_count_1 11 rfl) rfl
theorem dX11_count_52 : decode cX11_count 52 = .ok (.getfield 346, 3) := dop_180 (zb_X11_count_1 12 rfl) (zb_X11_count_1 13 rfl) (zb_X11_count_1 14 rfl) rfl
theorem dX11_count_55 : decode cX11_count 55 = .ok (.invokestatic 415, 3) := dop_184 (zb_X11_count_1 15 rfl) (zb_X11_count_1 16 rfl) (zb_X11_count_1 17 rfl) rfl
theorem dX11_count_58 : decode cX11_count 58 = .ok (.ireturn, 1) := dop_172 (zb_X11_count_1 18 rfl)
theorem dX11_count_59 : decode cX11_count 59 = .ok (.aload_n 0, 1) := dop_42 (zb_X11_count_1 19 rfl)
theorem dX11_count_60 : decode cX11_count 60 = .ok (.getfield 12, 3) := dop_180 (zb_X11_count_1 20 rfl) (zb_X11_count_1 21 rfl) (zb_X11_count_1 22 rfl) rfl
theorem dX11_count_63 : decode cX11_count 63 = .ok (.invokevirtual 147, 3) := dop_182 (zb_X11_count_1 23 rfl) (zb_X11_count_1 24 rfl) (zb_X11_count_1 25 rfl) rfl
theorem dX11_count_66 : decode cX11_count 66 = .ok (.ireturn, 1) := dop_172 (zb_X11_count_1 26 rfl)
theorem dX11_count_67 : decode cX11_count 67 = .ok (.aload_n 0, 1) := dop_42 (zb_X11_count_1 27 rfl)
theorem dX11_count_68 : decode cX11_count 68 = .ok (.getfield 12, 3) := dop_180 (zb_X11_count_1 28 rfl) (zb_X11_count_1 29 rfl) (zb_X11_count_1 30 rfl) rfl
theorem dX11_count_71 : decode cX11_count 71 = .ok (.getfield 120, 3) := dop_180 (zb_X11_count_1 31 rfl) (zb_X11_count_1 32 rfl) (zb_X11_count_1 33 rfl) rfl
theorem dX11_count_74 : decode cX11_count 74 = .ok (.invokestatic 420, 3) := dop_184 (zb_X11_count_1 34 rfl) (zb_X11_count_1 35 rfl) (zb_X11_count_1 36 rfl) rfl
theorem dX11_count_77 : decode cX11_count 77 = .ok (.ireturn, 1) := dop_172 (zb_X11_count_1 37 rfl)
theorem dX11_count_78 : decode cX11_count 78 = .ok (.aload_n 0, 1) := dop_42 (zb_X11_count_1 38 rfl)
theorem ze_X11_count_3 : (dcn cX11_count).drop 117 = zt_X11_count_3 := dw_n (wl := zw_X11_count_2) ze_X11_count_2 rfl
theorem zb_X11_count_2 (j : Nat) {n : Nat} (e : zw_X11_count_2[j]? = some n) : dby cX11_count (79 + j) n := dw_b (t := zt_X11_count_3) ze_X11_count_2 j e
theorem dX11_count_79 : decode cX11_count 79 = .ok (.getfield 12, 3) := dop_180 (zb_X11_count_2 0 rfl) (zb_X11_count_2 1 rfl) (zb_X11_count_2 2 rfl) rfl
theorem dX11_count_82 : decode cX11_count 82 = .ok (.getfield 129, 3) := dop_180 (zb_X11_count_2 3 rfl) (zb_X11_count_2 4 rfl) (zb_X11_count_2 5 rfl) rfl
theorem dX11_count_85 : decode cX11_count 85 = .ok (.invokestatic 420, 3) := dop_184 (zb_X11_count_2 6 rfl) (zb_X11_count_2 7 rfl) (zb_X11_count_2 8 rfl) rfl
theorem dX11_count_88 : decode cX11_count 88 = .ok (.ireturn, 1) := dop_172 (zb_X11_count_2 9 rfl)
theorem dX11_count_89 : decode cX11_count 89 = .ok (.aload_n 0, 1) := dop_42 (zb_X11_count_2 10 rfl)
theorem dX11_count_90 : decode cX11_count 90 = .ok (.getfield 30, 3) := dop_180 (zb_X11_count_2 11 rfl) (zb_X11_count_2 12 rfl) (zb_X11_count_2 13 rfl) rfl
theorem dX11_count_93 : decode cX11_count 93 = .ok (.getfield 187, 3) := dop_180 (zb_X11_count_2 14 rfl) (zb_X11_count_2 15 rfl) (zb_X11_count_2 16 rfl) rfl
theorem dX11_count_96 : decode cX11_count 96 = .ok (.ireturn, 1) := dop_172 (zb_X11_count_2 17 rfl)
theorem dX11_count_97 : decode cX11_count 97 = .ok (.iload_n 1, 1) := dop_27 (zb_X11_count_2 18 rfl)
theorem dX11_count_98 : decode cX11_count 98 = .ok (.bipush 6, 2) := dop_16 (zb_X11_count_2 19 rfl) (zb_X11_count_2 20 rfl) rfl
theorem dX11_count_100 : decode cX11_count 100 = .ok (.bipush 10, 2) := dop_16 (zb_X11_count_2 21 rfl) (zb_X11_count_2 22 rfl) rfl
theorem dX11_count_102 : decode cX11_count 102 = .ok (.invokestatic 112, 3) := dop_184 (zb_X11_count_2 23 rfl) (zb_X11_count_2 24 rfl) (zb_X11_count_2 25 rfl) rfl
theorem dX11_count_105 : decode cX11_count 105 = .ok (.ifCond .eq 15, 3) := dop_153 (zb_X11_count_2 26 rfl) (zb_X11_count_2 27 rfl) (zb_X11_count_2 28 rfl) rfl
theorem dX11_count_108 : decode cX11_count 108 = .ok (.aload_n 0, 1) := dop_42 (zb_X11_count_2 29 rfl)
theorem dX11_count_109 : decode cX11_count 109 = .ok (.getfield 94, 3) := dop_180 (zb_X11_count_2 30 rfl) (zb_X11_count_2 31 rfl) (zb_X11_count_2 32 rfl) rfl
theorem dX11_count_112 : decode cX11_count 112 = .ok (.iload_n 1, 1) := dop_27 (zb_X11_count_2 33 rfl)
theorem dX11_count_113 : decode cX11_count 113 = .ok (.bipush 6, 2) := dop_16 (zb_X11_count_2 34 rfl) (zb_X11_count_2 35 rfl) rfl
theorem dX11_count_115 : decode cX11_count 115 = .ok (.isub, 1) := dop_100 (zb_X11_count_2 36 rfl)
theorem dX11_count_116 : decode cX11_count 116 = .ok (.iaload, 1) := dop_46 (zb_X11_count_2 37 rfl)
theorem zb_X11_count_3 (j : Nat) {n : Nat} (e : zw_X11_count_3[j]? = some n) : dby cX11_count (117 + j) n := dw_b (t := []) ze_X11_count_3 j e
theorem dX11_count_117 : decode cX11_count 117 = .ok (.goto 4, 3) := dop_167 (zb_X11_count_3 0 rfl) (zb_X11_count_3 1 rfl) (zb_X11_count_3 2 rfl) rfl
theorem dX11_count_120 : decode cX11_count 120 = .ok (.iconst (-1), 1) := dop_2 (zb_X11_count_3 3 rfl)
theorem dX11_count_121 : decode cX11_count 121 = .ok (.ireturn, 1) := dop_172 (zb_X11_count_3 4 rfl)
theorem dX11_status_0 : decode cX11_status 0 = .ok (.aload_n 0, 1) := by decide +kernel
theorem dX11_status_1 : decode cX11_status 1 = .ok (.getfield 98, 3) := by decide +kernel
theorem dX11_status_4 : decode cX11_status 4 = .ok (.ireturn, 1) := by decide +kernel
def zw_X11_refuse_1 : List Nat := [96, 79, 27, 172]
def zt_X11_refuse_1 : List Nat := zw_X11_refuse_1 ++ []
def zw_X11_refuse_0 : List Nat := [42, 27, 181, 0, 98, 27, 16, 251, 164, 0, 10, 27, 116, 4, 100, 167, 0, 7, 27, 116, 5, 100, 61, 28, 3, 7, 184, 0, 112, 153, 0, 13, 42, 180, 0, 94, 28, 92, 46, 4]
def zt_X11_refuse_0 : List Nat := zw_X11_refuse_0 ++ zt_X11_refuse_1
theorem ze_X11_refuse_0 : (dcn cX11_refuse).drop 0 = zt_X11_refuse_0 := by decide +kernel
theorem ze_X11_refuse_1 : (dcn cX11_refuse).drop 40 = zt_X11_refuse_1 := dw_n (wl := zw_X11_refuse_0) ze_X11_refuse_0 rfl
theorem zb_X11_refuse_0 (j : Nat) {n : Nat} (e : zw_X11_refuse_0[j]? = some n) : dby cX11_refuse (0 + j) n := dw_b (t := zt_X11_refuse_1) ze_X11_refuse_0 j e
theorem dX11_refuse_0 : decode cX11_refuse 0 = .ok (.aload_n 0, 1) := dop_42 (zb_X11_refuse_0 0 rfl)
theorem dX11_refuse_1 : decode cX11_refuse 1 = .ok (.iload_n 1, 1) := dop_27 (zb_X11_refuse_0 1 rfl)
theorem dX11_refuse_2 : decode cX11_refuse 2 = .ok (.putfield 98, 3) := dop_181 (zb_X11_refuse_0 2 rfl) (zb_X11_refuse_0 3 rfl) (zb_X11_refuse_0 4 rfl) rfl
theorem dX11_refuse_5 : decode cX11_refuse 5 = .ok (.iload_n 1, 1) := dop_27 (zb_X11_refuse_0 5 rfl)
theorem dX11_refuse_6 : decode cX11_refuse 6 = .ok (.bipush (-5), 2) := dop_16 (zb_X11_refuse_0 6 rfl) (zb_X11_refuse_0 7 rfl) rfl
theorem dX11_refuse_8 : decode cX11_refuse 8 = .ok (.if_icmp .le 10, 3) := dop_164 (zb_X11_refuse_0 8 rfl) (zb_X11_refuse_0 9 rfl) (zb_X11_refuse_0 10 rfl) rfl
theorem dX11_refuse_11 : decode cX11_refuse 11 = .ok (.iload_n 1, 1) := dop_27 (zb_X11_refuse_0 11 rfl)
theorem dX11_refuse_12 : decode cX11_refuse 12 = .ok (.ineg, 1) := dop_116 (zb_X11_refuse_0 12 rfl)
theorem dX11_refuse_13 : decode cX11_refuse 13 = .ok (.iconst 1, 1) := dop_4 (zb_X11_refuse_0 13 rfl)
theorem dX11_refuse_14 : decode cX11_refuse 14 = .ok (.isub, 1) := dop_100 (zb_X11_refuse_0 14 rfl)
theorem dX11_refuse_15 : decode cX11_refuse 15 = .ok (.goto 7, 3) := dop_167 (zb_X11_refuse_0 15 rfl) (zb_X11_refuse_0 16 rfl) (zb_X11_refuse_0 17 rfl) rfl
theorem dX11_refuse_18 : decode cX11_refuse 18 = .ok (.iload_n 1, 1) := dop_27 (zb_X11_refuse_0 18 rfl)
theorem dX11_refuse_19 : decode cX11_refuse 19 = .ok (.ineg, 1) := dop_116 (zb_X11_refuse_0 19 rfl)
theorem dX11_refuse_20 : decode cX11_refuse 20 = .ok (.iconst 2, 1) := dop_5 (zb_X11_refuse_0 20 rfl)
theorem dX11_refuse_21 : decode cX11_refuse 21 = .ok (.isub, 1) := dop_100 (zb_X11_refuse_0 21 rfl)
theorem dX11_refuse_22 : decode cX11_refuse 22 = .ok (.istore_n 2, 1) := dop_61 (zb_X11_refuse_0 22 rfl)
theorem dX11_refuse_23 : decode cX11_refuse 23 = .ok (.iload_n 2, 1) := dop_28 (zb_X11_refuse_0 23 rfl)
theorem dX11_refuse_24 : decode cX11_refuse 24 = .ok (.iconst 0, 1) := dop_3 (zb_X11_refuse_0 24 rfl)
theorem dX11_refuse_25 : decode cX11_refuse 25 = .ok (.iconst 4, 1) := dop_7 (zb_X11_refuse_0 25 rfl)
theorem dX11_refuse_26 : decode cX11_refuse 26 = .ok (.invokestatic 112, 3) := dop_184 (zb_X11_refuse_0 26 rfl) (zb_X11_refuse_0 27 rfl) (zb_X11_refuse_0 28 rfl) rfl
theorem dX11_refuse_29 : decode cX11_refuse 29 = .ok (.ifCond .eq 13, 3) := dop_153 (zb_X11_refuse_0 29 rfl) (zb_X11_refuse_0 30 rfl) (zb_X11_refuse_0 31 rfl) rfl
theorem dX11_refuse_32 : decode cX11_refuse 32 = .ok (.aload_n 0, 1) := dop_42 (zb_X11_refuse_0 32 rfl)
theorem dX11_refuse_33 : decode cX11_refuse 33 = .ok (.getfield 94, 3) := dop_180 (zb_X11_refuse_0 33 rfl) (zb_X11_refuse_0 34 rfl) (zb_X11_refuse_0 35 rfl) rfl
theorem dX11_refuse_36 : decode cX11_refuse 36 = .ok (.iload_n 2, 1) := dop_28 (zb_X11_refuse_0 36 rfl)
theorem dX11_refuse_37 : decode cX11_refuse 37 = .ok (.dup2, 1) := dop_92 (zb_X11_refuse_0 37 rfl)
theorem dX11_refuse_38 : decode cX11_refuse 38 = .ok (.iaload, 1) := dop_46 (zb_X11_refuse_0 38 rfl)
theorem dX11_refuse_39 : decode cX11_refuse 39 = .ok (.iconst 1, 1) := dop_4 (zb_X11_refuse_0 39 rfl)
theorem zb_X11_refuse_1 (j : Nat) {n : Nat} (e : zw_X11_refuse_1[j]? = some n) : dby cX11_refuse (40 + j) n := dw_b (t := []) ze_X11_refuse_1 j e
theorem dX11_refuse_40 : decode cX11_refuse 40 = .ok (.iadd, 1) := dop_96 (zb_X11_refuse_1 0 rfl)
theorem dX11_refuse_41 : decode cX11_refuse 41 = .ok (.iastore, 1) := dop_79 (zb_X11_refuse_1 1 rfl)
theorem dX11_refuse_42 : decode cX11_refuse 42 = .ok (.iload_n 1, 1) := dop_27 (zb_X11_refuse_1 2 rfl)
theorem dX11_refuse_43 : decode cX11_refuse 43 = .ok (.ireturn, 1) := dop_172 (zb_X11_refuse_1 3 rfl)
def zw_X11_accept_0 : List Nat := [42, 3, 181, 0, 98, 27, 172]
def zt_X11_accept_0 : List Nat := zw_X11_accept_0 ++ []
theorem ze_X11_accept_0 : (dcn cX11_accept).drop 0 = zt_X11_accept_0 := by decide +kernel
theorem zb_X11_accept_0 (j : Nat) {n : Nat} (e : zw_X11_accept_0[j]? = some n) : dby cX11_accept (0 + j) n := dw_b (t := []) ze_X11_accept_0 j e
theorem dX11_accept_0 : decode cX11_accept 0 = .ok (.aload_n 0, 1) := dop_42 (zb_X11_accept_0 0 rfl)
theorem dX11_accept_1 : decode cX11_accept 1 = .ok (.iconst 0, 1) := dop_3 (zb_X11_accept_0 1 rfl)
theorem dX11_accept_2 : decode cX11_accept 2 = .ok (.putfield 98, 3) := dop_181 (zb_X11_accept_0 2 rfl) (zb_X11_accept_0 3 rfl) (zb_X11_accept_0 4 rfl) rfl
theorem dX11_accept_5 : decode cX11_accept 5 = .ok (.iload_n 1, 1) := dop_27 (zb_X11_accept_0 5 rfl)
theorem dX11_accept_6 : decode cX11_accept 6 = .ok (.ireturn, 1) := dop_172 (zb_X11_accept_0 6 rfl)
def zw_X11_takeFromRow_2 : List Nat := [180, 0, 12, 182, 0, 155, 154, 0, 5, 3, 172, 42, 180, 0, 12, 28, 29, 21, 4, 21, 5, 182, 0, 158, 4, 172]
def zt_X11_takeFromRow_2 : List Nat := zw_X11_takeFromRow_2 ++ []
def zw_X11_takeFromRow_1 : List Nat := [180, 0, 30, 180, 1, 168, 27, 5, 96, 46, 54, 4, 42, 180, 0, 30, 180, 1, 168, 27, 6, 96, 46, 54, 5, 28, 29, 21, 4, 21, 5, 184, 0, 151, 153, 0, 13, 42]
def zt_X11_takeFromRow_1 : List Nat := zw_X11_takeFromRow_1 ++ zt_X11_takeFromRow_2
def zw_X11_takeFromRow_0 : List Nat := [27, 7, 96, 42, 180, 0, 30, 180, 0, 187, 164, 0, 5, 3, 172, 42, 180, 0, 30, 180, 1, 168, 27, 46, 61, 42, 180, 0, 30, 180, 1, 168, 27, 4, 96, 46, 62, 42]
def zt_X11_takeFromRow_0 : List Nat := zw_X11_takeFromRow_0 ++ zt_X11_takeFromRow_1
theorem ze_X11_takeFromRow_0 : (dcn cX11_takeFromRow).drop 0 = zt_X11_takeFromRow_0 := by decide +kernel
theorem ze_X11_takeFromRow_1 : (dcn cX11_takeFromRow).drop 38 = zt_X11_takeFromRow_1 := dw_n (wl := zw_X11_takeFromRow_0) ze_X11_takeFromRow_0 rfl
theorem zb_X11_takeFromRow_0 (j : Nat) {n : Nat} (e : zw_X11_takeFromRow_0[j]? = some n) : dby cX11_takeFromRow (0 + j) n := dw_b (t := zt_X11_takeFromRow_1) ze_X11_takeFromRow_0 j e
theorem dX11_takeFromRow_0 : decode cX11_takeFromRow 0 = .ok (.iload_n 1, 1) := dop_27 (zb_X11_takeFromRow_0 0 rfl)
theorem dX11_takeFromRow_1 : decode cX11_takeFromRow 1 = .ok (.iconst 4, 1) := dop_7 (zb_X11_takeFromRow_0 1 rfl)
theorem dX11_takeFromRow_2 : decode cX11_takeFromRow 2 = .ok (.iadd, 1) := dop_96 (zb_X11_takeFromRow_0 2 rfl)
theorem dX11_takeFromRow_3 : decode cX11_takeFromRow 3 = .ok (.aload_n 0, 1) := dop_42 (zb_X11_takeFromRow_0 3 rfl)
theorem dX11_takeFromRow_4 : decode cX11_takeFromRow 4 = .ok (.getfield 30, 3) := dop_180 (zb_X11_takeFromRow_0 4 rfl) (zb_X11_takeFromRow_0 5 rfl) (zb_X11_takeFromRow_0 6 rfl) rfl
theorem dX11_takeFromRow_7 : decode cX11_takeFromRow 7 = .ok (.getfield 187, 3) := dop_180 (zb_X11_takeFromRow_0 7 rfl) (zb_X11_takeFromRow_0 8 rfl) (zb_X11_takeFromRow_0 9 rfl) rfl
theorem dX11_takeFromRow_10 : decode cX11_takeFromRow 10 = .ok (.if_icmp .le 5, 3) := dop_164 (zb_X11_takeFromRow_0 10 rfl) (zb_X11_takeFromRow_0 11 rfl) (zb_X11_takeFromRow_0 12 rfl) rfl
theorem dX11_takeFromRow_13 : decode cX11_takeFromRow 13 = .ok (.iconst 0, 1) := dop_3 (zb_X11_takeFromRow_0 13 rfl)
theorem dX11_takeFromRow_14 : decode cX11_takeFromRow 14 = .ok (.ireturn, 1) := dop_172 (zb_X11_takeFromRow_0 14 rfl)
theorem dX11_takeFromRow_15 : decode cX11_takeFromRow 15 = .ok (.aload_n 0, 1) := dop_42 (zb_X11_takeFromRow_0 15 rfl)
theorem dX11_takeFromRow_16 : decode cX11_takeFromRow 16 = .ok (.getfield 30, 3) := dop_180 (zb_X11_takeFromRow_0 16 rfl) (zb_X11_takeFromRow_0 17 rfl) (zb_X11_takeFromRow_0 18 rfl) rfl
theorem dX11_takeFromRow_19 : decode cX11_takeFromRow 19 = .ok (.getfield 424, 3) := dop_180 (zb_X11_takeFromRow_0 19 rfl) (zb_X11_takeFromRow_0 20 rfl) (zb_X11_takeFromRow_0 21 rfl) rfl
theorem dX11_takeFromRow_22 : decode cX11_takeFromRow 22 = .ok (.iload_n 1, 1) := dop_27 (zb_X11_takeFromRow_0 22 rfl)
theorem dX11_takeFromRow_23 : decode cX11_takeFromRow 23 = .ok (.iaload, 1) := dop_46 (zb_X11_takeFromRow_0 23 rfl)
theorem dX11_takeFromRow_24 : decode cX11_takeFromRow 24 = .ok (.istore_n 2, 1) := dop_61 (zb_X11_takeFromRow_0 24 rfl)
theorem dX11_takeFromRow_25 : decode cX11_takeFromRow 25 = .ok (.aload_n 0, 1) := dop_42 (zb_X11_takeFromRow_0 25 rfl)
theorem dX11_takeFromRow_26 : decode cX11_takeFromRow 26 = .ok (.getfield 30, 3) := dop_180 (zb_X11_takeFromRow_0 26 rfl) (zb_X11_takeFromRow_0 27 rfl) (zb_X11_takeFromRow_0 28 rfl) rfl
theorem dX11_takeFromRow_29 : decode cX11_takeFromRow 29 = .ok (.getfield 424, 3) := dop_180 (zb_X11_takeFromRow_0 29 rfl) (zb_X11_takeFromRow_0 30 rfl) (zb_X11_takeFromRow_0 31 rfl) rfl
theorem dX11_takeFromRow_32 : decode cX11_takeFromRow 32 = .ok (.iload_n 1, 1) := dop_27 (zb_X11_takeFromRow_0 32 rfl)
theorem dX11_takeFromRow_33 : decode cX11_takeFromRow 33 = .ok (.iconst 1, 1) := dop_4 (zb_X11_takeFromRow_0 33 rfl)
theorem dX11_takeFromRow_34 : decode cX11_takeFromRow 34 = .ok (.iadd, 1) := dop_96 (zb_X11_takeFromRow_0 34 rfl)
theorem dX11_takeFromRow_35 : decode cX11_takeFromRow 35 = .ok (.iaload, 1) := dop_46 (zb_X11_takeFromRow_0 35 rfl)
theorem dX11_takeFromRow_36 : decode cX11_takeFromRow 36 = .ok (.istore_n 3, 1) := dop_62 (zb_X11_takeFromRow_0 36 rfl)
theorem dX11_takeFromRow_37 : decode cX11_takeFromRow 37 = .ok (.aload_n 0, 1) := dop_42 (zb_X11_takeFromRow_0 37 rfl)
theorem ze_X11_takeFromRow_2 : (dcn cX11_takeFromRow).drop 76 = zt_X11_takeFromRow_2 := dw_n (wl := zw_X11_takeFromRow_1) ze_X11_takeFromRow_1 rfl
theorem zb_X11_takeFromRow_1 (j : Nat) {n : Nat} (e : zw_X11_takeFromRow_1[j]? = some n) : dby cX11_takeFromRow (38 + j) n := dw_b (t := zt_X11_takeFromRow_2) ze_X11_takeFromRow_1 j e
theorem dX11_takeFromRow_38 : decode cX11_takeFromRow 38 = .ok (.getfield 30, 3) := dop_180 (zb_X11_takeFromRow_1 0 rfl) (zb_X11_takeFromRow_1 1 rfl) (zb_X11_takeFromRow_1 2 rfl) rfl
theorem dX11_takeFromRow_41 : decode cX11_takeFromRow 41 = .ok (.getfield 424, 3) := dop_180 (zb_X11_takeFromRow_1 3 rfl) (zb_X11_takeFromRow_1 4 rfl) (zb_X11_takeFromRow_1 5 rfl) rfl
theorem dX11_takeFromRow_44 : decode cX11_takeFromRow 44 = .ok (.iload_n 1, 1) := dop_27 (zb_X11_takeFromRow_1 6 rfl)
theorem dX11_takeFromRow_45 : decode cX11_takeFromRow 45 = .ok (.iconst 2, 1) := dop_5 (zb_X11_takeFromRow_1 7 rfl)
theorem dX11_takeFromRow_46 : decode cX11_takeFromRow 46 = .ok (.iadd, 1) := dop_96 (zb_X11_takeFromRow_1 8 rfl)
theorem dX11_takeFromRow_47 : decode cX11_takeFromRow 47 = .ok (.iaload, 1) := dop_46 (zb_X11_takeFromRow_1 9 rfl)
theorem dX11_takeFromRow_48 : decode cX11_takeFromRow 48 = .ok (.istore 4, 2) := dop_54 (zb_X11_takeFromRow_1 10 rfl) (zb_X11_takeFromRow_1 11 rfl)
theorem dX11_takeFromRow_50 : decode cX11_takeFromRow 50 = .ok (.aload_n 0, 1) := dop_42 (zb_X11_takeFromRow_1 12 rfl)
theorem dX11_takeFromRow_51 : decode cX11_takeFromRow 51 = .ok (.getfield 30, 3) := dop_180 (zb_X11_takeFromRow_1 13 rfl) (zb_X11_takeFromRow_1 14 rfl) (zb_X11_takeFromRow_1 15 rfl) rfl
theorem dX11_takeFromRow_54 : decode cX11_takeFromRow 54 = .ok (.getfield 424, 3) := dop_180 (zb_X11_takeFromRow_1 16 rfl) (zb_X11_takeFromRow_1 17 rfl) (zb_X11_takeFromRow_1 18 rfl) rfl
theorem dX11_takeFromRow_57 : decode cX11_takeFromRow 57 = .ok (.iload_n 1, 1) := dop_27 (zb_X11_takeFromRow_1 19 rfl)
theorem dX11_takeFromRow_58 : decode cX11_takeFromRow 58 = .ok (.iconst 3, 1) := dop_6 (zb_X11_takeFromRow_1 20 rfl)
theorem dX11_takeFromRow_59 : decode cX11_takeFromRow 59 = .ok (.iadd, 1) := dop_96 (zb_X11_takeFromRow_1 21 rfl)
theorem dX11_takeFromRow_60 : decode cX11_takeFromRow 60 = .ok (.iaload, 1) := dop_46 (zb_X11_takeFromRow_1 22 rfl)
theorem dX11_takeFromRow_61 : decode cX11_takeFromRow 61 = .ok (.istore 5, 2) := dop_54 (zb_X11_takeFromRow_1 23 rfl) (zb_X11_takeFromRow_1 24 rfl)
theorem dX11_takeFromRow_63 : decode cX11_takeFromRow 63 = .ok (.iload_n 2, 1) := dop_28 (zb_X11_takeFromRow_1 25 rfl)
theorem dX11_takeFromRow_64 : decode cX11_takeFromRow 64 = .ok (.iload_n 3, 1) := dop_29 (zb_X11_takeFromRow_1 26 rfl)
theorem dX11_takeFromRow_65 : decode cX11_takeFromRow 65 = .ok (.iload 4, 2) := dop_21 (zb_X11_takeFromRow_1 27 rfl) (zb_X11_takeFromRow_1 28 rfl)
theorem dX11_takeFromRow_67 : decode cX11_takeFromRow 67 = .ok (.iload 5, 2) := dop_21 (zb_X11_takeFromRow_1 29 rfl) (zb_X11_takeFromRow_1 30 rfl)
theorem dX11_takeFromRow_69 : decode cX11_takeFromRow 69 = .ok (.invokestatic 151, 3) := dop_184 (zb_X11_takeFromRow_1 31 rfl) (zb_X11_takeFromRow_1 32 rfl) (zb_X11_takeFromRow_1 33 rfl) rfl
theorem dX11_takeFromRow_72 : decode cX11_takeFromRow 72 = .ok (.ifCond .eq 13, 3) := dop_153 (zb_X11_takeFromRow_1 34 rfl) (zb_X11_takeFromRow_1 35 rfl) (zb_X11_takeFromRow_1 36 rfl) rfl
theorem dX11_takeFromRow_75 : decode cX11_takeFromRow 75 = .ok (.aload_n 0, 1) := dop_42 (zb_X11_takeFromRow_1 37 rfl)
theorem zb_X11_takeFromRow_2 (j : Nat) {n : Nat} (e : zw_X11_takeFromRow_2[j]? = some n) : dby cX11_takeFromRow (76 + j) n := dw_b (t := []) ze_X11_takeFromRow_2 j e
theorem dX11_takeFromRow_76 : decode cX11_takeFromRow 76 = .ok (.getfield 12, 3) := dop_180 (zb_X11_takeFromRow_2 0 rfl) (zb_X11_takeFromRow_2 1 rfl) (zb_X11_takeFromRow_2 2 rfl) rfl
theorem dX11_takeFromRow_79 : decode cX11_takeFromRow 79 = .ok (.invokevirtual 155, 3) := dop_182 (zb_X11_takeFromRow_2 3 rfl) (zb_X11_takeFromRow_2 4 rfl) (zb_X11_takeFromRow_2 5 rfl) rfl
theorem dX11_takeFromRow_82 : decode cX11_takeFromRow 82 = .ok (.ifCond .ne 5, 3) := dop_154 (zb_X11_takeFromRow_2 6 rfl) (zb_X11_takeFromRow_2 7 rfl) (zb_X11_takeFromRow_2 8 rfl) rfl
theorem dX11_takeFromRow_85 : decode cX11_takeFromRow 85 = .ok (.iconst 0, 1) := dop_3 (zb_X11_takeFromRow_2 9 rfl)
theorem dX11_takeFromRow_86 : decode cX11_takeFromRow 86 = .ok (.ireturn, 1) := dop_172 (zb_X11_takeFromRow_2 10 rfl)
theorem dX11_takeFromRow_87 : decode cX11_takeFromRow 87 = .ok (.aload_n 0, 1) := dop_42 (zb_X11_takeFromRow_2 11 rfl)
theorem dX11_takeFromRow_88 : decode cX11_takeFromRow 88 = .ok (.getfield 12, 3) := dop_180 (zb_X11_takeFromRow_2 12 rfl) (zb_X11_takeFromRow_2 13 rfl) (zb_X11_takeFromRow_2 14 rfl) rfl
theorem dX11_takeFromRow_91 : decode cX11_takeFromRow 91 = .ok (.iload_n 2, 1) := dop_28 (zb_X11_takeFromRow_2 15 rfl)
theorem dX11_takeFromRow_92 : decode cX11_takeFromRow 92 = .ok (.iload_n 3, 1) := dop_29 (zb_X11_takeFromRow_2 16 rfl)
theorem dX11_takeFromRow_93 : decode cX11_takeFromRow 93 = .ok (.iload 4, 2) := dop_21 (zb_X11_takeFromRow_2 17 rfl) (zb_X11_takeFromRow_2 18 rfl)
theorem dX11_takeFromRow_95 : decode cX11_takeFromRow 95 = .ok (.iload 5, 2) := dop_21 (zb_X11_takeFromRow_2 19 rfl) (zb_X11_takeFromRow_2 20 rfl)
theorem dX11_takeFromRow_97 : decode cX11_takeFromRow 97 = .ok (.invokevirtual 158, 3) := dop_182 (zb_X11_takeFromRow_2 21 rfl) (zb_X11_takeFromRow_2 22 rfl) (zb_X11_takeFromRow_2 23 rfl) rfl
theorem dX11_takeFromRow_100 : decode cX11_takeFromRow 100 = .ok (.iconst 1, 1) := dop_4 (zb_X11_takeFromRow_2 24 rfl)
theorem dX11_takeFromRow_101 : decode cX11_takeFromRow 101 = .ok (.ireturn, 1) := dop_172 (zb_X11_takeFromRow_2 25 rfl)
def zw_X11_canBe_0 : List Nat := [42, 180, 0, 46, 42, 180, 0, 12, 42, 180, 0, 12, 180, 1, 90, 182, 1, 87, 172]
def zt_X11_canBe_0 : List Nat := zw_X11_canBe_0 ++ []
theorem ze_X11_canBe_0 : (dcn cX11_canBe).drop 0 = zt_X11_canBe_0 := by decide +kernel
theorem zb_X11_canBe_0 (j : Nat) {n : Nat} (e : zw_X11_canBe_0[j]? = some n) : dby cX11_canBe (0 + j) n := dw_b (t := []) ze_X11_canBe_0 j e
theorem dX11_canBe_0 : decode cX11_canBe 0 = .ok (.aload_n 0, 1) := dop_42 (zb_X11_canBe_0 0 rfl)
theorem dX11_canBe_1 : decode cX11_canBe 1 = .ok (.getfield 46, 3) := dop_180 (zb_X11_canBe_0 1 rfl) (zb_X11_canBe_0 2 rfl) (zb_X11_canBe_0 3 rfl) rfl
theorem dX11_canBe_4 : decode cX11_canBe 4 = .ok (.aload_n 0, 1) := dop_42 (zb_X11_canBe_0 4 rfl)
theorem dX11_canBe_5 : decode cX11_canBe 5 = .ok (.getfield 12, 3) := dop_180 (zb_X11_canBe_0 5 rfl) (zb_X11_canBe_0 6 rfl) (zb_X11_canBe_0 7 rfl) rfl
theorem dX11_canBe_8 : decode cX11_canBe 8 = .ok (.aload_n 0, 1) := dop_42 (zb_X11_canBe_0 8 rfl)
theorem dX11_canBe_9 : decode cX11_canBe 9 = .ok (.getfield 12, 3) := dop_180 (zb_X11_canBe_0 9 rfl) (zb_X11_canBe_0 10 rfl) (zb_X11_canBe_0 11 rfl) rfl
theorem dX11_canBe_12 : decode cX11_canBe 12 = .ok (.getfield 346, 3) := dop_180 (zb_X11_canBe_0 12 rfl) (zb_X11_canBe_0 13 rfl) (zb_X11_canBe_0 14 rfl) rfl
theorem dX11_canBe_15 : decode cX11_canBe 15 = .ok (.invokevirtual 343, 3) := dop_182 (zb_X11_canBe_0 15 rfl) (zb_X11_canBe_0 16 rfl) (zb_X11_canBe_0 17 rfl) rfl
theorem dX11_canBe_18 : decode cX11_canBe 18 = .ok (.ireturn, 1) := dop_172 (zb_X11_canBe_0 18 rfl)
def zw_X11_compare_1 : List Nat := [28, 182, 1, 171, 4, 172]
def zt_X11_compare_1 : List Nat := zw_X11_compare_1 ++ []
def zw_X11_compare_0 : List Nat := [42, 180, 0, 12, 27, 182, 1, 73, 153, 0, 21, 42, 180, 0, 12, 28, 182, 1, 73, 153, 0, 10, 42, 182, 0, 208, 154, 0, 5, 3, 172, 42, 180, 0, 53, 42, 180, 0, 46, 27]
def zt_X11_compare_0 : List Nat := zw_X11_compare_0 ++ zt_X11_compare_1
theorem ze_X11_compare_0 : (dcn cX11_compare).drop 0 = zt_X11_compare_0 := by decide +kernel
theorem ze_X11_compare_1 : (dcn cX11_compare).drop 40 = zt_X11_compare_1 := dw_n (wl := zw_X11_compare_0) ze_X11_compare_0 rfl
theorem zb_X11_compare_0 (j : Nat) {n : Nat} (e : zw_X11_compare_0[j]? = some n) : dby cX11_compare (0 + j) n := dw_b (t := zt_X11_compare_1) ze_X11_compare_0 j e
theorem dX11_compare_0 : decode cX11_compare 0 = .ok (.aload_n 0, 1) := dop_42 (zb_X11_compare_0 0 rfl)
theorem dX11_compare_1 : decode cX11_compare 1 = .ok (.getfield 12, 3) := dop_180 (zb_X11_compare_0 1 rfl) (zb_X11_compare_0 2 rfl) (zb_X11_compare_0 3 rfl) rfl
theorem dX11_compare_4 : decode cX11_compare 4 = .ok (.iload_n 1, 1) := dop_27 (zb_X11_compare_0 4 rfl)
theorem dX11_compare_5 : decode cX11_compare 5 = .ok (.invokevirtual 329, 3) := dop_182 (zb_X11_compare_0 5 rfl) (zb_X11_compare_0 6 rfl) (zb_X11_compare_0 7 rfl) rfl
theorem dX11_compare_8 : decode cX11_compare 8 = .ok (.ifCond .eq 21, 3) := dop_153 (zb_X11_compare_0 8 rfl) (zb_X11_compare_0 9 rfl) (zb_X11_compare_0 10 rfl) rfl
theorem dX11_compare_11 : decode cX11_compare 11 = .ok (.aload_n 0, 1) := dop_42 (zb_X11_compare_0 11 rfl)
theorem dX11_compare_12 : decode cX11_compare 12 = .ok (.getfield 12, 3) := dop_180 (zb_X11_compare_0 12 rfl) (zb_X11_compare_0 13 rfl) (zb_X11_compare_0 14 rfl) rfl
theorem dX11_compare_15 : decode cX11_compare 15 = .ok (.iload_n 2, 1) := dop_28 (zb_X11_compare_0 15 rfl)
theorem dX11_compare_16 : decode cX11_compare 16 = .ok (.invokevirtual 329, 3) := dop_182 (zb_X11_compare_0 16 rfl) (zb_X11_compare_0 17 rfl) (zb_X11_compare_0 18 rfl) rfl
theorem dX11_compare_19 : decode cX11_compare 19 = .ok (.ifCond .eq 10, 3) := dop_153 (zb_X11_compare_0 19 rfl) (zb_X11_compare_0 20 rfl) (zb_X11_compare_0 21 rfl) rfl
theorem dX11_compare_22 : decode cX11_compare 22 = .ok (.aload_n 0, 1) := dop_42 (zb_X11_compare_0 22 rfl)
theorem dX11_compare_23 : decode cX11_compare 23 = .ok (.invokevirtual 208, 3) := dop_182 (zb_X11_compare_0 23 rfl) (zb_X11_compare_0 24 rfl) (zb_X11_compare_0 25 rfl) rfl
theorem dX11_compare_26 : decode cX11_compare 26 = .ok (.ifCond .ne 5, 3) := dop_154 (zb_X11_compare_0 26 rfl) (zb_X11_compare_0 27 rfl) (zb_X11_compare_0 28 rfl) rfl
theorem dX11_compare_29 : decode cX11_compare 29 = .ok (.iconst 0, 1) := dop_3 (zb_X11_compare_0 29 rfl)
theorem dX11_compare_30 : decode cX11_compare 30 = .ok (.ireturn, 1) := dop_172 (zb_X11_compare_0 30 rfl)
theorem dX11_compare_31 : decode cX11_compare 31 = .ok (.aload_n 0, 1) := dop_42 (zb_X11_compare_0 31 rfl)
theorem dX11_compare_32 : decode cX11_compare 32 = .ok (.getfield 53, 3) := dop_180 (zb_X11_compare_0 32 rfl) (zb_X11_compare_0 33 rfl) (zb_X11_compare_0 34 rfl) rfl
theorem dX11_compare_35 : decode cX11_compare 35 = .ok (.aload_n 0, 1) := dop_42 (zb_X11_compare_0 35 rfl)
theorem dX11_compare_36 : decode cX11_compare 36 = .ok (.getfield 46, 3) := dop_180 (zb_X11_compare_0 36 rfl) (zb_X11_compare_0 37 rfl) (zb_X11_compare_0 38 rfl) rfl
theorem dX11_compare_39 : decode cX11_compare 39 = .ok (.iload_n 1, 1) := dop_27 (zb_X11_compare_0 39 rfl)
theorem zb_X11_compare_1 (j : Nat) {n : Nat} (e : zw_X11_compare_1[j]? = some n) : dby cX11_compare (40 + j) n := dw_b (t := []) ze_X11_compare_1 j e
theorem dX11_compare_40 : decode cX11_compare 40 = .ok (.iload_n 2, 1) := dop_28 (zb_X11_compare_1 0 rfl)
theorem dX11_compare_41 : decode cX11_compare 41 = .ok (.invokevirtual 427, 3) := dop_182 (zb_X11_compare_1 1 rfl) (zb_X11_compare_1 2 rfl) (zb_X11_compare_1 3 rfl) rfl
theorem dX11_compare_44 : decode cX11_compare 44 = .ok (.iconst 1, 1) := dop_4 (zb_X11_compare_1 4 rfl)
theorem dX11_compare_45 : decode cX11_compare 45 = .ok (.ireturn, 1) := dop_172 (zb_X11_compare_1 5 rfl)
def zw_X11_compareToFoot_1 : List Nat := [4, 172]
def zt_X11_compareToFoot_1 : List Nat := zw_X11_compareToFoot_1 ++ []
def zw_X11_compareToFoot_0 : List Nat := [42, 27, 182, 1, 22, 153, 0, 17, 28, 184, 0, 132, 153, 0, 10, 42, 182, 0, 208, 154, 0, 5, 3, 172, 42, 180, 0, 53, 42, 180, 0, 46, 27, 16, 12, 28, 96, 182, 1, 171]
def zt_X11_compareToFoot_0 : List Nat := zw_X11_compareToFoot_0 ++ zt_X11_compareToFoot_1
theorem ze_X11_compareToFoot_0 : (dcn cX11_compareToFoot).drop 0 = zt_X11_compareToFoot_0 := by decide +kernel
theorem ze_X11_compareToFoot_1 : (dcn cX11_compareToFoot).drop 40 = zt_X11_compareToFoot_1 := dw_n (wl := zw_X11_compareToFoot_0) ze_X11_compareToFoot_0 rfl
theorem zb_X11_compareToFoot_0 (j : Nat) {n : Nat} (e : zw_X11_compareToFoot_0[j]? = some n) : dby cX11_compareToFoot (0 + j) n := dw_b (t := zt_X11_compareToFoot_1) ze_X11_compareToFoot_0 j e
theorem dX11_compareToFoot_0 : decode cX11_compareToFoot 0 = .ok (.aload_n 0, 1) := dop_42 (zb_X11_compareToFoot_0 0 rfl)
theorem dX11_compareToFoot_1 : decode cX11_compareToFoot 1 = .ok (.iload_n 1, 1) := dop_27 (zb_X11_compareToFoot_0 1 rfl)
theorem dX11_compareToFoot_2 : decode cX11_compareToFoot 2 = .ok (.invokevirtual 278, 3) := dop_182 (zb_X11_compareToFoot_0 2 rfl) (zb_X11_compareToFoot_0 3 rfl) (zb_X11_compareToFoot_0 4 rfl) rfl
theorem dX11_compareToFoot_5 : decode cX11_compareToFoot 5 = .ok (.ifCond .eq 17, 3) := dop_153 (zb_X11_compareToFoot_0 5 rfl) (zb_X11_compareToFoot_0 6 rfl) (zb_X11_compareToFoot_0 7 rfl) rfl
theorem dX11_compareToFoot_8 : decode cX11_compareToFoot 8 = .ok (.iload_n 2, 1) := dop_28 (zb_X11_compareToFoot_0 8 rfl)
theorem dX11_compareToFoot_9 : decode cX11_compareToFoot 9 = .ok (.invokestatic 132, 3) := dop_184 (zb_X11_compareToFoot_0 9 rfl) (zb_X11_compareToFoot_0 10 rfl) (zb_X11_compareToFoot_0 11 rfl) rfl
theorem dX11_compareToFoot_12 : decode cX11_compareToFoot 12 = .ok (.ifCond .eq 10, 3) := dop_153 (zb_X11_compareToFoot_0 12 rfl) (zb_X11_compareToFoot_0 13 rfl) (zb_X11_compareToFoot_0 14 rfl) rfl
theorem dX11_compareToFoot_15 : decode cX11_compareToFoot 15 = .ok (.aload_n 0, 1) := dop_42 (zb_X11_compareToFoot_0 15 rfl)
theorem dX11_compareToFoot_16 : decode cX11_compareToFoot 16 = .ok (.invokevirtual 208, 3) := dop_182 (zb_X11_compareToFoot_0 16 rfl) (zb_X11_compareToFoot_0 17 rfl) (zb_X11_compareToFoot_0 18 rfl) rfl
theorem dX11_compareToFoot_19 : decode cX11_compareToFoot 19 = .ok (.ifCond .ne 5, 3) := dop_154 (zb_X11_compareToFoot_0 19 rfl) (zb_X11_compareToFoot_0 20 rfl) (zb_X11_compareToFoot_0 21 rfl) rfl
theorem dX11_compareToFoot_22 : decode cX11_compareToFoot 22 = .ok (.iconst 0, 1) := dop_3 (zb_X11_compareToFoot_0 22 rfl)
theorem dX11_compareToFoot_23 : decode cX11_compareToFoot 23 = .ok (.ireturn, 1) := dop_172 (zb_X11_compareToFoot_0 23 rfl)
theorem dX11_compareToFoot_24 : decode cX11_compareToFoot 24 = .ok (.aload_n 0, 1) := dop_42 (zb_X11_compareToFoot_0 24 rfl)
theorem dX11_compareToFoot_25 : decode cX11_compareToFoot 25 = .ok (.getfield 53, 3) := dop_180 (zb_X11_compareToFoot_0 25 rfl) (zb_X11_compareToFoot_0 26 rfl) (zb_X11_compareToFoot_0 27 rfl) rfl
theorem dX11_compareToFoot_28 : decode cX11_compareToFoot 28 = .ok (.aload_n 0, 1) := dop_42 (zb_X11_compareToFoot_0 28 rfl)
theorem dX11_compareToFoot_29 : decode cX11_compareToFoot 29 = .ok (.getfield 46, 3) := dop_180 (zb_X11_compareToFoot_0 29 rfl) (zb_X11_compareToFoot_0 30 rfl) (zb_X11_compareToFoot_0 31 rfl) rfl
theorem dX11_compareToFoot_32 : decode cX11_compareToFoot 32 = .ok (.iload_n 1, 1) := dop_27 (zb_X11_compareToFoot_0 32 rfl)
theorem dX11_compareToFoot_33 : decode cX11_compareToFoot 33 = .ok (.bipush 12, 2) := dop_16 (zb_X11_compareToFoot_0 33 rfl) (zb_X11_compareToFoot_0 34 rfl) rfl
theorem dX11_compareToFoot_35 : decode cX11_compareToFoot 35 = .ok (.iload_n 2, 1) := dop_28 (zb_X11_compareToFoot_0 35 rfl)
theorem dX11_compareToFoot_36 : decode cX11_compareToFoot 36 = .ok (.iadd, 1) := dop_96 (zb_X11_compareToFoot_0 36 rfl)
theorem dX11_compareToFoot_37 : decode cX11_compareToFoot 37 = .ok (.invokevirtual 427, 3) := dop_182 (zb_X11_compareToFoot_0 37 rfl) (zb_X11_compareToFoot_0 38 rfl) (zb_X11_compareToFoot_0 39 rfl) rfl
theorem zb_X11_compareToFoot_1 (j : Nat) {n : Nat} (e : zw_X11_compareToFoot_1[j]? = some n) : dby cX11_compareToFoot (40 + j) n := dw_b (t := []) ze_X11_compareToFoot_1 j e
theorem dX11_compareToFoot_40 : decode cX11_compareToFoot 40 = .ok (.iconst 1, 1) := dop_4 (zb_X11_compareToFoot_1 0 rfl)
theorem dX11_compareToFoot_41 : decode cX11_compareToFoot 41 = .ok (.ireturn, 1) := dop_172 (zb_X11_compareToFoot_1 1 rfl)
def zw_X11_isMeasured_0 : List Nat := [27, 16, 12, 162, 0, 18, 42, 180, 0, 12, 27, 182, 1, 73, 153, 0, 7, 4, 167, 0, 4, 3, 172]
def zt_X11_isMeasured_0 : List Nat := zw_X11_isMeasured_0 ++ []
theorem ze_X11_isMeasured_0 : (dcn cX11_isMeasured).drop 0 = zt_X11_isMeasured_0 := by decide +kernel
theorem zb_X11_isMeasured_0 (j : Nat) {n : Nat} (e : zw_X11_isMeasured_0[j]? = some n) : dby cX11_isMeasured (0 + j) n := dw_b (t := []) ze_X11_isMeasured_0 j e
theorem dX11_isMeasured_0 : decode cX11_isMeasured 0 = .ok (.iload_n 1, 1) := dop_27 (zb_X11_isMeasured_0 0 rfl)
theorem dX11_isMeasured_1 : decode cX11_isMeasured 1 = .ok (.bipush 12, 2) := dop_16 (zb_X11_isMeasured_0 1 rfl) (zb_X11_isMeasured_0 2 rfl) rfl
theorem dX11_isMeasured_3 : decode cX11_isMeasured 3 = .ok (.if_icmp .ge 18, 3) := dop_162 (zb_X11_isMeasured_0 3 rfl) (zb_X11_isMeasured_0 4 rfl) (zb_X11_isMeasured_0 5 rfl) rfl
theorem dX11_isMeasured_6 : decode cX11_isMeasured 6 = .ok (.aload_n 0, 1) := dop_42 (zb_X11_isMeasured_0 6 rfl)
theorem dX11_isMeasured_7 : decode cX11_isMeasured 7 = .ok (.getfield 12, 3) := dop_180 (zb_X11_isMeasured_0 7 rfl) (zb_X11_isMeasured_0 8 rfl) (zb_X11_isMeasured_0 9 rfl) rfl
theorem dX11_isMeasured_10 : decode cX11_isMeasured 10 = .ok (.iload_n 1, 1) := dop_27 (zb_X11_isMeasured_0 10 rfl)
theorem dX11_isMeasured_11 : decode cX11_isMeasured 11 = .ok (.invokevirtual 329, 3) := dop_182 (zb_X11_isMeasured_0 11 rfl) (zb_X11_isMeasured_0 12 rfl) (zb_X11_isMeasured_0 13 rfl) rfl
theorem dX11_isMeasured_14 : decode cX11_isMeasured 14 = .ok (.ifCond .eq 7, 3) := dop_153 (zb_X11_isMeasured_0 14 rfl) (zb_X11_isMeasured_0 15 rfl) (zb_X11_isMeasured_0 16 rfl) rfl
theorem dX11_isMeasured_17 : decode cX11_isMeasured 17 = .ok (.iconst 1, 1) := dop_4 (zb_X11_isMeasured_0 17 rfl)
theorem dX11_isMeasured_18 : decode cX11_isMeasured 18 = .ok (.goto 4, 3) := dop_167 (zb_X11_isMeasured_0 18 rfl) (zb_X11_isMeasured_0 19 rfl) (zb_X11_isMeasured_0 20 rfl) rfl
theorem dX11_isMeasured_21 : decode cX11_isMeasured 21 = .ok (.iconst 0, 1) := dop_3 (zb_X11_isMeasured_0 21 rfl)
theorem dX11_isMeasured_22 : decode cX11_isMeasured 22 = .ok (.ireturn, 1) := dop_172 (zb_X11_isMeasured_0 22 rfl)
def zw_X11_addFeet_2 : List Nat := [180, 0, 53, 180, 0, 237, 180, 0, 231, 182, 1, 175, 177]
def zt_X11_addFeet_2 : List Nat := zw_X11_addFeet_2 ++ []
def zw_X11_addFeet_1 : List Nat := [180, 0, 227, 180, 1, 8, 3, 182, 1, 175, 167, 0, 40, 42, 180, 0, 60, 42, 180, 0, 53, 180, 0, 237, 180, 1, 8, 42, 180, 0, 53, 180, 0, 237, 180, 1, 12, 42]
def zt_X11_addFeet_1 : List Nat := zw_X11_addFeet_1 ++ zt_X11_addFeet_2
def zw_X11_addFeet_0 : List Nat := [42, 180, 0, 53, 42, 180, 0, 46, 27, 16, 12, 28, 96, 182, 1, 171, 29, 154, 0, 34, 42, 180, 0, 60, 42, 180, 0, 53, 180, 0, 227, 180, 1, 12, 42, 180, 0, 53]
def zt_X11_addFeet_0 : List Nat := zw_X11_addFeet_0 ++ zt_X11_addFeet_1
theorem ze_X11_addFeet_0 : (dcn cX11_addFeet).drop 0 = zt_X11_addFeet_0 := by decide +kernel
theorem ze_X11_addFeet_1 : (dcn cX11_addFeet).drop 38 = zt_X11_addFeet_1 := dw_n (wl := zw_X11_addFeet_0) ze_X11_addFeet_0 rfl
theorem zb_X11_addFeet_0 (j : Nat) {n : Nat} (e : zw_X11_addFeet_0[j]? = some n) : dby cX11_addFeet (0 + j) n := dw_b (t := zt_X11_addFeet_1) ze_X11_addFeet_0 j e
theorem dX11_addFeet_0 : decode cX11_addFeet 0 = .ok (.aload_n 0, 1) := dop_42 (zb_X11_addFeet_0 0 rfl)
theorem dX11_addFeet_1 : decode cX11_addFeet 1 = .ok (.getfield 53, 3) := dop_180 (zb_X11_addFeet_0 1 rfl) (zb_X11_addFeet_0 2 rfl) (zb_X11_addFeet_0 3 rfl) rfl
theorem dX11_addFeet_4 : decode cX11_addFeet 4 = .ok (.aload_n 0, 1) := dop_42 (zb_X11_addFeet_0 4 rfl)
theorem dX11_addFeet_5 : decode cX11_addFeet 5 = .ok (.getfield 46, 3) := dop_180 (zb_X11_addFeet_0 5 rfl) (zb_X11_addFeet_0 6 rfl) (zb_X11_addFeet_0 7 rfl) rfl
theorem dX11_addFeet_8 : decode cX11_addFeet 8 = .ok (.iload_n 1, 1) := dop_27 (zb_X11_addFeet_0 8 rfl)
theorem dX11_addFeet_9 : decode cX11_addFeet 9 = .ok (.bipush 12, 2) := dop_16 (zb_X11_addFeet_0 9 rfl) (zb_X11_addFeet_0 10 rfl) rfl
theorem dX11_addFeet_11 : decode cX11_addFeet 11 = .ok (.iload_n 2, 1) := dop_28 (zb_X11_addFeet_0 11 rfl)
theorem dX11_addFeet_12 : decode cX11_addFeet 12 = .ok (.iadd, 1) := dop_96 (zb_X11_addFeet_0 12 rfl)
theorem dX11_addFeet_13 : decode cX11_addFeet 13 = .ok (.invokevirtual 427, 3) := dop_182 (zb_X11_addFeet_0 13 rfl) (zb_X11_addFeet_0 14 rfl) (zb_X11_addFeet_0 15 rfl) rfl
theorem dX11_addFeet_16 : decode cX11_addFeet 16 = .ok (.iload_n 3, 1) := dop_29 (zb_X11_addFeet_0 16 rfl)
theorem dX11_addFeet_17 : decode cX11_addFeet 17 = .ok (.ifCond .ne 34, 3) := dop_154 (zb_X11_addFeet_0 17 rfl) (zb_X11_addFeet_0 18 rfl) (zb_X11_addFeet_0 19 rfl) rfl
theorem dX11_addFeet_20 : decode cX11_addFeet 20 = .ok (.aload_n 0, 1) := dop_42 (zb_X11_addFeet_0 20 rfl)
theorem dX11_addFeet_21 : decode cX11_addFeet 21 = .ok (.getfield 60, 3) := dop_180 (zb_X11_addFeet_0 21 rfl) (zb_X11_addFeet_0 22 rfl) (zb_X11_addFeet_0 23 rfl) rfl
theorem dX11_addFeet_24 : decode cX11_addFeet 24 = .ok (.aload_n 0, 1) := dop_42 (zb_X11_addFeet_0 24 rfl)
theorem dX11_addFeet_25 : decode cX11_addFeet 25 = .ok (.getfield 53, 3) := dop_180 (zb_X11_addFeet_0 25 rfl) (zb_X11_addFeet_0 26 rfl) (zb_X11_addFeet_0 27 rfl) rfl
theorem dX11_addFeet_28 : decode cX11_addFeet 28 = .ok (.getfield 227, 3) := dop_180 (zb_X11_addFeet_0 28 rfl) (zb_X11_addFeet_0 29 rfl) (zb_X11_addFeet_0 30 rfl) rfl
theorem dX11_addFeet_31 : decode cX11_addFeet 31 = .ok (.getfield 268, 3) := dop_180 (zb_X11_addFeet_0 31 rfl) (zb_X11_addFeet_0 32 rfl) (zb_X11_addFeet_0 33 rfl) rfl
theorem dX11_addFeet_34 : decode cX11_addFeet 34 = .ok (.aload_n 0, 1) := dop_42 (zb_X11_addFeet_0 34 rfl)
theorem dX11_addFeet_35 : decode cX11_addFeet 35 = .ok (.getfield 53, 3) := dop_180 (zb_X11_addFeet_0 35 rfl) (zb_X11_addFeet_0 36 rfl) (zb_X11_addFeet_0 37 rfl) rfl
theorem ze_X11_addFeet_2 : (dcn cX11_addFeet).drop 76 = zt_X11_addFeet_2 := dw_n (wl := zw_X11_addFeet_1) ze_X11_addFeet_1 rfl
theorem zb_X11_addFeet_1 (j : Nat) {n : Nat} (e : zw_X11_addFeet_1[j]? = some n) : dby cX11_addFeet (38 + j) n := dw_b (t := zt_X11_addFeet_2) ze_X11_addFeet_1 j e
theorem dX11_addFeet_38 : decode cX11_addFeet 38 = .ok (.getfield 227, 3) := dop_180 (zb_X11_addFeet_1 0 rfl) (zb_X11_addFeet_1 1 rfl) (zb_X11_addFeet_1 2 rfl) rfl
theorem dX11_addFeet_41 : decode cX11_addFeet 41 = .ok (.getfield 264, 3) := dop_180 (zb_X11_addFeet_1 3 rfl) (zb_X11_addFeet_1 4 rfl) (zb_X11_addFeet_1 5 rfl) rfl
theorem dX11_addFeet_44 : decode cX11_addFeet 44 = .ok (.iconst 0, 1) := dop_3 (zb_X11_addFeet_1 6 rfl)
theorem dX11_addFeet_45 : decode cX11_addFeet 45 = .ok (.invokevirtual 431, 3) := dop_182 (zb_X11_addFeet_1 7 rfl) (zb_X11_addFeet_1 8 rfl) (zb_X11_addFeet_1 9 rfl) rfl
theorem dX11_addFeet_48 : decode cX11_addFeet 48 = .ok (.goto 40, 3) := dop_167 (zb_X11_addFeet_1 10 rfl) (zb_X11_addFeet_1 11 rfl) (zb_X11_addFeet_1 12 rfl) rfl
theorem dX11_addFeet_51 : decode cX11_addFeet 51 = .ok (.aload_n 0, 1) := dop_42 (zb_X11_addFeet_1 13 rfl)
theorem dX11_addFeet_52 : decode cX11_addFeet 52 = .ok (.getfield 60, 3) := dop_180 (zb_X11_addFeet_1 14 rfl) (zb_X11_addFeet_1 15 rfl) (zb_X11_addFeet_1 16 rfl) rfl
theorem dX11_addFeet_55 : decode cX11_addFeet 55 = .ok (.aload_n 0, 1) := dop_42 (zb_X11_addFeet_1 17 rfl)
theorem dX11_addFeet_56 : decode cX11_addFeet 56 = .ok (.getfield 53, 3) := dop_180 (zb_X11_addFeet_1 18 rfl) (zb_X11_addFeet_1 19 rfl) (zb_X11_addFeet_1 20 rfl) rfl
theorem dX11_addFeet_59 : decode cX11_addFeet 59 = .ok (.getfield 237, 3) := dop_180 (zb_X11_addFeet_1 21 rfl) (zb_X11_addFeet_1 22 rfl) (zb_X11_addFeet_1 23 rfl) rfl
theorem dX11_addFeet_62 : decode cX11_addFeet 62 = .ok (.getfield 264, 3) := dop_180 (zb_X11_addFeet_1 24 rfl) (zb_X11_addFeet_1 25 rfl) (zb_X11_addFeet_1 26 rfl) rfl
theorem dX11_addFeet_65 : decode cX11_addFeet 65 = .ok (.aload_n 0, 1) := dop_42 (zb_X11_addFeet_1 27 rfl)
theorem dX11_addFeet_66 : decode cX11_addFeet 66 = .ok (.getfield 53, 3) := dop_180 (zb_X11_addFeet_1 28 rfl) (zb_X11_addFeet_1 29 rfl) (zb_X11_addFeet_1 30 rfl) rfl
theorem dX11_addFeet_69 : decode cX11_addFeet 69 = .ok (.getfield 237, 3) := dop_180 (zb_X11_addFeet_1 31 rfl) (zb_X11_addFeet_1 32 rfl) (zb_X11_addFeet_1 33 rfl) rfl
theorem dX11_addFeet_72 : decode cX11_addFeet 72 = .ok (.getfield 268, 3) := dop_180 (zb_X11_addFeet_1 34 rfl) (zb_X11_addFeet_1 35 rfl) (zb_X11_addFeet_1 36 rfl) rfl
theorem dX11_addFeet_75 : decode cX11_addFeet 75 = .ok (.aload_n 0, 1) := dop_42 (zb_X11_addFeet_1 37 rfl)
theorem zb_X11_addFeet_2 (j : Nat) {n : Nat} (e : zw_X11_addFeet_2[j]? = some n) : dby cX11_addFeet (76 + j) n := dw_b (t := []) ze_X11_addFeet_2 j e
theorem dX11_addFeet_76 : decode cX11_addFeet 76 = .ok (.getfield 53, 3) := dop_180 (zb_X11_addFeet_2 0 rfl) (zb_X11_addFeet_2 1 rfl) (zb_X11_addFeet_2 2 rfl) rfl
theorem dX11_addFeet_79 : decode cX11_addFeet 79 = .ok (.getfield 237, 3) := dop_180 (zb_X11_addFeet_2 3 rfl) (zb_X11_addFeet_2 4 rfl) (zb_X11_addFeet_2 5 rfl) rfl
theorem dX11_addFeet_82 : decode cX11_addFeet 82 = .ok (.getfield 231, 3) := dop_180 (zb_X11_addFeet_2 6 rfl) (zb_X11_addFeet_2 7 rfl) (zb_X11_addFeet_2 8 rfl) rfl
theorem dX11_addFeet_85 : decode cX11_addFeet 85 = .ok (.invokevirtual 431, 3) := dop_182 (zb_X11_addFeet_2 9 rfl) (zb_X11_addFeet_2 10 rfl) (zb_X11_addFeet_2 11 rfl) rfl
theorem dX11_addFeet_88 : decode cX11_addFeet 88 = .ok (.return_, 1) := dop_177 (zb_X11_addFeet_2 12 rfl)
def zw_X11_manyWholes_0 : List Nat := [42, 180, 0, 12, 27, 182, 1, 73, 154, 0, 5, 2, 172, 42, 180, 0, 53, 42, 180, 0, 46, 27, 16, 12, 28, 96, 182, 1, 171, 42, 180, 0, 53, 4, 182, 1, 54, 172]
def zt_X11_manyWholes_0 : List Nat := zw_X11_manyWholes_0 ++ []
theorem ze_X11_manyWholes_0 : (dcn cX11_manyWholes).drop 0 = zt_X11_manyWholes_0 := by decide +kernel
theorem zb_X11_manyWholes_0 (j : Nat) {n : Nat} (e : zw_X11_manyWholes_0[j]? = some n) : dby cX11_manyWholes (0 + j) n := dw_b (t := []) ze_X11_manyWholes_0 j e
theorem dX11_manyWholes_0 : decode cX11_manyWholes 0 = .ok (.aload_n 0, 1) := dop_42 (zb_X11_manyWholes_0 0 rfl)
theorem dX11_manyWholes_1 : decode cX11_manyWholes 1 = .ok (.getfield 12, 3) := dop_180 (zb_X11_manyWholes_0 1 rfl) (zb_X11_manyWholes_0 2 rfl) (zb_X11_manyWholes_0 3 rfl) rfl
theorem dX11_manyWholes_4 : decode cX11_manyWholes 4 = .ok (.iload_n 1, 1) := dop_27 (zb_X11_manyWholes_0 4 rfl)
theorem dX11_manyWholes_5 : decode cX11_manyWholes 5 = .ok (.invokevirtual 329, 3) := dop_182 (zb_X11_manyWholes_0 5 rfl) (zb_X11_manyWholes_0 6 rfl) (zb_X11_manyWholes_0 7 rfl) rfl
theorem dX11_manyWholes_8 : decode cX11_manyWholes 8 = .ok (.ifCond .ne 5, 3) := dop_154 (zb_X11_manyWholes_0 8 rfl) (zb_X11_manyWholes_0 9 rfl) (zb_X11_manyWholes_0 10 rfl) rfl
theorem dX11_manyWholes_11 : decode cX11_manyWholes 11 = .ok (.iconst (-1), 1) := dop_2 (zb_X11_manyWholes_0 11 rfl)
theorem dX11_manyWholes_12 : decode cX11_manyWholes 12 = .ok (.ireturn, 1) := dop_172 (zb_X11_manyWholes_0 12 rfl)
theorem dX11_manyWholes_13 : decode cX11_manyWholes 13 = .ok (.aload_n 0, 1) := dop_42 (zb_X11_manyWholes_0 13 rfl)
theorem dX11_manyWholes_14 : decode cX11_manyWholes 14 = .ok (.getfield 53, 3) := dop_180 (zb_X11_manyWholes_0 14 rfl) (zb_X11_manyWholes_0 15 rfl) (zb_X11_manyWholes_0 16 rfl) rfl
theorem dX11_manyWholes_17 : decode cX11_manyWholes 17 = .ok (.aload_n 0, 1) := dop_42 (zb_X11_manyWholes_0 17 rfl)
theorem dX11_manyWholes_18 : decode cX11_manyWholes 18 = .ok (.getfield 46, 3) := dop_180 (zb_X11_manyWholes_0 18 rfl) (zb_X11_manyWholes_0 19 rfl) (zb_X11_manyWholes_0 20 rfl) rfl
theorem dX11_manyWholes_21 : decode cX11_manyWholes 21 = .ok (.iload_n 1, 1) := dop_27 (zb_X11_manyWholes_0 21 rfl)
theorem dX11_manyWholes_22 : decode cX11_manyWholes 22 = .ok (.bipush 12, 2) := dop_16 (zb_X11_manyWholes_0 22 rfl) (zb_X11_manyWholes_0 23 rfl) rfl
theorem dX11_manyWholes_24 : decode cX11_manyWholes 24 = .ok (.iload_n 2, 1) := dop_28 (zb_X11_manyWholes_0 24 rfl)
theorem dX11_manyWholes_25 : decode cX11_manyWholes 25 = .ok (.iadd, 1) := dop_96 (zb_X11_manyWholes_0 25 rfl)
theorem dX11_manyWholes_26 : decode cX11_manyWholes 26 = .ok (.invokevirtual 427, 3) := dop_182 (zb_X11_manyWholes_0 26 rfl) (zb_X11_manyWholes_0 27 rfl) (zb_X11_manyWholes_0 28 rfl) rfl
theorem dX11_manyWholes_29 : decode cX11_manyWholes 29 = .ok (.aload_n 0, 1) := dop_42 (zb_X11_manyWholes_0 29 rfl)
theorem dX11_manyWholes_30 : decode cX11_manyWholes 30 = .ok (.getfield 53, 3) := dop_180 (zb_X11_manyWholes_0 30 rfl) (zb_X11_manyWholes_0 31 rfl) (zb_X11_manyWholes_0 32 rfl) rfl
theorem dX11_manyWholes_33 : decode cX11_manyWholes 33 = .ok (.iconst 1, 1) := dop_4 (zb_X11_manyWholes_0 33 rfl)
theorem dX11_manyWholes_34 : decode cX11_manyWholes 34 = .ok (.invokevirtual 310, 3) := dop_182 (zb_X11_manyWholes_0 34 rfl) (zb_X11_manyWholes_0 35 rfl) (zb_X11_manyWholes_0 36 rfl) rfl
theorem dX11_manyWholes_37 : decode cX11_manyWholes 37 = .ok (.ireturn, 1) := dop_172 (zb_X11_manyWholes_0 37 rfl)
def zw_X11_couldBeTold_1 : List Nat := [96, 182, 1, 171, 42, 180, 0, 53, 29, 21, 4, 182, 1, 48, 172]
def zt_X11_couldBeTold_1 : List Nat := zw_X11_couldBeTold_1 ++ []
def zw_X11_couldBeTold_0 : List Nat := [42, 180, 0, 12, 180, 0, 120, 28, 46, 54, 5, 21, 5, 2, 160, 0, 5, 3, 172, 42, 180, 0, 53, 42, 180, 0, 46, 42, 180, 0, 12, 27, 28, 182, 1, 153, 16, 12, 21, 5]
def zt_X11_couldBeTold_0 : List Nat := zw_X11_couldBeTold_0 ++ zt_X11_couldBeTold_1
theorem ze_X11_couldBeTold_0 : (dcn cX11_couldBeTold).drop 0 = zt_X11_couldBeTold_0 := by decide +kernel
theorem ze_X11_couldBeTold_1 : (dcn cX11_couldBeTold).drop 40 = zt_X11_couldBeTold_1 := dw_n (wl := zw_X11_couldBeTold_0) ze_X11_couldBeTold_0 rfl
theorem zb_X11_couldBeTold_0 (j : Nat) {n : Nat} (e : zw_X11_couldBeTold_0[j]? = some n) : dby cX11_couldBeTold (0 + j) n := dw_b (t := zt_X11_couldBeTold_1) ze_X11_couldBeTold_0 j e
theorem dX11_couldBeTold_0 : decode cX11_couldBeTold 0 = .ok (.aload_n 0, 1) := dop_42 (zb_X11_couldBeTold_0 0 rfl)
theorem dX11_couldBeTold_1 : decode cX11_couldBeTold 1 = .ok (.getfield 12, 3) := dop_180 (zb_X11_couldBeTold_0 1 rfl) (zb_X11_couldBeTold_0 2 rfl) (zb_X11_couldBeTold_0 3 rfl) rfl
theorem dX11_couldBeTold_4 : decode cX11_couldBeTold 4 = .ok (.getfield 120, 3) := dop_180 (zb_X11_couldBeTold_0 4 rfl) (zb_X11_couldBeTold_0 5 rfl) (zb_X11_couldBeTold_0 6 rfl) rfl
theorem dX11_couldBeTold_7 : decode cX11_couldBeTold 7 = .ok (.iload_n 2, 1) := dop_28 (zb_X11_couldBeTold_0 7 rfl)
theorem dX11_couldBeTold_8 : decode cX11_couldBeTold 8 = .ok (.iaload, 1) := dop_46 (zb_X11_couldBeTold_0 8 rfl)
theorem dX11_couldBeTold_9 : decode cX11_couldBeTold 9 = .ok (.istore 5, 2) := dop_54 (zb_X11_couldBeTold_0 9 rfl) (zb_X11_couldBeTold_0 10 rfl)
theorem dX11_couldBeTold_11 : decode cX11_couldBeTold 11 = .ok (.iload 5, 2) := dop_21 (zb_X11_couldBeTold_0 11 rfl) (zb_X11_couldBeTold_0 12 rfl)
theorem dX11_couldBeTold_13 : decode cX11_couldBeTold 13 = .ok (.iconst (-1), 1) := dop_2 (zb_X11_couldBeTold_0 13 rfl)
theorem dX11_couldBeTold_14 : decode cX11_couldBeTold 14 = .ok (.if_icmp .ne 5, 3) := dop_160 (zb_X11_couldBeTold_0 14 rfl) (zb_X11_couldBeTold_0 15 rfl) (zb_X11_couldBeTold_0 16 rfl) rfl
theorem dX11_couldBeTold_17 : decode cX11_couldBeTold 17 = .ok (.iconst 0, 1) := dop_3 (zb_X11_couldBeTold_0 17 rfl)
theorem dX11_couldBeTold_18 : decode cX11_couldBeTold 18 = .ok (.ireturn, 1) := dop_172 (zb_X11_couldBeTold_0 18 rfl)
theorem dX11_couldBeTold_19 : decode cX11_couldBeTold 19 = .ok (.aload_n 0, 1) := dop_42 (zb_X11_couldBeTold_0 19 rfl)
theorem dX11_couldBeTold_20 : decode cX11_couldBeTold 20 = .ok (.getfield 53, 3) := dop_180 (zb_X11_couldBeTold_0 20 rfl) (zb_X11_couldBeTold_0 21 rfl) (zb_X11_couldBeTold_0 22 rfl) rfl
theorem dX11_couldBeTold_23 : decode cX11_couldBeTold 23 = .ok (.aload_n 0, 1) := dop_42 (zb_X11_couldBeTold_0 23 rfl)
theorem dX11_couldBeTold_24 : decode cX11_couldBeTold 24 = .ok (.getfield 46, 3) := dop_180 (zb_X11_couldBeTold_0 24 rfl) (zb_X11_couldBeTold_0 25 rfl) (zb_X11_couldBeTold_0 26 rfl) rfl
theorem dX11_couldBeTold_27 : decode cX11_couldBeTold 27 = .ok (.aload_n 0, 1) := dop_42 (zb_X11_couldBeTold_0 27 rfl)
theorem dX11_couldBeTold_28 : decode cX11_couldBeTold 28 = .ok (.getfield 12, 3) := dop_180 (zb_X11_couldBeTold_0 28 rfl) (zb_X11_couldBeTold_0 29 rfl) (zb_X11_couldBeTold_0 30 rfl) rfl
theorem dX11_couldBeTold_31 : decode cX11_couldBeTold 31 = .ok (.iload_n 1, 1) := dop_27 (zb_X11_couldBeTold_0 31 rfl)
theorem dX11_couldBeTold_32 : decode cX11_couldBeTold 32 = .ok (.iload_n 2, 1) := dop_28 (zb_X11_couldBeTold_0 32 rfl)
theorem dX11_couldBeTold_33 : decode cX11_couldBeTold 33 = .ok (.invokevirtual 409, 3) := dop_182 (zb_X11_couldBeTold_0 33 rfl) (zb_X11_couldBeTold_0 34 rfl) (zb_X11_couldBeTold_0 35 rfl) rfl
theorem dX11_couldBeTold_36 : decode cX11_couldBeTold 36 = .ok (.bipush 12, 2) := dop_16 (zb_X11_couldBeTold_0 36 rfl) (zb_X11_couldBeTold_0 37 rfl) rfl
theorem dX11_couldBeTold_38 : decode cX11_couldBeTold 38 = .ok (.iload 5, 2) := dop_21 (zb_X11_couldBeTold_0 38 rfl) (zb_X11_couldBeTold_0 39 rfl)
theorem zb_X11_couldBeTold_1 (j : Nat) {n : Nat} (e : zw_X11_couldBeTold_1[j]? = some n) : dby cX11_couldBeTold (40 + j) n := dw_b (t := []) ze_X11_couldBeTold_1 j e
theorem dX11_couldBeTold_40 : decode cX11_couldBeTold 40 = .ok (.iadd, 1) := dop_96 (zb_X11_couldBeTold_1 0 rfl)
theorem dX11_couldBeTold_41 : decode cX11_couldBeTold 41 = .ok (.invokevirtual 427, 3) := dop_182 (zb_X11_couldBeTold_1 1 rfl) (zb_X11_couldBeTold_1 2 rfl) (zb_X11_couldBeTold_1 3 rfl) rfl
theorem dX11_couldBeTold_44 : decode cX11_couldBeTold 44 = .ok (.aload_n 0, 1) := dop_42 (zb_X11_couldBeTold_1 4 rfl)
theorem dX11_couldBeTold_45 : decode cX11_couldBeTold 45 = .ok (.getfield 53, 3) := dop_180 (zb_X11_couldBeTold_1 5 rfl) (zb_X11_couldBeTold_1 6 rfl) (zb_X11_couldBeTold_1 7 rfl) rfl
theorem dX11_couldBeTold_48 : decode cX11_couldBeTold 48 = .ok (.iload_n 3, 1) := dop_29 (zb_X11_couldBeTold_1 8 rfl)
theorem dX11_couldBeTold_49 : decode cX11_couldBeTold 49 = .ok (.iload 4, 2) := dop_21 (zb_X11_couldBeTold_1 9 rfl) (zb_X11_couldBeTold_1 10 rfl)
theorem dX11_couldBeTold_51 : decode cX11_couldBeTold 51 = .ok (.invokevirtual 304, 3) := dop_182 (zb_X11_couldBeTold_1 11 rfl) (zb_X11_couldBeTold_1 12 rfl) (zb_X11_couldBeTold_1 13 rfl) rfl
theorem dX11_couldBeTold_54 : decode cX11_couldBeTold 54 = .ok (.ireturn, 1) := dop_172 (zb_X11_couldBeTold_1 14 rfl)
def zw_X11_ofWeeks_1 : List Nat := [167, 255, 229, 28, 172]
def zt_X11_ofWeeks_1 : List Nat := zw_X11_ofWeeks_1 ++ []
def zw_X11_ofWeeks_0 : List Nat := [27, 154, 0, 8, 26, 184, 1, 159, 172, 2, 61, 3, 62, 29, 16, 32, 162, 0, 27, 26, 29, 184, 1, 179, 153, 0, 13, 29, 61, 27, 4, 160, 0, 6, 167, 0, 9, 132, 3, 1]
def zt_X11_ofWeeks_0 : List Nat := zw_X11_ofWeeks_0 ++ zt_X11_ofWeeks_1
theorem ze_X11_ofWeeks_0 : (dcn cX11_ofWeeks).drop 0 = zt_X11_ofWeeks_0 := by decide +kernel
theorem ze_X11_ofWeeks_1 : (dcn cX11_ofWeeks).drop 40 = zt_X11_ofWeeks_1 := dw_n (wl := zw_X11_ofWeeks_0) ze_X11_ofWeeks_0 rfl
theorem zb_X11_ofWeeks_0 (j : Nat) {n : Nat} (e : zw_X11_ofWeeks_0[j]? = some n) : dby cX11_ofWeeks (0 + j) n := dw_b (t := zt_X11_ofWeeks_1) ze_X11_ofWeeks_0 j e
theorem dX11_ofWeeks_0 : decode cX11_ofWeeks 0 = .ok (.iload_n 1, 1) := dop_27 (zb_X11_ofWeeks_0 0 rfl)
theorem dX11_ofWeeks_1 : decode cX11_ofWeeks 1 = .ok (.ifCond .ne 8, 3) := dop_154 (zb_X11_ofWeeks_0 1 rfl) (zb_X11_ofWeeks_0 2 rfl) (zb_X11_ofWeeks_0 3 rfl) rfl
theorem dX11_ofWeeks_4 : decode cX11_ofWeeks 4 = .ok (.iload_n 0, 1) := dop_26 (zb_X11_ofWeeks_0 4 rfl)
theorem dX11_ofWeeks_5 : decode cX11_ofWeeks 5 = .ok (.invokestatic 415, 3) := dop_184 (zb_X11_ofWeeks_0 5 rfl) (zb_X11_ofWeeks_0 6 rfl) (zb_X11_ofWeeks_0 7 rfl) rfl
theorem dX11_ofWeeks_8 : decode cX11_ofWeeks 8 = .ok (.ireturn, 1) := dop_172 (zb_X11_ofWeeks_0 8 rfl)
theorem dX11_ofWeeks_9 : decode cX11_ofWeeks 9 = .ok (.iconst (-1), 1) := dop_2 (zb_X11_ofWeeks_0 9 rfl)
theorem dX11_ofWeeks_10 : decode cX11_ofWeeks 10 = .ok (.istore_n 2, 1) := dop_61 (zb_X11_ofWeeks_0 10 rfl)
theorem dX11_ofWeeks_11 : decode cX11_ofWeeks 11 = .ok (.iconst 0, 1) := dop_3 (zb_X11_ofWeeks_0 11 rfl)
theorem dX11_ofWeeks_12 : decode cX11_ofWeeks 12 = .ok (.istore_n 3, 1) := dop_62 (zb_X11_ofWeeks_0 12 rfl)
theorem dX11_ofWeeks_13 : decode cX11_ofWeeks 13 = .ok (.iload_n 3, 1) := dop_29 (zb_X11_ofWeeks_0 13 rfl)
theorem dX11_ofWeeks_14 : decode cX11_ofWeeks 14 = .ok (.bipush 32, 2) := dop_16 (zb_X11_ofWeeks_0 14 rfl) (zb_X11_ofWeeks_0 15 rfl) rfl
theorem dX11_ofWeeks_16 : decode cX11_ofWeeks 16 = .ok (.if_icmp .ge 27, 3) := dop_162 (zb_X11_ofWeeks_0 16 rfl) (zb_X11_ofWeeks_0 17 rfl) (zb_X11_ofWeeks_0 18 rfl) rfl
theorem dX11_ofWeeks_19 : decode cX11_ofWeeks 19 = .ok (.iload_n 0, 1) := dop_26 (zb_X11_ofWeeks_0 19 rfl)
theorem dX11_ofWeeks_20 : decode cX11_ofWeeks 20 = .ok (.iload_n 3, 1) := dop_29 (zb_X11_ofWeeks_0 20 rfl)
theorem dX11_ofWeeks_21 : decode cX11_ofWeeks 21 = .ok (.invokestatic 435, 3) := dop_184 (zb_X11_ofWeeks_0 21 rfl) (zb_X11_ofWeeks_0 22 rfl) (zb_X11_ofWeeks_0 23 rfl) rfl
theorem dX11_ofWeeks_24 : decode cX11_ofWeeks 24 = .ok (.ifCond .eq 13, 3) := dop_153 (zb_X11_ofWeeks_0 24 rfl) (zb_X11_ofWeeks_0 25 rfl) (zb_X11_ofWeeks_0 26 rfl) rfl
theorem dX11_ofWeeks_27 : decode cX11_ofWeeks 27 = .ok (.iload_n 3, 1) := dop_29 (zb_X11_ofWeeks_0 27 rfl)
theorem dX11_ofWeeks_28 : decode cX11_ofWeeks 28 = .ok (.istore_n 2, 1) := dop_61 (zb_X11_ofWeeks_0 28 rfl)
theorem dX11_ofWeeks_29 : decode cX11_ofWeeks 29 = .ok (.iload_n 1, 1) := dop_27 (zb_X11_ofWeeks_0 29 rfl)
theorem dX11_ofWeeks_30 : decode cX11_ofWeeks 30 = .ok (.iconst 1, 1) := dop_4 (zb_X11_ofWeeks_0 30 rfl)
theorem dX11_ofWeeks_31 : decode cX11_ofWeeks 31 = .ok (.if_icmp .ne 6, 3) := dop_160 (zb_X11_ofWeeks_0 31 rfl) (zb_X11_ofWeeks_0 32 rfl) (zb_X11_ofWeeks_0 33 rfl) rfl
theorem dX11_ofWeeks_34 : decode cX11_ofWeeks 34 = .ok (.goto 9, 3) := dop_167 (zb_X11_ofWeeks_0 34 rfl) (zb_X11_ofWeeks_0 35 rfl) (zb_X11_ofWeeks_0 36 rfl) rfl
theorem dX11_ofWeeks_37 : decode cX11_ofWeeks 37 = .ok (.iinc 3 1, 3) := dop_132 (zb_X11_ofWeeks_0 37 rfl) (zb_X11_ofWeeks_0 38 rfl) (zb_X11_ofWeeks_0 39 rfl) rfl
theorem zb_X11_ofWeeks_1 (j : Nat) {n : Nat} (e : zw_X11_ofWeeks_1[j]? = some n) : dby cX11_ofWeeks (40 + j) n := dw_b (t := []) ze_X11_ofWeeks_1 j e
theorem dX11_ofWeeks_40 : decode cX11_ofWeeks 40 = .ok (.goto (-27), 3) := dop_167 (zb_X11_ofWeeks_1 0 rfl) (zb_X11_ofWeeks_1 1 rfl) (zb_X11_ofWeeks_1 2 rfl) rfl
theorem dX11_ofWeeks_43 : decode cX11_ofWeeks 43 = .ok (.iload_n 2, 1) := dop_28 (zb_X11_ofWeeks_1 3 rfl)
theorem dX11_ofWeeks_44 : decode cX11_ofWeeks 44 = .ok (.ireturn, 1) := dop_172 (zb_X11_ofWeeks_1 4 rfl)
def zw_X11_hasBit_0 : List Nat := [26, 27, 122, 4, 126, 4, 160, 0, 7, 4, 167, 0, 4, 3, 172]
def zt_X11_hasBit_0 : List Nat := zw_X11_hasBit_0 ++ []
theorem ze_X11_hasBit_0 : (dcn cX11_hasBit).drop 0 = zt_X11_hasBit_0 := by decide +kernel
theorem zb_X11_hasBit_0 (j : Nat) {n : Nat} (e : zw_X11_hasBit_0[j]? = some n) : dby cX11_hasBit (0 + j) n := dw_b (t := []) ze_X11_hasBit_0 j e
theorem dX11_hasBit_0 : decode cX11_hasBit 0 = .ok (.iload_n 0, 1) := dop_26 (zb_X11_hasBit_0 0 rfl)
theorem dX11_hasBit_1 : decode cX11_hasBit 1 = .ok (.iload_n 1, 1) := dop_27 (zb_X11_hasBit_0 1 rfl)
theorem dX11_hasBit_2 : decode cX11_hasBit 2 = .ok (.ishr, 1) := dop_122 (zb_X11_hasBit_0 2 rfl)
theorem dX11_hasBit_3 : decode cX11_hasBit 3 = .ok (.iconst 1, 1) := dop_4 (zb_X11_hasBit_0 3 rfl)
theorem dX11_hasBit_4 : decode cX11_hasBit 4 = .ok (.iand, 1) := dop_126 (zb_X11_hasBit_0 4 rfl)
theorem dX11_hasBit_5 : decode cX11_hasBit 5 = .ok (.iconst 1, 1) := dop_4 (zb_X11_hasBit_0 5 rfl)
theorem dX11_hasBit_6 : decode cX11_hasBit 6 = .ok (.if_icmp .ne 7, 3) := dop_160 (zb_X11_hasBit_0 6 rfl) (zb_X11_hasBit_0 7 rfl) (zb_X11_hasBit_0 8 rfl) rfl
theorem dX11_hasBit_9 : decode cX11_hasBit 9 = .ok (.iconst 1, 1) := dop_4 (zb_X11_hasBit_0 9 rfl)
theorem dX11_hasBit_10 : decode cX11_hasBit 10 = .ok (.goto 4, 3) := dop_167 (zb_X11_hasBit_0 10 rfl) (zb_X11_hasBit_0 11 rfl) (zb_X11_hasBit_0 12 rfl) rfl
theorem dX11_hasBit_13 : decode cX11_hasBit 13 = .ok (.iconst 0, 1) := dop_3 (zb_X11_hasBit_0 13 rfl)
theorem dX11_hasBit_14 : decode cX11_hasBit 14 = .ok (.ireturn, 1) := dop_172 (zb_X11_hasBit_0 14 rfl)
def zw_X11_manyKnown_0 : List Nat := [3, 60, 3, 61, 28, 42, 190, 162, 0, 19, 42, 28, 46, 2, 159, 0, 6, 132, 1, 1, 132, 2, 1, 167, 255, 237, 27, 172]
def zt_X11_manyKnown_0 : List Nat := zw_X11_manyKnown_0 ++ []
theorem ze_X11_manyKnown_0 : (dcn cX11_manyKnown).drop 0 = zt_X11_manyKnown_0 := by decide +kernel
theorem zb_X11_manyKnown_0 (j : Nat) {n : Nat} (e : zw_X11_manyKnown_0[j]? = some n) : dby cX11_manyKnown (0 + j) n := dw_b (t := []) ze_X11_manyKnown_0 j e
theorem dX11_manyKnown_0 : decode cX11_manyKnown 0 = .ok (.iconst 0, 1) := dop_3 (zb_X11_manyKnown_0 0 rfl)
theorem dX11_manyKnown_1 : decode cX11_manyKnown 1 = .ok (.istore_n 1, 1) := dop_60 (zb_X11_manyKnown_0 1 rfl)
theorem dX11_manyKnown_2 : decode cX11_manyKnown 2 = .ok (.iconst 0, 1) := dop_3 (zb_X11_manyKnown_0 2 rfl)
theorem dX11_manyKnown_3 : decode cX11_manyKnown 3 = .ok (.istore_n 2, 1) := dop_61 (zb_X11_manyKnown_0 3 rfl)
theorem dX11_manyKnown_4 : decode cX11_manyKnown 4 = .ok (.iload_n 2, 1) := dop_28 (zb_X11_manyKnown_0 4 rfl)
theorem dX11_manyKnown_5 : decode cX11_manyKnown 5 = .ok (.aload_n 0, 1) := dop_42 (zb_X11_manyKnown_0 5 rfl)
theorem dX11_manyKnown_6 : decode cX11_manyKnown 6 = .ok (.arraylength, 1) := dop_190 (zb_X11_manyKnown_0 6 rfl)
theorem dX11_manyKnown_7 : decode cX11_manyKnown 7 = .ok (.if_icmp .ge 19, 3) := dop_162 (zb_X11_manyKnown_0 7 rfl) (zb_X11_manyKnown_0 8 rfl) (zb_X11_manyKnown_0 9 rfl) rfl
theorem dX11_manyKnown_10 : decode cX11_manyKnown 10 = .ok (.aload_n 0, 1) := dop_42 (zb_X11_manyKnown_0 10 rfl)
theorem dX11_manyKnown_11 : decode cX11_manyKnown 11 = .ok (.iload_n 2, 1) := dop_28 (zb_X11_manyKnown_0 11 rfl)
theorem dX11_manyKnown_12 : decode cX11_manyKnown 12 = .ok (.iaload, 1) := dop_46 (zb_X11_manyKnown_0 12 rfl)
theorem dX11_manyKnown_13 : decode cX11_manyKnown 13 = .ok (.iconst (-1), 1) := dop_2 (zb_X11_manyKnown_0 13 rfl)
theorem dX11_manyKnown_14 : decode cX11_manyKnown 14 = .ok (.if_icmp .eq 6, 3) := dop_159 (zb_X11_manyKnown_0 14 rfl) (zb_X11_manyKnown_0 15 rfl) (zb_X11_manyKnown_0 16 rfl) rfl
theorem dX11_manyKnown_17 : decode cX11_manyKnown 17 = .ok (.iinc 1 1, 3) := dop_132 (zb_X11_manyKnown_0 17 rfl) (zb_X11_manyKnown_0 18 rfl) (zb_X11_manyKnown_0 19 rfl) rfl
theorem dX11_manyKnown_20 : decode cX11_manyKnown 20 = .ok (.iinc 2 1, 3) := dop_132 (zb_X11_manyKnown_0 20 rfl) (zb_X11_manyKnown_0 21 rfl) (zb_X11_manyKnown_0 22 rfl) rfl
theorem dX11_manyKnown_23 : decode cX11_manyKnown 23 = .ok (.goto (-19), 3) := dop_167 (zb_X11_manyKnown_0 23 rfl) (zb_X11_manyKnown_0 24 rfl) (zb_X11_manyKnown_0 25 rfl) rfl
theorem dX11_manyKnown_26 : decode cX11_manyKnown 26 = .ok (.iload_n 1, 1) := dop_27 (zb_X11_manyKnown_0 26 rfl)
theorem dX11_manyKnown_27 : decode cX11_manyKnown 27 = .ok (.ireturn, 1) := dop_172 (zb_X11_manyKnown_0 27 rfl)
def zw_X11_within_0 : List Nat := [26, 27, 161, 0, 12, 26, 28, 163, 0, 7, 4, 167, 0, 4, 3, 172]
def zt_X11_within_0 : List Nat := zw_X11_within_0 ++ []
theorem ze_X11_within_0 : (dcn cX11_within).drop 0 = zt_X11_within_0 := by decide +kernel
theorem zb_X11_within_0 (j : Nat) {n : Nat} (e : zw_X11_within_0[j]? = some n) : dby cX11_within (0 + j) n := dw_b (t := []) ze_X11_within_0 j e
theorem dX11_within_0 : decode cX11_within 0 = .ok (.iload_n 0, 1) := dop_26 (zb_X11_within_0 0 rfl)
theorem dX11_within_1 : decode cX11_within 1 = .ok (.iload_n 1, 1) := dop_27 (zb_X11_within_0 1 rfl)
theorem dX11_within_2 : decode cX11_within 2 = .ok (.if_icmp .lt 12, 3) := dop_161 (zb_X11_within_0 2 rfl) (zb_X11_within_0 3 rfl) (zb_X11_within_0 4 rfl) rfl
theorem dX11_within_5 : decode cX11_within 5 = .ok (.iload_n 0, 1) := dop_26 (zb_X11_within_0 5 rfl)
theorem dX11_within_6 : decode cX11_within 6 = .ok (.iload_n 2, 1) := dop_28 (zb_X11_within_0 6 rfl)
theorem dX11_within_7 : decode cX11_within 7 = .ok (.if_icmp .gt 7, 3) := dop_163 (zb_X11_within_0 7 rfl) (zb_X11_within_0 8 rfl) (zb_X11_within_0 9 rfl) rfl
theorem dX11_within_10 : decode cX11_within 10 = .ok (.iconst 1, 1) := dop_4 (zb_X11_within_0 10 rfl)
theorem dX11_within_11 : decode cX11_within 11 = .ok (.goto 4, 3) := dop_167 (zb_X11_within_0 11 rfl) (zb_X11_within_0 12 rfl) (zb_X11_within_0 13 rfl) rfl
theorem dX11_within_14 : decode cX11_within 14 = .ok (.iconst 0, 1) := dop_3 (zb_X11_within_0 14 rfl)
theorem dX11_within_15 : decode cX11_within 15 = .ok (.ireturn, 1) := dop_172 (zb_X11_within_0 15 rfl)
def zw_X11_isThing_0 : List Nat := [26, 3, 8, 184, 0, 112, 172]
def zt_X11_isThing_0 : List Nat := zw_X11_isThing_0 ++ []
theorem ze_X11_isThing_0 : (dcn cX11_isThing).drop 0 = zt_X11_isThing_0 := by decide +kernel
theorem zb_X11_isThing_0 (j : Nat) {n : Nat} (e : zw_X11_isThing_0[j]? = some n) : dby cX11_isThing (0 + j) n := dw_b (t := []) ze_X11_isThing_0 j e
theorem dX11_isThing_0 : decode cX11_isThing 0 = .ok (.iload_n 0, 1) := dop_26 (zb_X11_isThing_0 0 rfl)
theorem dX11_isThing_1 : decode cX11_isThing 1 = .ok (.iconst 0, 1) := dop_3 (zb_X11_isThing_0 1 rfl)
theorem dX11_isThing_2 : decode cX11_isThing 2 = .ok (.iconst 5, 1) := dop_8 (zb_X11_isThing_0 2 rfl)
theorem dX11_isThing_3 : decode cX11_isThing 3 = .ok (.invokestatic 112, 3) := dop_184 (zb_X11_isThing_0 3 rfl) (zb_X11_isThing_0 4 rfl) (zb_X11_isThing_0 5 rfl) rfl
theorem dX11_isThing_6 : decode cX11_isThing 6 = .ok (.ireturn, 1) := dop_172 (zb_X11_isThing_0 6 rfl)
def zw_X11_isKeeper_0 : List Nat := [26, 3, 6, 184, 0, 112, 172]
def zt_X11_isKeeper_0 : List Nat := zw_X11_isKeeper_0 ++ []
theorem ze_X11_isKeeper_0 : (dcn cX11_isKeeper).drop 0 = zt_X11_isKeeper_0 := by decide +kernel
theorem zb_X11_isKeeper_0 (j : Nat) {n : Nat} (e : zw_X11_isKeeper_0[j]? = some n) : dby cX11_isKeeper (0 + j) n := dw_b (t := []) ze_X11_isKeeper_0 j e
theorem dX11_isKeeper_0 : decode cX11_isKeeper 0 = .ok (.iload_n 0, 1) := dop_26 (zb_X11_isKeeper_0 0 rfl)
theorem dX11_isKeeper_1 : decode cX11_isKeeper 1 = .ok (.iconst 0, 1) := dop_3 (zb_X11_isKeeper_0 1 rfl)
theorem dX11_isKeeper_2 : decode cX11_isKeeper 2 = .ok (.iconst 3, 1) := dop_6 (zb_X11_isKeeper_0 2 rfl)
theorem dX11_isKeeper_3 : decode cX11_isKeeper 3 = .ok (.invokestatic 112, 3) := dop_184 (zb_X11_isKeeper_0 3 rfl) (zb_X11_isKeeper_0 4 rfl) (zb_X11_isKeeper_0 5 rfl) rfl
theorem dX11_isKeeper_6 : decode cX11_isKeeper 6 = .ok (.ireturn, 1) := dop_172 (zb_X11_isKeeper_0 6 rfl)
def zw_X11_isWeek_0 : List Nat := [26, 3, 16, 31, 184, 0, 112, 172]
def zt_X11_isWeek_0 : List Nat := zw_X11_isWeek_0 ++ []
theorem ze_X11_isWeek_0 : (dcn cX11_isWeek).drop 0 = zt_X11_isWeek_0 := by decide +kernel
theorem zb_X11_isWeek_0 (j : Nat) {n : Nat} (e : zw_X11_isWeek_0[j]? = some n) : dby cX11_isWeek (0 + j) n := dw_b (t := []) ze_X11_isWeek_0 j e
theorem dX11_isWeek_0 : decode cX11_isWeek 0 = .ok (.iload_n 0, 1) := dop_26 (zb_X11_isWeek_0 0 rfl)
theorem dX11_isWeek_1 : decode cX11_isWeek 1 = .ok (.iconst 0, 1) := dop_3 (zb_X11_isWeek_0 1 rfl)
theorem dX11_isWeek_2 : decode cX11_isWeek 2 = .ok (.bipush 31, 2) := dop_16 (zb_X11_isWeek_0 2 rfl) (zb_X11_isWeek_0 3 rfl) rfl
theorem dX11_isWeek_4 : decode cX11_isWeek 4 = .ok (.invokestatic 112, 3) := dop_184 (zb_X11_isWeek_0 4 rfl) (zb_X11_isWeek_0 5 rfl) (zb_X11_isWeek_0 6 rfl) rfl
theorem dX11_isWeek_7 : decode cX11_isWeek 7 = .ok (.ireturn, 1) := dop_172 (zb_X11_isWeek_0 7 rfl)
def zw_X11_isNumber_0 : List Nat := [26, 4, 16, 99, 184, 0, 112, 172]
def zt_X11_isNumber_0 : List Nat := zw_X11_isNumber_0 ++ []
theorem ze_X11_isNumber_0 : (dcn cX11_isNumber).drop 0 = zt_X11_isNumber_0 := by decide +kernel
theorem zb_X11_isNumber_0 (j : Nat) {n : Nat} (e : zw_X11_isNumber_0[j]? = some n) : dby cX11_isNumber (0 + j) n := dw_b (t := []) ze_X11_isNumber_0 j e
theorem dX11_isNumber_0 : decode cX11_isNumber 0 = .ok (.iload_n 0, 1) := dop_26 (zb_X11_isNumber_0 0 rfl)
theorem dX11_isNumber_1 : decode cX11_isNumber 1 = .ok (.iconst 1, 1) := dop_4 (zb_X11_isNumber_0 1 rfl)
theorem dX11_isNumber_2 : decode cX11_isNumber 2 = .ok (.bipush 99, 2) := dop_16 (zb_X11_isNumber_0 2 rfl) (zb_X11_isNumber_0 3 rfl) rfl
theorem dX11_isNumber_4 : decode cX11_isNumber 4 = .ok (.invokestatic 112, 3) := dop_184 (zb_X11_isNumber_0 4 rfl) (zb_X11_isNumber_0 5 rfl) (zb_X11_isNumber_0 6 rfl) rfl
theorem dX11_isNumber_7 : decode cX11_isNumber 7 = .ok (.ireturn, 1) := dop_172 (zb_X11_isNumber_0 7 rfl)
def zw_X11_isKind_0 : List Nat := [26, 3, 5, 184, 0, 112, 172]
def zt_X11_isKind_0 : List Nat := zw_X11_isKind_0 ++ []
theorem ze_X11_isKind_0 : (dcn cX11_isKind).drop 0 = zt_X11_isKind_0 := by decide +kernel
theorem zb_X11_isKind_0 (j : Nat) {n : Nat} (e : zw_X11_isKind_0[j]? = some n) : dby cX11_isKind (0 + j) n := dw_b (t := []) ze_X11_isKind_0 j e
theorem dX11_isKind_0 : decode cX11_isKind 0 = .ok (.iload_n 0, 1) := dop_26 (zb_X11_isKind_0 0 rfl)
theorem dX11_isKind_1 : decode cX11_isKind 1 = .ok (.iconst 0, 1) := dop_3 (zb_X11_isKind_0 1 rfl)
theorem dX11_isKind_2 : decode cX11_isKind 2 = .ok (.iconst 2, 1) := dop_5 (zb_X11_isKind_0 2 rfl)
theorem dX11_isKind_3 : decode cX11_isKind 3 = .ok (.invokestatic 112, 3) := dop_184 (zb_X11_isKind_0 3 rfl) (zb_X11_isKind_0 4 rfl) (zb_X11_isKind_0 5 rfl) rfl
theorem dX11_isKind_6 : decode cX11_isKind 6 = .ok (.ireturn, 1) := dop_172 (zb_X11_isKind_0 6 rfl)
def zw_X11_isEntry_0 : List Nat := [26, 184, 0, 126, 153, 0, 28, 27, 184, 0, 108, 153, 0, 21, 28, 184, 1, 42, 153, 0, 14, 29, 184, 1, 45, 153, 0, 7, 4, 167, 0, 4, 3, 172]
def zt_X11_isEntry_0 : List Nat := zw_X11_isEntry_0 ++ []
theorem ze_X11_isEntry_0 : (dcn cX11_isEntry).drop 0 = zt_X11_isEntry_0 := by decide +kernel
theorem zb_X11_isEntry_0 (j : Nat) {n : Nat} (e : zw_X11_isEntry_0[j]? = some n) : dby cX11_isEntry (0 + j) n := dw_b (t := []) ze_X11_isEntry_0 j e
theorem dX11_isEntry_0 : decode cX11_isEntry 0 = .ok (.iload_n 0, 1) := dop_26 (zb_X11_isEntry_0 0 rfl)
theorem dX11_isEntry_1 : decode cX11_isEntry 1 = .ok (.invokestatic 126, 3) := dop_184 (zb_X11_isEntry_0 1 rfl) (zb_X11_isEntry_0 2 rfl) (zb_X11_isEntry_0 3 rfl) rfl
theorem dX11_isEntry_4 : decode cX11_isEntry 4 = .ok (.ifCond .eq 28, 3) := dop_153 (zb_X11_isEntry_0 4 rfl) (zb_X11_isEntry_0 5 rfl) (zb_X11_isEntry_0 6 rfl) rfl
theorem dX11_isEntry_7 : decode cX11_isEntry 7 = .ok (.iload_n 1, 1) := dop_27 (zb_X11_isEntry_0 7 rfl)
theorem dX11_isEntry_8 : decode cX11_isEntry 8 = .ok (.invokestatic 108, 3) := dop_184 (zb_X11_isEntry_0 8 rfl) (zb_X11_isEntry_0 9 rfl) (zb_X11_isEntry_0 10 rfl) rfl
theorem dX11_isEntry_11 : decode cX11_isEntry 11 = .ok (.ifCond .eq 21, 3) := dop_153 (zb_X11_isEntry_0 11 rfl) (zb_X11_isEntry_0 12 rfl) (zb_X11_isEntry_0 13 rfl) rfl
theorem dX11_isEntry_14 : decode cX11_isEntry 14 = .ok (.iload_n 2, 1) := dop_28 (zb_X11_isEntry_0 14 rfl)
theorem dX11_isEntry_15 : decode cX11_isEntry 15 = .ok (.invokestatic 298, 3) := dop_184 (zb_X11_isEntry_0 15 rfl) (zb_X11_isEntry_0 16 rfl) (zb_X11_isEntry_0 17 rfl) rfl
theorem dX11_isEntry_18 : decode cX11_isEntry 18 = .ok (.ifCond .eq 14, 3) := dop_153 (zb_X11_isEntry_0 18 rfl) (zb_X11_isEntry_0 19 rfl) (zb_X11_isEntry_0 20 rfl) rfl
theorem dX11_isEntry_21 : decode cX11_isEntry 21 = .ok (.iload_n 3, 1) := dop_29 (zb_X11_isEntry_0 21 rfl)
theorem dX11_isEntry_22 : decode cX11_isEntry 22 = .ok (.invokestatic 301, 3) := dop_184 (zb_X11_isEntry_0 22 rfl) (zb_X11_isEntry_0 23 rfl) (zb_X11_isEntry_0 24 rfl) rfl
theorem dX11_isEntry_25 : decode cX11_isEntry 25 = .ok (.ifCond .eq 7, 3) := dop_153 (zb_X11_isEntry_0 25 rfl) (zb_X11_isEntry_0 26 rfl) (zb_X11_isEntry_0 27 rfl) rfl
theorem dX11_isEntry_28 : decode cX11_isEntry 28 = .ok (.iconst 1, 1) := dop_4 (zb_X11_isEntry_0 28 rfl)
theorem dX11_isEntry_29 : decode cX11_isEntry 29 = .ok (.goto 4, 3) := dop_167 (zb_X11_isEntry_0 29 rfl) (zb_X11_isEntry_0 30 rfl) (zb_X11_isEntry_0 31 rfl) rfl
theorem dX11_isEntry_32 : decode cX11_isEntry 32 = .ok (.iconst 0, 1) := dop_3 (zb_X11_isEntry_0 32 rfl)
theorem dX11_isEntry_33 : decode cX11_isEntry 33 = .ok (.ireturn, 1) := dop_172 (zb_X11_isEntry_0 33 rfl)
def zw_X11_atMost_0 : List Nat := [30, 32, 184, 1, 182, 136, 172]
def zt_X11_atMost_0 : List Nat := zw_X11_atMost_0 ++ []
theorem ze_X11_atMost_0 : (dcn cX11_atMost).drop 0 = zt_X11_atMost_0 := by decide +kernel
theorem zb_X11_atMost_0 (j : Nat) {n : Nat} (e : zw_X11_atMost_0[j]? = some n) : dby cX11_atMost (0 + j) n := dw_b (t := []) ze_X11_atMost_0 j e
theorem dX11_atMost_0 : decode cX11_atMost 0 = .ok (.lload_n 0, 1) := dop_30 (zb_X11_atMost_0 0 rfl)
theorem dX11_atMost_1 : decode cX11_atMost 1 = .ok (.lload_n 2, 1) := dop_32 (zb_X11_atMost_0 1 rfl)
theorem dX11_atMost_2 : decode cX11_atMost 2 = .ok (.invokestatic 438, 3) := dop_184 (zb_X11_atMost_0 2 rfl) (zb_X11_atMost_0 3 rfl) (zb_X11_atMost_0 4 rfl) rfl
theorem dX11_atMost_5 : decode cX11_atMost 5 = .ok (.l2i, 1) := dop_136 (zb_X11_atMost_0 5 rfl)
theorem dX11_atMost_6 : decode cX11_atMost 6 = .ok (.ireturn, 1) := dop_172 (zb_X11_atMost_0 6 rfl)
def zw_X11_quotient_0 : List Nat := [32, 9, 148, 154, 0, 7, 9, 167, 0, 6, 30, 32, 109, 173]
def zt_X11_quotient_0 : List Nat := zw_X11_quotient_0 ++ []
theorem ze_X11_quotient_0 : (dcn cX11_quotient).drop 0 = zt_X11_quotient_0 := by decide +kernel
theorem zb_X11_quotient_0 (j : Nat) {n : Nat} (e : zw_X11_quotient_0[j]? = some n) : dby cX11_quotient (0 + j) n := dw_b (t := []) ze_X11_quotient_0 j e
theorem dX11_quotient_0 : decode cX11_quotient 0 = .ok (.lload_n 2, 1) := dop_32 (zb_X11_quotient_0 0 rfl)
theorem dX11_quotient_1 : decode cX11_quotient 1 = .ok (.lconst 0, 1) := dop_9 (zb_X11_quotient_0 1 rfl)
theorem dX11_quotient_2 : decode cX11_quotient 2 = .ok (.lcmp, 1) := dop_148 (zb_X11_quotient_0 2 rfl)
theorem dX11_quotient_3 : decode cX11_quotient 3 = .ok (.ifCond .ne 7, 3) := dop_154 (zb_X11_quotient_0 3 rfl) (zb_X11_quotient_0 4 rfl) (zb_X11_quotient_0 5 rfl) rfl
theorem dX11_quotient_6 : decode cX11_quotient 6 = .ok (.lconst 0, 1) := dop_9 (zb_X11_quotient_0 6 rfl)
theorem dX11_quotient_7 : decode cX11_quotient 7 = .ok (.goto 6, 3) := dop_167 (zb_X11_quotient_0 7 rfl) (zb_X11_quotient_0 8 rfl) (zb_X11_quotient_0 9 rfl) rfl
theorem dX11_quotient_10 : decode cX11_quotient 10 = .ok (.lload_n 0, 1) := dop_30 (zb_X11_quotient_0 10 rfl)
theorem dX11_quotient_11 : decode cX11_quotient 11 = .ok (.lload_n 2, 1) := dop_32 (zb_X11_quotient_0 11 rfl)
theorem dX11_quotient_12 : decode cX11_quotient 12 = .ok (.ldiv, 1) := dop_109 (zb_X11_quotient_0 12 rfl)
theorem dX11_quotient_13 : decode cX11_quotient 13 = .ok (.lreturn, 1) := dop_173 (zb_X11_quotient_0 13 rfl)
def zw_X11_remainder_0 : List Nat := [32, 9, 148, 154, 0, 7, 9, 167, 0, 6, 30, 32, 113, 173]
def zt_X11_remainder_0 : List Nat := zw_X11_remainder_0 ++ []
theorem ze_X11_remainder_0 : (dcn cX11_remainder).drop 0 = zt_X11_remainder_0 := by decide +kernel
theorem zb_X11_remainder_0 (j : Nat) {n : Nat} (e : zw_X11_remainder_0[j]? = some n) : dby cX11_remainder (0 + j) n := dw_b (t := []) ze_X11_remainder_0 j e
theorem dX11_remainder_0 : decode cX11_remainder 0 = .ok (.lload_n 2, 1) := dop_32 (zb_X11_remainder_0 0 rfl)
theorem dX11_remainder_1 : decode cX11_remainder 1 = .ok (.lconst 0, 1) := dop_9 (zb_X11_remainder_0 1 rfl)
theorem dX11_remainder_2 : decode cX11_remainder 2 = .ok (.lcmp, 1) := dop_148 (zb_X11_remainder_0 2 rfl)
theorem dX11_remainder_3 : decode cX11_remainder 3 = .ok (.ifCond .ne 7, 3) := dop_154 (zb_X11_remainder_0 3 rfl) (zb_X11_remainder_0 4 rfl) (zb_X11_remainder_0 5 rfl) rfl
theorem dX11_remainder_6 : decode cX11_remainder 6 = .ok (.lconst 0, 1) := dop_9 (zb_X11_remainder_0 6 rfl)
theorem dX11_remainder_7 : decode cX11_remainder 7 = .ok (.goto 6, 3) := dop_167 (zb_X11_remainder_0 7 rfl) (zb_X11_remainder_0 8 rfl) (zb_X11_remainder_0 9 rfl) rfl
theorem dX11_remainder_10 : decode cX11_remainder 10 = .ok (.lload_n 0, 1) := dop_30 (zb_X11_remainder_0 10 rfl)
theorem dX11_remainder_11 : decode cX11_remainder 11 = .ok (.lload_n 2, 1) := dop_32 (zb_X11_remainder_0 11 rfl)
theorem dX11_remainder_12 : decode cX11_remainder 12 = .ok (.lrem, 1) := dop_113 (zb_X11_remainder_0 12 rfl)
theorem dX11_remainder_13 : decode cX11_remainder 13 = .ok (.lreturn, 1) := dop_173 (zb_X11_remainder_0 13 rfl)
def zw_X11_commonDivisor_1 : List Nat := [132, 8, 1, 167, 255, 223, 22, 4, 173]
def zt_X11_commonDivisor_1 : List Nat := zw_X11_commonDivisor_1 ++ []
def zw_X11_commonDivisor_0 : List Nat := [30, 55, 4, 32, 55, 6, 3, 54, 8, 21, 8, 17, 0, 200, 162, 0, 31, 22, 6, 9, 148, 153, 0, 24, 22, 4, 22, 6, 113, 55, 9, 22, 6, 55, 4, 22, 9, 55, 6]
def zt_X11_commonDivisor_0 : List Nat := zw_X11_commonDivisor_0 ++ zt_X11_commonDivisor_1
theorem ze_X11_commonDivisor_0 : (dcn cX11_commonDivisor).drop 0 = zt_X11_commonDivisor_0 := by decide +kernel
theorem ze_X11_commonDivisor_1 : (dcn cX11_commonDivisor).drop 39 = zt_X11_commonDivisor_1 := dw_n (wl := zw_X11_commonDivisor_0) ze_X11_commonDivisor_0 rfl
theorem zb_X11_commonDivisor_0 (j : Nat) {n : Nat} (e : zw_X11_commonDivisor_0[j]? = some n) : dby cX11_commonDivisor (0 + j) n := dw_b (t := zt_X11_commonDivisor_1) ze_X11_commonDivisor_0 j e
theorem dX11_commonDivisor_0 : decode cX11_commonDivisor 0 = .ok (.lload_n 0, 1) := dop_30 (zb_X11_commonDivisor_0 0 rfl)
theorem dX11_commonDivisor_1 : decode cX11_commonDivisor 1 = .ok (.lstore 4, 2) := dop_55 (zb_X11_commonDivisor_0 1 rfl) (zb_X11_commonDivisor_0 2 rfl)
theorem dX11_commonDivisor_3 : decode cX11_commonDivisor 3 = .ok (.lload_n 2, 1) := dop_32 (zb_X11_commonDivisor_0 3 rfl)
theorem dX11_commonDivisor_4 : decode cX11_commonDivisor 4 = .ok (.lstore 6, 2) := dop_55 (zb_X11_commonDivisor_0 4 rfl) (zb_X11_commonDivisor_0 5 rfl)
theorem dX11_commonDivisor_6 : decode cX11_commonDivisor 6 = .ok (.iconst 0, 1) := dop_3 (zb_X11_commonDivisor_0 6 rfl)
theorem dX11_commonDivisor_7 : decode cX11_commonDivisor 7 = .ok (.istore 8, 2) := dop_54 (zb_X11_commonDivisor_0 7 rfl) (zb_X11_commonDivisor_0 8 rfl)
theorem dX11_commonDivisor_9 : decode cX11_commonDivisor 9 = .ok (.iload 8, 2) := dop_21 (zb_X11_commonDivisor_0 9 rfl) (zb_X11_commonDivisor_0 10 rfl)
theorem dX11_commonDivisor_11 : decode cX11_commonDivisor 11 = .ok (.sipush 200, 3) := dop_17 (zb_X11_commonDivisor_0 11 rfl) (zb_X11_commonDivisor_0 12 rfl) (zb_X11_commonDivisor_0 13 rfl) rfl
theorem dX11_commonDivisor_14 : decode cX11_commonDivisor 14 = .ok (.if_icmp .ge 31, 3) := dop_162 (zb_X11_commonDivisor_0 14 rfl) (zb_X11_commonDivisor_0 15 rfl) (zb_X11_commonDivisor_0 16 rfl) rfl
theorem dX11_commonDivisor_17 : decode cX11_commonDivisor 17 = .ok (.lload 6, 2) := dop_22 (zb_X11_commonDivisor_0 17 rfl) (zb_X11_commonDivisor_0 18 rfl)
theorem dX11_commonDivisor_19 : decode cX11_commonDivisor 19 = .ok (.lconst 0, 1) := dop_9 (zb_X11_commonDivisor_0 19 rfl)
theorem dX11_commonDivisor_20 : decode cX11_commonDivisor 20 = .ok (.lcmp, 1) := dop_148 (zb_X11_commonDivisor_0 20 rfl)
theorem dX11_commonDivisor_21 : decode cX11_commonDivisor 21 = .ok (.ifCond .eq 24, 3) := dop_153 (zb_X11_commonDivisor_0 21 rfl) (zb_X11_commonDivisor_0 22 rfl) (zb_X11_commonDivisor_0 23 rfl) rfl
theorem dX11_commonDivisor_24 : decode cX11_commonDivisor 24 = .ok (.lload 4, 2) := dop_22 (zb_X11_commonDivisor_0 24 rfl) (zb_X11_commonDivisor_0 25 rfl)
theorem dX11_commonDivisor_26 : decode cX11_commonDivisor 26 = .ok (.lload 6, 2) := dop_22 (zb_X11_commonDivisor_0 26 rfl) (zb_X11_commonDivisor_0 27 rfl)
theorem dX11_commonDivisor_28 : decode cX11_commonDivisor 28 = .ok (.lrem, 1) := dop_113 (zb_X11_commonDivisor_0 28 rfl)
theorem dX11_commonDivisor_29 : decode cX11_commonDivisor 29 = .ok (.lstore 9, 2) := dop_55 (zb_X11_commonDivisor_0 29 rfl) (zb_X11_commonDivisor_0 30 rfl)
theorem dX11_commonDivisor_31 : decode cX11_commonDivisor 31 = .ok (.lload 6, 2) := dop_22 (zb_X11_commonDivisor_0 31 rfl) (zb_X11_commonDivisor_0 32 rfl)
theorem dX11_commonDivisor_33 : decode cX11_commonDivisor 33 = .ok (.lstore 4, 2) := dop_55 (zb_X11_commonDivisor_0 33 rfl) (zb_X11_commonDivisor_0 34 rfl)
theorem dX11_commonDivisor_35 : decode cX11_commonDivisor 35 = .ok (.lload 9, 2) := dop_22 (zb_X11_commonDivisor_0 35 rfl) (zb_X11_commonDivisor_0 36 rfl)
theorem dX11_commonDivisor_37 : decode cX11_commonDivisor 37 = .ok (.lstore 6, 2) := dop_55 (zb_X11_commonDivisor_0 37 rfl) (zb_X11_commonDivisor_0 38 rfl)
theorem zb_X11_commonDivisor_1 (j : Nat) {n : Nat} (e : zw_X11_commonDivisor_1[j]? = some n) : dby cX11_commonDivisor (39 + j) n := dw_b (t := []) ze_X11_commonDivisor_1 j e
theorem dX11_commonDivisor_39 : decode cX11_commonDivisor 39 = .ok (.iinc 8 1, 3) := dop_132 (zb_X11_commonDivisor_1 0 rfl) (zb_X11_commonDivisor_1 1 rfl) (zb_X11_commonDivisor_1 2 rfl) rfl
theorem dX11_commonDivisor_42 : decode cX11_commonDivisor 42 = .ok (.goto (-33), 3) := dop_167 (zb_X11_commonDivisor_1 3 rfl) (zb_X11_commonDivisor_1 4 rfl) (zb_X11_commonDivisor_1 5 rfl) rfl
theorem dX11_commonDivisor_45 : decode cX11_commonDivisor 45 = .ok (.lload 4, 2) := dop_22 (zb_X11_commonDivisor_1 6 rfl) (zb_X11_commonDivisor_1 7 rfl)
theorem dX11_commonDivisor_47 : decode cX11_commonDivisor 47 = .ok (.lreturn, 1) := dop_173 (zb_X11_commonDivisor_1 8 rfl)
def zw_X11_compareFractions_3 : List Nat := [55, 10, 22, 21, 55, 14, 21, 16, 116, 54, 16, 132, 17, 1, 167, 255, 145, 3, 172]
def zt_X11_compareFractions_3 : List Nat := zw_X11_compareFractions_3 ++ []
def zw_X11_compareFractions_2 : List Nat := [21, 18, 104, 172, 22, 19, 9, 148, 153, 0, 10, 22, 21, 9, 148, 154, 0, 14, 21, 16, 22, 19, 22, 21, 184, 1, 187, 104, 172, 22, 10, 55, 8, 22, 14, 55, 12, 22, 19]
def zt_X11_compareFractions_2 : List Nat := zw_X11_compareFractions_2 ++ zt_X11_compareFractions_3
def zw_X11_compareFractions_1 : List Nat := [158, 0, 95, 22, 8, 22, 10, 109, 22, 12, 22, 14, 109, 184, 1, 187, 54, 18, 22, 8, 22, 10, 113, 55, 19, 22, 12, 22, 14, 113, 55, 21, 21, 18, 153, 0, 9, 21, 16]
def zt_X11_compareFractions_1 : List Nat := zw_X11_compareFractions_1 ++ zt_X11_compareFractions_2
def zw_X11_compareFractions_0 : List Nat := [30, 55, 8, 32, 55, 10, 22, 4, 55, 12, 22, 6, 55, 14, 4, 54, 16, 3, 54, 17, 21, 17, 17, 0, 200, 162, 0, 109, 22, 10, 9, 148, 158, 0, 102, 22, 14, 9, 148]
def zt_X11_compareFractions_0 : List Nat := zw_X11_compareFractions_0 ++ zt_X11_compareFractions_1
theorem ze_X11_compareFractions_0 : (dcn cX11_compareFractions).drop 0 = zt_X11_compareFractions_0 := by decide +kernel
theorem ze_X11_compareFractions_1 : (dcn cX11_compareFractions).drop 39 = zt_X11_compareFractions_1 := dw_n (wl := zw_X11_compareFractions_0) ze_X11_compareFractions_0 rfl
theorem zb_X11_compareFractions_0 (j : Nat) {n : Nat} (e : zw_X11_compareFractions_0[j]? = some n) : dby cX11_compareFractions (0 + j) n := dw_b (t := zt_X11_compareFractions_1) ze_X11_compareFractions_0 j e
theorem dX11_compareFractions_0 : decode cX11_compareFractions 0 = .ok (.lload_n 0, 1) := dop_30 (zb_X11_compareFractions_0 0 rfl)
theorem dX11_compareFractions_1 : decode cX11_compareFractions 1 = .ok (.lstore 8, 2) := dop_55 (zb_X11_compareFractions_0 1 rfl) (zb_X11_compareFractions_0 2 rfl)
theorem dX11_compareFractions_3 : decode cX11_compareFractions 3 = .ok (.lload_n 2, 1) := dop_32 (zb_X11_compareFractions_0 3 rfl)
theorem dX11_compareFractions_4 : decode cX11_compareFractions 4 = .ok (.lstore 10, 2) := dop_55 (zb_X11_compareFractions_0 4 rfl) (zb_X11_compareFractions_0 5 rfl)
theorem dX11_compareFractions_6 : decode cX11_compareFractions 6 = .ok (.lload 4, 2) := dop_22 (zb_X11_compareFractions_0 6 rfl) (zb_X11_compareFractions_0 7 rfl)
theorem dX11_compareFractions_8 : decode cX11_compareFractions 8 = .ok (.lstore 12, 2) := dop_55 (zb_X11_compareFractions_0 8 rfl) (zb_X11_compareFractions_0 9 rfl)
theorem dX11_compareFractions_10 : decode cX11_compareFractions 10 = .ok (.lload 6, 2) := dop_22 (zb_X11_compareFractions_0 10 rfl) (zb_X11_compareFractions_0 11 rfl)
theorem dX11_compareFractions_12 : decode cX11_compareFractions 12 = .ok (.lstore 14, 2) := dop_55 (zb_X11_compareFractions_0 12 rfl) (zb_X11_compareFractions_0 13 rfl)
theorem dX11_compareFractions_14 : decode cX11_compareFractions 14 = .ok (.iconst 1, 1) := dop_4 (zb_X11_compareFractions_0 14 rfl)
theorem dX11_compareFractions_15 : decode cX11_compareFractions 15 = .ok (.istore 16, 2) := dop_54 (zb_X11_compareFractions_0 15 rfl) (zb_X11_compareFractions_0 16 rfl)
theorem dX11_compareFractions_17 : decode cX11_compareFractions 17 = .ok (.iconst 0, 1) := dop_3 (zb_X11_compareFractions_0 17 rfl)
theorem dX11_compareFractions_18 : decode cX11_compareFractions 18 = .ok (.istore 17, 2) := dop_54 (zb_X11_compareFractions_0 18 rfl) (zb_X11_compareFractions_0 19 rfl)
theorem dX11_compareFractions_20 : decode cX11_compareFractions 20 = .ok (.iload 17, 2) := dop_21 (zb_X11_compareFractions_0 20 rfl) (zb_X11_compareFractions_0 21 rfl)
theorem dX11_compareFractions_22 : decode cX11_compareFractions 22 = .ok (.sipush 200, 3) := dop_17 (zb_X11_compareFractions_0 22 rfl) (zb_X11_compareFractions_0 23 rfl) (zb_X11_compareFractions_0 24 rfl) rfl
theorem dX11_compareFractions_25 : decode cX11_compareFractions 25 = .ok (.if_icmp .ge 109, 3) := dop_162 (zb_X11_compareFractions_0 25 rfl) (zb_X11_compareFractions_0 26 rfl) (zb_X11_compareFractions_0 27 rfl) rfl
theorem dX11_compareFractions_28 : decode cX11_compareFractions 28 = .ok (.lload 10, 2) := dop_22 (zb_X11_compareFractions_0 28 rfl) (zb_X11_compareFractions_0 29 rfl)
theorem dX11_compareFractions_30 : decode cX11_compareFractions 30 = .ok (.lconst 0, 1) := dop_9 (zb_X11_compareFractions_0 30 rfl)
theorem dX11_compareFractions_31 : decode cX11_compareFractions 31 = .ok (.lcmp, 1) := dop_148 (zb_X11_compareFractions_0 31 rfl)
theorem dX11_compareFractions_32 : decode cX11_compareFractions 32 = .ok (.ifCond .le 102, 3) := dop_158 (zb_X11_compareFractions_0 32 rfl) (zb_X11_compareFractions_0 33 rfl) (zb_X11_compareFractions_0 34 rfl) rfl
theorem dX11_compareFractions_35 : decode cX11_compareFractions 35 = .ok (.lload 14, 2) := dop_22 (zb_X11_compareFractions_0 35 rfl) (zb_X11_compareFractions_0 36 rfl)
theorem dX11_compareFractions_37 : decode cX11_compareFractions 37 = .ok (.lconst 0, 1) := dop_9 (zb_X11_compareFractions_0 37 rfl)
theorem dX11_compareFractions_38 : decode cX11_compareFractions 38 = .ok (.lcmp, 1) := dop_148 (zb_X11_compareFractions_0 38 rfl)
theorem ze_X11_compareFractions_2 : (dcn cX11_compareFractions).drop 78 = zt_X11_compareFractions_2 := dw_n (wl := zw_X11_compareFractions_1) ze_X11_compareFractions_1 rfl
theorem zb_X11_compareFractions_1 (j : Nat) {n : Nat} (e : zw_X11_compareFractions_1[j]? = some n) : dby cX11_compareFractions (39 + j) n := dw_b (t := zt_X11_compareFractions_2) ze_X11_compareFractions_1 j e
theorem dX11_compareFractions_39 : decode cX11_compareFractions 39 = .ok (.ifCond .le 95, 3) := dop_158 (zb_X11_compareFractions_1 0 rfl) (zb_X11_compareFractions_1 1 rfl) (zb_X11_compareFractions_1 2 rfl) rfl
theorem dX11_compareFractions_42 : decode cX11_compareFractions 42 = .ok (.lload 8, 2) := dop_22 (zb_X11_compareFractions_1 3 rfl) (zb_X11_compareFractions_1 4 rfl)
theorem dX11_compareFractions_44 : decode cX11_compareFractions 44 = .ok (.lload 10, 2) := dop_22 (zb_X11_compareFractions_1 5 rfl) (zb_X11_compareFractions_1 6 rfl)
theorem dX11_compareFractions_46 : decode cX11_compareFractions 46 = .ok (.ldiv, 1) := dop_109 (zb_X11_compareFractions_1 7 rfl)
theorem dX11_compareFractions_47 : decode cX11_compareFractions 47 = .ok (.lload 12, 2) := dop_22 (zb_X11_compareFractions_1 8 rfl) (zb_X11_compareFractions_1 9 rfl)
theorem dX11_compareFractions_49 : decode cX11_compareFractions 49 = .ok (.lload 14, 2) := dop_22 (zb_X11_compareFractions_1 10 rfl) (zb_X11_compareFractions_1 11 rfl)
theorem dX11_compareFractions_51 : decode cX11_compareFractions 51 = .ok (.ldiv, 1) := dop_109 (zb_X11_compareFractions_1 12 rfl)
theorem dX11_compareFractions_52 : decode cX11_compareFractions 52 = .ok (.invokestatic 443, 3) := dop_184 (zb_X11_compareFractions_1 13 rfl) (zb_X11_compareFractions_1 14 rfl) (zb_X11_compareFractions_1 15 rfl) rfl
theorem dX11_compareFractions_55 : decode cX11_compareFractions 55 = .ok (.istore 18, 2) := dop_54 (zb_X11_compareFractions_1 16 rfl) (zb_X11_compareFractions_1 17 rfl)
theorem dX11_compareFractions_57 : decode cX11_compareFractions 57 = .ok (.lload 8, 2) := dop_22 (zb_X11_compareFractions_1 18 rfl) (zb_X11_compareFractions_1 19 rfl)
theorem dX11_compareFractions_59 : decode cX11_compareFractions 59 = .ok (.lload 10, 2) := dop_22 (zb_X11_compareFractions_1 20 rfl) (zb_X11_compareFractions_1 21 rfl)
theorem dX11_compareFractions_61 : decode cX11_compareFractions 61 = .ok (.lrem, 1) := dop_113 (zb_X11_compareFractions_1 22 rfl)
theorem dX11_compareFractions_62 : decode cX11_compareFractions 62 = .ok (.lstore 19, 2) := dop_55 (zb_X11_compareFractions_1 23 rfl) (zb_X11_compareFractions_1 24 rfl)
theorem dX11_compareFractions_64 : decode cX11_compareFractions 64 = .ok (.lload 12, 2) := dop_22 (zb_X11_compareFractions_1 25 rfl) (zb_X11_compareFractions_1 26 rfl)
theorem dX11_compareFractions_66 : decode cX11_compareFractions 66 = .ok (.lload 14, 2) := dop_22 (zb_X11_compareFractions_1 27 rfl) (zb_X11_compareFractions_1 28 rfl)
theorem dX11_compareFractions_68 : decode cX11_compareFractions 68 = .ok (.lrem, 1) := dop_113 (zb_X11_compareFractions_1 29 rfl)
theorem dX11_compareFractions_69 : decode cX11_compareFractions 69 = .ok (.lstore 21, 2) := dop_55 (zb_X11_compareFractions_1 30 rfl) (zb_X11_compareFractions_1 31 rfl)
theorem dX11_compareFractions_71 : decode cX11_compareFractions 71 = .ok (.iload 18, 2) := dop_21 (zb_X11_compareFractions_1 32 rfl) (zb_X11_compareFractions_1 33 rfl)
theorem dX11_compareFractions_73 : decode cX11_compareFractions 73 = .ok (.ifCond .eq 9, 3) := dop_153 (zb_X11_compareFractions_1 34 rfl) (zb_X11_compareFractions_1 35 rfl) (zb_X11_compareFractions_1 36 rfl) rfl
theorem dX11_compareFractions_76 : decode cX11_compareFractions 76 = .ok (.iload 16, 2) := dop_21 (zb_X11_compareFractions_1 37 rfl) (zb_X11_compareFractions_1 38 rfl)
theorem ze_X11_compareFractions_3 : (dcn cX11_compareFractions).drop 117 = zt_X11_compareFractions_3 := dw_n (wl := zw_X11_compareFractions_2) ze_X11_compareFractions_2 rfl
theorem zb_X11_compareFractions_2 (j : Nat) {n : Nat} (e : zw_X11_compareFractions_2[j]? = some n) : dby cX11_compareFractions (78 + j) n := dw_b (t := zt_X11_compareFractions_3) ze_X11_compareFractions_2 j e
theorem dX11_compareFractions_78 : decode cX11_compareFractions 78 = .ok (.iload 18, 2) := dop_21 (zb_X11_compareFractions_2 0 rfl) (zb_X11_compareFractions_2 1 rfl)
theorem dX11_compareFractions_80 : decode cX11_compareFractions 80 = .ok (.imul, 1) := dop_104 (zb_X11_compareFractions_2 2 rfl)
theorem dX11_compareFractions_81 : decode cX11_compareFractions 81 = .ok (.ireturn, 1) := dop_172 (zb_X11_compareFractions_2 3 rfl)
theorem dX11_compareFractions_82 : decode cX11_compareFractions 82 = .ok (.lload 19, 2) := dop_22 (zb_X11_compareFractions_2 4 rfl) (zb_X11_compareFractions_2 5 rfl)
theorem dX11_compareFractions_84 : decode cX11_compareFractions 84 = .ok (.lconst 0, 1) := dop_9 (zb_X11_compareFractions_2 6 rfl)
theorem dX11_compareFractions_85 : decode cX11_compareFractions 85 = .ok (.lcmp, 1) := dop_148 (zb_X11_compareFractions_2 7 rfl)
theorem dX11_compareFractions_86 : decode cX11_compareFractions 86 = .ok (.ifCond .eq 10, 3) := dop_153 (zb_X11_compareFractions_2 8 rfl) (zb_X11_compareFractions_2 9 rfl) (zb_X11_compareFractions_2 10 rfl) rfl
theorem dX11_compareFractions_89 : decode cX11_compareFractions 89 = .ok (.lload 21, 2) := dop_22 (zb_X11_compareFractions_2 11 rfl) (zb_X11_compareFractions_2 12 rfl)
theorem dX11_compareFractions_91 : decode cX11_compareFractions 91 = .ok (.lconst 0, 1) := dop_9 (zb_X11_compareFractions_2 13 rfl)
theorem dX11_compareFractions_92 : decode cX11_compareFractions 92 = .ok (.lcmp, 1) := dop_148 (zb_X11_compareFractions_2 14 rfl)
theorem dX11_compareFractions_93 : decode cX11_compareFractions 93 = .ok (.ifCond .ne 14, 3) := dop_154 (zb_X11_compareFractions_2 15 rfl) (zb_X11_compareFractions_2 16 rfl) (zb_X11_compareFractions_2 17 rfl) rfl
theorem dX11_compareFractions_96 : decode cX11_compareFractions 96 = .ok (.iload 16, 2) := dop_21 (zb_X11_compareFractions_2 18 rfl) (zb_X11_compareFractions_2 19 rfl)
theorem dX11_compareFractions_98 : decode cX11_compareFractions 98 = .ok (.lload 19, 2) := dop_22 (zb_X11_compareFractions_2 20 rfl) (zb_X11_compareFractions_2 21 rfl)
theorem dX11_compareFractions_100 : decode cX11_compareFractions 100 = .ok (.lload 21, 2) := dop_22 (zb_X11_compareFractions_2 22 rfl) (zb_X11_compareFractions_2 23 rfl)
theorem dX11_compareFractions_102 : decode cX11_compareFractions 102 = .ok (.invokestatic 443, 3) := dop_184 (zb_X11_compareFractions_2 24 rfl) (zb_X11_compareFractions_2 25 rfl) (zb_X11_compareFractions_2 26 rfl) rfl
theorem dX11_compareFractions_105 : decode cX11_compareFractions 105 = .ok (.imul, 1) := dop_104 (zb_X11_compareFractions_2 27 rfl)
theorem dX11_compareFractions_106 : decode cX11_compareFractions 106 = .ok (.ireturn, 1) := dop_172 (zb_X11_compareFractions_2 28 rfl)
theorem dX11_compareFractions_107 : decode cX11_compareFractions 107 = .ok (.lload 10, 2) := dop_22 (zb_X11_compareFractions_2 29 rfl) (zb_X11_compareFractions_2 30 rfl)
theorem dX11_compareFractions_109 : decode cX11_compareFractions 109 = .ok (.lstore 8, 2) := dop_55 (zb_X11_compareFractions_2 31 rfl) (zb_X11_compareFractions_2 32 rfl)
theorem dX11_compareFractions_111 : decode cX11_compareFractions 111 = .ok (.lload 14, 2) := dop_22 (zb_X11_compareFractions_2 33 rfl) (zb_X11_compareFractions_2 34 rfl)
theorem dX11_compareFractions_113 : decode cX11_compareFractions 113 = .ok (.lstore 12, 2) := dop_55 (zb_X11_compareFractions_2 35 rfl) (zb_X11_compareFractions_2 36 rfl)
theorem dX11_compareFractions_115 : decode cX11_compareFractions 115 = .ok (.lload 19, 2) := dop_22 (zb_X11_compareFractions_2 37 rfl) (zb_X11_compareFractions_2 38 rfl)
theorem zb_X11_compareFractions_3 (j : Nat) {n : Nat} (e : zw_X11_compareFractions_3[j]? = some n) : dby cX11_compareFractions (117 + j) n := dw_b (t := []) ze_X11_compareFractions_3 j e
theorem dX11_compareFractions_117 : decode cX11_compareFractions 117 = .ok (.lstore 10, 2) := dop_55 (zb_X11_compareFractions_3 0 rfl) (zb_X11_compareFractions_3 1 rfl)
theorem dX11_compareFractions_119 : decode cX11_compareFractions 119 = .ok (.lload 21, 2) := dop_22 (zb_X11_compareFractions_3 2 rfl) (zb_X11_compareFractions_3 3 rfl)
theorem dX11_compareFractions_121 : decode cX11_compareFractions 121 = .ok (.lstore 14, 2) := dop_55 (zb_X11_compareFractions_3 4 rfl) (zb_X11_compareFractions_3 5 rfl)
theorem dX11_compareFractions_123 : decode cX11_compareFractions 123 = .ok (.iload 16, 2) := dop_21 (zb_X11_compareFractions_3 6 rfl) (zb_X11_compareFractions_3 7 rfl)
theorem dX11_compareFractions_125 : decode cX11_compareFractions 125 = .ok (.ineg, 1) := dop_116 (zb_X11_compareFractions_3 8 rfl)
theorem dX11_compareFractions_126 : decode cX11_compareFractions 126 = .ok (.istore 16, 2) := dop_54 (zb_X11_compareFractions_3 9 rfl) (zb_X11_compareFractions_3 10 rfl)
theorem dX11_compareFractions_128 : decode cX11_compareFractions 128 = .ok (.iinc 17 1, 3) := dop_132 (zb_X11_compareFractions_3 11 rfl) (zb_X11_compareFractions_3 12 rfl) (zb_X11_compareFractions_3 13 rfl) rfl
theorem dX11_compareFractions_131 : decode cX11_compareFractions 131 = .ok (.goto (-111), 3) := dop_167 (zb_X11_compareFractions_3 14 rfl) (zb_X11_compareFractions_3 15 rfl) (zb_X11_compareFractions_3 16 rfl) rfl
theorem dX11_compareFractions_134 : decode cX11_compareFractions 134 = .ok (.iconst 0, 1) := dop_3 (zb_X11_compareFractions_3 17 rfl)
theorem dX11_compareFractions_135 : decode cX11_compareFractions 135 = .ok (.ireturn, 1) := dop_172 (zb_X11_compareFractions_3 18 rfl)
def zw_X11_newBounds_0 : List Nat := [3, 26, 184, 1, 191, 189, 0, 232, 76, 3, 61, 28, 43, 190, 162, 0, 19, 43, 28, 187, 0, 232, 89, 183, 1, 194, 83, 132, 2, 1, 167, 255, 237, 43, 176]
def zt_X11_newBounds_0 : List Nat := zw_X11_newBounds_0 ++ []
theorem ze_X11_newBounds_0 : (dcn cX11_newBounds).drop 0 = zt_X11_newBounds_0 := by decide +kernel
theorem zb_X11_newBounds_0 (j : Nat) {n : Nat} (e : zw_X11_newBounds_0[j]? = some n) : dby cX11_newBounds (0 + j) n := dw_b (t := []) ze_X11_newBounds_0 j e
theorem dX11_newBounds_0 : decode cX11_newBounds 0 = .ok (.iconst 0, 1) := dop_3 (zb_X11_newBounds_0 0 rfl)
theorem dX11_newBounds_1 : decode cX11_newBounds 1 = .ok (.iload_n 0, 1) := dop_26 (zb_X11_newBounds_0 1 rfl)
theorem dX11_newBounds_2 : decode cX11_newBounds 2 = .ok (.invokestatic 447, 3) := dop_184 (zb_X11_newBounds_0 2 rfl) (zb_X11_newBounds_0 3 rfl) (zb_X11_newBounds_0 4 rfl) rfl
theorem dX11_newBounds_5 : decode cX11_newBounds 5 = .ok (.anewarray 232, 3) := dop_189 (zb_X11_newBounds_0 5 rfl) (zb_X11_newBounds_0 6 rfl) (zb_X11_newBounds_0 7 rfl) rfl
theorem dX11_newBounds_8 : decode cX11_newBounds 8 = .ok (.astore_n 1, 1) := dop_76 (zb_X11_newBounds_0 8 rfl)
theorem dX11_newBounds_9 : decode cX11_newBounds 9 = .ok (.iconst 0, 1) := dop_3 (zb_X11_newBounds_0 9 rfl)
theorem dX11_newBounds_10 : decode cX11_newBounds 10 = .ok (.istore_n 2, 1) := dop_61 (zb_X11_newBounds_0 10 rfl)
theorem dX11_newBounds_11 : decode cX11_newBounds 11 = .ok (.iload_n 2, 1) := dop_28 (zb_X11_newBounds_0 11 rfl)
theorem dX11_newBounds_12 : decode cX11_newBounds 12 = .ok (.aload_n 1, 1) := dop_43 (zb_X11_newBounds_0 12 rfl)
theorem dX11_newBounds_13 : decode cX11_newBounds 13 = .ok (.arraylength, 1) := dop_190 (zb_X11_newBounds_0 13 rfl)
theorem dX11_newBounds_14 : decode cX11_newBounds 14 = .ok (.if_icmp .ge 19, 3) := dop_162 (zb_X11_newBounds_0 14 rfl) (zb_X11_newBounds_0 15 rfl) (zb_X11_newBounds_0 16 rfl) rfl
theorem dX11_newBounds_17 : decode cX11_newBounds 17 = .ok (.aload_n 1, 1) := dop_43 (zb_X11_newBounds_0 17 rfl)
theorem dX11_newBounds_18 : decode cX11_newBounds 18 = .ok (.iload_n 2, 1) := dop_28 (zb_X11_newBounds_0 18 rfl)
theorem dX11_newBounds_19 : decode cX11_newBounds 19 = .ok (.new 232, 3) := dop_187 (zb_X11_newBounds_0 19 rfl) (zb_X11_newBounds_0 20 rfl) (zb_X11_newBounds_0 21 rfl) rfl
theorem dX11_newBounds_22 : decode cX11_newBounds 22 = .ok (.dup, 1) := dop_89 (zb_X11_newBounds_0 22 rfl)
theorem dX11_newBounds_23 : decode cX11_newBounds 23 = .ok (.invokespecial 450, 3) := dop_183 (zb_X11_newBounds_0 23 rfl) (zb_X11_newBounds_0 24 rfl) (zb_X11_newBounds_0 25 rfl) rfl
theorem dX11_newBounds_26 : decode cX11_newBounds 26 = .ok (.aastore, 1) := dop_83 (zb_X11_newBounds_0 26 rfl)
theorem dX11_newBounds_27 : decode cX11_newBounds 27 = .ok (.iinc 2 1, 3) := dop_132 (zb_X11_newBounds_0 27 rfl) (zb_X11_newBounds_0 28 rfl) (zb_X11_newBounds_0 29 rfl) rfl
theorem dX11_newBounds_30 : decode cX11_newBounds 30 = .ok (.goto (-19), 3) := dop_167 (zb_X11_newBounds_0 30 rfl) (zb_X11_newBounds_0 31 rfl) (zb_X11_newBounds_0 32 rfl) rfl
theorem dX11_newBounds_33 : decode cX11_newBounds 33 = .ok (.aload_n 1, 1) := dop_43 (zb_X11_newBounds_0 33 rfl)
theorem dX11_newBounds_34 : decode cX11_newBounds 34 = .ok (.areturn, 1) := dop_176 (zb_X11_newBounds_0 34 rfl)
