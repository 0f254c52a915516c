theorem o_0 : oF[0]? = some (11 + 5, 17) := rfl
theorem o_1 : oF[1]? = some (4 + 5, 10) := rfl
theorem o_2 : oF[2]? = some (0, 32) := rfl
theorem o_3 : oF[3]? = some (0, 6) := rfl
theorem o_4 : oF[4]? = some (0, 24) := rfl
theorem o_5 : oF[5]? = some (0, 24) := rfl
theorem o_6 : oF[6]? = some (0, 24) := rfl
theorem o_7 : oF[7]? = some (0, 24) := rfl
theorem o_8 : oF[8]? = some (0, 16) := rfl
theorem o_9 : oF[9]? = some (4 + 5, 10) := rfl
theorem o_10 : oF[10]? = some (0, 32) := rfl
theorem o_11 : oF[11]? = some (0, 6) := rfl
theorem o_12 : oF[12]? = some (0, 24) := rfl
theorem o_13 : oF[13]? = some (0, 24) := rfl
theorem o_14 : oF[14]? = some (0, 24) := rfl
theorem o_15 : oF[15]? = some (0, 24) := rfl
theorem o_16 : oF[16]? = some (0, 16) := rfl
theorem o_17 : oF[17]? = some (4, 2) := rfl
theorem o_18 : oF[18]? = some (4 + 5, 10) := rfl
theorem o_19 : oF[19]? = some (0, 32) := rfl
theorem o_20 : oF[20]? = some (0, 6) := rfl
theorem o_21 : oF[21]? = some (0, 24) := rfl
theorem o_22 : oF[22]? = some (0, 24) := rfl
theorem o_23 : oF[23]? = some (0, 24) := rfl
theorem o_24 : oF[24]? = some (0, 24) := rfl
theorem o_25 : oF[25]? = some (0, 16) := rfl
theorem o_26 : oF[26]? = some (4 + 5, 10) := rfl
theorem o_27 : oF[27]? = some (0, 32) := rfl
theorem o_28 : oF[28]? = some (0, 6) := rfl
theorem o_29 : oF[29]? = some (0, 24) := rfl
theorem o_30 : oF[30]? = some (0, 24) := rfl
theorem o_31 : oF[31]? = some (0, 24) := rfl
theorem o_32 : oF[32]? = some (0, 24) := rfl
theorem o_33 : oF[33]? = some (0, 16) := rfl
theorem o_34 : oF[34]? = some (2, 2) := rfl
theorem o_35 : oF[35]? = some (8 + 5, 2) := rfl
theorem o_36 : oF[36]? = some (0, 400) := rfl
theorem o_37 : oF[37]? = some (1 + 5, 4) := rfl
theorem o_38 : oF[38]? = some (9 + 5, 6) := rfl
theorem o_39 : oF[39]? = some (0, 48) := rfl
theorem o_40 : oF[40]? = some (2, 48) := rfl
theorem o_41 : oF[41]? = some (0, 48) := rfl
theorem o_42 : oF[42]? = some (3, 16) := rfl
theorem o_43 : oF[43]? = some (2 + 5, 3) := rfl
theorem o_44 : oF[44]? = some (2 + 5, 3) := rfl
theorem o_45 : oF[45]? = some (2 + 5, 3) := rfl
theorem o_46 : oF[46]? = some (2 + 5, 3) := rfl
theorem o_47 : oF[47]? = some (2 + 5, 3) := rfl
theorem o_48 : oF[48]? = some (2 + 5, 3) := rfl
theorem o_49 : oF[49]? = some (2 + 5, 3) := rfl
theorem o_50 : oF[50]? = some (2 + 5, 3) := rfl
theorem o_51 : oF[51]? = some (2 + 5, 3) := rfl
theorem o_52 : oF[52]? = some (2 + 5, 3) := rfl
theorem o_53 : oF[53]? = some (2 + 5, 3) := rfl
theorem o_54 : oF[54]? = some (2 + 5, 3) := rfl
theorem o_55 : oF[55]? = some (2 + 5, 3) := rfl
theorem o_56 : oF[56]? = some (2 + 5, 3) := rfl
theorem o_57 : oF[57]? = some (2 + 5, 3) := rfl
theorem o_58 : oF[58]? = some (2 + 5, 3) := rfl
theorem o_59 : oF[59]? = some (3, 16) := rfl
theorem o_60 : oF[60]? = some (2 + 5, 3) := rfl
theorem o_61 : oF[61]? = some (2 + 5, 3) := rfl
theorem o_62 : oF[62]? = some (2 + 5, 3) := rfl
theorem o_63 : oF[63]? = some (2 + 5, 3) := rfl
theorem o_64 : oF[64]? = some (2 + 5, 3) := rfl
theorem o_65 : oF[65]? = some (2 + 5, 3) := rfl
theorem o_66 : oF[66]? = some (2 + 5, 3) := rfl
theorem o_67 : oF[67]? = some (2 + 5, 3) := rfl
theorem o_68 : oF[68]? = some (2 + 5, 3) := rfl
theorem o_69 : oF[69]? = some (2 + 5, 3) := rfl
theorem o_70 : oF[70]? = some (2 + 5, 3) := rfl
theorem o_71 : oF[71]? = some (2 + 5, 3) := rfl
theorem o_72 : oF[72]? = some (2 + 5, 3) := rfl
theorem o_73 : oF[73]? = some (2 + 5, 3) := rfl
theorem o_74 : oF[74]? = some (2 + 5, 3) := rfl
theorem o_75 : oF[75]? = some (2 + 5, 3) := rfl
theorem o_76 : oF[76]? = some (3, 16) := rfl
theorem o_77 : oF[77]? = some (2 + 5, 3) := rfl
theorem o_78 : oF[78]? = some (2 + 5, 3) := rfl
theorem o_79 : oF[79]? = some (2 + 5, 3) := rfl
theorem o_80 : oF[80]? = some (2 + 5, 3) := rfl
theorem o_81 : oF[81]? = some (2 + 5, 3) := rfl
theorem o_82 : oF[82]? = some (2 + 5, 3) := rfl
theorem o_83 : oF[83]? = some (2 + 5, 3) := rfl
theorem o_84 : oF[84]? = some (2 + 5, 3) := rfl
theorem o_85 : oF[85]? = some (2 + 5, 3) := rfl
theorem o_86 : oF[86]? = some (2 + 5, 3) := rfl
theorem o_87 : oF[87]? = some (2 + 5, 3) := rfl
theorem o_88 : oF[88]? = some (2 + 5, 3) := rfl
theorem o_89 : oF[89]? = some (2 + 5, 3) := rfl
theorem o_90 : oF[90]? = some (2 + 5, 3) := rfl
theorem o_91 : oF[91]? = some (2 + 5, 3) := rfl
theorem o_92 : oF[92]? = some (2 + 5, 3) := rfl
theorem o_93 : oF[93]? = some (7 + 5, 2) := rfl
theorem o_94 : oF[94]? = some (2 + 5, 3) := rfl
theorem o_95 : oF[95]? = some (2 + 5, 3) := rfl
theorem o_96 : oF[96]? = some (10 + 5, 5) := rfl
theorem o_97 : oF[97]? = some (1, 3) := rfl
theorem o_98 : oF[98]? = some (1, 3) := rfl
theorem o_99 : oF[99]? = some (0 + 5, 1) := rfl
theorem o_100 : oF[100]? = some (0, 16) := rfl
theorem o_101 : oF[101]? = some (3 + 5, 4) := rfl
theorem o_102 : oF[102]? = some (6 + 5, 5) := rfl
theorem o_103 : oF[103]? = some (0, 3) := rfl
theorem o_104 : oF[104]? = some (0, 12) := rfl
theorem o_105 : oF[105]? = some (5 + 5, 4) := rfl
theorem o_106 : oF[106]? = some (0, 32) := rfl
theorem o_107 : oF[107]? = some (0, 5) := rfl
theorem o_108 : oF[108]? = some (12 + 5, 63) := rfl
theorem o_109 : oF[109]? = some (0, 7) := rfl
theorem o_110 : oF[110]? = some (0, 200) := rfl
theorem o_111 : oF[111]? = some (0, 400) := rfl
theorem o_112 : oF[112]? = some (2, 2) := rfl
theorem o_113 : oF[113]? = some (0, 400) := rfl
theorem o_114 : oF[114]? = some (0, 1000) := rfl
theorem o_115 : oF[115]? = some (1, 10) := rfl
theorem o_116 : oF[116]? = some (1, 10) := rfl
theorem o_117 : oF[117]? = some (0, 60) := rfl
theorem o_118 : oF[118]? = some (0, 60) := rfl
theorem o_119 : oF[119]? = some (0, 60) := rfl
theorem o_120 : oF[120]? = some (0, 60) := rfl
theorem o_121 : oF[121]? = some (2, 60) := rfl
theorem o_122 : oF[122]? = some (0, 32) := rfl
theorem o_123 : oF[123]? = some (0, 6) := rfl
theorem o_124 : oF[124]? = some (1, 80) := rfl
theorem o_125 : oF[125]? = some (1, 80) := rfl
theorem o_126 : oF[126]? = some (2, 16) := rfl
theorem o_127 : oF[127]? = some (2, 16) := rfl
theorem o_128 : oF[128]? = some (1, 80) := rfl
theorem o_129 : oF[129]? = some (1, 80) := rfl
theorem o_130 : oF[130]? = some (2, 16) := rfl
theorem o_131 : oF[131]? = some (2, 16) := rfl
theorem o_132 : oF[132]? = some (1, 5) := rfl
theorem o_133 : oF[133]? = some (1, 5) := rfl
theorem o_134 : oF[134]? = some (2, 256) := rfl
theorem o_135 : oF[135]? = some (1, 10) := rfl
theorem o_136 : oF[136]? = some (1, 10) := rfl
theorem o_137 : oF[137]? = some (1, 5) := rfl
theorem o_138 : oF[138]? = some (1, 20) := rfl
theorem o_139 : oF[139]? = some (1, 10) := rfl
theorem o_140 : oF[140]? = some (1, 10) := rfl
theorem o_141 : oF[141]? = some (1, 10) := rfl
theorem o_142 : oF[142]? = some (1, 10) := rfl
theorem o_143 : oF[143]? = some (1, 3) := rfl
theorem o_144 : oF[144]? = some (1, 3) := rfl
theorem o_145 : oF[145]? = some (0, 16) := rfl
theorem o_146 : oF[146]? = some (0, 3) := rfl
theorem o_147 : oF[147]? = some (0, 32) := rfl
theorem m_cmp_lt {x y : Int} : m_cmp x y < 0 ↔ x < y := by unfold m_cmp; split <;> (try split) <;> omega
theorem m_cmp_ge {x y : Int} : 0 ≤ m_cmp x y ↔ y ≤ x := by unfold m_cmp; split <;> (try split) <;> omega
theorem m_cmp_gt {x y : Int} : 0 < m_cmp x y ↔ y < x := by unfold m_cmp; split <;> (try split) <;> omega
theorem m_cmp_le {x y : Int} : m_cmp x y ≤ 0 ↔ x ≤ y := by unfold m_cmp; split <;> (try split) <;> omega
theorem m_cmp_eq {x y : Int} : m_cmp x y = 0 ↔ x = y := by unfold m_cmp; split <;> (try split) <;> omega
theorem ediv_bd {x y hi : Int} (hx : 0 ≤ x) (hy : 0 < y) (hh : x ≤ hi) : 0 ≤ x / y ∧ x / y ≤ hi := ⟨Int.ediv_nonneg hx (by omega), Int.le_trans (Int.ediv_le_self y hx) hh⟩
def m_mask : List Bool → List (Option m_V) → List (Option m_V)
  | b :: bs, v :: vs => (if b then v else none) :: m_mask bs vs
  | _, _ => []
theorem m_mask_at : ∀ (mask : List Bool) (ls : List (Option m_V)) (i : Nat) (v : m_V), (m_mask mask ls)[i]? = some (some v) → ls[i]? = some (some v)
  | [], ls, i, v, h => by simp [m_mask] at h
  | b :: bs, [], i, v, h => by simp [m_mask] at h
  | b :: bs, a :: as, 0, v, h => by
    cases b
    · simp [m_mask] at h
    · simpa [m_mask] using h
  | b :: bs, a :: as, i + 1, v, h => by
    simp only [m_mask, List.getElem?_cons_succ] at h ⊢
    exact m_mask_at bs as i v h
theorem z_mask {M : m_M} {pc : Nat} {ls ls' : List (Option m_V)} {st : List m_V} {h : m_H} {Q : m_W → Option m_V → m_H → Prop} (mask : List Bool) (e : m_mask mask ls = ls') (k : m_Z oF M pc ls' st h Q) : m_Z oF M pc ls st h Q := by
  subst e
  exact z_sub (fun i v q => m_mask_at mask ls i v q) k
theorem m_and_k (x : Int) {c : Int} (k : Nat) (hm : (Int32.ofInt c).toBitVec.toNat = 2 ^ k - 1) (hk : k ≤ 30) : 0 ≤ m_and x c ∧ m_and x c ≤ (2 : Int) ^ k - 1 := by
  obtain ⟨j, hj, e⟩ := pk_andE (Int32.ofInt x) k hm
  have h1 : (2 : Nat) ^ k ≤ 2 ^ 30 := Nat.pow_le_pow_right (by decide) hk
  unfold m_and
  rw [e, nI_toInt (by omega)]
  have h2 : ((2 : Nat) ^ k : Nat) = ((2 : Int) ^ k) := by simp
  omega
theorem m_and_1 (x : Int) : 0 ≤ m_and x 1 ∧ m_and x 1 ≤ 1 := m_and_k x 1 (by decide) (by decide)
theorem m_and_3 (x : Int) : 0 ≤ m_and x 3 ∧ m_and x 3 ≤ 3 := m_and_k x 2 (by decide) (by decide)
theorem m_and_63 (x : Int) : 0 ≤ m_and x 63 ∧ m_and x 63 ≤ 63 := m_and_k x 6 (by decide) (by decide)
theorem m_and_255 (x : Int) : 0 ≤ m_and x 255 ∧ m_and x 255 ≤ 255 := m_and_k x 8 (by decide) (by decide)
theorem m_ushr_24 (x : Int) : 0 ≤ m_ushr x 24 ∧ m_ushr x 24 ≤ 255 := by
  have h1 := pk_ushr (Int32.ofInt x) (Int32.ofInt 24) 24 (by decide)
  unfold m_ushr
  generalize ((Int32.ofInt x).toUInt32 >>> ((Int32.ofInt 24).toUInt32 &&& Int32.toUInt32 31)).toInt32 = z at h1 ⊢
  have h2 : (Int32.ofInt x).toBitVec.toNat < 2 ^ 32 := BitVec.isLt _
  have h3 : z.toBitVec.toNat < 256 := by rw [h1]; omega
  have h4 : z.toInt = (z.toBitVec.toNat : Int) := by
    rw [← Int32.toInt_toBitVec, BitVec.toInt_eq_toNat_of_lt (by omega)]
  omega
section ZE
variable {M : m_M} {ls : List (Option m_V)} {st : List m_V} {h : m_H} {Q : m_W → Option m_V → m_H → Prop}
theorem z_ialdE (pc : Nat) {k n : Nat} {i x : Int} (d : decode M.2.2.1 pc = .ok (.iaload, 1)) (hk : oF[k]? = some (0, n)) (h0 : 0 ≤ i) (h1 : i < n) (e : h k i.toNat = x) (kk : m_Z oF M (pc + 1) ls (mI x :: st) h Q) : m_Z oF M pc ls (mI i :: mR k :: st) h Q := z_iald pc d hk h0 h1 (by rw [e]; exact kk)
theorem z_zaldE (pc : Nat) {k n : Nat} {i x : Int} (d : decode M.2.2.1 pc = .ok (.baload, 1)) (hk : oF[k]? = some (2, n)) (h0 : 0 ≤ i) (h1 : i < n) (e : h k i.toNat = x) (kk : m_Z oF M (pc + 1) ls (mI x :: st) h Q) : m_Z oF M pc ls (mI i :: mR k :: st) h Q := z_zald pc d hk h0 h1 (by rw [e]; exact kk)
theorem z_laldE (pc : Nat) {k n : Nat} {i x : Int} (d : decode M.2.2.1 pc = .ok (.laload, 1)) (hk : oF[k]? = some (1, n)) (h0 : 0 ≤ i) (h1 : i < n) (e : h k i.toNat = x) (kk : m_Z oF M (pc + 1) ls (mJ x :: st) h Q) : m_Z oF M pc ls (mI i :: mR k :: st) h Q := z_lald pc d hk h0 h1 (by rw [e]; exact kk)
end ZE
theorem gw_w {h : m_H} (G : GI h) {i : Int} (h1 : 10 ≤ i) (h2 : i ≤ 41) : (-1 : Int) ≤ h 110 i.toNat ∧ h 110 i.toNat ≤ 3 := by
  have h3 := g_110 G (j := i.toNat) (by omega)
  have e1 : r_lo i.toNat = -1 := by unfold r_lo; rw [if_neg (by omega), if_neg (by omega), if_pos (by omega)]
  have e2 : r_hi i.toNat = 3 := by unfold r_hi; rw [if_neg (by omega), if_neg (by omega), if_neg (by omega), if_pos (by omega)]
  rw [e1, e2] at h3; exact h3
theorem uw_w {h : m_H} (G : GI h) {i v : Int} (h1 : 10 ≤ i) (h2 : i ≤ 41) (h3 : (-1 : Int) ≤ v) (h4 : v ≤ 3) : GI (m_up h 110 i.toNat v) := by
  have e1 : r_lo i.toNat = -1 := by unfold r_lo; rw [if_neg (by omega), if_neg (by omega), if_pos (by omega)]
  have e2 : r_hi i.toNat = 3 := by unfold r_hi; rw [if_neg (by omega), if_neg (by omega), if_neg (by omega), if_pos (by omega)]
  exact u_110 G (by rw [e1]; exact h3) (by rw [e2]; exact h4)
theorem gw_c {h : m_H} (G : GI h) {i : Int} (h1 : 42 ≤ i) (h2 : i ≤ 47) : (-1 : Int) ≤ h 110 i.toNat ∧ h 110 i.toNat ≤ 31 := by
  have h3 := g_110 G (j := i.toNat) (by omega)
  have e1 : r_lo i.toNat = -1 := by unfold r_lo; rw [if_neg (by omega), if_neg (by omega), if_pos (by omega)]
  have e2 : r_hi i.toNat = 31 := by unfold r_hi; rw [if_neg (by omega), if_neg (by omega), if_neg (by omega), if_neg (by omega), if_pos (by omega)]
  rw [e1, e2] at h3; exact h3
theorem uw_c {h : m_H} (G : GI h) {i v : Int} (h1 : 42 ≤ i) (h2 : i ≤ 47) (h3 : (-1 : Int) ≤ v) (h4 : v ≤ 31) : GI (m_up h 110 i.toNat v) := by
  have e1 : r_lo i.toNat = -1 := by unfold r_lo; rw [if_neg (by omega), if_neg (by omega), if_pos (by omega)]
  have e2 : r_hi i.toNat = 31 := by unfold r_hi; rw [if_neg (by omega), if_neg (by omega), if_neg (by omega), if_neg (by omega), if_pos (by omega)]
  exact u_110 G (by rw [e1]; exact h3) (by rw [e2]; exact h4)
theorem gw_s {h : m_H} (G : GI h) {i : Int} (h1 : 48 ≤ i) (h2 : i ≤ 59) : (0 : Int) ≤ h 110 i.toNat ∧ h 110 i.toNat ≤ 3 := by
  have h3 := g_110 G (j := i.toNat) (by omega)
  have e1 : r_lo i.toNat = 0 := by unfold r_lo; rw [if_neg (by omega), if_neg (by omega), if_neg (by omega), if_pos (by omega)]
  have e2 : r_hi i.toNat = 3 := by unfold r_hi; rw [if_neg (by omega), if_neg (by omega), if_neg (by omega), if_neg (by omega), if_neg (by omega), if_pos (by omega)]
  rw [e1, e2] at h3; exact h3
theorem uw_s {h : m_H} (G : GI h) {i v : Int} (h1 : 48 ≤ i) (h2 : i ≤ 59) (h3 : (0 : Int) ≤ v) (h4 : v ≤ 3) : GI (m_up h 110 i.toNat v) := by
  have e1 : r_lo i.toNat = 0 := by unfold r_lo; rw [if_neg (by omega), if_neg (by omega), if_neg (by omega), if_pos (by omega)]
  have e2 : r_hi i.toNat = 3 := by unfold r_hi; rw [if_neg (by omega), if_neg (by omega), if_neg (by omega), if_neg (by omega), if_neg (by omega), if_pos (by omega)]
  exact u_110 G (by rw [e1]; exact h3) (by rw [e2]; exact h4)
theorem gw_l {h : m_H} (G : GI h) {i : Int} (h1 : 60 ≤ i) (h2 : i ≤ 75) : (1 : Int) ≤ h 110 i.toNat ∧ h 110 i.toNat ≤ 9999 := by
  have h3 := g_110 G (j := i.toNat) (by omega)
  have e1 : r_lo i.toNat = 1 := by unfold r_lo; rw [if_neg (by omega), if_neg (by omega), if_neg (by omega), if_neg (by omega), if_pos (by omega)]
  have e2 : r_hi i.toNat = 9999 := by unfold r_hi; rw [if_neg (by omega), if_neg (by omega), if_neg (by omega), if_neg (by omega), if_neg (by omega), if_neg (by omega), if_pos (by omega)]
  rw [e1, e2] at h3; exact h3
theorem uw_l {h : m_H} (G : GI h) {i v : Int} (h1 : 60 ≤ i) (h2 : i ≤ 75) (h3 : (1 : Int) ≤ v) (h4 : v ≤ 9999) : GI (m_up h 110 i.toNat v) := by
  have e1 : r_lo i.toNat = 1 := by unfold r_lo; rw [if_neg (by omega), if_neg (by omega), if_neg (by omega), if_neg (by omega), if_pos (by omega)]
  have e2 : r_hi i.toNat = 9999 := by unfold r_hi; rw [if_neg (by omega), if_neg (by omega), if_neg (by omega), if_neg (by omega), if_neg (by omega), if_neg (by omega), if_pos (by omega)]
  exact u_110 G (by rw [e1]; exact h3) (by rw [e2]; exact h4)
theorem gw_0 {h : m_H} (G : GI h) : (0 : Int) ≤ h 110 (0 : Int).toNat ∧ h 110 (0 : Int).toNat ≤ 24 := g_110 G (j := 0) (by decide)
theorem uw_0 {h : m_H} (G : GI h) {v : Int} (h3 : (0 : Int) ≤ v) (h4 : v ≤ 24) : GI (m_up h 110 (0 : Int).toNat v) := u_110 G (j := 0) h3 h4
theorem gw_1 {h : m_H} (G : GI h) : (0 : Int) ≤ h 110 (1 : Int).toNat ∧ h 110 (1 : Int).toNat ≤ 6 := g_110 G (j := 1) (by decide)
theorem uw_1 {h : m_H} (G : GI h) {v : Int} (h3 : (0 : Int) ≤ v) (h4 : v ≤ 6) : GI (m_up h 110 (1 : Int).toNat v) := u_110 G (j := 1) h3 h4
theorem gw_e0 {h : m_H} (G : GI h) {i e : Int} (hi : i = 80 + 5 * e + 0) (h1 : 0 ≤ e) (h2 : e ≤ 23) : (0 : Int) ≤ h 110 i.toNat ∧ h 110 i.toNat ≤ 5 := by
  have h3 := g_110 G (j := i.toNat) (by omega)
  have e1 : r_lo i.toNat = 0 := by unfold r_lo; rw [if_neg (by omega), if_neg (by omega), if_neg (by omega), if_neg (by omega), if_neg (by omega), if_neg (by omega)]
  have e2 : r_hi i.toNat = 5 := by unfold r_hi; rw [if_neg (by omega), if_neg (by omega), if_neg (by omega), if_neg (by omega), if_neg (by omega), if_neg (by omega), if_neg (by omega), if_neg (by omega), if_pos (by omega)]
  rw [e1, e2] at h3; exact h3
theorem uw_e0 {h : m_H} (G : GI h) {i e v : Int} (hi : i = 80 + 5 * e + 0) (h1 : 0 ≤ e) (h2 : e ≤ 23) (h3 : (0 : Int) ≤ v) (h4 : v ≤ 5) : GI (m_up h 110 i.toNat v) := by
  have e1 : r_lo i.toNat = 0 := by unfold r_lo; rw [if_neg (by omega), if_neg (by omega), if_neg (by omega), if_neg (by omega), if_neg (by omega), if_neg (by omega)]
  have e2 : r_hi i.toNat = 5 := by unfold r_hi; rw [if_neg (by omega), if_neg (by omega), if_neg (by omega), if_neg (by omega), if_neg (by omega), if_neg (by omega), if_neg (by omega), if_neg (by omega), if_pos (by omega)]
  exact u_110 G (by rw [e1]; exact h3) (by rw [e2]; exact h4)
theorem gw_e1 {h : m_H} (G : GI h) {i e : Int} (hi : i = 80 + 5 * e + 1) (h1 : 0 ≤ e) (h2 : e ≤ 23) : (0 : Int) ≤ h 110 i.toNat ∧ h 110 i.toNat ≤ 31 := by
  have h3 := g_110 G (j := i.toNat) (by omega)
  have e1 : r_lo i.toNat = 0 := by unfold r_lo; rw [if_neg (by omega), if_neg (by omega), if_neg (by omega), if_neg (by omega), if_neg (by omega), if_neg (by omega)]
  have e2 : r_hi i.toNat = 31 := by unfold r_hi; rw [if_neg (by omega), if_neg (by omega), if_neg (by omega), if_neg (by omega), if_neg (by omega), if_neg (by omega), if_neg (by omega), if_neg (by omega), if_neg (by omega), if_pos (by omega)]
  rw [e1, e2] at h3; exact h3
theorem uw_e1 {h : m_H} (G : GI h) {i e v : Int} (hi : i = 80 + 5 * e + 1) (h1 : 0 ≤ e) (h2 : e ≤ 23) (h3 : (0 : Int) ≤ v) (h4 : v ≤ 31) : GI (m_up h 110 i.toNat v) := by
  have e1 : r_lo i.toNat = 0 := by unfold r_lo; rw [if_neg (by omega), if_neg (by omega), if_neg (by omega), if_neg (by omega), if_neg (by omega), if_neg (by omega)]
  have e2 : r_hi i.toNat = 31 := by unfold r_hi; rw [if_neg (by omega), if_neg (by omega), if_neg (by omega), if_neg (by omega), if_neg (by omega), if_neg (by omega), if_neg (by omega), if_neg (by omega), if_neg (by omega), if_pos (by omega)]
  exact u_110 G (by rw [e1]; exact h3) (by rw [e2]; exact h4)
theorem gw_e2 {h : m_H} (G : GI h) {i e : Int} (hi : i = 80 + 5 * e + 2) (h1 : 0 ≤ e) (h2 : e ≤ 23) : (0 : Int) ≤ h 110 i.toNat ∧ h 110 i.toNat ≤ 99 := by
  have h3 := g_110 G (j := i.toNat) (by omega)
  have e1 : r_lo i.toNat = 0 := by unfold r_lo; rw [if_neg (by omega), if_neg (by omega), if_neg (by omega), if_neg (by omega), if_neg (by omega), if_neg (by omega)]
  have e2 : r_hi i.toNat = 99 := by unfold r_hi; rw [if_neg (by omega), if_neg (by omega), if_neg (by omega), if_neg (by omega), if_neg (by omega), if_neg (by omega), if_neg (by omega), if_neg (by omega), if_neg (by omega), if_neg (by omega), if_pos (by omega)]
  rw [e1, e2] at h3; exact h3
theorem uw_e2 {h : m_H} (G : GI h) {i e v : Int} (hi : i = 80 + 5 * e + 2) (h1 : 0 ≤ e) (h2 : e ≤ 23) (h3 : (0 : Int) ≤ v) (h4 : v ≤ 99) : GI (m_up h 110 i.toNat v) := by
  have e1 : r_lo i.toNat = 0 := by unfold r_lo; rw [if_neg (by omega), if_neg (by omega), if_neg (by omega), if_neg (by omega), if_neg (by omega), if_neg (by omega)]
  have e2 : r_hi i.toNat = 99 := by unfold r_hi; rw [if_neg (by omega), if_neg (by omega), if_neg (by omega), if_neg (by omega), if_neg (by omega), if_neg (by omega), if_neg (by omega), if_neg (by omega), if_neg (by omega), if_neg (by omega), if_pos (by omega)]
  exact u_110 G (by rw [e1]; exact h3) (by rw [e2]; exact h4)
theorem gw_e3 {h : m_H} (G : GI h) {i e : Int} (hi : i = 80 + 5 * e + 3) (h1 : 0 ≤ e) (h2 : e ≤ 23) : (0 : Int) ≤ h 110 i.toNat ∧ h 110 i.toNat ≤ 2 := by
  have h3 := g_110 G (j := i.toNat) (by omega)
  have e1 : r_lo i.toNat = 0 := by unfold r_lo; rw [if_neg (by omega), if_neg (by omega), if_neg (by omega), if_neg (by omega), if_neg (by omega), if_neg (by omega)]
  have e2 : r_hi i.toNat = 2 := by unfold r_hi; rw [if_neg (by omega), if_neg (by omega), if_neg (by omega), if_neg (by omega), if_neg (by omega), if_neg (by omega), if_neg (by omega), if_neg (by omega), if_neg (by omega), if_neg (by omega), if_neg (by omega), if_pos (by omega)]
  rw [e1, e2] at h3; exact h3
theorem uw_e3 {h : m_H} (G : GI h) {i e v : Int} (hi : i = 80 + 5 * e + 3) (h1 : 0 ≤ e) (h2 : e ≤ 23) (h3 : (0 : Int) ≤ v) (h4 : v ≤ 2) : GI (m_up h 110 i.toNat v) := by
  have e1 : r_lo i.toNat = 0 := by unfold r_lo; rw [if_neg (by omega), if_neg (by omega), if_neg (by omega), if_neg (by omega), if_neg (by omega), if_neg (by omega)]
  have e2 : r_hi i.toNat = 2 := by unfold r_hi; rw [if_neg (by omega), if_neg (by omega), if_neg (by omega), if_neg (by omega), if_neg (by omega), if_neg (by omega), if_neg (by omega), if_neg (by omega), if_neg (by omega), if_neg (by omega), if_neg (by omega), if_pos (by omega)]
  exact u_110 G (by rw [e1]; exact h3) (by rw [e2]; exact h4)
theorem gw_e4 {h : m_H} (G : GI h) {i e : Int} (hi : i = 80 + 5 * e + 4) (h1 : 0 ≤ e) (h2 : e ≤ 23) : (0 : Int) ≤ h 110 i.toNat ∧ h 110 i.toNat ≤ 1 := by
  have h3 := g_110 G (j := i.toNat) (by omega)
  have e1 : r_lo i.toNat = 0 := by unfold r_lo; rw [if_neg (by omega), if_neg (by omega), if_neg (by omega), if_neg (by omega), if_neg (by omega), if_neg (by omega)]
  have e2 : r_hi i.toNat = 1 := by unfold r_hi; rw [if_neg (by omega), if_neg (by omega), if_neg (by omega), if_neg (by omega), if_neg (by omega), if_neg (by omega), if_neg (by omega), if_neg (by omega), if_neg (by omega), if_neg (by omega), if_neg (by omega), if_neg (by omega)]
  rw [e1, e2] at h3; exact h3
theorem uw_e4 {h : m_H} (G : GI h) {i e v : Int} (hi : i = 80 + 5 * e + 4) (h1 : 0 ≤ e) (h2 : e ≤ 23) (h3 : (0 : Int) ≤ v) (h4 : v ≤ 1) : GI (m_up h 110 i.toNat v) := by
  have e1 : r_lo i.toNat = 0 := by unfold r_lo; rw [if_neg (by omega), if_neg (by omega), if_neg (by omega), if_neg (by omega), if_neg (by omega), if_neg (by omega)]
  have e2 : r_hi i.toNat = 1 := by unfold r_hi; rw [if_neg (by omega), if_neg (by omega), if_neg (by omega), if_neg (by omega), if_neg (by omega), if_neg (by omega), if_neg (by omega), if_neg (by omega), if_neg (by omega), if_neg (by omega), if_neg (by omega), if_neg (by omega)]
  exact u_110 G (by rw [e1]; exact h3) (by rw [e2]; exact h4)
theorem gw_e {h : m_H} (G : GI h) {i : Int} (h1 : 80 ≤ i) (h2 : i ≤ 199) : (0 : Int) ≤ h 110 i.toNat ∧ h 110 i.toNat ≤ 99 := by
  have h3 := g_110 G (j := i.toNat) (by omega)
  have e1 : r_lo i.toNat = 0 := by unfold r_lo; rw [if_neg (by omega), if_neg (by omega), if_neg (by omega), if_neg (by omega), if_neg (by omega), if_neg (by omega)]
  have e2 : r_hi i.toNat ≤ 99 := by unfold r_hi; repeat' split <;> omega
  omega
theorem rb_w {i v : Int} (h1 : 10 ≤ i) (h2 : i ≤ 41) (h3 : (-1 : Int) ≤ v) (h4 : v ≤ 3) : r_lo i.toNat ≤ v ∧ v ≤ r_hi i.toNat := by
  have e1 : r_lo i.toNat = -1 := by unfold r_lo; rw [if_neg (by omega), if_neg (by omega), if_pos (by omega)]
  have e2 : r_hi i.toNat = 3 := by unfold r_hi; rw [if_neg (by omega), if_neg (by omega), if_neg (by omega), if_pos (by omega)]
  omega
theorem rb_c {i v : Int} (h1 : 42 ≤ i) (h2 : i ≤ 47) (h3 : (-1 : Int) ≤ v) (h4 : v ≤ 31) : r_lo i.toNat ≤ v ∧ v ≤ r_hi i.toNat := by
  have e1 : r_lo i.toNat = -1 := by unfold r_lo; rw [if_neg (by omega), if_neg (by omega), if_pos (by omega)]
  have e2 : r_hi i.toNat = 31 := by unfold r_hi; rw [if_neg (by omega), if_neg (by omega), if_neg (by omega), if_neg (by omega), if_pos (by omega)]
  omega
theorem rb_l {i v : Int} (h1 : 60 ≤ i) (h2 : i ≤ 75) (h3 : (1 : Int) ≤ v) (h4 : v ≤ 9999) : r_lo i.toNat ≤ v ∧ v ≤ r_hi i.toNat := by
  have e1 : r_lo i.toNat = 1 := by unfold r_lo; rw [if_neg (by omega), if_neg (by omega), if_neg (by omega), if_neg (by omega), if_pos (by omega)]
  have e2 : r_hi i.toNat = 9999 := by unfold r_hi; rw [if_neg (by omega), if_neg (by omega), if_neg (by omega), if_neg (by omega), if_neg (by omega), if_neg (by omega), if_pos (by omega)]
  omega
theorem rb_e4 {i e v : Int} (hi : i = 80 + 5 * e + 4) (h1 : 0 ≤ e) (h2 : e ≤ 23) (h3 : (0 : Int) ≤ v) (h4 : v ≤ 1) : r_lo i.toNat ≤ v ∧ v ≤ r_hi i.toNat := by
  have e1 : r_lo i.toNat = 0 := by unfold r_lo; rw [if_neg (by omega), if_neg (by omega), if_neg (by omega), if_neg (by omega), if_neg (by omega), if_neg (by omega)]
  have e2 : r_hi i.toNat = 1 := by unfold r_hi; rw [if_neg (by omega), if_neg (by omega), if_neg (by omega), if_neg (by omega), if_neg (by omega), if_neg (by omega), if_neg (by omega), if_neg (by omega), if_neg (by omega), if_neg (by omega), if_neg (by omega), if_neg (by omega)]
  omega
theorem le_e {a x c : Int} (e : a = x) (h : x ≤ c) : a ≤ c := by omega
theorem ux_111 {h : m_H} (G : GI h) {j : Nat} {v : Int} (hv : r_lo (j % 200) ≤ v ∧ v ≤ r_hi (j % 200)) : GI (m_up h 111 j v) := by
  refine ⟨fun a p ha b hb => ?_, fun a ha z i hi => ?_⟩
  · by_cases hab : a = 111 ∧ b = j
    · obtain ⟨rfl, rfl⟩ := hab
      cases (rfl : g_bt[111]? = some (400, g_p111)).symm.trans ha
      trivial
    · rw [m_up_ne hab]; exact G.1 a p ha b hb
  · rw [m_up_ne1 (by decide)] at z
    by_cases hj : 200 * a + i = j
    · rw [hj, m_up_eq]
      have : j % 200 = i := by omega
      rw [this] at hv
      exact hv
    · rw [m_up_ne (fun q => hj q.2)]
      exact G.2 a ha z i hi
theorem ux_112 {h : m_H} (G : GI h) {j : Nat} {v : Int} (h1 : 0 ≤ v) (h2 : v ≤ 1) (hv : ∀ i, i < 200 → r_lo i ≤ h 111 (200 * j + i) ∧ h 111 (200 * j + i) ≤ r_hi i) : GI (m_up h 112 j v) := by
  refine ⟨fun a p ha b hb => ?_, fun a ha z i hi => ?_⟩
  · by_cases hab : a = 112 ∧ b = j
    · obtain ⟨rfl, rfl⟩ := hab
      cases (rfl : g_bt[112]? = some (2, g_p112)).symm.trans ha
      rw [m_up_eq]; exact ⟨h1, h2⟩
    · rw [m_up_ne hab]; exact G.1 a p ha b hb
  · rw [m_up_ne1 (by decide)]
    by_cases hj : a = j
    · subst hj; exact hv i hi
    · rw [m_up_ne (fun q => hj q.2)] at z
      exact G.2 a ha z i hi
