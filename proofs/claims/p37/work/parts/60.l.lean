abbrev M_law : m_M := (RL, yL_law, cL_law, 4, some .boolean, room_1, 0, 0)
def sc (xs : Nat → Int32) (j : Int) : Int := (xs j.toNat).toInt
def xL (L : Nat) (xs : Nat → Int32) : m_E → Method → State → Prop := fun E _ s => (va_AO "WeekFoot$Bound" s ∧ va_AO "WeekFoot$Ledger" s) ∧ va_X (E.1.2 41) L xs s s.heap ∧ E.1.2 41 < s.heap.size ∧ E.1.1 = s.heap.size
theorem xL_A {L : Nat} {xs : Nat → Int32} : xA (xL L xs) := fun _ _ _ h => h.1
section YL
variable {L : Nat} {xs : Nat → Int32} {Ω : m_W} {M : m_M} {ls : List (Option m_V)} {st : List m_V} {h : m_H} {Q : m_W → Option m_V → m_H → Prop}
theorem y_sld (pc : Nat) {i : Int} (d : decode M.2.2.1 pc = .ok (.iaload, 1)) (h0 : 0 ≤ i) (h1 : i < L) (k : m_Y (xL L xs) Ω M (pc + 1) ls (mI (sc xs i) :: st) h Q) : m_Y (xL L xs) Ω M pc ls (mI i :: mO 41 :: st) h Q := by
  intro E p l e s m args below meth c QQ H locs lsR hX C Rt Rl LL o b
  rw [List.map_cons, List.map_cons, m_vO (i := 41) (by decide)]
  refine va_sld C.1 C.2.1 hX.2.1 hX.2.2.1 (by show ¬ E.1.1 ≤ _; rw [hX.2.2.2]; exact Nat.not_le.mpr hX.2.2.1) Rl.2.2.1 (m_ix o.1 h0 h1) d ?_
  have key := k E p l e s m args below meth c QQ H locs lsR hX C Rt Rl LL ⟨m_32t _, o.2.2⟩ b
  have e1 : m_v E (mI (sc xs i)) = .int (xs (Int32.ofInt i).toNatClampNeg) := by
    show Value.int (Int32.ofInt (xs i.toNat).toInt) = _
    rw [Int32.ofInt_toInt, m_cn o.1]
  rw [List.map_cons, e1] at key
  exact key
theorem y_slen (pc : Nat) (d : decode M.2.2.1 pc = .ok (.arraylength, 1)) (hL : L ≤ 3072) (k : m_Y (xL L xs) Ω M (pc + 1) ls (mI (L : Int) :: st) h Q) : m_Y (xL L xs) Ω M pc ls (mO 41 :: st) h Q := by
  intro E p l e s m args below meth c QQ H locs lsR hX C Rt Rl LL o b
  rw [List.map_cons, m_vO (i := 41) (by decide)]
  refine va_slen C.1 C.2.1 hX.2.1 hX.2.2.1 (by show ¬ E.1.1 ≤ _; rw [hX.2.2.2]; exact Nat.not_le.mpr hX.2.2.1) Rl.2.2.1 d ?_
  exact k E p l e s m args below meth c QQ H locs lsR hX C Rt Rl LL ⟨by show m_32 _; unfold m_32; omega, o.2⟩ b
end YL
def LI (h : m_H) : Prop := GI h ∧ NP h ∧ h 35 1 = h 108 8 ∧ LX h ∧ DR h
abbrev Ql : m_W → Option m_V → m_H → Prop := fun w r _ => w = oF ∧ r = some (mI 1)
theorem ll_13 : Cond.methodLink RL 13 yX11_week ∈ m_G := m_inG 455 (by decide +kernel) rfl
theorem ll_17 : Cond.methodLink RL 17 yX12_week ∈ m_G := m_inG 1401 (by decide +kernel) rfl
theorem ll_18 : Cond.methodLink RL 18 yX11_cut ∈ m_G := m_inG 473 (by decide +kernel) rfl
theorem ll_21 : Cond.methodLink RL 21 yX12_cut ∈ m_G := m_inG 1419 (by decide +kernel) rfl
theorem ll_22 : Cond.methodLink RL 22 yX11_shorter ∈ m_G := m_inG 480 (by decide +kernel) rfl
theorem ll_25 : Cond.methodLink RL 25 yX12_shorter ∈ m_G := m_inG 1427 (by decide +kernel) rfl
theorem ll_26 : Cond.methodLink RL 26 yX11_entry ∈ m_G := m_inG 513 (by decide +kernel) rfl
theorem ll_30 : Cond.methodLink RL 30 yX12_entry ∈ m_G := m_inG 1442 (by decide +kernel) rfl
theorem ll_31 : Cond.methodLink RL 31 yX11_counts ∈ m_G := m_inG 535 (by decide +kernel) rfl
theorem ll_34 : Cond.methodLink RL 34 yX12_counts ∈ m_G := m_inG 1455 (by decide +kernel) rfl
theorem ll_35 : Cond.methodLink RL 35 yX11_of ∈ m_G := m_inG 547 (by decide +kernel) rfl
theorem ll_38 : Cond.methodLink RL 38 yX12_of ∈ m_G := m_inG 1463 (by decide +kernel) rfl
theorem ll_39 : Cond.methodLink RL 39 yX11_feed ∈ m_G := m_inG 559 (by decide +kernel) rfl
theorem ll_43 : Cond.methodLink RL 43 yX12_feed ∈ m_G := m_inG 1483 (by decide +kernel) rfl
theorem ll_44 : Cond.methodLink RL 44 yX11_end ∈ m_G := m_inG 567 (by decide +kernel) rfl
theorem ll_48 : Cond.methodLink RL 48 yX12_end ∈ m_G := m_inG 1491 (by decide +kernel) rfl
theorem ll_49 : Cond.methodLink RL 49 yX11_row ∈ m_G := m_inG 571 (by decide +kernel) rfl
theorem ll_53 : Cond.methodLink RL 53 yX12_row ∈ m_G := m_inG 1475 (by decide +kernel) rfl
theorem ll_54 : Cond.methodLink RL 54 yX11_blurred ∈ m_G := m_inG 579 (by decide +kernel) rfl
theorem ll_57 : Cond.methodLink RL 57 yX12_blurred ∈ m_G := m_inG 1479 (by decide +kernel) rfl
theorem ll_58 : Cond.methodLink RL 58 yX11_book ∈ m_G := m_inG 583 (by decide +kernel) rfl
theorem ll_61 : Cond.methodLink RL 61 yX12_book ∈ m_G := m_inG 1499 (by decide +kernel) rfl
theorem ll_62 : Cond.methodLink RL 62 yX11_fault ∈ m_G := m_inG 715 (by decide +kernel) rfl
theorem ll_65 : Cond.methodLink RL 65 yX12_fault ∈ m_G := m_inG 1495 (by decide +kernel) rfl
theorem ll_66 : Cond.methodLink RL 66 yX11_fits ∈ m_G := m_inG 719 (by decide +kernel) rfl
theorem ll_69 : Cond.methodLink RL 69 yX12_fits ∈ m_G := m_inG 1584 (by decide +kernel) rfl
theorem ll_70 : Cond.methodLink RL 70 yX11_between ∈ m_G := m_inG 801 (by decide +kernel) rfl
theorem ll_74 : Cond.methodLink RL 74 yX12_between ∈ m_G := m_inG 1642 (by decide +kernel) rfl
theorem ll_75 : Cond.methodLink RL 75 yX11_sure ∈ m_G := m_inG 857 (by decide +kernel) rfl
theorem ll_78 : Cond.methodLink RL 78 yX12_sure ∈ m_G := m_inG 1670 (by decide +kernel) rfl
theorem ll_79 : Cond.methodLink RL 79 yX11_feet ∈ m_G := m_inG 866 (by decide +kernel) rfl
theorem ll_82 : Cond.methodLink RL 82 yX12_feet ∈ m_G := m_inG 1678 (by decide +kernel) rfl
theorem ll_83 : Cond.methodLink RL 83 yX11_part ∈ m_G := m_inG 888 (by decide +kernel) rfl
theorem ll_87 : Cond.methodLink RL 87 yX12_part ∈ m_G := m_inG 1718 (by decide +kernel) rfl
theorem ll_88 : Cond.methodLink RL 88 yX11_lay ∈ m_G := m_inG 901 (by decide +kernel) rfl
theorem ll_91 : Cond.methodLink RL 91 yX12_lay ∈ m_G := m_inG 1729 (by decide +kernel) rfl
theorem ll_92 : Cond.methodLink RL 92 yX11_area ∈ m_G := m_inG 933 (by decide +kernel) rfl
theorem ll_95 : Cond.methodLink RL 95 yX12_area ∈ m_G := m_inG 1763 (by decide +kernel) rfl
theorem ll_96 : Cond.methodLink RL 96 yX11_would ∈ m_G := m_inG 942 (by decide +kernel) rfl
theorem ll_99 : Cond.methodLink RL 99 yX12_would ∈ m_G := m_inG 1682 (by decide +kernel) rfl
theorem ll_100 : Cond.methodLink RL 100 yX11_numbers ∈ m_G := m_inG 972 (by decide +kernel) rfl
theorem ll_103 : Cond.methodLink RL 103 yX12_numbers ∈ m_G := m_inG 1702 (by decide +kernel) rfl
theorem ll_104 : Cond.methodLink RL 104 yX11_ask ∈ m_G := m_inG 983 (by decide +kernel) rfl
theorem ll_107 : Cond.methodLink RL 107 yX12_ask ∈ m_G := m_inG 1710 (by decide +kernel) rfl
theorem ll_108 : Cond.methodLink RL 108 yX11_dates ∈ m_G := m_inG 991 (by decide +kernel) rfl
theorem ll_111 : Cond.methodLink RL 111 yX12_dates ∈ m_G := m_inG 1714 (by decide +kernel) rfl
theorem ll_112 : Cond.methodLink RL 112 yX11_joined ∈ m_G := m_inG 1005 (by decide +kernel) rfl
theorem ll_115 : Cond.methodLink RL 115 yX12_joined ∈ m_G := m_inG 1768 (by decide +kernel) rfl
theorem ll_116 : Cond.methodLink RL 116 yX11_groups ∈ m_G := m_inG 1026 (by decide +kernel) rfl
theorem ll_119 : Cond.methodLink RL 119 yX12_groups ∈ m_G := m_inG 1776 (by decide +kernel) rfl
theorem ll_120 : Cond.methodLink RL 120 yX11_core ∈ m_G := m_inG 1043 (by decide +kernel) rfl
theorem ll_123 : Cond.methodLink RL 123 yX12_core ∈ m_G := m_inG 1780 (by decide +kernel) rfl
theorem ll_124 : Cond.methodLink RL 124 yX11_wrong ∈ m_G := m_inG 1052 (by decide +kernel) rfl
theorem ll_127 : Cond.methodLink RL 127 yX12_wrong ∈ m_G := m_inG 1784 (by decide +kernel) rfl
theorem ll_128 : Cond.methodLink RL 128 yX11_whose ∈ m_G := m_inG 1068 (by decide +kernel) rfl
theorem ll_131 : Cond.methodLink RL 131 yX12_whose ∈ m_G := m_inG 1788 (by decide +kernel) rfl
theorem ll_132 : Cond.methodLink RL 132 yX11_could ∈ m_G := m_inG 1105 (by decide +kernel) rfl
theorem ll_135 : Cond.methodLink RL 135 yX12_could ∈ m_G := m_inG 1804 (by decide +kernel) rfl
theorem ll_136 : Cond.methodLink RL 136 yX11_when ∈ m_G := m_inG 1110 (by decide +kernel) rfl
theorem ll_139 : Cond.methodLink RL 139 yX12_when ∈ m_G := m_inG 1808 (by decide +kernel) rfl
theorem ll_140 : Cond.methodLink RL 140 yX11_tell ∈ m_G := m_inG 1114 (by decide +kernel) rfl
theorem ll_143 : Cond.methodLink RL 143 yX12_tell ∈ m_G := m_inG 1812 (by decide +kernel) rfl
theorem ll_144 : Cond.methodLink RL 144 yX11_says ∈ m_G := m_inG 1118 (by decide +kernel) rfl
theorem ll_147 : Cond.methodLink RL 147 yX12_says ∈ m_G := m_inG 1817 (by decide +kernel) rfl
theorem ll_148 : Cond.methodLink RL 148 yX11_judge ∈ m_G := m_inG 1124 (by decide +kernel) rfl
theorem ll_151 : Cond.methodLink RL 151 yX12_judge ∈ m_G := m_inG 1821 (by decide +kernel) rfl
theorem ll_152 : Cond.methodLink RL 152 yX11_year ∈ m_G := m_inG 1143 (by decide +kernel) rfl
theorem ll_155 : Cond.methodLink RL 155 yX12_year ∈ m_G := m_inG 1829 (by decide +kernel) rfl
theorem ll_156 : Cond.methodLink RL 156 yX11_trade ∈ m_G := m_inG 1162 (by decide +kernel) rfl
theorem ll_159 : Cond.methodLink RL 159 yX12_trade ∈ m_G := m_inG 1841 (by decide +kernel) rfl
theorem ll_160 : Cond.methodLink RL 160 yX11_told ∈ m_G := m_inG 1166 (by decide +kernel) rfl
theorem ll_163 : Cond.methodLink RL 163 yX12_told ∈ m_G := m_inG 1846 (by decide +kernel) rfl
theorem ll_164 : Cond.methodLink RL 164 yX11_image ∈ m_G := m_inG 1171 (by decide +kernel) rfl
theorem ll_167 : Cond.methodLink RL 167 yX12_image ∈ m_G := m_inG 1386 (by decide +kernel) rfl
theorem ll_168 : Cond.methodLink RL 168 yX11_back ∈ m_G := m_inG 1175 (by decide +kernel) rfl
theorem ll_171 : Cond.methodLink RL 171 yX12_back ∈ m_G := m_inG 1397 (by decide +kernel) rfl
theorem ll_172 : Cond.methodLink RL 172 yX11_count ∈ m_G := m_inG 1179 (by decide +kernel) rfl
theorem ll_175 : Cond.methodLink RL 175 yX12_count ∈ m_G := m_inG 1850 (by decide +kernel) rfl
theorem ll_176 : Cond.methodLink RL 176 yX11_status ∈ m_G := m_inG 1186 (by decide +kernel) rfl
theorem ll_179 : Cond.methodLink RL 179 yX12_status ∈ m_G := m_inG 1857 (by decide +kernel) rfl
