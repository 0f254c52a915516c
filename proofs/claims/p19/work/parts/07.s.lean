/-! the String constants and two static fields of the library -/
section ZS
variable {Ω : m_W} {M : m_M} {ls : List (Option m_V)} {st : List m_V} {h : m_H} {Q : m_W → Option m_V → m_H → Prop}
theorem z_ldcS (pc : Nat) {index i : Nat} {q : Nat × String} (d : decode M.2.2.1 pc = .ok (.ldc index, 2)) (hM : M.1 = "WeekFoot$BookReader") (hq : m_sx[i]? = some q) (hx : q.1 = index) (k : m_Z Ω M (pc + 2) ls (mO i :: st) h Q) : m_Z Ω M pc ls st h Q := by
  intro E p l e s m args below meth c QQ H locs lsR C Rt Rl L o b
  subst hx
  have hown := C.2.2.2.1
  rw [hM] at hown
  refine va_ldcS C.1 C.2.1 (own := "WeekFoot$BookReader") (tx := q.2) (q := E.1.2 i) hown (C.2.2.2.2.2.2.2.1.2.1 i q hq) d ?_
  have hi : i < 16 := (List.getElem?_eq_some_iff.mp hq).1
  have key := k E p l e s m args below meth c QQ H locs lsR C Rt Rl L ⟨trivial, o⟩ b
  rw [List.map_cons, m_vO (by omega)] at key
  exact key
theorem z_coder (pc : Nat) {index i : Nat} (d : decode M.2.2.1 pc = .ok (.getfield index, 3)) (w : Cond.fieldLink M.1 index "java/lang/String" "coder" "B" ∈ m_G) (hi : i < 16) (k : m_Z Ω M (pc + 3) ls (mI 0 :: st) h Q) : m_Z Ω M pc ls (mO i :: st) h Q := by
  intro E p l e s m args below meth c QQ H locs lsR C Rt Rl L o b
  rw [List.map_cons, m_vO (by omega)]
  refine vk_getf C.1 C.2.1 (C.2.2.2.2.2.2.2.1.1.1 i hi).2.1 Rl.2.2.1 C.2.2.2.1 (C.2.2.2.2.1 _ w) (fun _ z => z) d ?_
  exact k E p l e s m args below meth c QQ H locs lsR C Rt Rl L ⟨by show m_32 _; unfold m_32; decide, o.2⟩ b
theorem z_value (pc : Nat) {index i : Nat} (d : decode M.2.2.1 pc = .ok (.getfield index, 3)) (w : Cond.fieldLink M.1 index "java/lang/String" "value" "[B" ∈ m_G) (hi : i < 16) (k : m_Z Ω M (pc + 3) ls (mO (20 + i) :: st) h Q) : m_Z Ω M pc ls (mO i :: st) h Q := by
  intro E p l e s m args below meth c QQ H locs lsR C Rt Rl L o b
  rw [List.map_cons, m_vO (by omega)]
  refine vk_getf C.1 C.2.1 (C.2.2.2.2.2.2.2.1.1.1 i hi).2.2.1 Rl.2.2.1 C.2.2.2.1 (C.2.2.2.2.1 _ w) (fun _ z => z) d ?_
  have key := k E p l e s m args below meth c QQ H locs lsR C Rt Rl L ⟨trivial, o.2⟩ b
  rw [List.map_cons, m_vO (by omega)] at key
  exact key
theorem m_sl_le (i : Nat) : m_sl.getD i 0 ≤ 6 := by
  by_cases hi : i < 16
  · have : ∀ j : Fin 16, m_sl.getD j.1 0 ≤ 6 := by decide
    exact this ⟨i, hi⟩
  · rw [List.getD_eq_getElem?_getD, List.getElem?_eq_none (by show 16 ≤ i; omega)]; decide
theorem z_alenO (pc : Nat) {i : Nat} (d : decode M.2.2.1 pc = .ok (.arraylength, 1)) (hi : i < 16) (k : m_Z Ω M (pc + 1) ls (mI (m_sl.getD i 0 : Nat) :: st) h Q) : m_Z Ω M pc ls (mO (20 + i) :: st) h Q := by
  intro E p l e s m args below meth c QQ H locs lsR C Rt Rl L o b
  rw [List.map_cons, m_vO (by omega)]
  refine va_tlen C.1 C.2.1 (C.2.2.2.2.2.2.2.1.1.1 i hi).2.2.2 Rl.2.2.1 (v := Int32.ofInt ((m_sl.getD i 0 : Nat) : Int)) rfl d ?_
  have := m_sl_le i
  exact k E p l e s m args below meth c QQ H locs lsR C Rt Rl L ⟨by show m_32 _; unfold m_32; omega, o.2⟩ b
theorem z_baldO (pc : Nat) {i : Nat} {j : Int} (d : decode M.2.2.1 pc = .ok (.baload, 1)) (hi : i < 16) (h0 : 0 ≤ j) (h1 : j < (m_sl.getD i 0 : Nat)) (k : m_Z Ω M (pc + 1) ls (mI ((m_sb.getD i []).getD j.toNat 0).toInt :: st) h Q) : m_Z Ω M pc ls (mI j :: mO (20 + i) :: st) h Q := by
  intro E p l e s m args below meth c QQ H locs lsR C Rt Rl L o b
  rw [List.map_cons, List.map_cons, m_vO (i := 20 + i) (by omega)]
  refine va_tb C.1 C.2.1 (C.2.2.2.2.2.2.2.1.1.1 i hi).2.2.2 Rl.2.2.1 (m_ix o.1 h0 h1) (v := .int (Int32.ofInt ((m_sb.getD i []).getD j.toNat 0).toInt)) (by rw [m_cn o.1, Int32.ofInt_toInt]) d ?_
  exact k E p l e s m args below meth c QQ H locs lsR C Rt Rl L ⟨by show m_32 _; unfold m_32; have a1 := Int32.le_toInt ((m_sb.getD i []).getD j.toNat 0); have a2 := Int32.toInt_lt ((m_sb.getD i []).getD j.toNat 0); omega, o.2.2⟩ b
theorem z_gstC (pc : Nat) {index : Nat} (d : decode M.2.2.1 pc = .ok (.getstatic index, 3)) (w : Cond.fieldLink M.1 index "java/lang/String" "COMPACT_STRINGS" "Z" ∈ m_G) (k : m_Z Ω M (pc + 3) ls (mI 1 :: st) h Q) : m_Z Ω M pc ls st h Q := by
  intro E p l e s m args below meth c QQ H locs lsR C Rt Rl L o b
  refine va_gets C.1 C.2.1 C.2.2.2.2.2.2.2.1.2.2.1 Rl.2.2.1 C.2.2.2.1 (C.2.2.2.2.1 _ w) (fun _ z => z) d ?_
  exact k E p l e s m args below meth c QQ H locs lsR C Rt Rl L ⟨by show m_32 _; unfold m_32; decide, o⟩ b
theorem z_gstF (pc : Nat) {index : Nat} (d : decode M.2.2.1 pc = .ok (.getstatic index, 3)) (w : Cond.fieldLink M.1 index "jdk/internal/util/Preconditions" "SIOOBE_FORMATTER" "Ljava/util/function/BiFunction;" ∈ m_G) (k : m_Z Ω M (pc + 3) ls (mO 40 :: st) h Q) : m_Z Ω M pc ls st h Q := by
  intro E p l e s m args below meth c QQ H locs lsR C Rt Rl L o b
  refine va_gets C.1 C.2.1 C.2.2.2.2.2.2.2.1.2.2.2 Rl.2.2.1 C.2.2.2.1 (C.2.2.2.2.1 _ w) (fun _ z => z) d ?_
  exact k E p l e s m args below meth c QQ H locs lsR C Rt Rl L ⟨trivial, o⟩ b
end ZS
