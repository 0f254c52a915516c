theorem mm_ini : Cond.initialized "java/lang/Math" ∈ m_G := m_inG 101 (by decide +kernel) rfl
theorem mm_maxI_s : Cond.static Lib.Math.max.name ∈ m_G := m_inG 238 (by decide +kernel) rfl
theorem mm_maxI_c : Cond.code Lib.Math.max.name Lib.Math.max.code 2 (some .int) ∈ m_G := m_inG 239 (by decide +kernel) rfl
theorem ml_X11_447 : Cond.methodLink RX11 447 Lib.Math.max.name ∈ m_G := m_inG 237 (by decide +kernel) rfl
theorem ml_X9_112 : Cond.methodLink RX9 112 Lib.Math.max.name ∈ m_G := m_inG 763 (by decide +kernel) rfl
theorem ml_X7_78 : Cond.methodLink RX7 78 Lib.Math.max.name ∈ m_G := m_inG 980 (by decide +kernel) rfl
theorem ml_X0_48 : Cond.methodLink RX0 48 Lib.Math.max.name ∈ m_G := m_inG 1020 (by decide +kernel) rfl
theorem mm_minI_s : Cond.static Lib.Math.min.name ∈ m_G := m_inG 675 (by decide +kernel) rfl
theorem mm_minI_c : Cond.code Lib.Math.min.name Lib.Math.min.code 2 (some .int) ∈ m_G := m_inG 676 (by decide +kernel) rfl
theorem ml_X1_143 : Cond.methodLink RX1 143 Lib.Math.min.name ∈ m_G := m_inG 674 (by decide +kernel) rfl
theorem ml_X0_42 : Cond.methodLink RX0 42 Lib.Math.min.name ∈ m_G := m_inG 1019 (by decide +kernel) rfl
theorem ml_X3_52 : Cond.methodLink RX3 52 Lib.Math.min.name ∈ m_G := m_inG 1066 (by decide +kernel) rfl
theorem mm_maxJ_s : Cond.static Lib.MathLoose.max_long.x ∈ m_G := m_inG 957 (by decide +kernel) rfl
theorem mm_maxJ_c : Cond.code Lib.MathLoose.max_long.x Lib.MathLoose.max_long.code 4 (some .long) ∈ m_G := m_inG 958 (by decide +kernel) rfl
theorem ml_X7_54 : Cond.methodLink RX7 54 Lib.MathLoose.max_long.x ∈ m_G := m_inG 956 (by decide +kernel) rfl
theorem mm_minJ_s : Cond.static Lib.MathLoose.min_long.x ∈ m_G := m_inG 850 (by decide +kernel) rfl
theorem mm_minJ_c : Cond.code Lib.MathLoose.min_long.x Lib.MathLoose.min_long.code 4 (some .long) ∈ m_G := m_inG 851 (by decide +kernel) rfl
theorem ml_X11_438 : Cond.methodLink RX11 438 Lib.MathLoose.min_long.x ∈ m_G := m_inG 849 (by decide +kernel) rfl
theorem ml_X7_59 : Cond.methodLink RX7 59 Lib.MathLoose.min_long.x ∈ m_G := m_inG 959 (by decide +kernel) rfl
theorem ac_n : Cond.native arraycopyName ∈ m_G := m_inG 593 (by decide +kernel) rfl
theorem ac_s : Cond.static arraycopyName ∈ m_G := m_inG 592 (by decide +kernel) rfl
theorem ac_i : Cond.initialized "java/lang/System" ∈ m_G := m_inG 111 (by decide +kernel) rfl
theorem ml_X4_39 : Cond.methodLink RX4 39 arraycopyName ∈ m_G := m_inG 591 (by decide +kernel) rfl
section ZM
variable {M : m_M} {ls : List (Option m_V)} {rest : List m_V} {h : m_H} {Q : m_W → Option m_V → m_H → Prop}
theorem m_csE (E : m_E) (rest : List m_V) : ((rest.map (m_v E)).map fun v => v.category).sum = m_cs rest := by
  rw [List.map_map]
  have e1 : ((fun v : Value => v.category) ∘ m_v E) = fun v => if m_isL v then 2 else 1 := by funext v; exact m_cat E v
  rw [e1]; rfl
theorem z_maxI (pc : Nat) {index : Nat} {x y : Int} (d : decode M.2.2.1 pc = .ok (.invokestatic index, 3)) (lk : Cond.methodLink M.1 index Lib.Math.max.name ∈ m_G) (hf : 1 ≤ (m_rm M).frames) (hl : m_cs rest + 13 ≤ (m_rm M).locals) (k : m_Z oF M (pc + 3) ls (mI (if x < y then y else x) :: rest) h Q) : m_Z oF M pc ls (mI y :: mI x :: rest) h Q := by
  intro E p l e s m args below meth c QQ H locs lsR C Rt Rl L o b
  have hts := C.2.2.2.2.1
  refine va_mmax C.1 C.2.1 (by rw [L.1]; exact C.2.2.1) C.2.2.2.1 (hts _ lk) (hts _ mm_maxI_s) (hts _ mm_ini) (hts _ mm_maxI_c) hf (by rw [m_csE]; exact hl) b.2.1 b.2.2 d ?_
  have e1 : (if Int32.ofInt x < Int32.ofInt y then Int32.ofInt y else Int32.ofInt x) = Int32.ofInt (if x < y then y else x) := by
    have hxy := m_lt32 (x := x) (y := y) o.2.1 o.1
    have hyx := m_lt32 (x := y) (y := x) o.1 o.2.1
    by_cases q : x < y
    · have q2 : ¬ y < x := by omega
      simp [q, q2, hxy, hyx]
    · by_cases q2 : y < x
      · simp [q, q2, hxy, hyx]
      · have : x = y := by omega
        subst this; simp
  rw [e1]
  exact k E p l e s m args below meth c QQ H locs lsR C Rt Rl L ⟨by show m_32 _; have h1 : m_32 x := o.2.1; have h2 : m_32 y := o.1; split <;> assumption, o.2.2⟩ b
theorem z_minI (pc : Nat) {index : Nat} {x y : Int} (d : decode M.2.2.1 pc = .ok (.invokestatic index, 3)) (lk : Cond.methodLink M.1 index Lib.Math.min.name ∈ m_G) (hf : 1 ≤ (m_rm M).frames) (hl : m_cs rest + 13 ≤ (m_rm M).locals) (k : m_Z oF M (pc + 3) ls (mI (if y < x then y else x) :: rest) h Q) : m_Z oF M pc ls (mI y :: mI x :: rest) h Q := by
  intro E p l e s m args below meth c QQ H locs lsR C Rt Rl L o b
  have hts := C.2.2.2.2.1
  refine va_mmin C.1 C.2.1 (by rw [L.1]; exact C.2.2.1) C.2.2.2.1 (hts _ lk) (hts _ mm_minI_s) (hts _ mm_ini) (hts _ mm_minI_c) hf (by rw [m_csE]; exact hl) b.2.1 b.2.2 d ?_
  have e1 : (if Int32.ofInt y < Int32.ofInt x then Int32.ofInt y else Int32.ofInt x) = Int32.ofInt (if y < x then y else x) := by
    have hxy := m_lt32 (x := x) (y := y) o.2.1 o.1
    have hyx := m_lt32 (x := y) (y := x) o.1 o.2.1
    by_cases q : x < y
    · have q2 : ¬ y < x := by omega
      simp [q, q2, hxy, hyx]
    · by_cases q2 : y < x
      · simp [q, q2, hxy, hyx]
      · have : x = y := by omega
        subst this; simp
  rw [e1]
  exact k E p l e s m args below meth c QQ H locs lsR C Rt Rl L ⟨by show m_32 _; have h1 : m_32 x := o.2.1; have h2 : m_32 y := o.1; split <;> assumption, o.2.2⟩ b
theorem z_maxJ (pc : Nat) {index : Nat} {x y : Int} (d : decode M.2.2.1 pc = .ok (.invokestatic index, 3)) (lk : Cond.methodLink M.1 index Lib.MathLoose.max_long.x ∈ m_G) (hf : 1 ≤ (m_rm M).frames) (hl : m_cs rest + 15 ≤ (m_rm M).locals) (k : m_Z oF M (pc + 3) ls (mJ (if y < x then x else y) :: rest) h Q) : m_Z oF M pc ls (mJ y :: mJ x :: rest) h Q := by
  intro E p l e s m args below meth c QQ H locs lsR C Rt Rl L o b
  have hts := C.2.2.2.2.1
  refine va_mmax_long C.1 C.2.1 (by rw [L.1]; exact C.2.2.1) C.2.2.2.1 (hts _ lk) (hts _ mm_maxJ_s) (hts _ mm_ini) (hts _ mm_maxJ_c) hf (by rw [m_csE]; exact hl) b.2.1 b.2.2 d ?_
  have e1 : (if Int64.ofInt y < Int64.ofInt x then Int64.ofInt x else Int64.ofInt y) = Int64.ofInt (if y < x then x else y) := by
    have hxy := m_lt64 (x := x) (y := y) o.2.1 o.1
    have hyx := m_lt64 (x := y) (y := x) o.1 o.2.1
    by_cases q : x < y
    · have q2 : ¬ y < x := by omega
      simp [q, q2, hxy, hyx]
    · by_cases q2 : y < x
      · simp [q, q2, hxy, hyx]
      · have : x = y := by omega
        subst this; simp
  rw [e1]
  exact k E p l e s m args below meth c QQ H locs lsR C Rt Rl L ⟨by show m_64 _; have h1 : m_64 x := o.2.1; have h2 : m_64 y := o.1; split <;> assumption, o.2.2⟩ b
theorem z_minJ (pc : Nat) {index : Nat} {x y : Int} (d : decode M.2.2.1 pc = .ok (.invokestatic index, 3)) (lk : Cond.methodLink M.1 index Lib.MathLoose.min_long.x ∈ m_G) (hf : 1 ≤ (m_rm M).frames) (hl : m_cs rest + 15 ≤ (m_rm M).locals) (k : m_Z oF M (pc + 3) ls (mJ (if y < x then y else x) :: rest) h Q) : m_Z oF M pc ls (mJ y :: mJ x :: rest) h Q := by
  intro E p l e s m args below meth c QQ H locs lsR C Rt Rl L o b
  have hts := C.2.2.2.2.1
  refine va_mmin_long C.1 C.2.1 (by rw [L.1]; exact C.2.2.1) C.2.2.2.1 (hts _ lk) (hts _ mm_minJ_s) (hts _ mm_ini) (hts _ mm_minJ_c) hf (by rw [m_csE]; exact hl) b.2.1 b.2.2 d ?_
  have e1 : (if Int64.ofInt y < Int64.ofInt x then Int64.ofInt y else Int64.ofInt x) = Int64.ofInt (if y < x then y else x) := by
    have hxy := m_lt64 (x := x) (y := y) o.2.1 o.1
    have hyx := m_lt64 (x := y) (y := x) o.1 o.2.1
    by_cases q : x < y
    · have q2 : ¬ y < x := by omega
      simp [q, q2, hxy, hyx]
    · by_cases q2 : y < x
      · simp [q, q2, hxy, hyx]
      · have : x = y := by omega
        subst this; simp
  rw [e1]
  exact k E p l e s m args below meth c QQ H locs lsR C Rt Rl L ⟨by show m_64 _; have h1 : m_64 x := o.2.1; have h2 : m_64 y := o.1; split <;> assumption, o.2.2⟩ b
end ZM
def m_cp (h : m_H) (k0 k1 n : Nat) : m_H := fun a b => if a = k1 ∧ b < n then h k0 b else h a b
theorem m_cp_row {h : m_H} {k0 k1 n a : Nat} (q : a ≠ k1) : m_cp h k0 k1 n a = h a := by funext b; simp [m_cp, q]
theorem z_copy {M : m_M} {ls : List (Option m_V)} {rest : List m_V} {h : m_H} {Q : m_W → Option m_V → m_H → Prop} (pc : Nat) {index k0 k1 n : Nat} (d : decode M.2.2.1 pc = .ok (.invokestatic index, 3)) (lk : Cond.methodLink M.1 index arraycopyName ∈ m_G) (hk0 : oF[k0]? = some (0, n)) (hk1 : oF[k1]? = some (0, n)) (hn : n ≤ 1000) (hf : 1 ≤ (m_rm M).frames) (hl : m_cs rest + (nativeFrameWords "java/lang/System" "arraycopy" 5 + 11) ≤ (m_rm M).locals)
    (k : m_Z oF M (pc + 3) ls rest (m_cp h k0 k1 n) Q) : m_Z oF M pc ls (mI n :: mI 0 :: mR k1 :: mI 0 :: mR k0 :: rest) h Q := by
  intro E p l e s m args below meth c QQ H locs lsR C Rt Rl L o b
  have hts := C.2.2.2.2.1
  have ht := (C.2.2.2.2.2.1.2 0 _ rfl).1
  have hc0 : H[E.1.1 + k0]? = some (arrV (E.2.1 0) n (fun j => .int (Int32.ofInt (h k0 j)))) := Rl.2.1 k0 _ (m_wl_at hk0)
  have hc1 : H[E.1.1 + k1]? = some (arrV (E.2.1 0) n (fun j => .int (Int32.ofInt (h k1 j)))) := Rl.2.1 k1 _ (m_wl_at hk1)
  obtain ⟨-, kk0, hkc0, cm0, hkk0⟩ := ht n (fun j => .int (Int32.ofInt (h k0 j)))
  obtain ⟨-, kk1, hkc1, cm1, hkk1⟩ := ht n (fun j => .int (Int32.ofInt (h k1 j)))
  have en : (Int32.ofInt (n : Int)).toInt = (n : Int) := m_i32 o.1
  have ec : (Int32.ofInt (n : Int)).toNatClampNeg = n := by rw [m_cn o.1]; omega
  have h3 : ¬ Int32.ofInt (n : Int) < 0 := by
    rw [show (0 : Int32) = Int32.ofInt 0 from rfl, m_lt32 o.1 m_320]; omega
  have h1 : ¬ Int32.ofInt 0 < 0 := by decide
  have h4 : (Int32.ofInt 0).toNatClampNeg + (Int32.ofInt (n : Int)).toNatClampNeg ≤ n := by rw [ec]; show 0 + n ≤ n; omega
  intro T hT X
  obtain ⟨vm', X', step⟩ := X.arraycopy C.1 C.2.2.2.1 (hts _ lk) (hts _ ac_n) (hts _ ac_s) (hts _ ac_i) (src := E.1.1 + k0) (dst := E.1.1 + k1) (cs := vp_cell (E.2.1 0) (n, .inl (fun j => Int32.ofInt (h k0 j)))) (cd := vp_cell (E.2.1 0) (n, .inl (fun j => Int32.ofInt (h k1 j)))) (srcPos := Int32.ofInt 0) (destPos := Int32.ofInt 0) (n := Int32.ofInt (n : Int)) (by rw [hT]; exact hc0) (by rw [hT]; exact hc1)
    (fun _ h => by cases h) (fun _ h => by cases h) (fun h => by cases h) (fun h => by cases h) hkc0 hkc1 hkk0 hkk1 (by simp [refKind]) h1 h1 h3
    (by rw [en]; show ¬ _ > ((arrV (E.2.1 0) n (fun j => .int (Int32.ofInt (h k0 j)))).slots.size : Int); rw [arrV_size]; simp)
    (by rw [en]; show ¬ _ > ((arrV (E.2.1 0) n (fun j => .int (Int32.ofInt (h k1 j)))).slots.size : Int); rw [arrV_size]; simp)
    (fun vm₁ _ i hi => by
      rw [ec] at hi
      have e2 : (vp_cell (E.2.1 0) (n, .inl (fun j => Int32.ofInt (h k0 j)))).slots.getD ((Int32.ofInt 0).toNatClampNeg + i) .null = .int (Int32.ofInt (h k0 i)) := by
        show (arrV (E.2.1 0) n (fun j => .int (Int32.ofInt (h k0 j)))).slots.getD _ _ = _
        rw [show (Int32.ofInt 0).toNatClampNeg = 0 from rfl, Nat.zero_add, Array.getD_eq_getD_getElem?, arrV_read _ _ hi]
        rfl
      refine ⟨?_, ?_⟩
      · rw [e2]; rfl
      · rw [e2]; exact trivial)
    (g := F0 m pc lsR ((mI n :: mI 0 :: mR k1 :: mI 0 :: mR k0 :: rest).map (m_v E))) rfl (by rw [C.2.2.1]; exact L.1) (rest := rest.map (m_v E)) rfl (by rw [C.2.1]; exact d) hf (by show 2 * 0 + _ + _ ≤ _; rw [m_csE]; omega)
  have e1 : copied (vp_cell (E.2.1 0) (n, .inl (fun j => Int32.ofInt (h k0 j)))) (vp_cell (E.2.1 0) (n, .inl (fun j => Int32.ofInt (h k1 j)))) (Int32.ofInt 0) (Int32.ofInt 0) (Int32.ofInt (n : Int)) = vp_cell (E.2.1 0) (n, .inl (va_cpy (fun j => Int32.ofInt (h k0 j)) (fun j => Int32.ofInt (h k1 j)) (Int32.ofInt 0).toNatClampNeg (Int32.ofInt 0).toNatClampNeg (Int32.ofInt (n : Int)).toNatClampNeg)) := va_copied (fun z => .int z) (E.2.1 0) (E.2.1 0) (fun j => Int32.ofInt (h k0 j)) (fun j => Int32.ofInt (h k1 j)) h4
  have e3 : va_cpy (fun j => Int32.ofInt (h k0 j)) (fun j => Int32.ofInt (h k1 j)) (Int32.ofInt 0).toNatClampNeg (Int32.ofInt 0).toNatClampNeg (Int32.ofInt (n : Int)).toNatClampNeg = fun j => Int32.ofInt (m_cp h k0 k1 n k1 j) := by
    rw [ec]
    funext j
    show (if 0 ≤ j ∧ j < 0 + n then Int32.ofInt (h k0 (0 + (j - 0))) else _) = _
    by_cases hj : j < n
    · simp [m_cp, hj]
    · simp [m_cp, hj]
  rw [e1, e3] at X' step
  have hlt : E.1.1 + k1 < H.size := (Array.getElem?_eq_some_iff.mp hc1).1
  have oq : ∀ q : Nat, q ≠ E.1.1 + k1 → (H.setIfInBounds (E.1.1 + k1) (vp_cell (E.2.1 0) (n, .inl (fun j => Int32.ofInt (m_cp h k0 k1 n k1 j)))))[q]? = H[q]? := fun q hq => by simp [Array.getElem?_setIfInBounds, Ne.symm hq]
  have hw : (m_wl E oF h).set k1 (E.1.1 + k1, m_el E (0, n) (m_cp h k0 k1 n k1)) = m_wl E oF (m_cp h k0 k1 n) := by
    apply List.ext_getElem?
    intro i
    by_cases hi : i = k1
    · subst hi
      rw [m_wl_at hk1]
      have hl2 : i < (m_wl E oF h).length := by simp [m_wl]; exact (List.getElem?_eq_some_iff.mp hk1).1
      rw [List.getElem?_set_self hl2]
    · rw [List.getElem?_set_ne (Ne.symm hi)]
      simp only [m_wl, List.getElem?_mapIdx, m_cp_row hi]
  have hR : ∀ Ls : List Loc, (∀ q ∈ Ls, q.base = E.1.1 + k1) → m_Rel E oF (m_cp h k0 k1 n) s (H.setIfInBounds (E.1.1 + k1) (vp_cell (E.2.1 0) (n, .inl (fun j => Int32.ofInt (m_cp h k0 k1 n k1 j))))) (locs ++ Ls) := by
    intro Ls hLs
    refine ⟨by simp; exact Rl.1, ?_, ?_, ?_⟩
    · rw [← hw]
      exact Rl.2.1.set (m_wl_D E oF h) (m_wl_at hk1) (show (H.setIfInBounds (E.1.1 + k1) _)[E.1.1 + k1]? = some _ by simp [Array.getElem?_setIfInBounds, hlt]) oq
    · refine ⟨by simp; exact Rl.2.2.1.1, fun q g1 g2 => ?_, fun q hq => ?_⟩
      · rw [oq q (fun e => g2 (by rw [e]; exact Nat.le_add_right _ _))]
        exact Rl.2.2.1.2.1 q g1 g2
      · rcases List.mem_append.mp hq with g | g
        · exact Rl.2.2.1.2.2 q g
        · rw [hLs q g]; exact Nat.le_add_right _ _
    · intro a q ha j
      unfold m_cp
      by_cases hab : a = k1 ∧ j < n
      · rw [if_pos hab]
        obtain ⟨rfl, -⟩ := hab
        cases hk1.symm.trans ha
        exact Rl.2.2.2 k0 _ hk0 j
      · rw [if_neg hab]; exact Rl.2.2.2 a q ha j
  obtain ⟨t, a1, b1⟩ := k E p l e s m args below meth c QQ _ _ lsR C Rt (hR _ (fun q hq => by obtain ⟨z, -, hz⟩ := List.mem_map.mp hq; rw [← hz])) L o.2.2.2.2.2 b ((T.setVm vm').setCell (E.1.1 + k1) (vp_cell (E.2.1 0) (n, .inl (fun j => Int32.ofInt (m_cp h k0 k1 n k1 j))))) (by rw [← hT]; rfl) X'
  exact ⟨t, step t a1, b1⟩
