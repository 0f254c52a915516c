theorem in_0 : Cond.instantiable RX0 1 ∈ m_G := m_inG 326 (by decide +kernel) rfl
theorem in_1 : Cond.instantiable RX1 4 ∈ m_G := m_inG 209 (by decide +kernel) rfl
theorem in_2 : Cond.instantiable RX2 3 ∈ m_G := m_inG 242 (by decide +kernel) rfl
theorem in_3 : Cond.instantiable RX3 4 ∈ m_G := m_inG 336 (by decide +kernel) rfl
theorem in_4 : Cond.instantiable RX4 10 ∈ m_G := m_inG 126 (by decide +kernel) rfl
theorem in_5 : Cond.instantiable RX5 4 ∈ m_G := m_inG 381 (by decide +kernel) rfl
theorem in_6 : Cond.instantiable RX6 5 ∈ m_G := m_inG 358 (by decide +kernel) rfl
theorem in_7 : Cond.instantiable RX7 2 ∈ m_G := m_inG 286 (by decide +kernel) rfl
theorem in_8 : Cond.instantiable RX8 2 ∈ m_G := m_inG 191 (by decide +kernel) rfl
theorem in_9 : Cond.instantiable RX9 6 ∈ m_G := m_inG 229 (by decide +kernel) rfl
theorem in_10 : Cond.instantiable RX10 5 ∈ m_G := m_inG 303 (by decide +kernel) rfl
theorem in_11 : Cond.instantiable RX11 17 ∈ m_G := m_inG 118 (by decide +kernel) rfl
theorem in_12 : Cond.instantiable RX12 63 ∈ m_G := m_inG 1191 (by decide +kernel) rfl
theorem ao_B : Cond.arrayOver (.object "WeekFoot$Bound") ∈ lw_tbl := List.mem_of_getElem? (i := 241) (by decide +kernel)
theorem ao_L : Cond.arrayOver (.object "WeekFoot$Ledger") ∈ lw_tbl := List.mem_of_getElem? (i := 189) (by decide +kernel)
theorem ls_C : Cond.laysStatic "java/lang/String" "COMPACT_STRINGS" "Z" ∈ lw_tbl := List.mem_of_getElem? (i := 623) (by decide +kernel)
theorem is_C : Cond.initialized "java/lang/String" ∈ lw_tbl := List.mem_of_getElem? (i := 112) (by decide +kernel)
theorem ls_F : Cond.laysStatic "jdk/internal/util/Preconditions" "SIOOBE_FORMATTER" "Ljava/util/function/BiFunction;" ∈ lw_tbl := List.mem_of_getElem? (i := 639) (by decide +kernel)
theorem is_F : Cond.initialized "jdk/internal/util/Preconditions" ∈ lw_tbl := List.mem_of_getElem? (i := 114) (by decide +kernel)
theorem e_K1 {s : State} {args : Array Value} (hG : ∀ w ∈ m_G, w.before args s = true) : ∃ D : va_G, ∀ (c : Nat) (q : vw_C), vwCl[c]? = some q → u_Kn s q.1 q.2.1 q.2.2 (D.1 c) (D.2 c) := by
  have hk : ∀ c : Nat, ∃ d : ClassId × (Nat → Nat), ∀ q : vw_C, vwCl[c]? = some q → u_Kn s q.1 q.2.1 q.2.2 d.1 d.2 := by
    intro c
    have one : ∀ {C : String} {T : u_T} {N n : Nat}, m_cf c C T N → Cond.instantiable C n ∈ m_G → ∃ d : ClassId × (Nat → Nat), ∀ q : vw_C, vwCl[c]? = some q → u_Kn s q.1 q.2.1 q.2.2 d.1 d.2 := by
      intro C T N n f i
      obtain ⟨cC, iS, h⟩ := u_known hG f.2.1 (hG _ i)
      refine ⟨(cC, iS), fun q hq => ?_⟩
      cases f.1.symm.trans hq
      exact h
    match c with
    | 0 => exact one cf0 in_0
    | 1 => exact one cf1 in_1
    | 2 => exact one cf2 in_2
    | 3 => exact one cf3 in_3
    | 4 => exact one cf4 in_4
    | 5 => exact one cf5 in_5
    | 6 => exact one cf6 in_6
    | 7 => exact one cf7 in_7
    | 8 => exact one cf8 in_8
    | 9 => exact one cf9 in_9
    | 10 => exact one cf10 in_10
    | 11 => exact one cf11 in_11
    | 12 => exact one cf12 in_12
    | n + 13 => exact ⟨(0, fun _ => 0), fun q hq => by cases hq⟩
  obtain ⟨d, hd⟩ := Classical.axiomOfChoice hk
  exact ⟨(fun c => (d c).1, fun c => (d c).2), fun c q hq => hd c q hq⟩
theorem e_A {s : State} {args : Array Value} {ty : FieldType} (hp : ∀ c, va_RA s c ty = (s.vm.findClass ("[" ++ ty.toString) = some c)) (h : (Cond.arrayClass ty).before args s = true) : ∃ c : ClassId, ArrOfT s c ty ∧ va_RA s c ty := by
  obtain ⟨c, k, comp, f1, f2, f3⟩ := Cond.arrayClass_spec h
  exact ⟨c, fun N z => ⟨(fun k h => by cases h), k, f2, comp, f3⟩, by rw [hp]; exact f1⟩
theorem e_O {s : State} {args : Array Value} {C : String} (h : (Cond.arrayOver (.object C)).before args s = true) : ∃ c : ClassId, ArrOfT s c (.object C) ∧ va_RA s c (.object C) := by
  obtain ⟨comp, c, k, h1, h2, h3, h4, h5⟩ := Cond.arrayOver_spec h
  exact ⟨c, fun N z => ⟨(fun k h => by cases h), k, h3, comp, h4⟩, ⟨k, comp, h3, h4, h1, h5⟩⟩
def tmS (i : Nat) : Term := .string "WeekFoot$BookReader" (m_sx.getD i (0, "")).1
abbrev PreC : Cond := Jvm.Cond.and given_1 narrow_1
theorem st_rf : ∀ i : Fin 16, Cond.stringRef "WeekFoot$BookReader" (m_sx.getD i.1 (0, "")).1 (m_sx.getD i.1 (0, "")).2 ∈ lw_tbl := by decide +kernel
theorem st_ex : ∀ i : Fin 16, Cond.exactly (tmS i.1) "java/lang/String" ∈ flatC PreC := by decide +kernel
theorem st_co : ∀ i : Fin 16, Cond.eq (.field (tmS i.1) "java/lang/String" "coder" "B") (.int 0) ∈ flatC PreC := by decide +kernel
theorem st_ar : ∀ i : Fin 16, Cond.arrayOf (.field (tmS i.1) "java/lang/String" "value" "[B") .byte ∈ flatC PreC := by decide +kernel
theorem st_le : ∀ i : Fin 16, Cond.eq (.length (.field (tmS i.1) "java/lang/String" "value" "[B")) (.int (Int32.ofNat (m_sl.getD i.1 0))) ∈ flatC PreC := by decide +kernel
theorem st_el : ∀ i : Fin 16, ∀ j : Fin 6, j.1 < m_sl.getD i.1 0 → Cond.eq (.elem (.field (tmS i.1) "java/lang/String" "value" "[B") (.int (Int32.ofNat j.1))) (.int ((m_sb.getD i.1 []).getD j.1 0)) ∈ flatC PreC := by decide +kernel
theorem st_ne : ∀ i j : Fin 16, i.1 < j.1 → Cond.not (Cond.eq (tmS i.1) (tmS j.1)) ∈ flatC PreC := by decide +kernel
theorem st_C : Cond.eq (.static "java/lang/String" "COMPACT_STRINGS" "Z") (.int 1) ∈ flatC PreC := by decide +kernel
theorem st_F : Cond.isRef (.static "jdk/internal/util/Preconditions" "SIOOBE_FORMATTER" "Ljava/util/function/BiFunction;") ∈ flatC PreC := by decide +kernel
theorem e_S {s : State} {args : Array Value} {A : Nat → Prop} (hg : PreC.before args s = true) (hA : ∀ a : Nat, a < s.heap.size → ¬ A a) : ∃ adK adV : Nat → Nat, vk_S 16 m_sl m_sb adK adV A s s.heap ∧ ∀ i : Nat, i < 16 → (tmS i).eval args s none [] s = some (.ref (adK i)) := by
  have hs := flat_of_before _ hg
  refine vk_Sof (tm := tmS) (fun i hi => ?_) (fun i hi => hs _ (st_ex ⟨i, hi⟩)) (fun i hi => hs _ (st_co ⟨i, hi⟩)) (fun i hi => hs _ (st_ar ⟨i, hi⟩)) (fun i hi => hs _ (st_le ⟨i, hi⟩)) (fun i hi j hj => hs _ (st_el ⟨i, hi⟩ ⟨j, Nat.lt_of_lt_of_le hj (m_sl_le i)⟩ hj)) (fun i j hi hj hij => ?_) hA
  · exact Nat.lt_of_le_of_lt (m_sl_le i) (by decide)
  · rcases Nat.lt_or_gt_of_ne hij with h | h
    · exact Or.inl (hs _ (st_ne ⟨i, hi⟩ ⟨j, hj⟩ h))
    · exact Or.inr (hs _ (st_ne ⟨j, hj⟩ ⟨i, hi⟩ h))
def ad (adK adV : Nat → Nat) (b fz fa : Nat) (i : Nat) : Nat := if i < 16 then adK i else if i < 36 then adV (i - 20) else if i = 40 then fa else if i = 41 then b else fz
theorem ad_K {adK adV : Nat → Nat} {b fz fa i : Nat} (h : i < 16) : ad adK adV b fz fa i = adK i := if_pos h
theorem ad_V {adK adV : Nat → Nat} {b fz fa i : Nat} (h : i < 16) : ad adK adV b fz fa (20 + i) = adV i := by
  unfold ad
  rw [if_neg (by omega), if_pos (by omega), show 20 + i - 20 = i by omega]
theorem e_Sc {adK adV adK' adV' : Nat → Nat} {N : Nat} {len : List Nat} {byt : List (List Int32)} {A : Nat → Prop} {U : State} {H : Heap} (a1 : ∀ i, i < N → adK' i = adK i) (a2 : ∀ i, i < N → adV' i = adV i) (h : vk_S N len byt adK adV A U H) : vk_S N len byt adK' adV' A U H :=
  ⟨fun i hi => by rw [a1 i hi, a2 i hi]; exact h.1 i hi, fun i j hi hj e => h.2 i j hi hj (by rw [← a1 i hi, ← a1 j hj]; exact e)⟩
theorem e_F {s : State} {C n d : String} {A : Nat → Prop} (h : va_Zq C n d A s s.heap) : ∃ fz fa : Nat, va_Z C n d (if fz = 0 then .null else .ref fa) A s s.heap := by
  rcases h with h | ⟨t, h⟩
  · exact ⟨0, 0, h⟩
  · exact ⟨1, t, h⟩
theorem e_N {w : Cond} (h : m_isN w = true) : w.onTables = true := by
  cases w <;> first | rfl | cases h
