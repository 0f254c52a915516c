/-! ===== the small machine: values, world, relation ===== -/
abbrev m_V : Type := Int ⊕ (Int ⊕ (Nat ⊕ Nat))
abbrev mI (x : Int) : m_V := Sum.inl x
abbrev mJ (x : Int) : m_V := Sum.inr (Sum.inl x)
abbrev mR (k : Nat) : m_V := Sum.inr (Sum.inr (Sum.inl k))
abbrev mO (i : Nat) : m_V := Sum.inr (Sum.inr (Sum.inr i))
abbrev m_W : Type := List (Nat × Nat)
abbrev m_H : Type := Nat → Nat → Int
abbrev m_E : Type := (Nat × (Nat → Nat)) × (Nat → ClassId) × va_G
def m_v (E : m_E) : m_V → Value
  | .inl x => .int (Int32.ofInt x)
  | .inr (.inl x) => .long (Int64.ofInt x)
  | .inr (.inr (.inl k)) => .ref (E.1.1 + k)
  | .inr (.inr (.inr i)) => if i = 40 ∧ E.1.2 42 = 0 then .null else .ref (E.1.2 i)
theorem m_vO {E : m_E} {i : Nat} (h : i ≠ 40) : m_v E (mO i) = .ref (E.1.2 i) := if_neg (fun z => h z.1)
def m_32 (x : Int) : Prop := -2147483648 ≤ x ∧ x ≤ 2147483647
def m_64 (x : Int) : Prop := -9223372036854775808 ≤ x ∧ x ≤ 9223372036854775807
def m_ok : m_V → Prop
  | .inl x => m_32 x
  | .inr (.inl x) => m_64 x
  | _ => True
def m_oks : List m_V → Prop
  | [] => True
  | v :: t => m_ok v ∧ m_oks t
def m_w (x : Int) : Int := x.bmod 4294967296
def m_x (x : Int) : Int := x.bmod 18446744073709551616
theorem m_w_ok (x : Int) : m_32 (m_w x) := by
  have h1 := Int.le_bmod (x := x) (m := 4294967296) (by decide)
  have h2 := Int.bmod_lt (x := x) (m := 4294967296) (by decide)
  unfold m_32 m_w; omega
theorem m_x_ok (x : Int) : m_64 (m_x x) := by
  have h1 := Int.le_bmod (x := x) (m := 18446744073709551616) (by decide)
  have h2 := Int.bmod_lt (x := x) (m := 18446744073709551616) (by decide)
  unfold m_64 m_x; omega
theorem m_w_id {x : Int} (h1 : -2147483648 ≤ x) (h2 : x ≤ 2147483647) : m_w x = x := by
  unfold m_w; exact Int.bmod_eq_of_le (by omega) (by omega)
theorem m_x_id {x : Int} (h1 : -9223372036854775808 ≤ x) (h2 : x ≤ 9223372036854775807) : m_x x = x := by
  unfold m_x; exact Int.bmod_eq_of_le (by omega) (by omega)
theorem m_i32 {x : Int} (h : m_32 x) : (Int32.ofInt x).toInt = x := Int32.toInt_ofInt_of_le (by unfold m_32 at h; omega) (by unfold m_32 at h; omega)
theorem m_i64 {x : Int} (h : m_64 x) : (Int64.ofInt x).toInt = x := Int64.toInt_ofInt_of_le (by unfold m_64 at h; omega) (by unfold m_64 at h; omega)
theorem m_32t (x : Int32) : m_32 x.toInt := by
  have h1 := x.le_toInt; have h2 := x.toInt_lt; unfold m_32; omega
theorem m_64t (x : Int64) : m_64 x.toInt := by
  have h1 := x.le_toInt; have h2 := x.toInt_lt; unfold m_64; omega
theorem m_eq32 {a : Int32} {x : Int} (h : a.toInt = x) : a = Int32.ofInt x := by rw [← h, Int32.ofInt_toInt]
theorem m_eq64 {a : Int64} {x : Int} (h : a.toInt = x) : a = Int64.ofInt x := by rw [← h, Int64.ofInt_toInt]
theorem m_inj32 {x y : Int} (hx : m_32 x) (hy : m_32 y) : Int32.ofInt x = Int32.ofInt y ↔ x = y := by
  rw [← Int32.toInt_inj, m_i32 hx, m_i32 hy]
theorem m_inj64 {x y : Int} (hx : m_64 x) (hy : m_64 y) : Int64.ofInt x = Int64.ofInt y ↔ x = y := by
  rw [← Int64.toInt_inj, m_i64 hx, m_i64 hy]
theorem m_lt32 {x y : Int} (hx : m_32 x) (hy : m_32 y) : Int32.ofInt x < Int32.ofInt y ↔ x < y := by
  rw [Int32.lt_iff_toInt_lt, m_i32 hx, m_i32 hy]
theorem m_le32 {x y : Int} (hx : m_32 x) (hy : m_32 y) : Int32.ofInt x ≤ Int32.ofInt y ↔ x ≤ y := by
  rw [Int32.le_iff_toInt_le, m_i32 hx, m_i32 hy]
theorem m_lt64 {x y : Int} (hx : m_64 x) (hy : m_64 y) : Int64.ofInt x < Int64.ofInt y ↔ x < y := by
  rw [Int64.lt_iff_toInt_lt, m_i64 hx, m_i64 hy]
theorem m_320 : m_32 0 := by unfold m_32; omega
theorem m_640 : m_64 0 := by unfold m_64; omega
/-! types of the world's slots -/
def m_ty : Nat → Nat → FieldType
  | 0 => tyX0 | 1 => tyX1 | 2 => tyX2 | 3 => tyX3 | 4 => tyX4 | 5 => tyX5 | 6 => tyX6 | 7 => tyX7 | 8 => tyX8 | 9 => tyX9 | 10 => tyX10 | 11 => tyX11 | _ => tyX12
/-- 0: a whole number, 1: a long one, 2: a truth, 3: a reference -/
def m_tk : FieldType → Nat
  | .long => 1 | .boolean => 2 | .object _ => 3 | .array _ => 3 | _ => 0
def m_rv (E : m_E) (x : Int) : Value := if x < 0 then .null else .ref (E.1.1 + x.toNat)
def m_sv (E : m_E) (t : Nat) (x : Int) : Value := if t = 1 then .long (Int64.ofInt x) else if t = 3 then m_rv E x else .int (Int32.ofInt x)
def m_rg (t : Nat) (x : Int) : Prop := if t = 1 then m_64 x else if t = 3 then True else m_32 x
def m_el (E : m_E) (q : Nat × Nat) (f : Nat → Int) : va_E :=
  match q.1 with
  | 0 => .inl (E.2.1 0, q.2, .inl (fun j => Int32.ofInt (f j)))
  | 1 => .inl (E.2.1 1, q.2, .inr (.inl (fun j => Int64.ofInt (f j))))
  | 2 => .inl (E.2.1 2, q.2, .inl (fun j => Int32.ofInt (f j)))
  | 3 => .inl (E.2.1 3, q.2, .inr (.inr (.inr (.inr (fun j => if f j < 0 then none else some (E.1.1 + (f j).toNat))))))
  | 4 => .inl (E.2.1 4, q.2, .inr (.inr (.inr (.inr (fun j => if f j < 0 then none else some (E.1.1 + (f j).toNat))))))
  | n + 5 => .inr (n, (List.range q.2).map (fun j => m_sv E (m_tk (m_ty n j)) (f j)))
/-- the kind of a cell's slot -/
def m_sk (c j : Nat) : Nat :=
  match c with
  | 0 => 0 | 1 => 1 | 2 => 2 | 3 => 3 | 4 => 3
  | n + 5 => m_tk (m_ty n j)
def m_wl (E : m_E) (Ω : m_W) (h : m_H) : va_W := Ω.mapIdx (fun k q => (E.1.1 + k, m_el E q (h k)))
def m_hok (Ω : m_W) (h : m_H) : Prop := ∀ (k : Nat) (q : Nat × Nat), Ω[k]? = some q → ∀ j : Nat, m_rg (m_sk q.1 j) (h k j)
def m_up (h : m_H) (k j : Nat) (x : Int) : m_H := fun a b => if a = k ∧ b = j then x else h a b
theorem m_up_eq (h : m_H) (k j : Nat) (x : Int) : m_up h k j x k j = x := by simp [m_up]
theorem m_up_ne {h : m_H} {k j : Nat} {x : Int} {a b : Nat} (q : ¬ (a = k ∧ b = j)) : m_up h k j x a b = h a b := by simp [m_up, q]
theorem m_up_ne1 {h : m_H} {k j : Nat} {x : Int} {a b : Nat} (q : a ≠ k) : m_up h k j x a b = h a b := m_up_ne (fun z => q z.1)
theorem m_up_row {h : m_H} {k j : Nat} {x : Int} {a : Nat} (q : a ≠ k) : m_up h k j x a = h a := by funext b; exact m_up_ne1 q
theorem m_wl_at {E : m_E} {Ω : m_W} {h : m_H} {k : Nat} {q : Nat × Nat} (e : Ω[k]? = some q) : (m_wl E Ω h)[k]? = some (E.1.1 + k, m_el E q (h k)) := by
  simp [m_wl, List.getElem?_mapIdx, e]
theorem m_wl_D (E : m_E) (Ω : m_W) (h : m_H) : va_D (fun q => E.1.1 ≤ q) (m_wl E Ω h) := by
  have key : ∀ (i : Nat) (p : Nat × va_E), (m_wl E Ω h)[i]? = some p → p.1 = E.1.1 + i := by
    intro i p e
    simp only [m_wl, List.getElem?_mapIdx] at e
    cases hq : Ω[i]? with
    | none => simp [hq] at e
    | some q => simp [hq] at e; rw [← e]
  refine ⟨fun i j p q hi hj e => ?_, fun k q hk => ?_⟩
  · have h1 := key i p hi; have h2 := key j q hj; omega
  · have h1 := key k q hk; omega
theorem m_wl_set {E : m_E} {Ω : m_W} {h : m_H} {k j : Nat} {x : Int} {q : Nat × Nat} (e : Ω[k]? = some q) : (m_wl E Ω h).set k (E.1.1 + k, m_el E q (m_up h k j x k)) = m_wl E Ω (m_up h k j x) := by
  apply List.ext_getElem?
  intro i
  by_cases hi : i = k
  · subst hi
    rw [m_wl_at e]
    have hl : i < (m_wl E Ω h).length := by simp [m_wl]; exact (List.getElem?_eq_some_iff.mp e).1
    rw [List.getElem?_set_self hl]
  · rw [List.getElem?_set_ne (Ne.symm hi)]
    simp only [m_wl, List.getElem?_mapIdx, m_up_row hi]
theorem m_hok_up {Ω : m_W} {h : m_H} {k j : Nat} {x : Int} {q : Nat × Nat} (e : Ω[k]? = some q) (H : m_hok Ω h) (hx : m_rg (m_sk q.1 j) x) : m_hok Ω (m_up h k j x) := by
  intro a p ha b
  by_cases hab : a = k ∧ b = j
  · obtain ⟨rfl, rfl⟩ := hab
    rw [m_up_eq]
    cases e.symm.trans ha
    exact hx
  · rw [m_up_ne hab]; exact H a p ha b
/-! methods: own class, name, code, locals, answer's type, room, cells and slots of the world at its entry -/
abbrev m_M : Type := String × MethodName × ByteArray × Nat × Option FieldType × Room × Nat × Nat
abbrev m_rm (M : m_M) : Room := M.2.2.2.2.2.1
abbrev m_k0 (M : m_M) : Nat := M.2.2.2.2.2.2.1
abbrev m_s0 (M : m_M) : Nat := M.2.2.2.2.2.2.2
def m_isN : Cond → Bool
  | .methodLinkNest _ _ _ _ => true
  | _ => false
def m_G : List Cond := lw_tbl.filter goodWord
def m_N : List Cond := lw_tbl.filter m_isN
def m_ws (M : m_M) : List Cond := Cond.code M.2.1 M.2.2.1 M.2.2.2.1 M.2.2.2.2.1 :: m_G
theorem m_inG {w : Cond} (i : Nat) (h : lw_tbl[i]? = some w) (g : goodWord w = true) : w ∈ m_G := List.mem_filter.mpr ⟨List.mem_of_getElem? h, g⟩
theorem m_inN {w : Cond} (i : Nat) (h : lw_tbl[i]? = some w) (g : m_isN w = true) : w ∈ m_N := List.mem_filter.mpr ⟨List.mem_of_getElem? h, g⟩
def m_tys (E : m_E) : List (ClassId × FieldType) := [(E.2.1 0, .int), (E.2.1 1, .long), (E.2.1 2, .boolean), (E.2.1 3, .object "WeekFoot$Bound"), (E.2.1 4, .object "WeekFoot$Ledger")]
/-! the String constants: the reader's, by their places in its pool -/
def m_sx : List (Nat × String) := [(25, "week"), (57, "to"), (59, "by"), (61, "nobody"), (35, "thing"), (88, "cut"), (99, "never"), (104, "in"), (109, "is"), (111, "whole"), (113, "half"), (115, "exact"), (97, ","), (69, "keeper"), (70, "below"), (51, ";")]
def m_sb : List (List Int32) := m_sx.map (fun q => q.2.toList.map (fun ch => Int32.ofNat ch.toNat))
def m_sl : List Nat := m_sx.map (fun q => q.2.length)
def m_Str (E : m_E) (U : State) (H : Heap) : Prop := vk_S 16 m_sl m_sb (fun i => E.1.2 i) (fun i => E.1.2 (20 + i)) (fun q => E.1.1 ≤ q) U H ∧ (∀ (i : Nat) (q : Nat × String), m_sx[i]? = some q → vk_R "WeekFoot$BookReader" q.1 q.2 (E.1.2 i) U) ∧ va_Z "java/lang/String" "COMPACT_STRINGS" "Z" (.int 1) (fun q => E.1.1 ≤ q) U H ∧ va_Z "jdk/internal/util/Preconditions" "SIOOBE_FORMATTER" "Ljava/util/function/BiFunction;" (m_v E (mO 40)) (fun q => E.1.1 ≤ q) U H
def m_sz (Ω : m_W) : Nat := (Ω.map (fun q => q.2)).sum
def m_Rel (E : m_E) (Ω : m_W) (h : m_H) (s : State) (H : Heap) (locs : List Loc) : Prop :=
  H.size = E.1.1 + Ω.length ∧ va_P E.2.2 vwCl (m_wl E Ω h) H ∧ va_S (fun q => E.1.1 ≤ q) s.heap H locs ∧ m_hok Ω h
def m_Cx (E : m_E) (M : m_M) (p : Program) (s : State) (m : MethodId) (args : Array Value) (c : Code) : Prop :=
  p.tables.exec = Jvm.exec ∧ c.code = M.2.2.1 ∧ c.maxLocals = M.2.2.2.1 ∧ s.vm.findClass M.1 = some m.cls ∧ (∀ w ∈ m_G, w.before args s = true) ∧ va_K E.2.2 vwCl (m_tys E) s ∧ (∀ w ∈ m_N, va_Nw w s) ∧ m_Str E s s.heap ∧ E.1.1 ≤ s.heap.size
def m_b (Ω : m_W) (M : m_M) : Prop := (m_k0 M ≤ Ω.length ∧ m_s0 M ≤ m_sz Ω) ∧ Ω.length - m_k0 M ≤ (m_rm M).cells ∧ m_sz Ω - m_s0 M ≤ (m_rm M).slots
def m_isR (ret : Option FieldType) (i : Instr) (r : Option m_V) : Prop :=
  (ret = none ∧ i = .return_ ∧ r = none) ∨ (∃ x : Int, ret = some .int ∧ i = .ireturn ∧ r = some (mI x)) ∨ (∃ x : Int, ret = some .boolean ∧ i = .ireturn ∧ r = some (mI x) ∧ (x = 0 ∨ x = 1)) ∨ (∃ x : Int, ret = some .long ∧ i = .lreturn ∧ r = some (mJ x)) ∨ (∃ k : Nat, ret = some (.array (.object "WeekFoot$Bound")) ∧ i = .areturn ∧ r = some (mR k)) ∨ (∃ (x : Int) (ty : FieldType), ret = some ty ∧ i = .ireturn ∧ r = some (mI x) ∧ narrow ty (.int (Int32.ofInt x)) = .int (Int32.ofInt x))
def m_okr (r : Option m_V) : Prop := ∀ v, r = some v → m_ok v
def m_Ret (E : m_E) (M : m_M) (p : Program) (l : Launch) (e : Env) (s : State) (m : MethodId) (args : Array Value) (below : List Frame) (meth : Method) (c : Code) (QQ : State → Prop) (Q : m_W → Option m_V → m_H → Prop) : Prop :=
  ∀ (Ω : m_W) (r : Option m_V) (h : m_H) (H : Heap) (locs : List Loc) (pc : Nat) (ls : Array Slot) (i : Instr), Q Ω r h → m_okr r → m_Rel E Ω h s H locs → decode M.2.2.1 pc = .ok (i, 1) → m_isR M.2.2.2.2.1 i r →
    W p l e (m_rm M) s m args below meth c H locs (Ω.length - m_k0 M) (m_sz Ω - m_s0 M) QQ (F0 m pc ls (r.toList.map (m_v E)))
def m_LH (E : m_E) (lsR : Array Slot) (nL : Nat) (ls : List (Option m_V)) : Prop :=
  lsR.size = nL ∧ lv_wf lsR ∧ ∀ (i : Nat) (v : m_V), ls[i]? = some (some v) → lsR[i]? = some (.val (m_v E v)) ∧ m_ok v
/-- the judgement: from here the method comes to an end with Q -/
def m_Z (Ω : m_W) (M : m_M) (pc : Nat) (ls : List (Option m_V)) (st : List m_V) (h : m_H) (Q : m_W → Option m_V → m_H → Prop) : Prop :=
  ∀ (E : m_E) (p : Program) (l : Launch) (e : Env) (s : State) (m : MethodId) (args : Array Value) (below : List Frame) (meth : Method) (c : Code) (QQ : State → Prop) (H : Heap) (locs : List Loc) (lsR : Array Slot),
    m_Cx E M p s m args c → m_Ret E M p l e s m args below meth c QQ Q → m_Rel E Ω h s H locs → m_LH E lsR M.2.2.2.1 ls → m_oks st → m_b Ω M →
    W p l e (m_rm M) s m args below meth c H locs (Ω.length - m_k0 M) (m_sz Ω - m_s0 M) QQ (F0 m pc lsR (st.map (m_v E)))
/-! the locals -/
def m_isL : m_V → Bool
  | .inr (.inl _) => true
  | _ => false
theorem m_cat (E : m_E) (v : m_V) : (m_v E v).category = if m_isL v then 2 else 1 := by
  rcases v with x | x | x | x
  · rfl
  · rfl
  · rfl
  · show Value.category (if x = 40 ∧ E.1.2 42 = 0 then .null else .ref (E.1.2 x)) = _
    split <;> rfl
def m_cl (ls : List (Option m_V)) (i : Nat) : List (Option m_V) :=
  match i with
  | 0 => ls
  | k + 1 => match ls[k]? with
    | some (some (.inr (.inl _))) => ls.set k none
    | _ => ls
def m_st1 (ls : List (Option m_V)) (i : Nat) (v : m_V) : List (Option m_V) := (m_cl ls i).set i (some v)
def m_st2 (ls : List (Option m_V)) (i : Nat) (v : m_V) : List (Option m_V) := ((m_cl ls i).set i (some v)).set (i + 1) none
theorem m_cl_at {ls : List (Option m_V)} {i j : Nat} {w : m_V} (h : (m_cl ls i)[j]? = some (some w)) : ls[j]? = some (some w) ∧ ¬ (j + 1 = i ∧ m_isL w = true) := by
  cases i with
  | zero => exact ⟨h, fun q => by omega⟩
  | succ k =>
    by_cases hjk : j = k
    · subst hjk
      simp only [m_cl] at h
      split at h
      · rename_i z
        have hl : j < ls.length := (List.getElem?_eq_some_iff.mp z).1
        rw [List.getElem?_set_self hl] at h
        cases h
      · rename_i z
        refine ⟨h, fun q => ?_⟩
        rcases w with x | x | x | x
        · cases q.2
        · exact z x h
        · cases q.2
        · cases q.2
    · refine ⟨?_, fun q => by omega⟩
      simp only [m_cl] at h
      split at h
      · rw [List.getElem?_set_ne (Ne.symm hjk)] at h; exact h
      · exact h
def m_pr (E : m_E) (ls : List (Option m_V)) : List (Nat × Value) := (List.range ls.length).filterMap (fun i => match ls[i]? with | some (some v) => some (i, m_v E v) | _ => none)
theorem m_pr_in {E : m_E} {ls : List (Option m_V)} {j : Nat} {w : m_V} (h : ls[j]? = some (some w)) : (j, m_v E w) ∈ m_pr E ls := by
  refine List.mem_filterMap.mpr ⟨j, List.mem_range.mpr (List.getElem?_eq_some_iff.mp h).1, ?_⟩
  simp [h]
theorem m_LH.has {E : m_E} {lsR : Array Slot} {nL : Nat} {ls : List (Option m_V)} (L : m_LH E lsR nL ls) : lv_has lsR nL (m_pr E ls) := by
  refine ⟨L.1, L.2.1, fun q hq => ?_⟩
  obtain ⟨i, -, hi⟩ := List.mem_filterMap.mp hq
  cases hv : ls[i]? with
  | none => simp [hv] at hi
  | some o =>
    cases o with
    | none => simp [hv] at hi
    | some v =>
      simp [hv] at hi
      rw [← hi]
      exact (L.2.2 i v hv).1
theorem m_LH.st1 {E : m_E} {lsR ls' : Array Slot} {nL i : Nat} {ls : List (Option m_V)} {v : m_V} (L : m_LH E lsR nL ls) (hv : m_ok v) (h : lv_has ls' nL ((i, m_v E v) :: (m_pr E ls).filter (fun q => !(q.1 == i) && !(q.1 + 1 == i && q.2.category == 2)))) : m_LH E ls' nL (m_st1 ls i v) := by
  refine ⟨h.1, h.2.1, fun j w hj => ?_⟩
  unfold m_st1 at hj
  by_cases hji : j = i
  · subst hji
    have hl : j < (m_cl ls j).length := by
      have h1 := (List.getElem?_eq_some_iff.mp hj).1
      simpa using h1
    rw [List.getElem?_set_self hl] at hj
    cases hj
    exact ⟨h.2.2 _ List.mem_cons_self, hv⟩
  · rw [List.getElem?_set_ne (Ne.symm hji)] at hj
    obtain ⟨h1, h2⟩ := m_cl_at hj
    refine ⟨h.2.2 (j, m_v E w) (List.mem_cons_of_mem _ (List.mem_filter.mpr ⟨m_pr_in h1, ?_⟩)), (L.2.2 j w h1).2⟩
    simp only [m_cat]
    by_cases hw : m_isL w = true
    · have h3 : ¬ j + 1 = i := fun q => h2 ⟨q, hw⟩
      simp [hji, h3]
    · simp [hji, hw]
theorem m_LH.st2 {E : m_E} {lsR ls' : Array Slot} {nL i : Nat} {ls : List (Option m_V)} {v : m_V} (L : m_LH E lsR nL ls) (hv : m_ok v) (h : lv_has ls' nL ((i, m_v E v) :: (m_pr E ls).filter (fun q => !(q.1 == i) && (!(q.1 == i + 1) && !(q.1 + 1 == i && q.2.category == 2))))) : m_LH E ls' nL (m_st2 ls i v) := by
  refine ⟨h.1, h.2.1, fun j w hj => ?_⟩
  unfold m_st2 at hj
  by_cases hj1 : j = i + 1
  · subst hj1
    have hl := (List.getElem?_eq_some_iff.mp hj).1
    rw [List.getElem?_set_self (by simpa using hl)] at hj
    cases hj
  · rw [List.getElem?_set_ne (Ne.symm hj1)] at hj
    by_cases hji : j = i
    · subst hji
      have hl : j < (m_cl ls j).length := by
        have h1 := (List.getElem?_eq_some_iff.mp hj).1
        simpa using h1
      rw [List.getElem?_set_self hl] at hj
      cases hj
      exact ⟨h.2.2 _ List.mem_cons_self, hv⟩
    · rw [List.getElem?_set_ne (Ne.symm hji)] at hj
      obtain ⟨h1, h2⟩ := m_cl_at hj
      refine ⟨h.2.2 (j, m_v E w) (List.mem_cons_of_mem _ (List.mem_filter.mpr ⟨m_pr_in h1, ?_⟩)), (L.2.2 j w h1).2⟩
      simp only [m_cat]
      by_cases hw : m_isL w = true
      · have h3 : ¬ j + 1 = i := fun q => h2 ⟨q, hw⟩
        simp [hji, hj1, h3]
      · simp [hji, hj1, hw]
