/-! ===== the small machine: values, world, relation ===== -/
abbrev m_V : Type := Int ⊕ (Int ⊕ (Nat ⊕ Nat))
abbrev mI (x : Int) : m_V := Sum.inl x
abbrev mJ (x : Int) : m_V := Sum.inr (Sum.inl x)
abbrev mR (k : Nat) : m_V := Sum.inr (Sum.inr (Sum.inl k))
abbrev mO (i : Nat) : m_V := Sum.inr (Sum.inr (Sum.inr i))
abbrev m_W : Type := List (Nat × Nat)
abbrev m_H : Type := Nat → Nat → Int
abbrev m_E : Type := (Nat × (Nat → Nat)) × (Nat → ClassId) × va_G
def m_v (E : m_E) : m_V → Value
  | .inl x => .int (Int32.ofInt x)
  | .inr (.inl x) => .long (Int64.ofInt x)
  | .inr (.inr (.inl k)) => .ref (E.1.1 + k)
  | .inr (.inr (.inr i)) => if i = 40 ∧ E.1.2 42 = 0 then .null else .ref (E.1.2 i)
theorem m_vO {E : m_E} {i : Nat} (h : i ≠ 40) : m_v E (mO i) = .ref (E.1.2 i) := if_neg (fun z => h z.1)
def m_32 (x : Int) : Prop := -2147483648 ≤ x ∧ x ≤ 2147483647
def m_64 (x : Int) : Prop := -9223372036854775808 ≤ x ∧ x ≤ 9223372036854775807
def m_ok : m_V → Prop
  | .inl x => m_32 x
  | .inr (.inl x) => m_64 x
  | _ => True
def m_oks : List m_V → Prop
  | [] => True
  | v :: t => m_ok v ∧ m_oks t
def m_w (x : Int) : Int := x.bmod 4294967296
def m_x (x : Int) : Int := x.bmod 18446744073709551616
theorem m_w_ok (x : Int) : m_32 (m_w x) := by
  have h1 := Int.le_bmod (x := x) (m := 4294967296) (by decide)
  have h2 := Int.bmod_lt (x := x) (m := 4294967296) (by decide)
  unfold m_32 m_w; omega
theorem m_x_ok (x : Int) : m_64 (m_x x) := by
  have h1 := Int.le_bmod (x := x) (m := 18446744073709551616) (by decide)
  have h2 := Int.bmod_lt (x := x) (m := 18446744073709551616) (by decide)
  unfold m_64 m_x; omega
theorem m_w_id {x : Int} (h1 : -2147483648 ≤ x) (h2 : x ≤ 2147483647) : m_w x = x := by
  unfold m_w; exact Int.bmod_eq_of_le (by omega) (by omega)
theorem m_x_id {x : Int} (h1 : -9223372036854775808 ≤ x) (h2 : x ≤ 9223372036854775807) : m_x x = x := by
  unfold m_x; exact Int.bmod_eq_of_le (by omega) (by omega)
theorem m_i32 {x : Int} (h : m_32 x) : (Int32.ofInt x).toInt = x := Int32.toInt_ofInt_of_le (by unfold m_32 at h; omega) (by unfold m_32 at h; omega)
theorem m_i64 {x : Int} (h : m_64 x) : (Int64.ofInt x).toInt = x := Int64.toInt_ofInt_of_le (by unfold m_64 at h; omega) (by unfold m_64 at h; omega)
theorem m_32t (x : Int32) : m_32 x.toInt := by
  have h1 := x.le_toInt; have h2 := x.toInt_lt; unfold m_32; omega
theorem m_64t (x : Int64) : m_64 x.toInt := by
  have h1 := x.le_toInt; have h2 := x.toInt_lt; unfold m_64; omega
theorem m_eq32 {a : Int32} {x : Int} (h : a.toInt = x) : a = Int32.ofInt x := by rw [← h, Int32.ofInt_toInt]
theorem m_eq64 {a : Int64} {x : Int} (h : a.toInt = x) : a = Int64.ofInt x := by rw [← h, Int64.ofInt_toInt]
theorem m_inj32 {x y : Int} (hx : m_32 x) (hy : m_32 y) : Int32.ofInt x = Int32.ofInt y ↔ x = y := by
  rw [← Int32.toInt_inj, m_i32 hx, m_i32 hy]
theorem m_inj64 {x y : Int} (hx : m_64 x) (hy : m_64 y) : Int64.ofInt x = Int64.ofInt y ↔ x = y := by
  rw [← Int64.toInt_inj, m_i64 hx, m_i64 hy]
theorem m_lt32 {x y : Int} (hx : m_32 x) (hy : m_32 y) : Int32.ofInt x < Int32.ofInt y ↔ x < y := by
  rw [Int32.lt_iff_toInt_lt, m_i32 hx, m_i32 hy]
theorem m_le32 {x y : Int} (hx : m_32 x) (hy : m_32 y) : Int32.ofInt x ≤ Int32.ofInt y ↔ x ≤ y := by
  rw [Int32.le_iff_toInt_le, m_i32 hx, m_i32 hy]
theorem m_lt64 {x y : Int} (hx : m_64 x) (hy : m_64 y) : Int64.ofInt x < Int64.ofInt y ↔ x < y := by
  rw [Int64.lt_iff_toInt_lt, m_i64 hx, m_i64 hy]
theorem m_320 : m_32 0 := by unfold m_32; omega
theorem m_640 : m_64 0 := by unfold m_64; omega
/-! types of the world's slots -/
def m_ty : Nat → Nat → FieldType
  | 0 => tyX0 | 1 => tyX1 | 2 => tyX2 | 3 => tyX3 | 4 => tyX4 | 5 => tyX5 | 6 => tyX6 | 7 => tyX7 | 8 => tyX8 | 9 => tyX9 | 10 => tyX10 | 11 => tyX11 | _ => tyX12
/-- 0: a whole number, 1: a long one, 2: a truth, 3: a reference -/
def m_tk : FieldType → Nat
  | .long => 1 | .boolean => 2 | .object _ => 3 | .array _ => 3 | _ => 0
def m_rv (E : m_E) (x : Int) : Value := if x < 0 then .null else .ref (E.1.1 + x.toNat)
def m_sv (E : m_E) (t : Nat) (x : Int) : Value := if t = 1 then .long (Int64.ofInt x) else if t = 3 then m_rv E x else .int (Int32.ofInt x)
def m_rg (t : Nat) (x : Int) : Prop := if t = 1 then m_64 x else if t = 3 then True else m_32 x
def m_el (E : m_E) (q : Nat × Nat) (f : Nat → Int) : va_E :=
  match q.1 with
  | 0 => .inl (E.2.1 0, q.2, .inl (fun j => Int32.ofInt (f j)))
  | 1 => .inl (E.2.1 1, q.2, .inr (.inl (fun j => Int64.ofInt (f j))))
  | 2 => .inl (E.2.1 2, q.2, .inl (fun j => Int32.ofInt (f j)))
  | 3 => .inl (E.2.1 3, q.2, .inr (.inr (.inr (.inr (fun j => if f j < 0 then none else some (E.1.1 + (f j).toNat))))))
  | 4 => .inl (E.2.1 4, q.2, .inr (.inr (.inr (.inr (fun j => if f j < 0 then none else some (E.1.1 + (f j).toNat))))))
  | n + 5 => .inr (n, (List.range q.2).map (fun j => m_sv E (m_tk (m_ty n j)) (f j)))
/-- the kind of a cell's slot -/
def m_sk (c j : Nat) : Nat :=
  match c with
  | 0 => 0 | 1 => 1 | 2 => 2 | 3 => 3 | 4 => 3
  | n + 5 => m_tk (m_ty n j)
def m_wl (E : m_E) (Ω : m_W) (h : m_H) : va_W := Ω.mapIdx (fun k q => (E.1.1 + k, m_el E q (h k)))
def m_hok (Ω : m_W) (h : m_H) : Prop := ∀ (k : Nat) (q : Nat × Nat), Ω[k]? = some q → ∀ j : Nat, m_rg (m_sk q.1 j) (h k j)
def m_up (h : m_H) (k j : Nat) (x : Int) : m_H := fun a b => if a = k ∧ b = j then x else h a b
theorem m_up_eq (h : m_H) (k j : Nat) (x : Int) : m_up h k j x k j = x := by simp [m_up]
theorem m_up_ne {h : m_H} {k j : Nat} {x : Int} {a b : Nat} (q : ¬ (a = k ∧ b = j)) : m_up h k j x a b = h a b := by simp [m_up, q]
theorem m_up_ne1 {h : m_H} {k j : Nat} {x : Int} {a b : Nat} (q : a ≠ k) : m_up h k j x a b = h a b := m_up_ne (fun z => q z.1)
theorem m_up_row {h : m_H} {k j : Nat} {x : Int} {a : Nat} (q : a ≠ k) : m_up h k j x a = h a := by funext b; exact m_up_ne1 q
theorem m_wl_at {E : m_E} {Ω : m_W} {h : m_H} {k : Nat} {q : Nat × Nat} (e : Ω[k]? = some q) : (m_wl E Ω h)[k]? = some (E.1.1 + k, m_el E q (h k)) := by
  simp [m_wl, List.getElem?_mapIdx, e]
theorem m_wl_D (E : m_E) (Ω : m_W) (h : m_H) : va_D (fun q => E.1.1 ≤ q) (m_wl E Ω h) := by
  have key : ∀ (i : Nat) (p : Nat × va_E), (m_wl E Ω h)[i]? = some p → p.1 = E.1.1 + i := by
    intro i p e
    simp only [m_wl, List.getElem?_mapIdx] at e
    cases hq : Ω[i]? with
    | none => simp [hq] at e
    | some q => simp [hq] at e; rw [← e]
  refine ⟨fun i j p q hi hj e => ?_, fun k q hk => ?_⟩
  · have h1 := key i p hi; have h2 := key j q hj; omega
  · have h1 := key k q hk; omega
theorem m_wl_set {E : m_E} {Ω : m_W} {h : m_H} {k j : Nat} {x : Int} {q : Nat × Nat} (e : Ω[k]? = some q) : (m_wl E Ω h).set k (E.1.1 + k, m_el E q (m_up h k j x k)) = m_wl E Ω (m_up h k j x) := by
  apply List.ext_getElem?
  intro i
  by_cases hi : i = k
  · subst hi
    rw [m_wl_at e]
    have hl : i < (m_wl E Ω h).length := by simp [m_wl]; exact (List.getElem?_eq_some_iff.mp e).1
    rw [List.getElem?_set_self hl]
  · rw [List.getElem?_set_ne (Ne.symm hi)]
    simp only [m_wl, List.getElem?_mapIdx, m_up_row hi]
theorem m_hok_up {Ω : m_W} {h : m_H} {k j : Nat} {x : Int} {q : Nat × Nat} (e : Ω[k]? = some q) (H : m_hok Ω h) (hx : m_rg (m_sk q.1 j) x) : m_hok Ω (m_up h k j x) := by
  intro a p ha b
  by_cases hab : a = k ∧ b = j
  · obtain ⟨rfl, rfl⟩ := hab
    rw [m_up_eq]
    cases e.symm.trans ha
    exact hx
  · rw [m_up_ne hab]; exact H a p ha b
/-! methods: own class, name, code, locals, answer's type, room, cells and slots of the world at its entry -/
abbrev m_M : Type := String × MethodName × ByteArray × Nat × Option FieldType × Room × Nat × Nat
abbrev m_rm (M : m_M) : Room := M.2.2.2.2.2.1
abbrev m_k0 (M : m_M) : Nat := M.2.2.2.2.2.2.1
abbrev m_s0 (M : m_M) : Nat := M.2.2.2.2.2.2.2
def m_isN : Cond → Bool
  | .methodLinkNest _ _ _ _ => true
  | _ => false
def m_G : List Cond := lw_tbl.filter goodWord
def m_N : List Cond := lw_tbl.filter m_isN
def m_ws (M : m_M) : List Cond := Cond.code M.2.1 M.2.2.1 M.2.2.2.1 M.2.2.2.2.1 :: m_G
theorem m_inG {w : Cond} (i : Nat) (h : lw_tbl[i]? = some w) (g : goodWord w = true) : w ∈ m_G := List.mem_filter.mpr ⟨List.mem_of_getElem? h, g⟩
theorem m_inN {w : Cond} (i : Nat) (h : lw_tbl[i]? = some w) (g : m_isN w = true) : w ∈ m_N := List.mem_filter.mpr ⟨List.mem_of_getElem? h, g⟩
def m_tys (E : m_E) : List (ClassId × FieldType) := [(E.2.1 0, .int), (E.2.1 1, .long), (E.2.1 2, .boolean), (E.2.1 3, .object "WeekFoot$Bound"), (E.2.1 4, .object "WeekFoot$Ledger")]
/-! the String constants: the reader's, by their places in its pool -/
def m_sx : List (Nat × String) := [(25, "week"), (57, "to"), (59, "by"), (61, "nobody"), (35, "thing"), (88, "cut"), (99, "never"), (104, "in"), (109, "is"), (111, "whole"), (113, "half"), (115, "exact"), (97, ","), (69, "keeper"), (70, "below"), (51, ";")]
def m_sb : List (List Int32) := m_sx.map (fun q => q.2.toList.map (fun ch => Int32.ofNat ch.toNat))
def m_sl : List Nat := m_sx.map (fun q => q.2.length)
def m_Str (E : m_E) (U : State) (H : Heap) : Prop := vk_S 16 m_sl m_sb (fun i => E.1.2 i) (fun i => E.1.2 (20 + i)) (fun q => E.1.1 ≤ q) U H ∧ (∀ (i : Nat) (q : Nat × String), m_sx[i]? = some q → vk_R "WeekFoot$BookReader" q.1 q.2 (E.1.2 i) U) ∧ va_Z "java/lang/String" "COMPACT_STRINGS" "Z" (.int 1) (fun q => E.1.1 ≤ q) U H ∧ va_Z "jdk/internal/util/Preconditions" "SIOOBE_FORMATTER" "Ljava/util/function/BiFunction;" (m_v E (mO 40)) (fun q => E.1.1 ≤ q) U H
def m_sz (Ω : m_W) : Nat := (Ω.map (fun q => q.2)).sum
def m_Rel (E : m_E) (Ω : m_W) (h : m_H) (s : State) (H : Heap) (locs : List Loc) : Prop :=
  H.size = E.1.1 + Ω.length ∧ va_P E.2.2 vwCl (m_wl E Ω h) H ∧ va_S (fun q => E.1.1 ≤ q) s.heap H locs ∧ m_hok Ω h
def m_Cx (E : m_E) (M : m_M) (p : Program) (s : State) (m : MethodId) (args : Array Value) (c : Code) : Prop :=
  p.tables.exec = Jvm.exec ∧ c.code = M.2.2.1 ∧ c.maxLocals = M.2.2.2.1 ∧ s.vm.findClass M.1 = some m.cls ∧ (∀ w ∈ m_G, w.before args s = true) ∧ va_K E.2.2 vwCl (m_tys E) s ∧ (∀ w ∈ m_N, va_Nw w s) ∧ m_Str E s s.heap ∧ E.1.1 ≤ s.heap.size
def m_b (Ω : m_W) (M : m_M) : Prop := (m_k0 M ≤ Ω.length ∧ m_s0 M ≤ m_sz Ω) ∧ Ω.length - m_k0 M ≤ (m_rm M).cells ∧ m_sz Ω - m_s0 M ≤ (m_rm M).slots
def m_isR (ret : Option FieldType) (i : Instr) (r : Option m_V) : Prop :=
  (ret = none ∧ i = .return_ ∧ r = none) ∨ (∃ x : Int, ret = some .int ∧ i = .ireturn ∧ r = some (mI x)) ∨ (∃ x : Int, ret = some .boolean ∧ i = .ireturn ∧ r = some (mI x) ∧ (x = 0 ∨ x = 1)) ∨ (∃ x : Int, ret = some .long ∧ i = .lreturn ∧ r = some (mJ x)) ∨ (∃ k : Nat, ret = some (.array (.object "WeekFoot$Bound")) ∧ i = .areturn ∧ r = some (mR k)) ∨ (∃ (x : Int) (ty : FieldType), ret = some ty ∧ i = .ireturn ∧ r = some (mI x) ∧ narrow ty (.int (Int32.ofInt x)) = .int (Int32.ofInt x))
def m_okr (r : Option m_V) : Prop := ∀ v, r = some v → m_ok v
def m_Ret (E : m_E) (M : m_M) (p : Program) (l : Launch) (e : Env) (s : State) (m : MethodId) (args : Array Value) (below : List Frame) (meth : Method) (c : Code) (QQ : State → Prop) (Q : m_W → Option m_V → m_H → Prop) : Prop :=
  ∀ (Ω : m_W) (r : Option m_V) (h : m_H) (H : Heap) (locs : List Loc) (pc : Nat) (ls : Array Slot) (i : Instr), Q Ω r h → m_okr r → m_Rel E Ω h s H locs → decode M.2.2.1 pc = .ok (i, 1) → m_isR M.2.2.2.2.1 i r →
    W p l e (m_rm M) s m args below meth c H locs (Ω.length - m_k0 M) (m_sz Ω - m_s0 M) QQ (F0 m pc ls (r.toList.map (m_v E)))
def m_LH (E : m_E) (lsR : Array Slot) (nL : Nat) (ls : List (Option m_V)) : Prop :=
  lsR.size = nL ∧ lv_wf lsR ∧ ∀ (i : Nat) (v : m_V), ls[i]? = some (some v) → lsR[i]? = some (.val (m_v E v)) ∧ m_ok v
/-- the judgement: from here the method comes to an end with Q -/
def m_Z (Ω : m_W) (M : m_M) (pc : Nat) (ls : List (Option m_V)) (st : List m_V) (h : m_H) (Q : m_W → Option m_V → m_H → Prop) : Prop :=
  ∀ (E : m_E) (p : Program) (l : Launch) (e : Env) (s : State) (m : MethodId) (args : Array Value) (below : List Frame) (meth : Method) (c : Code) (QQ : State → Prop) (H : Heap) (locs : List Loc) (lsR : Array Slot),
    m_Cx E M p s m args c → m_Ret E M p l e s m args below meth c QQ Q → m_Rel E Ω h s H locs → m_LH E lsR M.2.2.2.1 ls → m_oks st → m_b Ω M →
    W p l e (m_rm M) s m args below meth c H locs (Ω.length - m_k0 M) (m_sz Ω - m_s0 M) QQ (F0 m pc lsR (st.map (m_v E)))
/-! the locals -/
def m_isL : m_V → Bool
  | .inr (.inl _) => true
  | _ => false
theorem m_cat (E : m_E) (v : m_V) : (m_v E v).category = if m_isL v then 2 else 1 := by
  rcases v with x | x | x | x
  · rfl
  · rfl
  · rfl
  · show Value.category (if x = 40 ∧ E.1.2 42 = 0 then .null else .ref (E.1.2 x)) = _
    split <;> rfl
def m_cl (ls : List (Option m_V)) (i : Nat) : List (Option m_V) :=
  match i with
  | 0 => ls
  | k + 1 => match ls[k]? with
    | some (some (.inr (.inl _))) => ls.set k none
    | _ => ls
def m_st1 (ls : List (Option m_V)) (i : Nat) (v : m_V) : List (Option m_V) := (m_cl ls i).set i (some v)
def m_st2 (ls : List (Option m_V)) (i : Nat) (v : m_V) : List (Option m_V) := ((m_cl ls i).set i (some v)).set (i + 1) none
theorem m_cl_at {ls : List (Option m_V)} {i j : Nat} {w : m_V} (h : (m_cl ls i)[j]? = some (some w)) : ls[j]? = some (some w) ∧ ¬ (j + 1 = i ∧ m_isL w = true) := by
  cases i with
  | zero => exact ⟨h, fun q => by omega⟩
  | succ k =>
    by_cases hjk : j = k
    · subst hjk
      simp only [m_cl] at h
      split at h
      · rename_i z
        have hl : j < ls.length := (List.getElem?_eq_some_iff.mp z).1
        rw [List.getElem?_set_self hl] at h
        cases h
      · rename_i z
        refine ⟨h, fun q => ?_⟩
        rcases w with x | x | x | x
        · cases q.2
        · exact z x h
        · cases q.2
        · cases q.2
    · refine ⟨?_, fun q => by omega⟩
      simp only [m_cl] at h
      split at h
      · rw [List.getElem?_set_ne (Ne.symm hjk)] at h; exact h
      · exact h
def m_pr (E : m_E) (ls : List (Option m_V)) : List (Nat × Value) := (List.range ls.length).filterMap (fun i => match ls[i]? with | some (some v) => some (i, m_v E v) | _ => none)
theorem m_pr_in {E : m_E} {ls : List (Option m_V)} {j : Nat} {w : m_V} (h : ls[j]? = some (some w)) : (j, m_v E w) ∈ m_pr E ls := by
  refine List.mem_filterMap.mpr ⟨j, List.mem_range.mpr (List.getElem?_eq_some_iff.mp h).1, ?_⟩
  simp [h]
theorem m_LH.has {E : m_E} {lsR : Array Slot} {nL : Nat} {ls : List (Option m_V)} (L : m_LH E lsR nL ls) : lv_has lsR nL (m_pr E ls) := by
  refine ⟨L.1, L.2.1, fun q hq => ?_⟩
  obtain ⟨i, -, hi⟩ := List.mem_filterMap.mp hq
  cases hv : ls[i]? with
  | none => simp [hv] at hi
  | some o =>
    cases o with
    | none => simp [hv] at hi
    | some v =>
      simp [hv] at hi
      rw [← hi]
      exact (L.2.2 i v hv).1
theorem m_LH.st1 {E : m_E} {lsR ls' : Array Slot} {nL i : Nat} {ls : List (Option m_V)} {v : m_V} (L : m_LH E lsR nL ls) (hv : m_ok v) (h : lv_has ls' nL ((i, m_v E v) :: (m_pr E ls).filter (fun q => !(q.1 == i) && !(q.1 + 1 == i && q.2.category == 2)))) : m_LH E ls' nL (m_st1 ls i v) := by
  refine ⟨h.1, h.2.1, fun j w hj => ?_⟩
  unfold m_st1 at hj
  by_cases hji : j = i
  · subst hji
    have hl : j < (m_cl ls j).length := by
      have h1 := (List.getElem?_eq_some_iff.mp hj).1
      simpa using h1
    rw [List.getElem?_set_self hl] at hj
    cases hj
    exact ⟨h.2.2 _ List.mem_cons_self, hv⟩
  · rw [List.getElem?_set_ne (Ne.symm hji)] at hj
    obtain ⟨h1, h2⟩ := m_cl_at hj
    refine ⟨h.2.2 (j, m_v E w) (List.mem_cons_of_mem _ (List.mem_filter.mpr ⟨m_pr_in h1, ?_⟩)), (L.2.2 j w h1).2⟩
    simp only [m_cat]
    by_cases hw : m_isL w = true
    · have h3 : ¬ j + 1 = i := fun q => h2 ⟨q, hw⟩
      simp [hji, h3]
    · simp [hji, hw]
theorem m_LH.st2 {E : m_E} {lsR ls' : Array Slot} {nL i : Nat} {ls : List (Option m_V)} {v : m_V} (L : m_LH E lsR nL ls) (hv : m_ok v) (h : lv_has ls' nL ((i, m_v E v) :: (m_pr E ls).filter (fun q => !(q.1 == i) && (!(q.1 == i + 1) && !(q.1 + 1 == i && q.2.category == 2))))) : m_LH E ls' nL (m_st2 ls i v) := by
  refine ⟨h.1, h.2.1, fun j w hj => ?_⟩
  unfold m_st2 at hj
  by_cases hj1 : j = i + 1
  · subst hj1
    have hl := (List.getElem?_eq_some_iff.mp hj).1
    rw [List.getElem?_set_self (by simpa using hl)] at hj
    cases hj
  · rw [List.getElem?_set_ne (Ne.symm hj1)] at hj
    by_cases hji : j = i
    · subst hji
      have hl : j < (m_cl ls j).length := by
        have h1 := (List.getElem?_eq_some_iff.mp hj).1
        simpa using h1
      rw [List.getElem?_set_self hl] at hj
      cases hj
      exact ⟨h.2.2 _ List.mem_cons_self, hv⟩
    · rw [List.getElem?_set_ne (Ne.symm hji)] at hj
      obtain ⟨h1, h2⟩ := m_cl_at hj
      refine ⟨h.2.2 (j, m_v E w) (List.mem_cons_of_mem _ (List.mem_filter.mpr ⟨m_pr_in h1, ?_⟩)), (L.2.2 j w h1).2⟩
      simp only [m_cat]
      by_cases hw : m_isL w = true
      · have h3 : ¬ j + 1 = i := fun q => h2 ⟨q, hw⟩
        simp [hji, hj1, h3]
      · simp [hji, hj1, hw]
section ZR
variable {Ω : m_W} {M : m_M} {ls : List (Option m_V)} {st : List m_V} {h : m_H} {Q : m_W → Option m_V → m_H → Prop}
theorem z_iconst (pc : Nat) {n : Int} (d : decode M.2.2.1 pc = .ok (.iconst n, 1)) (k : m_Z Ω M (pc + 1) ls (mI n :: st) h Q) (hn : m_32 n := by (unfold m_32; decide)) : m_Z Ω M pc ls st h Q := by
  intro E p l e s m args below meth c QQ H locs lsR C Rt Rl L o b
  refine lv_iconst C.1 C.2.1 d rfl ?_
  exact k E p l e s m args below meth c QQ H locs lsR C Rt Rl L ⟨hn, o⟩ b
theorem z_bipush (pc : Nat) {n : Int} (d : decode M.2.2.1 pc = .ok (.bipush n, 2)) (k : m_Z Ω M (pc + 2) ls (mI n :: st) h Q) (hv : (Int8.ofInt n).toInt32 = Int32.ofInt n := by decide) (hn : m_32 n := by (unfold m_32; decide)) : m_Z Ω M pc ls st h Q := by
  intro E p l e s m args below meth c QQ H locs lsR C Rt Rl L o b
  refine lv_bipush C.1 C.2.1 d hv ?_
  exact k E p l e s m args below meth c QQ H locs lsR C Rt Rl L ⟨hn, o⟩ b
theorem z_sipush (pc : Nat) {n : Int} (d : decode M.2.2.1 pc = .ok (.sipush n, 3)) (k : m_Z Ω M (pc + 3) ls (mI n :: st) h Q) (hv : (Int16.ofInt n).toInt32 = Int32.ofInt n := by decide) (hn : m_32 n := by (unfold m_32; decide)) : m_Z Ω M pc ls st h Q := by
  intro E p l e s m args below meth c QQ H locs lsR C Rt Rl L o b
  refine lv_sipush C.1 C.2.1 d hv ?_
  exact k E p l e s m args below meth c QQ H locs lsR C Rt Rl L ⟨hn, o⟩ b
theorem z_lconst (pc : Nat) {n : Fin 2} (d : decode M.2.2.1 pc = .ok (.lconst n, 1)) {v : Int} (k : m_Z Ω M (pc + 1) ls (mJ v :: st) h Q) (hv : Int64.ofNat (n : Nat) = Int64.ofInt v := by decide) (hn : m_64 v := by (unfold m_64; decide)) : m_Z Ω M pc ls st h Q := by
  intro E p l e s m args below meth c QQ H locs lsR C Rt Rl L o b
  refine lv_lconst C.1 C.2.1 d hv ?_
  exact k E p l e s m args below meth c QQ H locs lsR C Rt Rl L ⟨hn, o⟩ b
theorem z_ldc (pc : Nat) {index : Nat} (d : decode M.2.2.1 pc = .ok (.ldc index, 2)) {v : Int} (w : Cond.constant M.1 index (Int32.ofInt v) ∈ m_G) (k : m_Z Ω M (pc + 2) ls (mI v :: st) h Q) (hn : m_32 v := by (unfold m_32; decide)) : m_Z Ω M pc ls st h Q := by
  intro E p l e s m args below meth c QQ H locs lsR C Rt Rl L o b
  refine lv_ldc C.1 C.2.1 C.2.2.2.1 (C.2.2.2.2.1 _ w) d ?_
  exact k E p l e s m args below meth c QQ H locs lsR C Rt Rl L ⟨hn, o⟩ b
theorem z_ldcw (pc : Nat) {index : Nat} (d : decode M.2.2.1 pc = .ok (.ldc_w index, 3)) {v : Int} (w : Cond.constant M.1 index (Int32.ofInt v) ∈ m_G) (k : m_Z Ω M (pc + 3) ls (mI v :: st) h Q) (hn : m_32 v := by (unfold m_32; decide)) : m_Z Ω M pc ls st h Q := by
  intro E p l e s m args below meth c QQ H locs lsR C Rt Rl L o b
  refine lv_ldcw C.1 C.2.1 C.2.2.2.1 (C.2.2.2.2.1 _ w) d ?_
  exact k E p l e s m args below meth c QQ H locs lsR C Rt Rl L ⟨hn, o⟩ b
theorem z_ldc2 (pc : Nat) {index : Nat} (d : decode M.2.2.1 pc = .ok (.ldc2_w index, 3)) {v : Int} (w : Cond.constantLong M.1 index (Int64.ofInt v) ∈ m_G) (k : m_Z Ω M (pc + 3) ls (mJ v :: st) h Q) (hn : m_64 v := by (unfold m_64; decide)) : m_Z Ω M pc ls st h Q := by
  intro E p l e s m args below meth c QQ H locs lsR C Rt Rl L o b
  refine lv_ldc2 C.1 C.2.1 C.2.2.2.1 (C.2.2.2.2.1 _ w) d ?_
  exact k E p l e s m args below meth c QQ H locs lsR C Rt Rl L ⟨hn, o⟩ b
theorem z_iload_n (pc : Nat) {n : Fin 4} (d : decode M.2.2.1 pc = .ok (.iload_n n, 1)) {x : Int} (hl : ls[(n : Nat)]? = some (some (mI x))) (k : m_Z Ω M (pc + 1) ls (mI x :: st) h Q) : m_Z Ω M pc ls st h Q := by
  intro E p l e s m args below meth c QQ H locs lsR C Rt Rl L o b
  refine lv_iload_n C.1 C.2.1 d rfl (L.2.2 _ _ hl).1 ?_
  exact k E p l e s m args below meth c QQ H locs lsR C Rt Rl L ⟨(L.2.2 _ _ hl).2, o⟩ b
theorem z_iload (pc : Nat) {n : Nat} (d : decode M.2.2.1 pc = .ok (.iload n, 2)) {x : Int} (hl : ls[n]? = some (some (mI x))) (k : m_Z Ω M (pc + 2) ls (mI x :: st) h Q) : m_Z Ω M pc ls st h Q := by
  intro E p l e s m args below meth c QQ H locs lsR C Rt Rl L o b
  refine lv_iload C.1 C.2.1 d (L.2.2 _ _ hl).1 ?_
  exact k E p l e s m args below meth c QQ H locs lsR C Rt Rl L ⟨(L.2.2 _ _ hl).2, o⟩ b
theorem z_lload_n (pc : Nat) {n : Fin 4} (d : decode M.2.2.1 pc = .ok (.lload_n n, 1)) {x : Int} (hl : ls[(n : Nat)]? = some (some (mJ x))) (k : m_Z Ω M (pc + 1) ls (mJ x :: st) h Q) : m_Z Ω M pc ls st h Q := by
  intro E p l e s m args below meth c QQ H locs lsR C Rt Rl L o b
  refine lv_lload_n C.1 C.2.1 d rfl (L.2.2 _ _ hl).1 ?_
  exact k E p l e s m args below meth c QQ H locs lsR C Rt Rl L ⟨(L.2.2 _ _ hl).2, o⟩ b
theorem z_lload (pc : Nat) {n : Nat} (d : decode M.2.2.1 pc = .ok (.lload n, 2)) {x : Int} (hl : ls[n]? = some (some (mJ x))) (k : m_Z Ω M (pc + 2) ls (mJ x :: st) h Q) : m_Z Ω M pc ls st h Q := by
  intro E p l e s m args below meth c QQ H locs lsR C Rt Rl L o b
  refine lv_lload C.1 C.2.1 d (L.2.2 _ _ hl).1 ?_
  exact k E p l e s m args below meth c QQ H locs lsR C Rt Rl L ⟨(L.2.2 _ _ hl).2, o⟩ b
theorem z_aload_n (pc : Nat) {n : Fin 4} (d : decode M.2.2.1 pc = .ok (.aload_n n, 1)) {x : Nat} (hl : ls[(n : Nat)]? = some (some (mR x))) (k : m_Z Ω M (pc + 1) ls (mR x :: st) h Q) : m_Z Ω M pc ls st h Q := by
  intro E p l e s m args below meth c QQ H locs lsR C Rt Rl L o b
  refine lv_aload_n C.1 C.2.1 d rfl (L.2.2 _ _ hl).1 ?_
  exact k E p l e s m args below meth c QQ H locs lsR C Rt Rl L ⟨trivial, o⟩ b
theorem z_aload (pc : Nat) {n : Nat} (d : decode M.2.2.1 pc = .ok (.aload n, 2)) {x : Nat} (hl : ls[n]? = some (some (mR x))) (k : m_Z Ω M (pc + 2) ls (mR x :: st) h Q) : m_Z Ω M pc ls st h Q := by
  intro E p l e s m args below meth c QQ H locs lsR C Rt Rl L o b
  refine lv_aload C.1 C.2.1 d (L.2.2 _ _ hl).1 ?_
  exact k E p l e s m args below meth c QQ H locs lsR C Rt Rl L ⟨trivial, o⟩ b
theorem z_aload_nO (pc : Nat) {n : Fin 4} (d : decode M.2.2.1 pc = .ok (.aload_n n, 1)) {x : Nat} (hl : ls[(n : Nat)]? = some (some (mO x))) (k : m_Z Ω M (pc + 1) ls (mO x :: st) h Q) (hx : x ≠ 40 := by omega) : m_Z Ω M pc ls st h Q := by
  intro E p l e s m args below meth c QQ H locs lsR C Rt Rl L o b
  have h1 := (L.2.2 _ _ hl).1
  rw [m_vO hx] at h1
  refine lv_aload_n C.1 C.2.1 d rfl h1 ?_
  have key := k E p l e s m args below meth c QQ H locs lsR C Rt Rl L ⟨trivial, o⟩ b
  rw [List.map_cons, m_vO hx] at key
  exact key
theorem z_aloadO (pc : Nat) {n : Nat} (d : decode M.2.2.1 pc = .ok (.aload n, 2)) {x : Nat} (hl : ls[n]? = some (some (mO x))) (k : m_Z Ω M (pc + 2) ls (mO x :: st) h Q) (hx : x ≠ 40 := by omega) : m_Z Ω M pc ls st h Q := by
  intro E p l e s m args below meth c QQ H locs lsR C Rt Rl L o b
  have h1 := (L.2.2 _ _ hl).1
  rw [m_vO hx] at h1
  refine lv_aload C.1 C.2.1 d h1 ?_
  have key := k E p l e s m args below meth c QQ H locs lsR C Rt Rl L ⟨trivial, o⟩ b
  rw [List.map_cons, m_vO hx] at key
  exact key
theorem z_istore_n (pc : Nat) {n : Fin 4} (d : decode M.2.2.1 pc = .ok (.istore_n n, 1)) {x : Int} {ls' : List (Option m_V)} (hn : (n : Nat) < M.2.2.2.1) (e : m_st1 ls (n : Nat) (mI x) = ls') (k : m_Z Ω M (pc + 1) ls' st h Q) : m_Z Ω M pc ls (mI x :: st) h Q := by
  subst e
  intro E p l e s m args below meth c QQ H locs lsR C Rt Rl L o b
  refine lv_istore_n C.1 C.2.1 d rfl L.has hn rfl (fun ls2 hl2 => ?_)
  exact k E p l e s m args below meth c QQ H locs ls2 C Rt Rl (L.st1 o.1 hl2) o.2 b
theorem z_istore (pc : Nat) {n : Nat} (d : decode M.2.2.1 pc = .ok (.istore n, 2)) {x : Int} {ls' : List (Option m_V)} (hn : n < M.2.2.2.1) (e : m_st1 ls n (mI x) = ls') (k : m_Z Ω M (pc + 2) ls' st h Q) : m_Z Ω M pc ls (mI x :: st) h Q := by
  subst e
  intro E p l e s m args below meth c QQ H locs lsR C Rt Rl L o b
  refine lv_istore C.1 C.2.1 d L.has hn rfl (fun ls2 hl2 => ?_)
  exact k E p l e s m args below meth c QQ H locs ls2 C Rt Rl (L.st1 o.1 hl2) o.2 b
theorem z_lstore_n (pc : Nat) {n : Fin 4} (d : decode M.2.2.1 pc = .ok (.lstore_n n, 1)) {x : Int} {ls' : List (Option m_V)} (hn : (n : Nat) + 1 < M.2.2.2.1) (e : m_st2 ls (n : Nat) (mJ x) = ls') (k : m_Z Ω M (pc + 1) ls' st h Q) : m_Z Ω M pc ls (mJ x :: st) h Q := by
  subst e
  intro E p l e s m args below meth c QQ H locs lsR C Rt Rl L o b
  refine lv_lstore_n C.1 C.2.1 d rfl L.has hn rfl (fun ls2 hl2 => ?_)
  exact k E p l e s m args below meth c QQ H locs ls2 C Rt Rl (L.st2 o.1 hl2) o.2 b
theorem z_lstore (pc : Nat) {n : Nat} (d : decode M.2.2.1 pc = .ok (.lstore n, 2)) {x : Int} {ls' : List (Option m_V)} (hn : n + 1 < M.2.2.2.1) (e : m_st2 ls n (mJ x) = ls') (k : m_Z Ω M (pc + 2) ls' st h Q) : m_Z Ω M pc ls (mJ x :: st) h Q := by
  subst e
  intro E p l e s m args below meth c QQ H locs lsR C Rt Rl L o b
  refine lv_lstore C.1 C.2.1 d L.has hn rfl (fun ls2 hl2 => ?_)
  exact k E p l e s m args below meth c QQ H locs ls2 C Rt Rl (L.st2 o.1 hl2) o.2 b
theorem z_astore_n (pc : Nat) {n : Fin 4} (d : decode M.2.2.1 pc = .ok (.astore_n n, 1)) {x : Nat} {ls' : List (Option m_V)} (hn : (n : Nat) < M.2.2.2.1) (e : m_st1 ls (n : Nat) (mR x) = ls') (k : m_Z Ω M (pc + 1) ls' st h Q) : m_Z Ω M pc ls (mR x :: st) h Q := by
  subst e
  intro E p l e s m args below meth c QQ H locs lsR C Rt Rl L o b
  refine lv_astore_n C.1 C.2.1 d rfl L.has hn rfl (fun ls2 hl2 => ?_)
  exact k E p l e s m args below meth c QQ H locs ls2 C Rt Rl (L.st1 o.1 hl2) o.2 b
theorem z_astore (pc : Nat) {n : Nat} (d : decode M.2.2.1 pc = .ok (.astore n, 2)) {x : Nat} {ls' : List (Option m_V)} (hn : n < M.2.2.2.1) (e : m_st1 ls n (mR x) = ls') (k : m_Z Ω M (pc + 2) ls' st h Q) : m_Z Ω M pc ls (mR x :: st) h Q := by
  subst e
  intro E p l e s m args below meth c QQ H locs lsR C Rt Rl L o b
  refine lv_astore C.1 C.2.1 d L.has hn rfl (fun ls2 hl2 => ?_)
  exact k E p l e s m args below meth c QQ H locs ls2 C Rt Rl (L.st1 o.1 hl2) o.2 b
theorem z_iinc (pc : Nat) {n : Nat} {i : Int} (d : decode M.2.2.1 pc = .ok (.iinc n i, 3)) {x : Int} {ls' : List (Option m_V)} (hn : n < M.2.2.2.1) (hl : ls[n]? = some (some (mI x))) (hi : m_32 i) (e : m_st1 ls n (mI (m_w (x + i))) = ls') (k : m_Z Ω M (pc + 3) ls' st h Q) : m_Z Ω M pc ls st h Q := by
  subst e
  intro E p l e s m args below meth c QQ H locs lsR C Rt Rl L o b
  have hx := (L.2.2 _ _ hl).2
  have e1 : Int32.ofInt x + Int32.ofInt i = Int32.ofInt (m_w (x + i)) := m_eq32 (by rw [Int32.toInt_add, m_i32 hx, m_i32 hi]; rfl)
  obtain ⟨kk, hkk⟩ := List.getElem?_of_mem (m_pr_in (E := E) hl)
  refine lv_iinc C.1 C.2.1 d L.has hkk e1 hn rfl (fun ls2 hl2 => ?_)
  exact k E p l e s m args below meth c QQ H locs ls2 C Rt Rl (L.st1 (v := mI (m_w (x + i))) (m_w_ok _) hl2) o b
theorem z_iadd (pc : Nat) (d : decode M.2.2.1 pc = .ok (.iadd, 1)) {x y : Int} (k : m_Z Ω M (pc + 1) ls (mI (m_w (x + y)) :: st) h Q) : m_Z Ω M pc ls (mI y :: mI x :: st) h Q := by
  intro E p l e s m args below meth c QQ H locs lsR C Rt Rl L o b
  have e1 : Int32.ofInt x + Int32.ofInt y = Int32.ofInt (m_w (x + y)) := m_eq32 (by rw [Int32.toInt_add, m_i32 o.2.1, m_i32 o.1]; rfl)
  refine lv_iadd C.1 C.2.1 d ?_
  rw [e1]
  exact k E p l e s m args below meth c QQ H locs lsR C Rt Rl L ⟨m_w_ok _, o.2.2⟩ b
theorem z_ladd (pc : Nat) (d : decode M.2.2.1 pc = .ok (.ladd, 1)) {x y : Int} (k : m_Z Ω M (pc + 1) ls (mJ (m_x (x + y)) :: st) h Q) : m_Z Ω M pc ls (mJ y :: mJ x :: st) h Q := by
  intro E p l e s m args below meth c QQ H locs lsR C Rt Rl L o b
  have e1 : Int64.ofInt x + Int64.ofInt y = Int64.ofInt (m_x (x + y)) := m_eq64 (by rw [Int64.toInt_add, m_i64 o.2.1, m_i64 o.1]; rfl)
  refine lv_ladd C.1 C.2.1 d ?_
  rw [e1]
  exact k E p l e s m args below meth c QQ H locs lsR C Rt Rl L ⟨m_x_ok _, o.2.2⟩ b
theorem z_isub (pc : Nat) (d : decode M.2.2.1 pc = .ok (.isub, 1)) {x y : Int} (k : m_Z Ω M (pc + 1) ls (mI (m_w (x - y)) :: st) h Q) : m_Z Ω M pc ls (mI y :: mI x :: st) h Q := by
  intro E p l e s m args below meth c QQ H locs lsR C Rt Rl L o b
  have e1 : Int32.ofInt x - Int32.ofInt y = Int32.ofInt (m_w (x - y)) := m_eq32 (by rw [Int32.toInt_sub, m_i32 o.2.1, m_i32 o.1]; rfl)
  refine lv_isub C.1 C.2.1 d ?_
  rw [e1]
  exact k E p l e s m args below meth c QQ H locs lsR C Rt Rl L ⟨m_w_ok _, o.2.2⟩ b
theorem z_lsub (pc : Nat) (d : decode M.2.2.1 pc = .ok (.lsub, 1)) {x y : Int} (k : m_Z Ω M (pc + 1) ls (mJ (m_x (x - y)) :: st) h Q) : m_Z Ω M pc ls (mJ y :: mJ x :: st) h Q := by
  intro E p l e s m args below meth c QQ H locs lsR C Rt Rl L o b
  have e1 : Int64.ofInt x - Int64.ofInt y = Int64.ofInt (m_x (x - y)) := m_eq64 (by rw [Int64.toInt_sub, m_i64 o.2.1, m_i64 o.1]; rfl)
  refine lv_lsub C.1 C.2.1 d ?_
  rw [e1]
  exact k E p l e s m args below meth c QQ H locs lsR C Rt Rl L ⟨m_x_ok _, o.2.2⟩ b
theorem z_imul (pc : Nat) (d : decode M.2.2.1 pc = .ok (.imul, 1)) {x y : Int} (k : m_Z Ω M (pc + 1) ls (mI (m_w (x * y)) :: st) h Q) : m_Z Ω M pc ls (mI y :: mI x :: st) h Q := by
  intro E p l e s m args below meth c QQ H locs lsR C Rt Rl L o b
  have e1 : Int32.ofInt x * Int32.ofInt y = Int32.ofInt (m_w (x * y)) := m_eq32 (by rw [Int32.toInt_mul, m_i32 o.2.1, m_i32 o.1]; rfl)
  refine lv_imul C.1 C.2.1 d ?_
  rw [e1]
  exact k E p l e s m args below meth c QQ H locs lsR C Rt Rl L ⟨m_w_ok _, o.2.2⟩ b
theorem z_lmul (pc : Nat) (d : decode M.2.2.1 pc = .ok (.lmul, 1)) {x y : Int} (k : m_Z Ω M (pc + 1) ls (mJ (m_x (x * y)) :: st) h Q) : m_Z Ω M pc ls (mJ y :: mJ x :: st) h Q := by
  intro E p l e s m args below meth c QQ H locs lsR C Rt Rl L o b
  have e1 : Int64.ofInt x * Int64.ofInt y = Int64.ofInt (m_x (x * y)) := m_eq64 (by rw [Int64.toInt_mul, m_i64 o.2.1, m_i64 o.1]; rfl)
  refine lv_lmul C.1 C.2.1 d ?_
  rw [e1]
  exact k E p l e s m args below meth c QQ H locs lsR C Rt Rl L ⟨m_x_ok _, o.2.2⟩ b
def m_and (x y : Int) : Int := (Int32.ofInt x &&& Int32.ofInt y).toInt
def m_or (x y : Int) : Int := (Int32.ofInt x ||| Int32.ofInt y).toInt
def m_xor (x y : Int) : Int := (Int32.ofInt x ^^^ Int32.ofInt y).toInt
def m_shl (x y : Int) : Int := (Int32.ofInt x <<< (Int32.ofInt y &&& 31)).toInt
def m_shr (x y : Int) : Int := (Int32.ofInt x >>> (Int32.ofInt y &&& 31)).toInt
def m_ushr (x y : Int) : Int := ((Int32.ofInt x).toUInt32 >>> ((Int32.ofInt y).toUInt32 &&& Int32.toUInt32 31)).toInt32.toInt
theorem z_iand (pc : Nat) (d : decode M.2.2.1 pc = .ok (.iand, 1)) {x y : Int} (k : m_Z Ω M (pc + 1) ls (mI (m_and x y) :: st) h Q) : m_Z Ω M pc ls (mI y :: mI x :: st) h Q := by
  intro E p l e s m args below meth c QQ H locs lsR C Rt Rl L o b
  have e1 : Int32.ofInt x &&& Int32.ofInt y = Int32.ofInt (m_and x y) := m_eq32 rfl
  refine lv_iand C.1 C.2.1 d ?_
  rw [e1]
  exact k E p l e s m args below meth c QQ H locs lsR C Rt Rl L ⟨m_32t _, o.2.2⟩ b
theorem z_ior (pc : Nat) (d : decode M.2.2.1 pc = .ok (.ior, 1)) {x y : Int} (k : m_Z Ω M (pc + 1) ls (mI (m_or x y) :: st) h Q) : m_Z Ω M pc ls (mI y :: mI x :: st) h Q := by
  intro E p l e s m args below meth c QQ H locs lsR C Rt Rl L o b
  have e1 : Int32.ofInt x ||| Int32.ofInt y = Int32.ofInt (m_or x y) := m_eq32 rfl
  refine lv_ior C.1 C.2.1 d ?_
  rw [e1]
  exact k E p l e s m args below meth c QQ H locs lsR C Rt Rl L ⟨m_32t _, o.2.2⟩ b
theorem z_ixor (pc : Nat) (d : decode M.2.2.1 pc = .ok (.ixor, 1)) {x y : Int} (k : m_Z Ω M (pc + 1) ls (mI (m_xor x y) :: st) h Q) : m_Z Ω M pc ls (mI y :: mI x :: st) h Q := by
  intro E p l e s m args below meth c QQ H locs lsR C Rt Rl L o b
  have e1 : Int32.ofInt x ^^^ Int32.ofInt y = Int32.ofInt (m_xor x y) := m_eq32 rfl
  refine lv_ixor C.1 C.2.1 d ?_
  rw [e1]
  exact k E p l e s m args below meth c QQ H locs lsR C Rt Rl L ⟨m_32t _, o.2.2⟩ b
theorem z_ishl (pc : Nat) (d : decode M.2.2.1 pc = .ok (.ishl, 1)) {x y : Int} (k : m_Z Ω M (pc + 1) ls (mI (m_shl x y) :: st) h Q) : m_Z Ω M pc ls (mI y :: mI x :: st) h Q := by
  intro E p l e s m args below meth c QQ H locs lsR C Rt Rl L o b
  have e1 : Int32.ofInt x <<< (Int32.ofInt y &&& 31) = Int32.ofInt (m_shl x y) := m_eq32 rfl
  refine lv_ishl C.1 C.2.1 d ?_
  rw [e1]
  exact k E p l e s m args below meth c QQ H locs lsR C Rt Rl L ⟨m_32t _, o.2.2⟩ b
theorem z_ishr (pc : Nat) (d : decode M.2.2.1 pc = .ok (.ishr, 1)) {x y : Int} (k : m_Z Ω M (pc + 1) ls (mI (m_shr x y) :: st) h Q) : m_Z Ω M pc ls (mI y :: mI x :: st) h Q := by
  intro E p l e s m args below meth c QQ H locs lsR C Rt Rl L o b
  have e1 : Int32.ofInt x >>> (Int32.ofInt y &&& 31) = Int32.ofInt (m_shr x y) := m_eq32 rfl
  refine lv_ishr C.1 C.2.1 d ?_
  rw [e1]
  exact k E p l e s m args below meth c QQ H locs lsR C Rt Rl L ⟨m_32t _, o.2.2⟩ b
theorem z_iushr (pc : Nat) (d : decode M.2.2.1 pc = .ok (.iushr, 1)) {x y : Int} (k : m_Z Ω M (pc + 1) ls (mI (m_ushr x y) :: st) h Q) : m_Z Ω M pc ls (mI y :: mI x :: st) h Q := by
  intro E p l e s m args below meth c QQ H locs lsR C Rt Rl L o b
  refine lv_iushr C.1 C.2.1 d (m_eq32 (x := m_ushr x y) rfl) ?_
  exact k E p l e s m args below meth c QQ H locs lsR C Rt Rl L ⟨m_32t _, o.2.2⟩ b
theorem z_idiv (pc : Nat) (d : decode M.2.2.1 pc = .ok (.idiv, 1)) {x y : Int} (hy : y ≠ 0) (k : m_Z Ω M (pc + 1) ls (mI (m_w (x.tdiv y)) :: st) h Q) : m_Z Ω M pc ls (mI y :: mI x :: st) h Q := by
  intro E p l e s m args below meth c QQ H locs lsR C Rt Rl L o b
  have e1 : Int32.ofInt x / Int32.ofInt y = Int32.ofInt (m_w (x.tdiv y)) := m_eq32 (by rw [Int32.toInt_div, m_i32 o.2.1, m_i32 o.1]; rfl)
  refine lv_idiv C.1 C.2.1 d (fun q => hy ((m_inj32 o.1 m_320).mp q)) ?_
  rw [e1]
  exact k E p l e s m args below meth c QQ H locs lsR C Rt Rl L ⟨m_w_ok _, o.2.2⟩ b
theorem z_irem (pc : Nat) (d : decode M.2.2.1 pc = .ok (.irem, 1)) {x y : Int} (hy : y ≠ 0) (k : m_Z Ω M (pc + 1) ls (mI (x.tmod y) :: st) h Q) : m_Z Ω M pc ls (mI y :: mI x :: st) h Q := by
  intro E p l e s m args below meth c QQ H locs lsR C Rt Rl L o b
  have hb : m_32 (x.tmod y) := by
    have h1 := o.1; have h2 := o.2.1
    have h3 : (x.tmod y).natAbs ≤ x.natAbs := by rw [Int.natAbs_tmod]; exact Nat.mod_le _ _
    have h4 : 0 ≤ x → 0 ≤ x.tmod y := fun q => Int.tmod_nonneg _ q
    have h5 : (x.tmod y).natAbs < y.natAbs := by rw [Int.natAbs_tmod]; exact Nat.mod_lt _ (by omega)
    unfold m_ok m_32 at h1 h2; unfold m_32; omega
  have e1 : Int32.ofInt x - Int32.ofInt x / Int32.ofInt y * Int32.ofInt y = Int32.ofInt (x.tmod y) := by
    rw [← Int32.toInt_inj, m_i32 hb, Int32.toInt_sub, Int32.toInt_mul, Int32.toInt_div, m_i32 o.2.1, m_i32 o.1]
    rw [Int.bmod_mul_bmod, Int.sub_bmod_bmod, Int.mul_comm, ← Int.tmod_def]
    exact Int.bmod_eq_of_le (by unfold m_32 at hb; omega) (by unfold m_32 at hb; omega)
  refine lv_irem C.1 C.2.1 d (fun q => hy ((m_inj32 o.1 m_320).mp q)) ?_
  rw [e1]
  exact k E p l e s m args below meth c QQ H locs lsR C Rt Rl L ⟨hb, o.2.2⟩ b
theorem z_ldiv (pc : Nat) (d : decode M.2.2.1 pc = .ok (.ldiv, 1)) {x y : Int} (hy : y ≠ 0) (k : m_Z Ω M (pc + 1) ls (mJ (m_x (x.tdiv y)) :: st) h Q) : m_Z Ω M pc ls (mJ y :: mJ x :: st) h Q := by
  intro E p l e s m args below meth c QQ H locs lsR C Rt Rl L o b
  have e1 : Int64.ofInt x / Int64.ofInt y = Int64.ofInt (m_x (x.tdiv y)) := m_eq64 (by rw [Int64.toInt_div, m_i64 o.2.1, m_i64 o.1]; rfl)
  refine lv_ldiv C.1 C.2.1 d (fun q => hy ((m_inj64 o.1 m_640).mp q)) ?_
  rw [e1]
  exact k E p l e s m args below meth c QQ H locs lsR C Rt Rl L ⟨m_x_ok _, o.2.2⟩ b
theorem z_lrem (pc : Nat) (d : decode M.2.2.1 pc = .ok (.lrem, 1)) {x y : Int} (hy : y ≠ 0) (k : m_Z Ω M (pc + 1) ls (mJ (x.tmod y) :: st) h Q) : m_Z Ω M pc ls (mJ y :: mJ x :: st) h Q := by
  intro E p l e s m args below meth c QQ H locs lsR C Rt Rl L o b
  have hb : m_64 (x.tmod y) := by
    have h1 := o.1; have h2 := o.2.1
    have h3 : (x.tmod y).natAbs ≤ x.natAbs := by rw [Int.natAbs_tmod]; exact Nat.mod_le _ _
    have h4 : 0 ≤ x → 0 ≤ x.tmod y := fun q => Int.tmod_nonneg _ q
    have h5 : (x.tmod y).natAbs < y.natAbs := by rw [Int.natAbs_tmod]; exact Nat.mod_lt _ (by omega)
    unfold m_ok m_64 at h1 h2; unfold m_64; omega
  have e1 : Int64.ofInt x - Int64.ofInt x / Int64.ofInt y * Int64.ofInt y = Int64.ofInt (x.tmod y) := by
    rw [← Int64.toInt_inj, m_i64 hb, Int64.toInt_sub, Int64.toInt_mul, Int64.toInt_div, m_i64 o.2.1, m_i64 o.1]
    rw [Int.bmod_mul_bmod, Int.sub_bmod_bmod, Int.mul_comm, ← Int.tmod_def]
    exact Int.bmod_eq_of_le (by unfold m_64 at hb; omega) (by unfold m_64 at hb; omega)
  refine lv_lrem C.1 C.2.1 d (fun q => hy ((m_inj64 o.1 m_640).mp q)) ?_
  rw [e1]
  exact k E p l e s m args below meth c QQ H locs lsR C Rt Rl L ⟨hb, o.2.2⟩ b
theorem z_ineg (pc : Nat) (d : decode M.2.2.1 pc = .ok (.ineg, 1)) {x : Int} (k : m_Z Ω M (pc + 1) ls (mI (m_w (-x)) :: st) h Q) : m_Z Ω M pc ls (mI x :: st) h Q := by
  intro E p l e s m args below meth c QQ H locs lsR C Rt Rl L o b
  have e1 : -Int32.ofInt x = Int32.ofInt (m_w (-x)) := m_eq32 (by rw [Int32.toInt_neg, m_i32 o.1]; rfl)
  refine lv_ineg C.1 C.2.1 d ?_
  rw [e1]
  exact k E p l e s m args below meth c QQ H locs lsR C Rt Rl L ⟨m_w_ok _, o.2⟩ b
theorem z_i2l (pc : Nat) (d : decode M.2.2.1 pc = .ok (.i2l, 1)) {x : Int} (k : m_Z Ω M (pc + 1) ls (mJ x :: st) h Q) : m_Z Ω M pc ls (mI x :: st) h Q := by
  intro E p l e s m args below meth c QQ H locs lsR C Rt Rl L o b
  have o1 : m_32 x := o.1
  refine lv_i2l (v := Int64.ofInt x) C.1 C.2.1 d (m_eq64 (by rw [Int32.toInt_toInt64, m_i32 o.1])) ?_
  exact k E p l e s m args below meth c QQ H locs lsR C Rt Rl L ⟨by unfold m_32 at o1; show m_64 x; unfold m_64; omega, o.2⟩ b
theorem z_l2i (pc : Nat) (d : decode M.2.2.1 pc = .ok (.l2i, 1)) {x : Int} (k : m_Z Ω M (pc + 1) ls (mI (m_w x) :: st) h Q) : m_Z Ω M pc ls (mJ x :: st) h Q := by
  intro E p l e s m args below meth c QQ H locs lsR C Rt Rl L o b
  refine lv_l2i (v := Int32.ofInt (m_w x)) C.1 C.2.1 d (m_eq32 (by rw [Int64.toInt_toInt32, m_i64 o.1]; rfl)) ?_
  exact k E p l e s m args below meth c QQ H locs lsR C Rt Rl L ⟨m_w_ok _, o.2⟩ b
def m_cmp (x y : Int) : Int := if y < x then 1 else if x = y then 0 else -1
theorem z_lcmp (pc : Nat) (d : decode M.2.2.1 pc = .ok (.lcmp, 1)) {x y : Int} (k : m_Z Ω M (pc + 1) ls (mI (m_cmp x y) :: st) h Q) : m_Z Ω M pc ls (mJ y :: mJ x :: st) h Q := by
  intro E p l e s m args below meth c QQ H locs lsR C Rt Rl L o b
  have e1 : lg_cmp (Int64.ofInt x) (Int64.ofInt y) = Int32.ofInt (m_cmp x y) := by
    have h1 : (Int64.ofInt y < Int64.ofInt x) ↔ y < x := m_lt64 o.1 o.2.1
    have h2 := m_inj64 (x := x) (y := y) o.2.1 o.1
    unfold lg_cmp m_cmp
    by_cases q1 : y < x
    · simp [q1, h1]
    · by_cases q2 : x = y
      · subst q2; simp
      · simp [q1, q2, h1, h2]
  refine W.lcmp C.1 C.2.1 d ?_
  rw [e1]
  exact k E p l e s m args below meth c QQ H locs lsR C Rt Rl L ⟨by show m_32 (m_cmp x y); unfold m_cmp m_32; split; omega; split <;> omega, o.2.2⟩ b
theorem z_dup (pc : Nat) (d : decode M.2.2.1 pc = .ok (.dup, 1)) {a : m_V} (ha : m_isL a = false) (k : m_Z Ω M (pc + 1) ls (a :: a :: st) h Q) : m_Z Ω M pc ls (a :: st) h Q := by
  intro E p l e s m args below meth c QQ H locs lsR C Rt Rl L o b
  refine lv_dup C.1 C.2.1 d (by rw [m_cat, ha]; rfl) ?_
  exact k E p l e s m args below meth c QQ H locs lsR C Rt Rl L ⟨o.1, o⟩ b
theorem z_pop (pc : Nat) (d : decode M.2.2.1 pc = .ok (.pop, 1)) {a : m_V} (ha : m_isL a = false) (k : m_Z Ω M (pc + 1) ls st h Q) : m_Z Ω M pc ls (a :: st) h Q := by
  intro E p l e s m args below meth c QQ H locs lsR C Rt Rl L o b
  refine lv_pop C.1 C.2.1 d (by rw [m_cat, ha]; rfl) ?_
  exact k E p l e s m args below meth c QQ H locs lsR C Rt Rl L o.2 b
theorem z_pop2 (pc : Nat) (d : decode M.2.2.1 pc = .ok (.pop2, 1)) {a : m_V} (ha : m_isL a = true) (k : m_Z Ω M (pc + 1) ls st h Q) : m_Z Ω M pc ls (a :: st) h Q := by
  intro E p l e s m args below meth c QQ H locs lsR C Rt Rl L o b
  refine lv_pop2_2 C.1 C.2.1 d (by rw [m_cat, ha]; rfl) ?_
  exact k E p l e s m args below meth c QQ H locs lsR C Rt Rl L o.2 b
theorem z_dup2 (pc : Nat) (d : decode M.2.2.1 pc = .ok (.dup2, 1)) {a a' : m_V} (ha : m_isL a = false) (ha' : m_isL a' = false) (k : m_Z Ω M (pc + 1) ls (a :: a' :: a :: a' :: st) h Q) : m_Z Ω M pc ls (a :: a' :: st) h Q := by
  intro E p l e s m args below meth c QQ H locs lsR C Rt Rl L o b
  refine lv_dup2_11 C.1 C.2.1 d (by rw [m_cat, ha]; rfl) (by rw [m_cat, ha']; rfl) ?_
  exact k E p l e s m args below meth c QQ H locs lsR C Rt Rl L ⟨o.1, o.2.1, o⟩ b
theorem z_if_eq (pc : Nat) {off : Int} {x : Int} (d : decode M.2.2.1 pc = .ok (.ifCond .eq off, 3)) (tgt : Nat) (ht : (pc : Int) + off = (tgt : Int)) (kt : x = 0 → m_Z Ω M tgt ls st h Q) (kf : ¬ x = 0 → m_Z Ω M (pc + 3) ls st h Q) : m_Z Ω M pc ls (mI x :: st) h Q := by
  intro E p l e s m args below meth c QQ H locs lsR C Rt Rl L o b
  have hb := m_inj32 (x := x) (y := 0) o.1 m_320
  refine lv_if_eq C.1 C.2.1 d ht (fun q => kt ((hb).mp q) E p l e s m args below meth c QQ H locs lsR C Rt Rl L o.2 b) (fun q => kf (fun z => q ((hb).mpr z)) E p l e s m args below meth c QQ H locs lsR C Rt Rl L o.2 b)
theorem z_icmp_eq (pc : Nat) {off : Int} {x y : Int} (d : decode M.2.2.1 pc = .ok (.if_icmp .eq off, 3)) (tgt : Nat) (ht : (pc : Int) + off = (tgt : Int)) (kt : x = y → m_Z Ω M tgt ls st h Q) (kf : ¬ x = y → m_Z Ω M (pc + 3) ls st h Q) : m_Z Ω M pc ls (mI y :: mI x :: st) h Q := by
  intro E p l e s m args below meth c QQ H locs lsR C Rt Rl L o b
  have hb := m_inj32 (x := x) (y := y) o.2.1 o.1
  refine lv_icmp_eq C.1 C.2.1 d ht (fun q => kt ((hb).mp q) E p l e s m args below meth c QQ H locs lsR C Rt Rl L o.2.2 b) (fun q => kf (fun z => q ((hb).mpr z)) E p l e s m args below meth c QQ H locs lsR C Rt Rl L o.2.2 b)
theorem z_if_ne (pc : Nat) {off : Int} {x : Int} (d : decode M.2.2.1 pc = .ok (.ifCond .ne off, 3)) (tgt : Nat) (ht : (pc : Int) + off = (tgt : Int)) (kt : ¬ x = 0 → m_Z Ω M tgt ls st h Q) (kf : x = 0 → m_Z Ω M (pc + 3) ls st h Q) : m_Z Ω M pc ls (mI x :: st) h Q := by
  intro E p l e s m args below meth c QQ H locs lsR C Rt Rl L o b
  have hb := m_inj32 (x := x) (y := 0) o.1 m_320
  refine lv_if_ne C.1 C.2.1 d ht (fun q => kt (fun z => q ((hb).mpr z)) E p l e s m args below meth c QQ H locs lsR C Rt Rl L o.2 b) (fun q => kf ((hb).mp q) E p l e s m args below meth c QQ H locs lsR C Rt Rl L o.2 b)
theorem z_icmp_ne (pc : Nat) {off : Int} {x y : Int} (d : decode M.2.2.1 pc = .ok (.if_icmp .ne off, 3)) (tgt : Nat) (ht : (pc : Int) + off = (tgt : Int)) (kt : ¬ x = y → m_Z Ω M tgt ls st h Q) (kf : x = y → m_Z Ω M (pc + 3) ls st h Q) : m_Z Ω M pc ls (mI y :: mI x :: st) h Q := by
  intro E p l e s m args below meth c QQ H locs lsR C Rt Rl L o b
  have hb := m_inj32 (x := x) (y := y) o.2.1 o.1
  refine lv_icmp_ne C.1 C.2.1 d ht (fun q => kt (fun z => q ((hb).mpr z)) E p l e s m args below meth c QQ H locs lsR C Rt Rl L o.2.2 b) (fun q => kf ((hb).mp q) E p l e s m args below meth c QQ H locs lsR C Rt Rl L o.2.2 b)
theorem z_if_lt (pc : Nat) {off : Int} {x : Int} (d : decode M.2.2.1 pc = .ok (.ifCond .lt off, 3)) (tgt : Nat) (ht : (pc : Int) + off = (tgt : Int)) (kt : x < 0 → m_Z Ω M tgt ls st h Q) (kf : ¬ x < 0 → m_Z Ω M (pc + 3) ls st h Q) : m_Z Ω M pc ls (mI x :: st) h Q := by
  intro E p l e s m args below meth c QQ H locs lsR C Rt Rl L o b
  have hb := m_lt32 (x := x) (y := 0) o.1 m_320
  refine lv_if_lt C.1 C.2.1 d ht (fun q => kt ((hb).mp q) E p l e s m args below meth c QQ H locs lsR C Rt Rl L o.2 b) (fun q => kf (fun z => q ((hb).mpr z)) E p l e s m args below meth c QQ H locs lsR C Rt Rl L o.2 b)
theorem z_icmp_lt (pc : Nat) {off : Int} {x y : Int} (d : decode M.2.2.1 pc = .ok (.if_icmp .lt off, 3)) (tgt : Nat) (ht : (pc : Int) + off = (tgt : Int)) (kt : x < y → m_Z Ω M tgt ls st h Q) (kf : ¬ x < y → m_Z Ω M (pc + 3) ls st h Q) : m_Z Ω M pc ls (mI y :: mI x :: st) h Q := by
  intro E p l e s m args below meth c QQ H locs lsR C Rt Rl L o b
  have hb := m_lt32 (x := x) (y := y) o.2.1 o.1
  refine lv_icmp_lt C.1 C.2.1 d ht (fun q => kt ((hb).mp q) E p l e s m args below meth c QQ H locs lsR C Rt Rl L o.2.2 b) (fun q => kf (fun z => q ((hb).mpr z)) E p l e s m args below meth c QQ H locs lsR C Rt Rl L o.2.2 b)
theorem z_if_ge (pc : Nat) {off : Int} {x : Int} (d : decode M.2.2.1 pc = .ok (.ifCond .ge off, 3)) (tgt : Nat) (ht : (pc : Int) + off = (tgt : Int)) (kt : 0 ≤ x → m_Z Ω M tgt ls st h Q) (kf : ¬ 0 ≤ x → m_Z Ω M (pc + 3) ls st h Q) : m_Z Ω M pc ls (mI x :: st) h Q := by
  intro E p l e s m args below meth c QQ H locs lsR C Rt Rl L o b
  have hb := m_le32 (x := 0) (y := x) m_320 o.1
  refine lv_if_ge C.1 C.2.1 d ht (fun q => kt ((hb).mp q) E p l e s m args below meth c QQ H locs lsR C Rt Rl L o.2 b) (fun q => kf (fun z => q ((hb).mpr z)) E p l e s m args below meth c QQ H locs lsR C Rt Rl L o.2 b)
theorem z_icmp_ge (pc : Nat) {off : Int} {x y : Int} (d : decode M.2.2.1 pc = .ok (.if_icmp .ge off, 3)) (tgt : Nat) (ht : (pc : Int) + off = (tgt : Int)) (kt : y ≤ x → m_Z Ω M tgt ls st h Q) (kf : ¬ y ≤ x → m_Z Ω M (pc + 3) ls st h Q) : m_Z Ω M pc ls (mI y :: mI x :: st) h Q := by
  intro E p l e s m args below meth c QQ H locs lsR C Rt Rl L o b
  have hb := m_le32 (x := y) (y := x) o.1 o.2.1
  refine lv_icmp_ge C.1 C.2.1 d ht (fun q => kt ((hb).mp q) E p l e s m args below meth c QQ H locs lsR C Rt Rl L o.2.2 b) (fun q => kf (fun z => q ((hb).mpr z)) E p l e s m args below meth c QQ H locs lsR C Rt Rl L o.2.2 b)
theorem z_if_gt (pc : Nat) {off : Int} {x : Int} (d : decode M.2.2.1 pc = .ok (.ifCond .gt off, 3)) (tgt : Nat) (ht : (pc : Int) + off = (tgt : Int)) (kt : 0 < x → m_Z Ω M tgt ls st h Q) (kf : ¬ 0 < x → m_Z Ω M (pc + 3) ls st h Q) : m_Z Ω M pc ls (mI x :: st) h Q := by
  intro E p l e s m args below meth c QQ H locs lsR C Rt Rl L o b
  have hb := m_lt32 (x := 0) (y := x) m_320 o.1
  refine lv_if_gt C.1 C.2.1 d ht (fun q => kt ((hb).mp q) E p l e s m args below meth c QQ H locs lsR C Rt Rl L o.2 b) (fun q => kf (fun z => q ((hb).mpr z)) E p l e s m args below meth c QQ H locs lsR C Rt Rl L o.2 b)
theorem z_icmp_gt (pc : Nat) {off : Int} {x y : Int} (d : decode M.2.2.1 pc = .ok (.if_icmp .gt off, 3)) (tgt : Nat) (ht : (pc : Int) + off = (tgt : Int)) (kt : y < x → m_Z Ω M tgt ls st h Q) (kf : ¬ y < x → m_Z Ω M (pc + 3) ls st h Q) : m_Z Ω M pc ls (mI y :: mI x :: st) h Q := by
  intro E p l e s m args below meth c QQ H locs lsR C Rt Rl L o b
  have hb := m_lt32 (x := y) (y := x) o.1 o.2.1
  refine lv_icmp_gt C.1 C.2.1 d ht (fun q => kt ((hb).mp q) E p l e s m args below meth c QQ H locs lsR C Rt Rl L o.2.2 b) (fun q => kf (fun z => q ((hb).mpr z)) E p l e s m args below meth c QQ H locs lsR C Rt Rl L o.2.2 b)
theorem z_if_le (pc : Nat) {off : Int} {x : Int} (d : decode M.2.2.1 pc = .ok (.ifCond .le off, 3)) (tgt : Nat) (ht : (pc : Int) + off = (tgt : Int)) (kt : x ≤ 0 → m_Z Ω M tgt ls st h Q) (kf : ¬ x ≤ 0 → m_Z Ω M (pc + 3) ls st h Q) : m_Z Ω M pc ls (mI x :: st) h Q := by
  intro E p l e s m args below meth c QQ H locs lsR C Rt Rl L o b
  have hb := m_le32 (x := x) (y := 0) o.1 m_320
  refine lv_if_le C.1 C.2.1 d ht (fun q => kt ((hb).mp q) E p l e s m args below meth c QQ H locs lsR C Rt Rl L o.2 b) (fun q => kf (fun z => q ((hb).mpr z)) E p l e s m args below meth c QQ H locs lsR C Rt Rl L o.2 b)
theorem z_icmp_le (pc : Nat) {off : Int} {x y : Int} (d : decode M.2.2.1 pc = .ok (.if_icmp .le off, 3)) (tgt : Nat) (ht : (pc : Int) + off = (tgt : Int)) (kt : x ≤ y → m_Z Ω M tgt ls st h Q) (kf : ¬ x ≤ y → m_Z Ω M (pc + 3) ls st h Q) : m_Z Ω M pc ls (mI y :: mI x :: st) h Q := by
  intro E p l e s m args below meth c QQ H locs lsR C Rt Rl L o b
  have hb := m_le32 (x := x) (y := y) o.2.1 o.1
  refine lv_icmp_le C.1 C.2.1 d ht (fun q => kt ((hb).mp q) E p l e s m args below meth c QQ H locs lsR C Rt Rl L o.2.2 b) (fun q => kf (fun z => q ((hb).mpr z)) E p l e s m args below meth c QQ H locs lsR C Rt Rl L o.2.2 b)
theorem z_goto (pc : Nat) {off : Int} (d : decode M.2.2.1 pc = .ok (.goto off, 3)) (tgt : Nat) (ht : (pc : Int) + off = (tgt : Int)) (k : m_Z Ω M tgt ls st h Q) : m_Z Ω M pc ls st h Q := by
  intro E p l e s m args below meth c QQ H locs lsR C Rt Rl L o b
  refine lv_goto C.1 C.2.1 d ht ?_
  exact k E p l e s m args below meth c QQ H locs lsR C Rt Rl L o b
theorem z_tabOut (pc : Nat) {df lo hi : Int} {offs : Array Int} {len : Nat} (d : decode M.2.2.1 pc = .ok (.tableswitch df lo hi offs, len)) {x : Int} (tgt : Nat) (hx : x < lo ∨ hi < x) (ht : (pc : Int) + df = (tgt : Int)) (k : m_Z Ω M tgt ls st h Q) : m_Z Ω M pc ls (mI x :: st) h Q := by
  intro E p l e s m args below meth c QQ H locs lsR C Rt Rl L o b
  refine lv_tableOut C.1 C.2.1 d (by rw [m_i32 o.1]; exact hx) ht ?_
  exact k E p l e s m args below meth c QQ H locs lsR C Rt Rl L o.2 b
theorem z_tabIn (pc : Nat) {df lo hi : Int} {offs : Array Int} {len : Nat} (d : decode M.2.2.1 pc = .ok (.tableswitch df lo hi offs, len)) {x off : Int} (tgt : Nat) (h1 : lo ≤ x) (h2 : x ≤ hi) (ho : offs[(x - lo).toNat]? = some off) (ht : (pc : Int) + off = (tgt : Int)) (k : m_Z Ω M tgt ls st h Q) : m_Z Ω M pc ls (mI x :: st) h Q := by
  intro E p l e s m args below meth c QQ H locs lsR C Rt Rl L o b
  have e1 := m_i32 (x := x) o.1
  refine lv_tableIn C.1 C.2.1 d (by rw [e1]; omega) (by rw [e1]; omega) (by rw [e1]; exact ho) ht ?_
  exact k E p l e s m args below meth c QQ H locs lsR C Rt Rl L o.2 b
theorem z_lookup (pc : Nat) {df : Int} {ps : Array (Int × Int)} {len : Nat} (d : decode M.2.2.1 pc = .ok (.lookupswitch df ps, len)) {x off : Int} (tgt : Nat) (hp : (ps.toList.zip (ps.toList.drop 1)).all (fun (a, next) => a.1 < next.1) = true) (ho : Op.lookupswitch.offset ps.toList df x = off) (ht : (pc : Int) + off = (tgt : Int)) (k : m_Z Ω M tgt ls st h Q) : m_Z Ω M pc ls (mI x :: st) h Q := by
  intro E p l e s m args below meth c QQ H locs lsR C Rt Rl L o b
  refine lv_lookup C.1 C.2.1 d hp (by rw [m_i32 o.1]; exact ho) ht ?_
  exact k E p l e s m args below meth c QQ H locs lsR C Rt Rl L o.2 b
theorem z_ok {pc : Nat} (k : m_oks st → m_hok Ω h → (∀ (i : Nat) (v : m_V), ls[i]? = some (some v) → m_ok v) → m_Z Ω M pc ls st h Q) : m_Z Ω M pc ls st h Q := by
  intro E p l e s m args below meth c QQ H locs lsR C Rt Rl L o b
  exact k o Rl.2.2.2 (fun i v q => (L.2.2 i v q).2) E p l e s m args below meth c QQ H locs lsR C Rt Rl L o b
theorem z_sub {pc : Nat} {ls' : List (Option m_V)} (q : ∀ (i : Nat) (v : m_V), ls'[i]? = some (some v) → ls[i]? = some (some v)) (k : m_Z Ω M pc ls' st h Q) : m_Z Ω M pc ls st h Q := by
  intro E p l e s m args below meth c QQ H locs lsR C Rt Rl L o b
  exact k E p l e s m args below meth c QQ H locs lsR C Rt Rl ⟨L.1, L.2.1, fun i v z => L.2.2 i v (q i v z)⟩ o b
theorem z_post {pc : Nat} {Q' : m_W → Option m_V → m_H → Prop} (q : ∀ w r h', Q' w r h' → Q w r h') (k : m_Z Ω M pc ls st h Q') : m_Z Ω M pc ls st h Q := by
  intro E p l e s m args below meth c QQ H locs lsR C Rt Rl L o b
  exact k E p l e s m args below meth c QQ H locs lsR C (fun Ω r h H locs pc ls i a => Rt Ω r h H locs pc ls i (q _ _ _ a)) Rl L o b
theorem z_iret (pc : Nat) {x : Int} (d : decode M.2.2.1 pc = .ok (.ireturn, 1)) (hr : M.2.2.2.2.1 = some .int) (q : Q Ω (some (mI x)) h) : m_Z Ω M pc ls [mI x] h Q := by
  intro E p l e s m args below meth c QQ H locs lsR C Rt Rl L o b
  exact Rt Ω (some (mI x)) h H locs pc lsR _ q (fun v e => by cases e; exact o.1) Rl d (Or.inr (Or.inl ⟨x, hr, rfl, rfl⟩))
theorem z_zret (pc : Nat) {x : Int} (d : decode M.2.2.1 pc = .ok (.ireturn, 1)) (hr : M.2.2.2.2.1 = some .boolean) (hx : x = 0 ∨ x = 1) (q : Q Ω (some (mI x)) h) : m_Z Ω M pc ls [mI x] h Q := by
  intro E p l e s m args below meth c QQ H locs lsR C Rt Rl L o b
  exact Rt Ω (some (mI x)) h H locs pc lsR _ q (fun v e => by cases e; exact o.1) Rl d (Or.inr (Or.inr (Or.inl ⟨x, hr, rfl, rfl, hx⟩)))
theorem z_lret (pc : Nat) {x : Int} (d : decode M.2.2.1 pc = .ok (.lreturn, 1)) (hr : M.2.2.2.2.1 = some .long) (q : Q Ω (some (mJ x)) h) : m_Z Ω M pc ls [mJ x] h Q := by
  intro E p l e s m args below meth c QQ H locs lsR C Rt Rl L o b
  exact Rt Ω (some (mJ x)) h H locs pc lsR _ q (fun v e => by cases e; exact o.1) Rl d (Or.inr (Or.inr (Or.inr (Or.inl ⟨x, hr, rfl, rfl⟩))))
theorem z_vret (pc : Nat) (d : decode M.2.2.1 pc = .ok (.return_, 1)) (hr : M.2.2.2.2.1 = none) (q : Q Ω none h) : m_Z Ω M pc ls [] h Q := by
  intro E p l e s m args below meth c QQ H locs lsR C Rt Rl L o b
  exact Rt Ω none h H locs pc lsR _ q (fun v e => by cases e) Rl d (Or.inl ⟨hr, rfl, rfl⟩)
theorem z_aret (pc : Nat) {x : Nat} (d : decode M.2.2.1 pc = .ok (.areturn, 1)) (hr : M.2.2.2.2.1 = some (.array (.object "WeekFoot$Bound"))) (q : Q Ω (some (mR x)) h) : m_Z Ω M pc ls [mR x] h Q := by
  intro E p l e s m args below meth c QQ H locs lsR C Rt Rl L o b
  exact Rt Ω (some (mR x)) h H locs pc lsR _ q (fun v e => by cases e; trivial) Rl d (Or.inr (Or.inr (Or.inr (Or.inr (Or.inl ⟨x, hr, rfl, rfl⟩)))))
theorem z_nret (pc : Nat) {x : Int} (d : decode M.2.2.1 pc = .ok (.ireturn, 1)) {ty : FieldType} (hr : M.2.2.2.2.1 = some ty) (hn : narrow ty (.int (Int32.ofInt x)) = .int (Int32.ofInt x)) (q : Q Ω (some (mI x)) h) : m_Z Ω M pc ls [mI x] h Q := by
  intro E p l e s m args below meth c QQ H locs lsR C Rt Rl L o b
  exact Rt Ω (some (mI x)) h H locs pc lsR _ q (fun v e => by cases e; exact o.1) Rl d (Or.inr (Or.inr (Or.inr (Or.inr (Or.inr ⟨x, ty, hr, rfl, rfl, hn⟩)))))
end ZR
/-! ===== fields and arrays of the small machine ===== -/
section ZH
variable {Ω : m_W} {M : m_M} {ls : List (Option m_V)} {st : List m_V} {h : m_H} {Q : m_W → Option m_V → m_H → Prop}
def m_cf (ci : Nat) (C : String) (T : u_T) (N : Nat) : Prop := vwCl[ci]? = some (C, T, N) ∧ (∀ w ∈ u_ws C T N, w ∈ m_G) ∧ (∀ k, k < N → parseFieldDescriptor (T k).2.2.1 = some (m_ty ci k)) ∧ ∀ a, a < N → ∀ b, b < N → a ≠ b → (T a).2.1 ≠ (T b).2.1
/-- field j of class ci (N fields), as class own's entry index names it -/
def m_fl (own : String) (index ci N j : Nat) : Prop := ∃ (C : String) (T : u_T), m_cf ci C T N ∧ j < N ∧ Cond.fieldLink own index (T j).1 (T j).2.1 (T j).2.2.1 ∈ m_G ∧ ∃ fin : Bool, (T j).2.2.2 = fin
/-- the same, of a field that isn't final -/
def m_fp (own : String) (index ci N j : Nat) : Prop := ∃ (C : String) (T : u_T), m_cf ci C T N ∧ j < N ∧ Cond.fieldLink own index (T j).1 (T j).2.1 (T j).2.2.1 ∈ m_G ∧ (T j).2.2.2 = false
theorem m_fs_at {E : m_E} {f : Nat → Int} {ci N j : Nat} (hj : j < N) : ((List.range N).map (fun j => m_sv E (m_tk (m_ty ci j)) (f j)))[j]? = some (m_sv E (m_tk (m_ty ci j)) (f j)) := by
  simp [hj]
theorem m_fs_set {E : m_E} {h : m_H} {k ci N j : Nat} {x : Int} (hj : j < N) : ((List.range N).map (fun i => m_sv E (m_tk (m_ty ci i)) (h k i))).set j (m_sv E (m_tk (m_ty ci j)) x) = (List.range N).map (fun i => m_sv E (m_tk (m_ty ci i)) (m_up h k j x k i)) := by
  apply List.ext_getElem?
  intro i
  by_cases hi : i = j
  · subst hi
    rw [List.getElem?_set_self (by simpa using hj), List.getElem?_map, List.getElem?_range hj]
    simp [m_up_eq]
  · rw [List.getElem?_set_ne (Ne.symm hi), List.getElem?_map, List.getElem?_map]
    by_cases hiN : i < N
    · rw [List.getElem?_range hiN]
      simp only [Option.map_some]
      rw [show m_up h k j x k i = h k i from m_up_ne (fun q => hi q.2)]
    · rw [List.getElem?_eq_none (by simpa using hiN)]
      rfl
theorem m_get {E : m_E} {p : Program} {l : Launch} {e : Env} {s : State} {m : MethodId} {args : Array Value} {below : List Frame} {meth : Method} {c : Code} {R : Room} {QQ : State → Prop} {H : Heap} {locs : List Loc} {lsR : Array Slot} {rest : List Value} {cells slots pc index ci N j k : Nat} (C : m_Cx E M p s m args c) (Rl : m_Rel E Ω h s H locs) (d : decode M.2.2.1 pc = .ok (.getfield index, 3)) (f : m_fl M.1 index ci N j) (hk : Ω[k]? = some (ci + 5, N))
    (kk : W p l e R s m args below meth c H locs cells slots QQ (F0 m (pc + 3) lsR (m_sv E (m_tk (m_ty ci j)) (h k j) :: rest))) : W p l e R s m args below meth c H locs cells slots QQ (F0 m pc lsR (.ref (E.1.1 + k) :: rest)) := by
  obtain ⟨Cn, T, ⟨c1, c2, c3, c4⟩, hj, hl, -⟩ := f
  exact va_get (C := Cn) (T := T) (N := N) (ref := (T j).1) C.1 C.2.1 C.2.2.2.2.1 c2 C.2.2.2.1 C.2.2.2.2.2.1 Rl.2.1 k (m_wl_at hk) c1 j hj (C.2.2.2.2.1 _ hl) (fun x q => q) (m_fs_at hj) d kk
theorem z_getI (pc : Nat) {index ci N j k : Nat} (d : decode M.2.2.1 pc = .ok (.getfield index, 3)) (f : m_fl M.1 index ci N j) (hk : Ω[k]? = some (ci + 5, N)) (ht : m_tk (m_ty ci j) ≠ 1 ∧ m_tk (m_ty ci j) ≠ 3) (kk : m_Z Ω M (pc + 3) ls (mI (h k j) :: st) h Q) : m_Z Ω M pc ls (mR k :: st) h Q := by
  intro E p l e s m args below meth c QQ H locs lsR C Rt Rl L o b
  refine m_get C Rl d f hk ?_
  have hb := Rl.2.2.2 k _ hk j
  simp only [m_sk, m_rg, ht.1, ht.2, if_false] at hb
  simp only [m_sv, ht.1, ht.2, if_false]
  exact kk E p l e s m args below meth c QQ H locs lsR C Rt Rl L ⟨hb, o.2⟩ b
theorem z_getJ (pc : Nat) {index ci N j k : Nat} (d : decode M.2.2.1 pc = .ok (.getfield index, 3)) (f : m_fl M.1 index ci N j) (hk : Ω[k]? = some (ci + 5, N)) (ht : m_tk (m_ty ci j) = 1) (kk : m_Z Ω M (pc + 3) ls (mJ (h k j) :: st) h Q) : m_Z Ω M pc ls (mR k :: st) h Q := by
  intro E p l e s m args below meth c QQ H locs lsR C Rt Rl L o b
  refine m_get C Rl d f hk ?_
  have hb := Rl.2.2.2 k _ hk j
  simp only [m_sk, m_rg, ht, if_true] at hb
  simp only [m_sv, ht, if_true]
  exact kk E p l e s m args below meth c QQ H locs lsR C Rt Rl L ⟨hb, o.2⟩ b
theorem z_getR (pc : Nat) {index ci N j k t : Nat} (d : decode M.2.2.1 pc = .ok (.getfield index, 3)) (f : m_fl M.1 index ci N j) (hk : Ω[k]? = some (ci + 5, N)) (ht : m_tk (m_ty ci j) = 3) (hr : h k j = (t : Int)) (kk : m_Z Ω M (pc + 3) ls (mR t :: st) h Q) : m_Z Ω M pc ls (mR k :: st) h Q := by
  intro E p l e s m args below meth c QQ H locs lsR C Rt Rl L o b
  refine m_get C Rl d f hk ?_
  have e1 : m_sv E (m_tk (m_ty ci j)) (h k j) = .ref (E.1.1 + t) := by
    rw [ht, hr]
    simp [m_sv, m_rv]
  rw [e1]
  exact kk E p l e s m args below meth c QQ H locs lsR C Rt Rl L ⟨trivial, o.2⟩ b
theorem m_rel_set {E : m_E} {s : State} {H H1 : Heap} {locs : List Loc} {k j : Nat} {x : Int} {q : Nat × Nat} {n : Nat} (Rl : m_Rel E Ω h s H locs) (hk : Ω[k]? = some q) (hx : m_rg (m_sk q.1 j) x) (he : va_at E.2.2 vwCl (E.1.1 + k, m_el E q (m_up h k j x k)) H1) (z : H1.size = H.size) (oq : ∀ a : Nat, a ≠ E.1.1 + k → H1[a]? = H[a]?) : m_Rel E Ω (m_up h k j x) s H1 (locs ++ [⟨E.1.1 + k, n⟩]) :=
  ⟨by rw [z]; exact Rl.1, by rw [← m_wl_set hk]; exact Rl.2.1.set (m_wl_D E Ω h) (m_wl_at hk) he oq, Rl.2.2.1.put z oq (Nat.le_add_right _ _), m_hok_up hk Rl.2.2.2 hx⟩
theorem m_put {E : m_E} {p : Program} {l : Launch} {e : Env} {s : State} {m : MethodId} {args : Array Value} {below : List Frame} {meth : Method} {c : Code} {R : Room} {QQ : State → Prop} {H : Heap} {locs : List Loc} {lsR : Array Slot} {rest : List Value} {cells slots pc index ci N j k : Nat} {x : Int} (C : m_Cx E M p s m args c) (Rl : m_Rel E Ω h s H locs) (d : decode M.2.2.1 pc = .ok (.putfield index, 3)) (f : m_fp M.1 index ci N j) (hk : Ω[k]? = some (ci + 5, N))
    (hn : narrow (m_ty ci j) (m_sv E (m_tk (m_ty ci j)) x) = m_sv E (m_tk (m_ty ci j)) x) (hf : fits (m_ty ci j) (m_sv E (m_tk (m_ty ci j)) x) = true) (hx : m_rg (m_tk (m_ty ci j)) x)
    (kk : ∀ (H1 : Heap) (locs1 : List Loc), m_Rel E Ω (m_up h k j x) s H1 locs1 → W p l e R s m args below meth c H1 locs1 cells slots QQ (F0 m (pc + 3) lsR rest)) : W p l e R s m args below meth c H locs cells slots QQ (F0 m pc lsR (m_sv E (m_tk (m_ty ci j)) x :: .ref (E.1.1 + k) :: rest)) := by
  obtain ⟨Cn, T, ⟨c1, c2, c3, c4⟩, hj, hl, hfin⟩ := f
  have hts := C.2.2.2.2.1
  have hap := va_apart (own := M.1) hts c2 (m_ty ci) c3 c4 C.2.2.2.2.2.1 c1
  obtain ⟨r, h1, cell, q1, q2, q3, q4⟩ := Rl.2.1 k _ (m_wl_at hk)
  have hr : r = (Cn, T, N) := Option.some.inj (h1.symm.trans c1)
  subst hr
  obtain ⟨hS, hfc, kC, hkC, hkind⟩ := C.2.2.2.2.2.1.1 ci _ c1
  obtain ⟨cf, kf, fi, fd, hi, hsl⟩ := hS j hj
  have hlay := hts _ (c2 _ (u_in_lay hj))
  unfold u_lay at hlay
  rw [if_neg (by rw [hfin]; decide)] at hlay
  have hst := (u_facts hfc hkC (u_lays hts c2 hj) hi).1
  have h6 := u_store hfc hkC hkind hlay hi (c3 j hj) hn hf
  refine W.putK C.1 C.2.1 (f := fd) ⟨C.2.2.2.1, hts _ hl, ⟨_, _, _, hi⟩, hst⟩ (by rw [q2]; exact h6) q1 q3 (by rw [hsl]; exact k2_hasslot (q4 j hj)) rfl rfl d fun H' e1 e2 e3 => ?_
  refine kk H' _ (m_rel_set Rl hk hx ?_ e2 e3)
  rw [hsl] at e1
  show va_at E.2.2 vwCl (E.1.1 + k, .inr (ci, (List.range N).map (fun i => m_sv E (m_tk (m_ty ci i)) (m_up h k j x k i)))) H'
  rw [← m_fs_set hj]
  exact ⟨_, c1, t_OB.to (V := updV (vp_V _) j _) ⟨_, e1, q2, q3, t_set q4 hap hj _⟩ (fun i _ => vp_updV_set (by simpa using hj) _ i)⟩
theorem z_putI (pc : Nat) {index ci N j k : Nat} {x : Int} (d : decode M.2.2.1 pc = .ok (.putfield index, 3)) (f : m_fp M.1 index ci N j) (hk : Ω[k]? = some (ci + 5, N)) (ht : m_ty ci j = .int) (kk : m_Z Ω M (pc + 3) ls st (m_up h k j x) Q) : m_Z Ω M pc ls (mI x :: mR k :: st) h Q := by
  intro E p l e s m args below meth c QQ H locs lsR C Rt Rl L o b
  have e1 : m_sv E (m_tk (m_ty ci j)) x = .int (Int32.ofInt x) := by rw [ht]; rfl
  have h1 := m_put (x := x) (rest := st.map (m_v E)) (lsR := lsR) (QQ := QQ) (R := m_rm M) (l := l) (e := e) (below := below) (meth := meth) (cells := Ω.length - m_k0 M) (slots := m_sz Ω - m_s0 M) C Rl d f hk (by rw [e1, ht]; rfl) (by rw [e1, ht]; rfl) (by rw [ht]; exact o.1) (fun H1 locs1 R1 => kk E p l e s m args below meth c QQ H1 locs1 lsR C Rt R1 L o.2.2 b)
  rw [e1] at h1
  exact h1
theorem z_putZ (pc : Nat) {index ci N j k : Nat} {x : Int} (d : decode M.2.2.1 pc = .ok (.putfield index, 3)) (f : m_fp M.1 index ci N j) (hk : Ω[k]? = some (ci + 5, N)) (ht : m_ty ci j = .boolean) (hx : x = 0 ∨ x = 1) (kk : m_Z Ω M (pc + 3) ls st (m_up h k j x) Q) : m_Z Ω M pc ls (mI x :: mR k :: st) h Q := by
  intro E p l e s m args below meth c QQ H locs lsR C Rt Rl L o b
  have e1 : m_sv E (m_tk (m_ty ci j)) x = .int (Int32.ofInt x) := by rw [ht]; rfl
  have h1 := m_put (x := x) (rest := st.map (m_v E)) (lsR := lsR) (QQ := QQ) (R := m_rm M) (l := l) (e := e) (below := below) (meth := meth) (cells := Ω.length - m_k0 M) (slots := m_sz Ω - m_s0 M) C Rl d f hk (by rw [e1, ht]; rcases hx with rfl | rfl <;> rfl) (by rw [e1, ht]; rcases hx with rfl | rfl <;> rfl) (by rw [ht]; exact o.1) (fun H1 locs1 R1 => kk E p l e s m args below meth c QQ H1 locs1 lsR C Rt R1 L o.2.2 b)
  rw [e1] at h1
  exact h1
theorem z_putJ (pc : Nat) {index ci N j k : Nat} {x : Int} (d : decode M.2.2.1 pc = .ok (.putfield index, 3)) (f : m_fp M.1 index ci N j) (hk : Ω[k]? = some (ci + 5, N)) (ht : m_ty ci j = .long) (kk : m_Z Ω M (pc + 3) ls st (m_up h k j x) Q) : m_Z Ω M pc ls (mJ x :: mR k :: st) h Q := by
  intro E p l e s m args below meth c QQ H locs lsR C Rt Rl L o b
  have e1 : m_sv E (m_tk (m_ty ci j)) x = .long (Int64.ofInt x) := by rw [ht]; rfl
  have h1 := m_put (x := x) (rest := st.map (m_v E)) (lsR := lsR) (QQ := QQ) (R := m_rm M) (l := l) (e := e) (below := below) (meth := meth) (cells := Ω.length - m_k0 M) (slots := m_sz Ω - m_s0 M) C Rl d f hk (by rw [e1, ht]; rfl) (by rw [e1, ht]; rfl) (by rw [ht]; exact o.1) (fun H1 locs1 R1 => kk E p l e s m args below meth c QQ H1 locs1 lsR C Rt R1 L o.2.2 b)
  rw [e1] at h1
  exact h1
/-! arrays -/
theorem m_ix {i : Int} {n : Nat} (hi : m_32 i) (h0 : 0 ≤ i) (h1 : i < n) : vp_in (Int32.ofInt i) n := by
  rw [vp_in_iff, m_i32 hi]; exact ⟨h0, h1⟩
theorem m_cn {i : Int} (hi : m_32 i) : (Int32.ofInt i).toNatClampNeg = i.toNat := Int32.toNatClampNeg_ofInt_of_le (by unfold m_32 at hi; omega) (by unfold m_32 at hi; omega)
theorem z_iald (pc : Nat) {k n : Nat} {i : Int} (d : decode M.2.2.1 pc = .ok (.iaload, 1)) (hk : Ω[k]? = some (0, n)) (h0 : 0 ≤ i) (h1 : i < n) (kk : m_Z Ω M (pc + 1) ls (mI (h k i.toNat) :: st) h Q) : m_Z Ω M pc ls (mI i :: mR k :: st) h Q := by
  intro E p l e s m args below meth c QQ H locs lsR C Rt Rl L o b
  have hb := Rl.2.2.2 k _ hk i.toNat
  refine va_iald C.1 C.2.1 C.2.2.2.2.2.1 Rl.2.1 k 0 (m_wl_at hk) rfl (m_ix o.1 h0 h1) d ?_
  rw [m_cn o.1]
  exact kk E p l e s m args below meth c QQ H locs lsR C Rt Rl L ⟨hb, o.2.2⟩ b
theorem z_lald (pc : Nat) {k n : Nat} {i : Int} (d : decode M.2.2.1 pc = .ok (.laload, 1)) (hk : Ω[k]? = some (1, n)) (h0 : 0 ≤ i) (h1 : i < n) (kk : m_Z Ω M (pc + 1) ls (mJ (h k i.toNat) :: st) h Q) : m_Z Ω M pc ls (mI i :: mR k :: st) h Q := by
  intro E p l e s m args below meth c QQ H locs lsR C Rt Rl L o b
  have hb := Rl.2.2.2 k _ hk i.toNat
  refine va_lald C.1 C.2.1 C.2.2.2.2.2.1 Rl.2.1 k 1 (m_wl_at hk) rfl (m_ix o.1 h0 h1) d ?_
  rw [m_cn o.1]
  exact kk E p l e s m args below meth c QQ H locs lsR C Rt Rl L ⟨hb, o.2.2⟩ b
theorem z_zald (pc : Nat) {k n : Nat} {i : Int} (d : decode M.2.2.1 pc = .ok (.baload, 1)) (hk : Ω[k]? = some (2, n)) (h0 : 0 ≤ i) (h1 : i < n) (kk : m_Z Ω M (pc + 1) ls (mI (h k i.toNat) :: st) h Q) : m_Z Ω M pc ls (mI i :: mR k :: st) h Q := by
  intro E p l e s m args below meth c QQ H locs lsR C Rt Rl L o b
  have hb := Rl.2.2.2 k _ hk i.toNat
  refine va_zald C.1 C.2.1 C.2.2.2.2.2.1 Rl.2.1 k 2 (m_wl_at hk) rfl (m_ix o.1 h0 h1) d ?_
  rw [m_cn o.1]
  exact kk E p l e s m args below meth c QQ H locs lsR C Rt Rl L ⟨hb, o.2.2⟩ b
theorem z_aaldB (pc : Nat) {k n t : Nat} {i : Int} (d : decode M.2.2.1 pc = .ok (.aaload, 1)) (hk : Ω[k]? = some (3, n)) (h0 : 0 ≤ i) (h1 : i < n) (hr : h k i.toNat = (t : Int)) (kk : m_Z Ω M (pc + 1) ls (mR t :: st) h Q) : m_Z Ω M pc ls (mI i :: mR k :: st) h Q := by
  intro E p l e s m args below meth c QQ H locs lsR C Rt Rl L o b
  refine va_aldq (C := "WeekFoot$Bound") C.1 C.2.1 C.2.2.2.2.2.1 Rl.2.1 k 3 (m_wl_at hk) rfl (m_ix o.1 h0 h1) d ?_
  rw [m_cn o.1, hr, if_neg (by omega), Int.toNat_natCast]
  exact kk E p l e s m args below meth c QQ H locs lsR C Rt Rl L ⟨trivial, o.2.2⟩ b
theorem z_aaldL (pc : Nat) {k n t : Nat} {i : Int} (d : decode M.2.2.1 pc = .ok (.aaload, 1)) (hk : Ω[k]? = some (4, n)) (h0 : 0 ≤ i) (h1 : i < n) (hr : h k i.toNat = (t : Int)) (kk : m_Z Ω M (pc + 1) ls (mR t :: st) h Q) : m_Z Ω M pc ls (mI i :: mR k :: st) h Q := by
  intro E p l e s m args below meth c QQ H locs lsR C Rt Rl L o b
  refine va_aldq (C := "WeekFoot$Ledger") C.1 C.2.1 C.2.2.2.2.2.1 Rl.2.1 k 4 (m_wl_at hk) rfl (m_ix o.1 h0 h1) d ?_
  rw [m_cn o.1, hr, if_neg (by omega), Int.toNat_natCast]
  exact kk E p l e s m args below meth c QQ H locs lsR C Rt Rl L ⟨trivial, o.2.2⟩ b
theorem z_alen (pc : Nat) {k kd n : Nat} (d : decode M.2.2.1 pc = .ok (.arraylength, 1)) (hk : Ω[k]? = some (kd, n)) (hd : kd ≤ 4) (hn : n ≤ 2147483647) (kk : m_Z Ω M (pc + 1) ls (mI n :: st) h Q) : m_Z Ω M pc ls (mR k :: st) h Q := by
  intro E p l e s m args below meth c QQ H locs lsR C Rt Rl L o b
  have key : W p l e (m_rm M) s m args below meth c H locs (Ω.length - m_k0 M) (m_sz Ω - m_s0 M) QQ (F0 m (pc + 1) lsR (.int (Int32.ofInt n) :: st.map (m_v E))) := kk E p l e s m args below meth c QQ H locs lsR C Rt Rl L ⟨by show m_32 _; unfold m_32; omega, o.2⟩ b
  have e0 : ∀ x : vp_A, x.1 = n → Int32.ofNat x.1 = Int32.ofInt (n : Int) := fun x q => by rw [q]; rfl
  have hw := m_wl_at (E := E) (h := h) hk
  rcases (show kd = 0 ∨ kd = 1 ∨ kd = 2 ∨ kd = 3 ∨ kd = 4 by omega) with rfl | rfl | rfl | rfl | rfl
  · exact va_alen C.1 C.2.1 C.2.2.2.2.2.1 Rl.2.1 k 0 hw rfl (e0 _ rfl) d key
  · exact va_alen C.1 C.2.1 C.2.2.2.2.2.1 Rl.2.1 k 1 hw rfl (e0 _ rfl) d key
  · exact va_alen C.1 C.2.1 C.2.2.2.2.2.1 Rl.2.1 k 2 hw rfl (e0 _ rfl) d key
  · exact va_alen C.1 C.2.1 C.2.2.2.2.2.1 Rl.2.1 k 3 hw rfl (e0 _ rfl) d key
  · exact va_alen C.1 C.2.1 C.2.2.2.2.2.1 Rl.2.1 k 4 hw rfl (e0 _ rfl) d key
theorem z_iast (pc : Nat) {k n : Nat} {i x : Int} (d : decode M.2.2.1 pc = .ok (.iastore, 1)) (hk : Ω[k]? = some (0, n)) (h0 : 0 ≤ i) (h1 : i < n) (kk : m_Z Ω M (pc + 1) ls st (m_up h k i.toNat x) Q) : m_Z Ω M pc ls (mI x :: mI i :: mR k :: st) h Q := by
  intro E p l e s m args below meth c QQ H locs lsR C Rt Rl L o b
  have ha : H[E.1.1 + k]? = some (arrV (E.2.1 0) n (fun j => .int (Int32.ofInt (h k j)))) := Rl.2.1 k _ (m_wl_at hk)
  refine W.iast C.1 C.2.1 ha ((C.2.2.2.2.2.1.2 0 _ rfl).1 n (fun j => .int (Int32.ofInt (h k j)))) (fun q => by cases q) (by show ¬ (_ ∨ (arrV _ _ _).slots.size ≤ _); rw [arrV_size]; exact m_ix o.2.1 h0 h1) rfl rfl d fun H1 e1 z oq => ?_
  refine kk E p l e s m args below meth c QQ H1 _ lsR C Rt (m_rel_set Rl hk o.1 ?_ z oq) L o.2.2.2 b
  show H1[E.1.1 + k]? = some (arrV (E.2.1 0) n (fun j => .int (Int32.ofInt (m_up h k i.toNat x k j))))
  rw [e1, arrV_store, m_cn o.2.1]
  congr 2
  funext q
  by_cases hq : q = i.toNat
  · subst hq; simp [updV, m_up]
  · simp [updV, m_up, hq]
theorem z_last (pc : Nat) {k n : Nat} {i x : Int} (d : decode M.2.2.1 pc = .ok (.lastore, 1)) (hk : Ω[k]? = some (1, n)) (h0 : 0 ≤ i) (h1 : i < n) (kk : m_Z Ω M (pc + 1) ls st (m_up h k i.toNat x) Q) : m_Z Ω M pc ls (mJ x :: mI i :: mR k :: st) h Q := by
  intro E p l e s m args below meth c QQ H locs lsR C Rt Rl L o b
  have ha : H[E.1.1 + k]? = some (arrV (E.2.1 1) n (fun j => .long (Int64.ofInt (h k j)))) := Rl.2.1 k _ (m_wl_at hk)
  refine W.last C.1 C.2.1 ha ((C.2.2.2.2.2.1.2 1 _ rfl).1 n (fun j => .long (Int64.ofInt (h k j)))) (fun q => by cases q) (by show ¬ (_ ∨ (arrV _ _ _).slots.size ≤ _); rw [arrV_size]; exact m_ix o.2.1 h0 h1) rfl rfl d fun H1 e1 z oq => ?_
  refine kk E p l e s m args below meth c QQ H1 _ lsR C Rt (m_rel_set Rl hk o.1 ?_ z oq) L o.2.2.2 b
  show H1[E.1.1 + k]? = some (arrV (E.2.1 1) n (fun j => .long (Int64.ofInt (m_up h k i.toNat x k j))))
  rw [e1, arrV_store, m_cn o.2.1]
  congr 2
  funext q
  by_cases hq : q = i.toNat
  · subst hq; simp [updV, m_up]
  · simp [updV, m_up, hq]
theorem z_zast (pc : Nat) {k n : Nat} {i x : Int} (d : decode M.2.2.1 pc = .ok (.bastore, 1)) (hk : Ω[k]? = some (2, n)) (h0 : 0 ≤ i) (h1 : i < n) (hx : x = 0 ∨ x = 1) (kk : m_Z Ω M (pc + 1) ls st (m_up h k i.toNat x) Q) : m_Z Ω M pc ls (mI x :: mI i :: mR k :: st) h Q := by
  intro E p l e s m args below meth c QQ H locs lsR C Rt Rl L o b
  have ha : H[E.1.1 + k]? = some (arrV (E.2.1 2) n (fun j => .int (Int32.ofInt (h k j)))) := Rl.2.1 k _ (m_wl_at hk)
  refine W.zast C.1 C.2.1 ha ((C.2.2.2.2.2.1.2 2 _ rfl).1 n (fun j => .int (Int32.ofInt (h k j)))) (fun q => by cases q) (by show ¬ (_ ∨ (arrV _ _ _).slots.size ≤ _); rw [arrV_size]; exact m_ix o.2.1 h0 h1) rfl rfl d fun H1 e1 z oq => ?_
  refine kk E p l e s m args below meth c QQ H1 _ lsR C Rt (m_rel_set Rl hk o.1 ?_ z oq) L o.2.2.2 b
  show H1[E.1.1 + k]? = some (arrV (E.2.1 2) n (fun j => .int (Int32.ofInt (m_up h k i.toNat x k j))))
  have e2 : narrow .boolean (.int (Int32.ofInt x)) = .int (Int32.ofInt x) := by rcases hx with rfl | rfl <;> rfl
  rw [e1, e2, arrV_store, m_cn o.2.1]
  congr 2
  funext q
  by_cases hq : q = i.toNat
  · subst hq; simp [updV, m_up]
  · simp [updV, m_up, hq]
end ZH
/-! ===== contracts and calls of the small machine ===== -/
theorem m_N_is {w : Cond} (h : w ∈ m_N) : ∃ (a : String) (i : Nat) (x : MethodName) (g : String), w = .methodLinkNest a i x g := by
  have h1 := (List.mem_filter.mp h).2
  cases w <;> simp [m_isN] at h1
  exact ⟨_, _, _, _, rfl⟩
theorem m_Nw_same {u U : State} (hv : u.vm = U.vm) (h : ∀ w ∈ m_N, va_Nw w u) : ∀ w ∈ m_N, va_Nw w U := by
  intro w hw
  obtain ⟨a, i, x, g, rfl⟩ := m_N_is hw
  exact va_Nw.same rfl hv (h _ hw)
theorem m_Nw_warm {s U : State} (hW : s.WarmedH U.vm) (h : ∀ w ∈ m_N, va_Nw w s) : ∀ w ∈ m_N, va_Nw w U := by
  intro w hw
  obtain ⟨a, i, x, g, rfl⟩ := m_N_is hw
  exact va_Nw.warmM hW (h _ hw)
theorem m_Str_warm {E : m_E} {s U : State} {H : Heap} {locs : List Loc} (hW : s.WarmedH U.vm) (hS : va_S (fun q => E.1.1 ≤ q) s.heap H locs) (h : m_Str E s s.heap) : m_Str E U H :=
  ⟨(h.1.moved hW.alike).kept hS.2.1, fun i q e => (h.2.1 i q e).warm hW, (h.2.2.1.moved hW.alike).kept hS.2.1, (h.2.2.2.moved hW.alike).kept hS.2.1⟩
def m_Pre (E : m_E) (Ω : m_W) (h : m_H) (U : State) : Prop :=
  U.heap.size = E.1.1 + Ω.length ∧ va_P E.2.2 vwCl (m_wl E Ω h) U.heap ∧ va_K E.2.2 vwCl (m_tys E) U ∧ (∀ w ∈ m_N, va_Nw w U) ∧ m_Str E U U.heap
def m_Post (E : m_E) (Ω' : m_W) (Q : Option m_V → m_H → Prop) : Array Value → State → Outcome → State → Prop := fun _ st oc t =>
  (∃ (r : Option m_V) (h' : m_H), oc = .returned (r.map (m_v E)) ∧ Q r h' ∧ m_hok Ω' h' ∧ m_okr r ∧ t.heap.size = E.1.1 + Ω'.length ∧ va_P E.2.2 vwCl (m_wl E Ω' h') t.heap) ∧ va_F (fun q => E.1.1 ≤ q) st t
/-- a method's contract: from these arguments and this heap it returns, with Q -/
def m_C (M : m_M) (Ω Ω' : m_W) (as : List m_V) (h : m_H) (Q : Option m_V → m_H → Prop) : Prop :=
  ∀ (l : Launch) (E : m_E), m_hok Ω h → m_oks as → Met l M.2.1 (m_ws M) (m_rm M) (va_Pc (as.map (m_v E)) (m_Pre E Ω h)) (m_Post E Ω' Q) (m_rm M).cells (m_rm M).slots (fun q => E.1.1 ≤ q)
theorem m_C.weaken {M : m_M} {Ω Ω' : m_W} {as : List m_V} {h : m_H} {Q Q' : Option m_V → m_H → Prop} (c : m_C M Ω Ω' as h Q) (q : ∀ r h', Q r h' → Q' r h') : m_C M Ω Ω' as h Q' := by
  intro l E h1 h2
  have hm := c l E h1 h2
  intro p e ha hc hk s m args below hf hs hP hK
  obtain ⟨k, o, a1, a2, a3, ⟨⟨⟨r, h', b1, b2, b3⟩, b4⟩, a5⟩⟩ := hm p e ha hc hk s m args below hf hs hP hK
  exact ⟨k, o, a1, a2, a3, ⟨⟨⟨r, h', b1, q r h' b2, b3⟩, b4⟩, a5⟩⟩
def m_arg : List m_V → List (Option m_V)
  | [] => []
  | v :: t => if m_isL v then some v :: none :: m_arg t else some v :: m_arg t
def m_loc (as : List m_V) (n : Nat) : List (Option m_V) := m_arg as ++ List.replicate (n - (m_arg as).length) none
theorem m_oks_in : ∀ {as : List m_V} {v : m_V}, m_oks as → v ∈ as → m_ok v
  | a :: t, v, h, hv => by
    rcases List.mem_cons.mp hv with rfl | q
    · exact h.1
    · exact m_oks_in h.2 q
theorem m_arg_in (E : m_E) : ∀ (as : List m_V) (off i : Nat) (v : m_V), (m_arg as)[i]? = some (some v) → (off + i, m_v E v) ∈ lv_args off (as.map (m_v E)) ∧ v ∈ as
  | [], off, i, v, h => by simp [m_arg] at h
  | a :: t, off, i, v, h => by
    simp only [List.map_cons, lv_args]
    have hc := m_cat E a
    by_cases ha : m_isL a = true
    · rw [m_arg, if_pos ha] at h
      rw [hc, if_pos ha, if_pos rfl]
      match i, h with
      | 0, h => cases h; exact ⟨List.mem_cons_self, List.mem_cons_self⟩
      | 1, h => cases h
      | i + 2, h =>
        have h1 := m_arg_in E t (off + 2) i v h
        exact ⟨List.mem_cons_of_mem _ (by rw [show off + (i + 2) = off + 2 + i by omega]; exact h1.1), List.mem_cons_of_mem _ h1.2⟩
    · rw [m_arg, if_neg ha] at h
      rw [hc, if_neg ha, if_neg (by decide)]
      match i, h with
      | 0, h => cases h; exact ⟨List.mem_cons_self, List.mem_cons_self⟩
      | i + 1, h =>
        have h1 := m_arg_in E t (off + 1) i v h
        exact ⟨List.mem_cons_of_mem _ (by rw [show off + (i + 1) = off + 1 + i by omega]; exact h1.1), List.mem_cons_of_mem _ h1.2⟩
theorem m_arg_len (E : m_E) : ∀ (as : List m_V), (lg_sl (as.map (m_v E))).length = (m_arg as).length
  | [] => rfl
  | a :: t => by
    have hc := m_cat E a
    have ih := m_arg_len E t
    simp only [lg_sl, List.map_cons, List.flatMap_cons, List.length_append] at ih ⊢
    rw [hc, m_arg]
    by_cases ha : m_isL a = true
    · simp [ha, ih]; omega
    · simp [ha, ih]; omega
theorem m_loc_in {as : List m_V} {n i : Nat} {v : m_V} (h : (m_loc as n)[i]? = some (some v)) : (m_arg as)[i]? = some (some v) := by
  unfold m_loc at h
  by_cases hi : i < (m_arg as).length
  · rw [List.getElem?_append_left hi] at h; exact h
  · rw [List.getElem?_append_right (by omega)] at h
    have h1 := List.mem_of_getElem? h
    rw [List.mem_replicate] at h1
    cases h1.2
/-- a method's contract out of its body -/
theorem m_C_of {M : m_M} {Ω Ω' : m_W} {as : List m_V} {h : m_H} {Q : Option m_V → m_H → Prop} (hy : plainName M.2.1.cls = true) (hown : M.1 = M.2.1.cls) (hl : (m_arg as).length ≤ M.2.2.2.1) (hb : m_b Ω M) (hk0 : m_k0 M = Ω.length ∧ m_s0 M = m_sz Ω) (hrm : Ω'.length - Ω.length = (m_rm M).cells ∧ m_sz Ω' - m_sz Ω = (m_rm M).slots)
    (z : m_Z Ω M 0 (m_loc as M.2.2.2.1) [] h (fun w r h' => w = Ω' ∧ Q r h')) : m_C M Ω Ω' as h Q := by
  intro l E hok has
  refine Met.ofW (cc := M.2.2.1) (maxL := M.2.2.2.1) (ret := M.2.2.2.2.1) hy rfl ?_
  intro p e s m args below meth c s₁ B hml hv
  obtain ⟨rfl, hsz, hP, hK, hN, hStr⟩ := hv
  have hts := atoms_spec (ws := m_ws M) B.pre
  have hown' : s.vm.findClass M.1 = some m.cls := by rw [hown]; exact findClass_of_methodNamed B.named
  have hlk := B.notSynchronized
  have hle : (lg_sl (as.map (m_v E))).length ≤ M.2.2.2.1 := by rw [m_arg_len]; exact hl
  have hl0 := lv_entry (as.map (m_v E)) (n := M.2.2.2.1) hle
  rw [lg_entry_eq]
  generalize (lg_sl (as.map (m_v E)) ++ List.replicate (M.2.2.2.1 - (lg_sl (as.map (m_v E))).length) Slot.unset).toArray = lsR at hl0 ⊢
  have key := z E p l e s m (as.map (m_v E)).toArray below meth c (MQ below (m_Post E Ω' Q) (as.map (m_v E)).toArray s (m_rm M).cells (m_rm M).slots (fun q => E.1.1 ≤ q)) s.heap [] lsR
    ⟨B.exec, B.bytes, hml, hown', fun w hw => hts w (List.mem_cons_of_mem _ hw), hK, hN, hStr, by rw [hsz]; exact Nat.le_add_right _ _⟩ ?_ ⟨hsz, hP, va_S.rf, hok⟩ ⟨hl0.1, hl0.2.1, fun i v q => ?_⟩ trivial hb
  · rw [hk0.1, hk0.2, Nat.sub_self, Nat.sub_self] at key
    exact key
  · intro Ω2 r h2 H2 locs2 pc ls i hq hr Rl d hi
    obtain ⟨rfl, hq⟩ := hq
    have e1 : Ω2.length - m_k0 M = (m_rm M).cells := by rw [hk0.1]; exact hrm.1
    have e2 : m_sz Ω2 - m_s0 M = (m_rm M).slots := by rw [hk0.2]; exact hrm.2
    rw [e1, e2]
    have hfin : ∀ t : State, t.heap = H2 → s.WarmedH t.vm → m_Post E Ω2 Q (as.map (m_v E)).toArray s (.returned (r.map (m_v E))) t := fun t ht _ =>
      ⟨⟨r, h2, rfl, hq, Rl.2.2.2, hr, by rw [ht]; exact Rl.1, by rw [ht]; exact Rl.2.1⟩, Rl.2.2.1.F ht⟩
    have hret := B.returns
    rcases hi with ⟨g1, g2, g3⟩ | ⟨x, g1, g2, g3⟩ | ⟨x, g1, g2, g3, g4⟩ | ⟨x, g1, g2, g3⟩ | ⟨k, g1, g2, g3⟩ | ⟨x, ty, g1, g2, g3, g4⟩
    · subst g2; subst g3
      exact W.vret B.exec B.bytes (hret.trans g1) hfin Rl.2.2.1.2.2 d
    · subst g2; subst g3
      exact W.iret B.exec B.bytes (hret.trans g1) hfin Rl.2.2.1.2.2 d
    · subst g2; subst g3
      exact W.zret B.exec B.bytes (hret.trans g1) (by rcases g4 with rfl | rfl <;> rfl) hfin Rl.2.2.1.2.2 d
    · subst g2; subst g3
      exact W.lret B.exec B.bytes (hret.trans g1) hfin Rl.2.2.1.2.2 d
    · subst g2; subst g3
      exact W.aret B.exec B.bytes (hret.trans g1) (Or.inr ⟨_, rfl⟩) (Or.inr ⟨_, rfl⟩) hfin Rl.2.2.1.2.2 d
    · subst g2; subst g3
      exact W.zret B.exec B.bytes (hret.trans g1) g4 hfin Rl.2.2.1.2.2 d
  · have h1 := m_arg_in E as 0 i v (m_loc_in q)
    rw [Nat.zero_add] at h1
    exact ⟨hl0.2.2 _ h1.1, m_oks_in has h1.2⟩
theorem m_blind {E : m_E} {Ω : m_W} {h : m_H} {av : List Value} : FrameBlind (va_Pc av (m_Pre E Ω h)) := by
  intro a U g mk q
  obtain ⟨q0, q1, q2, q3, q4, q5, q6, q7, q8⟩ := q
  exact ⟨q0, q1, q2, va_K.moved (u := U) (U := U.calling g mk a) (Vm.Alike.refl U.vm) q3, m_Nw_same (u := U) (U := U.calling g mk a) rfl q4, vk_S.moved (u := U) (U := U.calling g mk a) (Vm.Alike.refl U.vm) q5, fun i x e => vk_R.same (u := U) (U := U.calling g mk a) rfl (q6 i x e), va_Z.moved (u := U) (U := U.calling g mk a) (Vm.Alike.refl U.vm) q7, va_Z.moved (u := U) (U := U.calling g mk a) (Vm.Alike.refl U.vm) q8⟩
theorem m_pre_at {E : m_E} {M : m_M} {Ω : m_W} {h : m_H} {p : Program} {s : State} {m : MethodId} {args : Array Value} {c : Code} {H : Heap} {locs : List Loc} (C : m_Cx E M p s m args c) (Rl : m_Rel E Ω h s H locs) (U : State) (hU : U.heap = H) (hW : s.WarmedH U.vm) : m_Pre E Ω h U :=
  ⟨by rw [hU]; exact Rl.1, by rw [hU]; exact Rl.2.1, va_K.moved hW.alike C.2.2.2.2.2.1, m_Nw_warm hW C.2.2.2.2.2.2.1, by rw [hU]; exact m_Str_warm hW Rl.2.2.1 C.2.2.2.2.2.2.2.1⟩
section ZC
variable {Ω Ω' : m_W} {M M' : m_M} {ls : List (Option m_V)} {st rest : List m_V} {h : m_H} {Q : m_W → Option m_V → m_H → Prop} {Q' : Option m_V → m_H → Prop}
theorem m_after {E : m_E} {p : Program} {l : Launch} {e : Env} {s : State} {m : MethodId} {args : Array Value} {below : List Frame} {meth : Method} {c : Code} {R : Room} {QQ : State → Prop} {H : Heap} {locs : List Loc} {lsR : Array Slot} {st0 rest : List Value} {a : Array Value} {cells slots mc ms pc : Nat}
    (hr : va_Run p l e R s m args below meth c H locs cells slots mc ms (F0 m pc lsR st0) rest (m_Post E Ω' Q' a) (fun q => E.1.1 ≤ q)) (hS : va_S (fun q => E.1.1 ≤ q) s.heap H locs)
    (kk : ∀ (r : Option m_V) (h' : m_H) (H1 : Heap) (locs1 : List Loc), Q' r h' → m_okr r → m_Rel E Ω' h' s H1 locs1 → W p l e R s m args below meth c H1 locs1 (cells + mc) (slots + ms) QQ (F0 m (pc + 3) lsR ((r.map (m_v E)).toList ++ rest))) : W p l e R s m args below meth c H locs cells slots QQ (F0 m pc lsR st0) := by
  intro T hT X
  obtain ⟨v, st₀, t, T', L, h0, X', hL, e1, e2, ⟨⟨r, h', hv, hq, hok, hr1, hsz, hP⟩, hz, hk⟩, st⟩ := hr T hT X
  cases hv
  rw [h0] at hz hk
  obtain ⟨t2, a1, b1⟩ := kk r h' T'.heap (locs ++ L) hq hr1 ⟨by rw [e1]; exact hsz, by rw [e1]; exact hP, ⟨Nat.le_trans hS.1 (by rw [e1]; exact hz), fun q h1 h2 => by rw [e1, hk q (Nat.lt_of_lt_of_le h1 hS.1) h2]; exact hS.2.1 q h1 h2, fun q hq => by
      rcases List.mem_append.mp hq with g | g
      · exact hS.2.2 q g
      · exact hL q g⟩, hok⟩ T' rfl X'
  exact ⟨t2, st t2 a1, b1⟩
/-- what the tables say of a method that is called on an object -/
def m_mV (M : m_M) (n : Nat) : Prop := (Cond.instanceMethod M.2.1 ∈ m_G ∧ Cond.selects M.2.1.cls M.2.1 M.2.1 ∈ m_G) ∧ (Cond.initialized M.2.1.cls ∈ m_G ∧ Cond.code M.2.1 M.2.2.1 M.2.2.2.1 M.2.2.2.2.1 ∈ m_G) ∧ (M.2.1.cls ≠ "java/lang/invoke/MethodHandle" ∧ M.2.1.cls ≠ "java/lang/invoke/VarHandle" ∧ (parseMethodDescriptor M.2.1.desc).map (fun d => d.parameters.length) = some n)
def m_mS (M : m_M) (n : Nat) : Prop := Cond.static M.2.1 ∈ m_G ∧ (Cond.initialized M.2.1.cls ∈ m_G ∧ Cond.code M.2.1 M.2.2.1 M.2.2.2.1 M.2.2.2.2.1 ∈ m_G) ∧ (M.2.1.cls ≠ "java/lang/invoke/MethodHandle" ∧ M.2.1.cls ≠ "java/lang/invoke/VarHandle" ∧ (parseMethodDescriptor M.2.1.desc).map (fun d => d.parameters.length) = some n)
def m_mI (M : m_M) (n : Nat) : Prop := (Cond.instanceMethod M.2.1 ∈ m_G ∧ M.2.1.name = "<init>" ∧ M.2.2.2.2.1 = none) ∧ (Cond.initialized M.2.1.cls ∈ m_G ∧ Cond.code M.2.1 M.2.2.1 M.2.2.2.1 M.2.2.2.2.1 ∈ m_G) ∧ (M.2.1.cls ≠ "java/lang/invoke/MethodHandle" ∧ M.2.1.cls ≠ "java/lang/invoke/VarHandle" ∧ (parseMethodDescriptor M.2.1.desc).map (fun d => d.parameters.length) = some n)
def m_rr (M M' : m_M) : Prop := (m_rm M').frames + 1 ≤ (m_rm M).frames ∧ 8 + (M'.2.2.2.1 + 11) + (m_rm M').locals ≤ (m_rm M).locals
def m_cs (st : List m_V) : Nat := (st.map (fun v => if m_isL v then 2 else 1)).sum
theorem m_goodG : GoodIn m_G m_G := fun w hw => ⟨hw, good_of_word (List.mem_filter.mp hw).2⟩
theorem m_good (hc : Cond.code M'.2.1 M'.2.2.1 M'.2.2.2.1 M'.2.2.2.2.1 ∈ m_G) : GoodIn m_G (m_ws M') := fun w hw => by
  rcases List.mem_cons.mp hw with rfl | q
  · exact m_goodG _ hc
  · exact m_goodG _ q
theorem m_roomW {E : m_E} {m : MethodId} {pc : Nat} {lsR : Array Slot} {g : List Value} {rest : List m_V} (hr : m_cs rest ≤ 8) : 2 * (F0 m pc lsR g).monitorRoom + ((rest.map (m_v E)).map fun v => v.category).sum ≤ 8 := by
  refine lv_room ?_
  rw [List.map_map]
  have e1 : ((fun v : Value => v.category) ∘ m_v E) = fun v => if m_isL v then 2 else 1 := by funext v; exact m_cat E v
  rw [e1]
  exact hr
theorem m_bcall (b : m_b Ω M) (hb : m_b Ω' M) (hc : (m_rm M').cells = Ω'.length - Ω.length ∧ (m_rm M').slots = m_sz Ω' - m_sz Ω) (hle : Ω.length ≤ Ω'.length ∧ m_sz Ω ≤ m_sz Ω') : Ω.length - m_k0 M + (m_rm M').cells = Ω'.length - m_k0 M ∧ m_sz Ω - m_s0 M + (m_rm M').slots = m_sz Ω' - m_s0 M := by
  unfold m_b at b hb
  omega
theorem m_toL {E : m_E} {r : Option m_V} {rest : List m_V} : (r.map (m_v E)).toList ++ rest.map (m_v E) = (r.toList ++ rest).map (m_v E) := by
  cases r <;> simp
theorem m_okT {r : Option m_V} {rest : List m_V} (h1 : m_okr r) (h2 : m_oks rest) : m_oks (r.toList ++ rest) := by
  cases r with
  | none => exact h2
  | some v => exact ⟨h1 v rfl, h2⟩
theorem m_oks_app : ∀ {a b : List m_V}, m_oks (a ++ b) → m_oks a ∧ m_oks b
  | [], b, h => ⟨trivial, h⟩
  | v :: a, b, h => ⟨⟨h.1, (m_oks_app h.2).1⟩, (m_oks_app h.2).2⟩
theorem m_oks_mk : ∀ {a : List m_V}, (∀ v ∈ a, m_ok v) → m_oks a
  | [], _ => trivial
  | v :: a, h => ⟨h v List.mem_cons_self, m_oks_mk fun w hw => h w (List.mem_cons_of_mem _ hw)⟩
theorem m_oks_rev {a : List m_V} (h : m_oks a.reverse) : m_oks a := m_oks_mk fun v hv => m_oks_in h (List.mem_reverse.mpr hv)
theorem z_callV (pc : Nat) {index k ci N n : Nat} {as : List m_V} (d : decode M.2.2.1 pc = .ok (.invokevirtual index, 3)) (mt : m_mV M' n) (lk : Cond.methodLink M.1 index M'.2.1 ∈ m_G) (rr : m_rr M M') (hc : m_C M' Ω Ω (mR k :: as) h Q') (hk : Ω[k]? = some (ci + 5, N)) (hcl : (vwCl[ci]?).map (fun q => q.1) = some M'.2.1.cls) (hst : as.reverse ++ mR k :: rest = st) (hn : as.length = n) (hrest : m_cs rest ≤ 8) (h0 : (m_rm M').cells = 0 ∧ (m_rm M').slots = 0)
    (kk : ∀ (r : Option m_V) (h' : m_H), Q' r h' → m_Z Ω M (pc + 3) ls (r.toList ++ rest) h' Q) : m_Z Ω M pc ls st h Q := by
  subst hst
  intro E p l e s m args below meth c QQ H locs lsR C Rt Rl L o b
  obtain ⟨o1, o2⟩ := m_oks_app o
  have hM := hc l E Rl.2.2.2 ⟨trivial, m_oks_rev o1⟩
  have hts := C.2.2.2.2.1
  obtain ⟨qc, hqc, hqn⟩ : ∃ qc : vw_C, vwCl[ci]? = some qc ∧ qc.1 = M'.2.1.cls := by
    cases hv : vwCl[ci]? with
    | none => rw [hv] at hcl; cases hcl
    | some qc => rw [hv] at hcl; exact ⟨qc, rfl, Option.some.inj hcl⟩
  have hrecv := va_recv C.2.2.2.2.2.1 Rl.2.1 hqc (m_wl_at (E := E) hk)
  rw [hqn] at hrecv
  have hcw : CallW (m_rm M) s args M.1 M'.2.1.cls index M'.2.1 M'.2.2.1 M'.2.2.2.1 M'.2.2.2.2.1 (m_ws M') (m_rm M') (m_rm M').cells (m_rm M').slots n :=
    ⟨callB_of n hts (m_good mt.2.1.2) rfl rfl rfl (hts _ mt.2.1.1) (hts _ lk) mt.2.2 rr, hts _ mt.1.1, hts _ mt.1.2⟩
  have hrun := va_runV (g := F0 m pc lsR ((as.reverse ++ mR k :: rest).map (m_v E))) (As := as.map (m_v E)) (rest := rest.map (m_v E)) (b := E.1.1 + k) (below := below) (locs := locs) (meth := meth) (e := e) ⟨C.1, C.2.1, C.2.2.1, C.2.2.2.1, hts⟩ hM hcw ⟨m_blind, hrecv, fun U hU hW => ⟨rfl, m_pre_at C Rl U hU hW⟩⟩ rfl (by rw [List.length_map]; exact hn) L.1 (by simp [m_v]) (m_roomW hrest) d (cells := Ω.length - m_k0 M) (slots := m_sz Ω - m_s0 M) (by rw [h0.1, h0.2]; exact b.2)
  refine m_after hrun Rl.2.2.1 (fun r h' H1 locs1 hq hr R1 => ?_)
  rw [h0.1, h0.2, m_toL]
  exact kk r h' hq E p l e s m args below meth c QQ H1 locs1 lsR C Rt R1 L (m_okT hr o2.2) b
theorem z_callS (pc : Nat) {index n : Nat} {as : List m_V} (d : decode M.2.2.1 pc = .ok (.invokestatic index, 3)) (mt : m_mS M' n) (lk : Cond.methodLink M.1 index M'.2.1 ∈ m_G) (rr : m_rr M M') (hc : m_C M' Ω Ω as h Q') (hst : as.reverse ++ rest = st) (hn : as.length = n) (hrest : m_cs rest ≤ 8) (h0 : (m_rm M').cells = 0 ∧ (m_rm M').slots = 0)
    (kk : ∀ (r : Option m_V) (h' : m_H), Q' r h' → m_Z Ω M (pc + 3) ls (r.toList ++ rest) h' Q) : m_Z Ω M pc ls st h Q := by
  subst hst
  intro E p l e s m args below meth c QQ H locs lsR C Rt Rl L o b
  obtain ⟨o1, o2⟩ := m_oks_app o
  have hM := hc l E Rl.2.2.2 (m_oks_rev o1)
  have hts := C.2.2.2.2.1
  have hcw : CallB (m_rm M) s args M.1 index M'.2.1 M'.2.2.1 M'.2.2.2.1 M'.2.2.2.2.1 (m_ws M') (m_rm M') (m_rm M').cells (m_rm M').slots n ∧ (Cond.static M'.2.1).before args s = true :=
    ⟨callB_of n hts (m_good mt.2.1.2) rfl rfl rfl (hts _ mt.2.1.1) (hts _ lk) mt.2.2 rr, hts _ mt.1⟩
  have hrun := va_runS (g := F0 m pc lsR ((as.reverse ++ rest).map (m_v E))) (As := as.map (m_v E)) (rest := rest.map (m_v E)) (below := below) (locs := locs) (meth := meth) (e := e) ⟨C.1, C.2.1, C.2.2.1, C.2.2.2.1, hts⟩ hM hcw ⟨m_blind, fun U hU hW => ⟨rfl, m_pre_at C Rl U hU hW⟩⟩ rfl (by rw [List.length_map]; exact hn) L.1 (by simp) (m_roomW hrest) d (cells := Ω.length - m_k0 M) (slots := m_sz Ω - m_s0 M) (by rw [h0.1, h0.2]; exact b.2)
  refine m_after hrun Rl.2.2.1 (fun r h' H1 locs1 hq hr R1 => ?_)
  rw [h0.1, h0.2, m_toL]
  exact kk r h' hq E p l e s m args below meth c QQ H1 locs1 lsR C Rt R1 L (m_okT hr o2) b
theorem z_callSN (pc : Nat) {index n : Nat} {host : String} {as : List m_V} (d : decode M.2.2.1 pc = .ok (.invokestatic index, 3)) (mt : m_mS M' n) (lk : Cond.methodLinkNest M.1 index M'.2.1 host ∈ m_N) (rr : m_rr M M') (hc : m_C M' Ω Ω as h Q') (hst : as.reverse ++ rest = st) (hn : as.length = n) (hrest : m_cs rest ≤ 8) (h0 : (m_rm M').cells = 0 ∧ (m_rm M').slots = 0)
    (kk : ∀ (r : Option m_V) (h' : m_H), Q' r h' → m_Z Ω M (pc + 3) ls (r.toList ++ rest) h' Q) : m_Z Ω M pc ls st h Q := by
  subst hst
  intro E p l e s m args below meth c QQ H locs lsR C Rt Rl L o b
  obtain ⟨o1, o2⟩ := m_oks_app o
  have hM := hc l E Rl.2.2.2 (m_oks_rev o1)
  have hts := C.2.2.2.2.1
  have hcw := va_cnB (R := m_rm M) (host := host) (index := index) (own := M.1) (y := M'.2.1) (bytes := M'.2.2.1) (maxL := M'.2.2.2.1) (ret := M'.2.2.2.2.1) (ws := m_ws M') (rm := m_rm M') (mc := (m_rm M').cells) (ms := (m_rm M').slots) n hts (m_good mt.2.1.2) rfl rfl rfl (C.2.2.2.2.2.2.1 _ lk) (hts _ mt.2.1.1) mt.2.2 rr
  have hrun := va_runSN (g := F0 m pc lsR ((as.reverse ++ rest).map (m_v E))) (As := as.map (m_v E)) (rest := rest.map (m_v E)) (below := below) (locs := locs) (meth := meth) (e := e) ⟨C.1, C.2.1, C.2.2.1, C.2.2.2.1, hts⟩ hM ⟨hcw, hts _ mt.1, trivial⟩ ⟨m_blind, fun U hU hW => ⟨rfl, m_pre_at C Rl U hU hW⟩⟩ rfl (by rw [List.length_map]; exact hn) L.1 (by simp) (m_roomW hrest) d (cells := Ω.length - m_k0 M) (slots := m_sz Ω - m_s0 M) (by rw [h0.1, h0.2]; exact b.2)
  refine m_after hrun Rl.2.2.1 (fun r h' H1 locs1 hq hr R1 => ?_)
  rw [h0.1, h0.2, m_toL]
  exact kk r h' hq E p l e s m args below meth c QQ H1 locs1 lsR C Rt R1 L (m_okT hr o2) b
end ZC
/-! the String constants and two static fields of the library -/
section ZS
variable {Ω : m_W} {M : m_M} {ls : List (Option m_V)} {st : List m_V} {h : m_H} {Q : m_W → Option m_V → m_H → Prop}
theorem z_ldcS (pc : Nat) {index i : Nat} {q : Nat × String} (d : decode M.2.2.1 pc = .ok (.ldc index, 2)) (hM : M.1 = "WeekFoot$BookReader") (hq : m_sx[i]? = some q) (hx : q.1 = index) (k : m_Z Ω M (pc + 2) ls (mO i :: st) h Q) : m_Z Ω M pc ls st h Q := by
  intro E p l e s m args below meth c QQ H locs lsR C Rt Rl L o b
  subst hx
  have hown := C.2.2.2.1
  rw [hM] at hown
  refine va_ldcS C.1 C.2.1 (own := "WeekFoot$BookReader") (tx := q.2) (q := E.1.2 i) hown (C.2.2.2.2.2.2.2.1.2.1 i q hq) d ?_
  have hi : i < 16 := (List.getElem?_eq_some_iff.mp hq).1
  have key := k E p l e s m args below meth c QQ H locs lsR C Rt Rl L ⟨trivial, o⟩ b
  rw [List.map_cons, m_vO (by omega)] at key
  exact key
theorem z_coder (pc : Nat) {index i : Nat} (d : decode M.2.2.1 pc = .ok (.getfield index, 3)) (w : Cond.fieldLink M.1 index "java/lang/String" "coder" "B" ∈ m_G) (hi : i < 16) (k : m_Z Ω M (pc + 3) ls (mI 0 :: st) h Q) : m_Z Ω M pc ls (mO i :: st) h Q := by
  intro E p l e s m args below meth c QQ H locs lsR C Rt Rl L o b
  rw [List.map_cons, m_vO (by omega)]
  refine vk_getf C.1 C.2.1 (C.2.2.2.2.2.2.2.1.1.1 i hi).2.1 Rl.2.2.1 C.2.2.2.1 (C.2.2.2.2.1 _ w) (fun _ z => z) d ?_
  exact k E p l e s m args below meth c QQ H locs lsR C Rt Rl L ⟨by show m_32 _; unfold m_32; decide, o.2⟩ b
theorem z_value (pc : Nat) {index i : Nat} (d : decode M.2.2.1 pc = .ok (.getfield index, 3)) (w : Cond.fieldLink M.1 index "java/lang/String" "value" "[B" ∈ m_G) (hi : i < 16) (k : m_Z Ω M (pc + 3) ls (mO (20 + i) :: st) h Q) : m_Z Ω M pc ls (mO i :: st) h Q := by
  intro E p l e s m args below meth c QQ H locs lsR C Rt Rl L o b
  rw [List.map_cons, m_vO (by omega)]
  refine vk_getf C.1 C.2.1 (C.2.2.2.2.2.2.2.1.1.1 i hi).2.2.1 Rl.2.2.1 C.2.2.2.1 (C.2.2.2.2.1 _ w) (fun _ z => z) d ?_
  have key := k E p l e s m args below meth c QQ H locs lsR C Rt Rl L ⟨trivial, o.2⟩ b
  rw [List.map_cons, m_vO (by omega)] at key
  exact key
theorem m_sl_le (i : Nat) : m_sl.getD i 0 ≤ 6 := by
  by_cases hi : i < 16
  · have : ∀ j : Fin 16, m_sl.getD j.1 0 ≤ 6 := by decide
    exact this ⟨i, hi⟩
  · rw [List.getD_eq_getElem?_getD, List.getElem?_eq_none (by show 16 ≤ i; omega)]; decide
theorem z_alenO (pc : Nat) {i : Nat} (d : decode M.2.2.1 pc = .ok (.arraylength, 1)) (hi : i < 16) (k : m_Z Ω M (pc + 1) ls (mI (m_sl.getD i 0 : Nat) :: st) h Q) : m_Z Ω M pc ls (mO (20 + i) :: st) h Q := by
  intro E p l e s m args below meth c QQ H locs lsR C Rt Rl L o b
  rw [List.map_cons, m_vO (by omega)]
  refine va_tlen C.1 C.2.1 (C.2.2.2.2.2.2.2.1.1.1 i hi).2.2.2 Rl.2.2.1 (v := Int32.ofInt ((m_sl.getD i 0 : Nat) : Int)) rfl d ?_
  have := m_sl_le i
  exact k E p l e s m args below meth c QQ H locs lsR C Rt Rl L ⟨by show m_32 _; unfold m_32; omega, o.2⟩ b
theorem z_baldO (pc : Nat) {i : Nat} {j : Int} (d : decode M.2.2.1 pc = .ok (.baload, 1)) (hi : i < 16) (h0 : 0 ≤ j) (h1 : j < (m_sl.getD i 0 : Nat)) (k : m_Z Ω M (pc + 1) ls (mI ((m_sb.getD i []).getD j.toNat 0).toInt :: st) h Q) : m_Z Ω M pc ls (mI j :: mO (20 + i) :: st) h Q := by
  intro E p l e s m args below meth c QQ H locs lsR C Rt Rl L o b
  rw [List.map_cons, List.map_cons, m_vO (i := 20 + i) (by omega)]
  refine va_tb C.1 C.2.1 (C.2.2.2.2.2.2.2.1.1.1 i hi).2.2.2 Rl.2.2.1 (m_ix o.1 h0 h1) (v := .int (Int32.ofInt ((m_sb.getD i []).getD j.toNat 0).toInt)) (by rw [m_cn o.1, Int32.ofInt_toInt]) d ?_
  exact k E p l e s m args below meth c QQ H locs lsR C Rt Rl L ⟨by show m_32 _; unfold m_32; have a1 := Int32.le_toInt ((m_sb.getD i []).getD j.toNat 0); have a2 := Int32.toInt_lt ((m_sb.getD i []).getD j.toNat 0); omega, o.2.2⟩ b
theorem z_gstC (pc : Nat) {index : Nat} (d : decode M.2.2.1 pc = .ok (.getstatic index, 3)) (w : Cond.fieldLink M.1 index "java/lang/String" "COMPACT_STRINGS" "Z" ∈ m_G) (k : m_Z Ω M (pc + 3) ls (mI 1 :: st) h Q) : m_Z Ω M pc ls st h Q := by
  intro E p l e s m args below meth c QQ H locs lsR C Rt Rl L o b
  refine va_gets C.1 C.2.1 C.2.2.2.2.2.2.2.1.2.2.1 Rl.2.2.1 C.2.2.2.1 (C.2.2.2.2.1 _ w) (fun _ z => z) d ?_
  exact k E p l e s m args below meth c QQ H locs lsR C Rt Rl L ⟨by show m_32 _; unfold m_32; decide, o⟩ b
theorem z_gstF (pc : Nat) {index : Nat} (d : decode M.2.2.1 pc = .ok (.getstatic index, 3)) (w : Cond.fieldLink M.1 index "jdk/internal/util/Preconditions" "SIOOBE_FORMATTER" "Ljava/util/function/BiFunction;" ∈ m_G) (k : m_Z Ω M (pc + 3) ls (mO 40 :: st) h Q) : m_Z Ω M pc ls st h Q := by
  intro E p l e s m args below meth c QQ H locs lsR C Rt Rl L o b
  refine va_gets C.1 C.2.1 C.2.2.2.2.2.2.2.1.2.2.2 Rl.2.2.1 C.2.2.2.1 (C.2.2.2.2.1 _ w) (fun _ z => z) d ?_
  exact k E p l e s m args below meth c QQ H locs lsR C Rt Rl L ⟨trivial, o⟩ b
end ZS
def oF : m_W := [(16, 17), (9, 10), (0, 32), (0, 6), (0, 24), (0, 24), (0, 24), (0, 24), (0, 16), (9, 10), (0, 32), (0, 6), (0, 24), (0, 24), (0, 24), (0, 24), (0, 16), (4, 2), (9, 10), (0, 32), (0, 6), (0, 24), (0, 24), (0, 24), (0, 24), (0, 16), (9, 10), (0, 32), (0, 6), (0, 24), (0, 24), (0, 24), (0, 24), (0, 16), (2, 2), (13, 2), (0, 400), (6, 4), (14, 6), (0, 48), (2, 48), (0, 48), (3, 16), (7, 3), (7, 3), (7, 3), (7, 3), (7, 3), (7, 3), (7, 3), (7, 3), (7, 3), (7, 3), (7, 3), (7, 3), (7, 3), (7, 3), (7, 3), (7, 3), (3, 16), (7, 3), (7, 3), (7, 3), (7, 3), (7, 3), (7, 3), (7, 3), (7, 3), (7, 3), (7, 3), (7, 3), (7, 3), (7, 3), (7, 3), (7, 3), (7, 3), (3, 16), (7, 3), (7, 3), (7, 3), (7, 3), (7, 3), (7, 3), (7, 3), (7, 3), (7, 3), (7, 3), (7, 3), (7, 3), (7, 3), (7, 3), (7, 3), (7, 3), (12, 2), (7, 3), (7, 3), (15, 5), (1, 3), (1, 3), (5, 1), (0, 16), (8, 4), (11, 5), (0, 3), (0, 12), (10, 4), (0, 32), (0, 5), (17, 63), (0, 7), (0, 200), (0, 400), (2, 2), (0, 400), (0, 1000), (1, 10), (1, 10), (0, 60), (0, 60), (0, 60), (0, 60), (2, 60), (0, 32), (0, 6), (1, 80), (1, 80), (2, 16), (2, 16), (1, 80), (1, 80), (2, 16), (2, 16), (1, 5), (1, 5), (2, 256), (1, 10), (1, 10), (1, 5), (1, 20), (1, 10), (1, 10), (1, 10), (1, 10), (1, 3), (1, 3), (0, 16), (0, 3), (0, 32)]
theorem oF_len : oF.length = 148 := by decide +kernel
theorem oF_sz : m_sz oF = 4732 := by decide +kernel
def r_lo (j : Nat) : Int := if j < 2 then 0 else if j < 10 then -2147483648 else if j < 48 then -1 else if j < 60 then 0 else if j < 76 then 1 else if j < 80 then -2147483648 else 0
def r_hi (j : Nat) : Int := if j = 0 then 24 else if j = 1 then 6 else if j < 10 then 2147483647 else if j < 42 then 3 else if j < 48 then 31 else if j < 60 then 3 else if j < 76 then 9999 else if j < 80 then 2147483647 else if (j - 80) % 5 = 0 then 5 else if (j - 80) % 5 = 1 then 31 else if (j - 80) % 5 = 2 then 99 else if (j - 80) % 5 = 3 then 2 else 1
def g_p0 : Nat → Int → Prop := fun j x => match j with | 0 => x = ((1 : Nat) : Int) | 1 => x = ((9 : Nat) : Int) | 2 => x = ((17 : Nat) : Int) | 3 => x = ((34 : Nat) : Int) | 4 => x = ((35 : Nat) : Int) | 5 => x = ((37 : Nat) : Int) | 6 => x = ((38 : Nat) : Int) | 7 => x = ((93 : Nat) : Int) | 8 => x = ((96 : Nat) : Int) | 9 => x = ((99 : Nat) : Int) | 10 => x = ((101 : Nat) : Int) | 11 => x = ((102 : Nat) : Int) | 12 => x = ((105 : Nat) : Int) | 13 => x = ((107 : Nat) : Int) | _ => True
def g_p1 : Nat → Int → Prop := fun j x => match j with | 0 => x = ((2 : Nat) : Int) | 1 => x = ((3 : Nat) : Int) | 2 => x = ((4 : Nat) : Int) | 3 => x = ((5 : Nat) : Int) | 4 => x = ((6 : Nat) : Int) | 5 => x = ((7 : Nat) : Int) | 6 => x = ((8 : Nat) : Int) | 7 => 0 ≤ x ∧ x ≤ 24 | _ => True
def g_p2 : Nat → Int → Prop := fun _ x => -1 ≤ x ∧ x ≤ 3
def g_p3 : Nat → Int → Prop := fun _ x => -1 ≤ x ∧ x ≤ 31
def g_p4 : Nat → Int → Prop := fun _ x => 0 ≤ x ∧ x ≤ 5
def g_p5 : Nat → Int → Prop := fun _ x => 0 ≤ x ∧ x ≤ 31
def g_p6 : Nat → Int → Prop := fun _ x => 0 ≤ x ∧ x ≤ 99
def g_p7 : Nat → Int → Prop := fun _ x => 0 ≤ x ∧ x ≤ 2
def g_p8 : Nat → Int → Prop := fun _ x => 1 ≤ x ∧ x ≤ 9999
def g_p9 : Nat → Int → Prop := fun j x => match j with | 0 => x = ((10 : Nat) : Int) | 1 => x = ((11 : Nat) : Int) | 2 => x = ((12 : Nat) : Int) | 3 => x = ((13 : Nat) : Int) | 4 => x = ((14 : Nat) : Int) | 5 => x = ((15 : Nat) : Int) | 6 => x = ((16 : Nat) : Int) | 7 => 0 ≤ x ∧ x ≤ 24 | _ => True
def g_p10 : Nat → Int → Prop := fun _ x => -1 ≤ x ∧ x ≤ 3
def g_p11 : Nat → Int → Prop := fun _ x => -1 ≤ x ∧ x ≤ 31
def g_p12 : Nat → Int → Prop := fun _ x => 0 ≤ x ∧ x ≤ 5
def g_p13 : Nat → Int → Prop := fun _ x => 0 ≤ x ∧ x ≤ 31
def g_p14 : Nat → Int → Prop := fun _ x => 0 ≤ x ∧ x ≤ 99
def g_p15 : Nat → Int → Prop := fun _ x => 0 ≤ x ∧ x ≤ 2
def g_p16 : Nat → Int → Prop := fun _ x => 1 ≤ x ∧ x ≤ 9999
def g_p17 : Nat → Int → Prop := fun j x => x = ((18 + 8 * j : Nat) : Int)
def g_p18 : Nat → Int → Prop := fun j x => match j with | 0 => x = ((19 : Nat) : Int) | 1 => x = ((20 : Nat) : Int) | 2 => x = ((21 : Nat) : Int) | 3 => x = ((22 : Nat) : Int) | 4 => x = ((23 : Nat) : Int) | 5 => x = ((24 : Nat) : Int) | 6 => x = ((25 : Nat) : Int) | 7 => 0 ≤ x ∧ x ≤ 24 | _ => True
def g_p19 : Nat → Int → Prop := fun _ x => -1 ≤ x ∧ x ≤ 3
def g_p20 : Nat → Int → Prop := fun _ x => -1 ≤ x ∧ x ≤ 31
def g_p21 : Nat → Int → Prop := fun _ x => 0 ≤ x ∧ x ≤ 5
def g_p22 : Nat → Int → Prop := fun _ x => 0 ≤ x ∧ x ≤ 31
def g_p23 : Nat → Int → Prop := fun _ x => 0 ≤ x ∧ x ≤ 99
def g_p24 : Nat → Int → Prop := fun _ x => 0 ≤ x ∧ x ≤ 2
def g_p25 : Nat → Int → Prop := fun _ x => 1 ≤ x ∧ x ≤ 9999
def g_p26 : Nat → Int → Prop := fun j x => match j with | 0 => x = ((27 : Nat) : Int) | 1 => x = ((28 : Nat) : Int) | 2 => x = ((29 : Nat) : Int) | 3 => x = ((30 : Nat) : Int) | 4 => x = ((31 : Nat) : Int) | 5 => x = ((32 : Nat) : Int) | 6 => x = ((33 : Nat) : Int) | 7 => 0 ≤ x ∧ x ≤ 24 | _ => True
def g_p27 : Nat → Int → Prop := fun _ x => -1 ≤ x ∧ x ≤ 3
def g_p28 : Nat → Int → Prop := fun _ x => -1 ≤ x ∧ x ≤ 31
def g_p29 : Nat → Int → Prop := fun _ x => 0 ≤ x ∧ x ≤ 5
def g_p30 : Nat → Int → Prop := fun _ x => 0 ≤ x ∧ x ≤ 31
def g_p31 : Nat → Int → Prop := fun _ x => 0 ≤ x ∧ x ≤ 99
def g_p32 : Nat → Int → Prop := fun _ x => 0 ≤ x ∧ x ≤ 2
def g_p33 : Nat → Int → Prop := fun _ x => 1 ≤ x ∧ x ≤ 9999
def g_p34 : Nat → Int → Prop := fun _ x => 0 ≤ x ∧ x ≤ 1
def g_p35 : Nat → Int → Prop := fun j x => match j with | 0 => x = ((36 : Nat) : Int) | 1 => 0 ≤ x ∧ x ≤ 400 | _ => True
def g_p36 : Nat → Int → Prop := fun _ x => 0 ≤ x ∧ x ≤ 255
def g_p37 : Nat → Int → Prop := fun j x => match j with | 0 => x = ((35 : Nat) : Int) | 1 => 0 ≤ x ∧ x ≤ 400 | 2 => 0 ≤ x ∧ x ≤ 400 | _ => True
def g_p38 : Nat → Int → Prop := fun j x => match j with | 0 => x = ((39 : Nat) : Int) | 1 => x = ((40 : Nat) : Int) | 2 => x = ((41 : Nat) : Int) | 3 => x = ((42 : Nat) : Int) | 4 => x = ((59 : Nat) : Int) | 5 => x = ((76 : Nat) : Int) | _ => True
def g_p39 : Nat → Int → Prop := fun _ _ => True
def g_p40 : Nat → Int → Prop := fun _ x => 0 ≤ x ∧ x ≤ 1
def g_p41 : Nat → Int → Prop := fun _ _ => True
def g_p42 : Nat → Int → Prop := fun j x => x = ((43 + j : Nat) : Int)
def g_p43 : Nat → Int → Prop := fun j x => match j with | 2 => 0 ≤ x ∧ x ≤ 1 | _ => True
def g_p44 : Nat → Int → Prop := fun j x => match j with | 2 => 0 ≤ x ∧ x ≤ 1 | _ => True
def g_p45 : Nat → Int → Prop := fun j x => match j with | 2 => 0 ≤ x ∧ x ≤ 1 | _ => True
def g_p46 : Nat → Int → Prop := fun j x => match j with | 2 => 0 ≤ x ∧ x ≤ 1 | _ => True
def g_p47 : Nat → Int → Prop := fun j x => match j with | 2 => 0 ≤ x ∧ x ≤ 1 | _ => True
def g_p48 : Nat → Int → Prop := fun j x => match j with | 2 => 0 ≤ x ∧ x ≤ 1 | _ => True
def g_p49 : Nat → Int → Prop := fun j x => match j with | 2 => 0 ≤ x ∧ x ≤ 1 | _ => True
def g_p50 : Nat → Int → Prop := fun j x => match j with | 2 => 0 ≤ x ∧ x ≤ 1 | _ => True
def g_p51 : Nat → Int → Prop := fun j x => match j with | 2 => 0 ≤ x ∧ x ≤ 1 | _ => True
def g_p52 : Nat → Int → Prop := fun j x => match j with | 2 => 0 ≤ x ∧ x ≤ 1 | _ => True
def g_p53 : Nat → Int → Prop := fun j x => match j with | 2 => 0 ≤ x ∧ x ≤ 1 | _ => True
def g_p54 : Nat → Int → Prop := fun j x => match j with | 2 => 0 ≤ x ∧ x ≤ 1 | _ => True
def g_p55 : Nat → Int → Prop := fun j x => match j with | 2 => 0 ≤ x ∧ x ≤ 1 | _ => True
def g_p56 : Nat → Int → Prop := fun j x => match j with | 2 => 0 ≤ x ∧ x ≤ 1 | _ => True
def g_p57 : Nat → Int → Prop := fun j x => match j with | 2 => 0 ≤ x ∧ x ≤ 1 | _ => True
def g_p58 : Nat → Int → Prop := fun j x => match j with | 2 => 0 ≤ x ∧ x ≤ 1 | _ => True
def g_p59 : Nat → Int → Prop := fun j x => x = ((60 + j : Nat) : Int)
def g_p60 : Nat → Int → Prop := fun j x => match j with | 2 => 0 ≤ x ∧ x ≤ 1 | _ => True
def g_p61 : Nat → Int → Prop := fun j x => match j with | 2 => 0 ≤ x ∧ x ≤ 1 | _ => True
def g_p62 : Nat → Int → Prop := fun j x => match j with | 2 => 0 ≤ x ∧ x ≤ 1 | _ => True
def g_p63 : Nat → Int → Prop := fun j x => match j with | 2 => 0 ≤ x ∧ x ≤ 1 | _ => True
def g_p64 : Nat → Int → Prop := fun j x => match j with | 2 => 0 ≤ x ∧ x ≤ 1 | _ => True
def g_p65 : Nat → Int → Prop := fun j x => match j with | 2 => 0 ≤ x ∧ x ≤ 1 | _ => True
def g_p66 : Nat → Int → Prop := fun j x => match j with | 2 => 0 ≤ x ∧ x ≤ 1 | _ => True
def g_p67 : Nat → Int → Prop := fun j x => match j with | 2 => 0 ≤ x ∧ x ≤ 1 | _ => True
def g_p68 : Nat → Int → Prop := fun j x => match j with | 2 => 0 ≤ x ∧ x ≤ 1 | _ => True
def g_p69 : Nat → Int → Prop := fun j x => match j with | 2 => 0 ≤ x ∧ x ≤ 1 | _ => True
def g_p70 : Nat → Int → Prop := fun j x => match j with | 2 => 0 ≤ x ∧ x ≤ 1 | _ => True
def g_p71 : Nat → Int → Prop := fun j x => match j with | 2 => 0 ≤ x ∧ x ≤ 1 | _ => True
def g_p72 : Nat → Int → Prop := fun j x => match j with | 2 => 0 ≤ x ∧ x ≤ 1 | _ => True
def g_p73 : Nat → Int → Prop := fun j x => match j with | 2 => 0 ≤ x ∧ x ≤ 1 | _ => True
def g_p74 : Nat → Int → Prop := fun j x => match j with | 2 => 0 ≤ x ∧ x ≤ 1 | _ => True
def g_p75 : Nat → Int → Prop := fun j x => match j with | 2 => 0 ≤ x ∧ x ≤ 1 | _ => True
def g_p76 : Nat → Int → Prop := fun j x => x = ((77 + j : Nat) : Int)
def g_p77 : Nat → Int → Prop := fun j x => match j with | 2 => 0 ≤ x ∧ x ≤ 1 | _ => True
def g_p78 : Nat → Int → Prop := fun j x => match j with | 2 => 0 ≤ x ∧ x ≤ 1 | _ => True
def g_p79 : Nat → Int → Prop := fun j x => match j with | 2 => 0 ≤ x ∧ x ≤ 1 | _ => True
def g_p80 : Nat → Int → Prop := fun j x => match j with | 2 => 0 ≤ x ∧ x ≤ 1 | _ => True
def g_p81 : Nat → Int → Prop := fun j x => match j with | 2 => 0 ≤ x ∧ x ≤ 1 | _ => True
def g_p82 : Nat → Int → Prop := fun j x => match j with | 2 => 0 ≤ x ∧ x ≤ 1 | _ => True
def g_p83 : Nat → Int → Prop := fun j x => match j with | 2 => 0 ≤ x ∧ x ≤ 1 | _ => True
def g_p84 : Nat → Int → Prop := fun j x => match j with | 2 => 0 ≤ x ∧ x ≤ 1 | _ => True
def g_p85 : Nat → Int → Prop := fun j x => match j with | 2 => 0 ≤ x ∧ x ≤ 1 | _ => True
def g_p86 : Nat → Int → Prop := fun j x => match j with | 2 => 0 ≤ x ∧ x ≤ 1 | _ => True
def g_p87 : Nat → Int → Prop := fun j x => match j with | 2 => 0 ≤ x ∧ x ≤ 1 | _ => True
def g_p88 : Nat → Int → Prop := fun j x => match j with | 2 => 0 ≤ x ∧ x ≤ 1 | _ => True
def g_p89 : Nat → Int → Prop := fun j x => match j with | 2 => 0 ≤ x ∧ x ≤ 1 | _ => True
def g_p90 : Nat → Int → Prop := fun j x => match j with | 2 => 0 ≤ x ∧ x ≤ 1 | _ => True
def g_p91 : Nat → Int → Prop := fun j x => match j with | 2 => 0 ≤ x ∧ x ≤ 1 | _ => True
def g_p92 : Nat → Int → Prop := fun j x => match j with | 2 => 0 ≤ x ∧ x ≤ 1 | _ => True
def g_p93 : Nat → Int → Prop := fun j x => match j with | 0 => x = ((94 : Nat) : Int) | 1 => x = ((95 : Nat) : Int) | _ => True
def g_p94 : Nat → Int → Prop := fun j x => match j with | 2 => 0 ≤ x ∧ x ≤ 1 | _ => True
def g_p95 : Nat → Int → Prop := fun j x => match j with | 2 => 0 ≤ x ∧ x ≤ 1 | _ => True
def g_p96 : Nat → Int → Prop := fun j x => match j with | 0 => x = ((97 : Nat) : Int) | 1 => x = ((98 : Nat) : Int) | 2 => 0 ≤ x ∧ x ≤ 3 | 3 => 0 ≤ x ∧ x ≤ 1 | 4 => 0 ≤ x ∧ x ≤ 1 | _ => True
def g_p97 : Nat → Int → Prop := fun _ _ => True
def g_p98 : Nat → Int → Prop := fun _ _ => True
def g_p99 : Nat → Int → Prop := fun j x => match j with | 0 => x = ((100 : Nat) : Int) | _ => True
def g_p100 : Nat → Int → Prop := fun _ _ => True
def g_p101 : Nat → Int → Prop := fun j x => match j with | 0 => x = ((38 : Nat) : Int) | _ => True
def g_p102 : Nat → Int → Prop := fun j x => match j with | 0 => x = ((38 : Nat) : Int) | 1 => x = ((103 : Nat) : Int) | 2 => x = ((104 : Nat) : Int) | 3 => 0 ≤ x ∧ x ≤ 3 | _ => True
def g_p103 : Nat → Int → Prop := fun _ x => 0 ≤ x ∧ x ≤ 31
def g_p104 : Nat → Int → Prop := fun _ _ => True
def g_p105 : Nat → Int → Prop := fun j x => match j with | 0 => x = ((106 : Nat) : Int) | 1 => 0 ≤ x ∧ x ≤ 1 | _ => True
def g_p106 : Nat → Int → Prop := fun _ x => 0 ≤ x ∧ x ≤ 3
def g_p107 : Nat → Int → Prop := fun _ _ => True
def g_p108 : Nat → Int → Prop := fun j x => match j with | 2 => x = ((109 : Nat) : Int) | 3 => x = ((110 : Nat) : Int) | 4 => x = ((111 : Nat) : Int) | 5 => x = ((112 : Nat) : Int) | 7 => x = ((113 : Nat) : Int) | 8 => 0 ≤ x ∧ x ≤ 400 | 9 => 0 ≤ x ∧ x ≤ 400 | 10 => 0 ≤ x ∧ x ≤ 400 | 11 => 0 ≤ x ∧ x ≤ 3 | 14 => 0 ≤ x ∧ x ≤ 1 | 15 => x = ((114 : Nat) : Int) | 16 => 0 ≤ x ∧ x ≤ 200 | 17 => 0 ≤ x ∧ x ≤ 24 | 18 => 0 ≤ x ∧ x ≤ 6 | 19 => x = ((115 : Nat) : Int) | 20 => x = ((116 : Nat) : Int) | 21 => 0 ≤ x ∧ x ≤ 60 | 22 => x = ((117 : Nat) : Int) | 23 => x = ((118 : Nat) : Int) | 24 => x = ((119 : Nat) : Int) | 25 => x = ((120 : Nat) : Int) | 26 => x = ((121 : Nat) : Int) | 27 => x = ((122 : Nat) : Int) | 28 => x = ((123 : Nat) : Int) | 29 => x = ((124 : Nat) : Int) | 30 => x = ((125 : Nat) : Int) | 31 => x = ((126 : Nat) : Int) | 32 => x = ((127 : Nat) : Int) | 33 => x = ((128 : Nat) : Int) | 34 => x = ((129 : Nat) : Int) | 35 => x = ((130 : Nat) : Int) | 36 => x = ((131 : Nat) : Int) | 37 => x = ((132 : Nat) : Int) | 38 => x = ((133 : Nat) : Int) | 39 => x = ((134 : Nat) : Int) | 40 => x = ((135 : Nat) : Int) | 41 => x = ((136 : Nat) : Int) | 42 => x = ((137 : Nat) : Int) | 43 => x = ((138 : Nat) : Int) | 44 => 0 ≤ x ∧ x ≤ 1 | 45 => 0 ≤ x ∧ x ≤ 1 | 46 => 0 ≤ x ∧ x ≤ 1 | 47 => 0 ≤ x ∧ x ≤ 1 | 48 => x = ((139 : Nat) : Int) | 49 => x = ((140 : Nat) : Int) | 50 => x = ((141 : Nat) : Int) | 51 => x = ((142 : Nat) : Int) | 52 => x = ((143 : Nat) : Int) | 53 => x = ((144 : Nat) : Int) | 54 => 0 ≤ x ∧ x ≤ 1 | 55 => 0 ≤ x ∧ x ≤ 1 | 56 => x = ((145 : Nat) : Int) | 57 => x = ((146 : Nat) : Int) | 58 => 0 ≤ x ∧ x ≤ 3 | 59 => x = ((147 : Nat) : Int) | 60 => 0 ≤ x ∧ x ≤ 1 | 61 => -1 ≤ x ∧ x ≤ 31 | 62 => -1 ≤ x ∧ x ≤ 31 | _ => True
def g_p109 : Nat → Int → Prop := fun _ _ => True
def g_p110 : Nat → Int → Prop := fun j x => r_lo j ≤ x ∧ x ≤ r_hi j
def g_p111 : Nat → Int → Prop := fun _ _ => True
def g_p112 : Nat → Int → Prop := fun _ x => 0 ≤ x ∧ x ≤ 1
def g_p113 : Nat → Int → Prop := fun _ x => 0 ≤ x ∧ x ≤ 255
def g_p114 : Nat → Int → Prop := fun _ _ => True
def g_p115 : Nat → Int → Prop := fun _ _ => True
def g_p116 : Nat → Int → Prop := fun _ _ => True
def g_p117 : Nat → Int → Prop := fun _ x => 0 ≤ x ∧ x ≤ 15
def g_p118 : Nat → Int → Prop := fun _ x => 0 ≤ x ∧ x ≤ 15
def g_p119 : Nat → Int → Prop := fun _ x => 0 ≤ x ∧ x ≤ 199
def g_p120 : Nat → Int → Prop := fun _ x => 0 ≤ x ∧ x ≤ 199
def g_p121 : Nat → Int → Prop := fun _ x => 0 ≤ x ∧ x ≤ 1
def g_p122 : Nat → Int → Prop := fun _ x => -1 ≤ x ∧ x ≤ 3
def g_p123 : Nat → Int → Prop := fun _ x => -1 ≤ x ∧ x ≤ 31
def g_p124 : Nat → Int → Prop := fun _ x => 0 ≤ x ∧ x ≤ 99999999
def g_p125 : Nat → Int → Prop := fun _ x => 0 ≤ x ∧ x ≤ 99999999
def g_p126 : Nat → Int → Prop := fun _ x => 0 ≤ x ∧ x ≤ 1
def g_p127 : Nat → Int → Prop := fun _ x => 0 ≤ x ∧ x ≤ 1
def g_p128 : Nat → Int → Prop := fun _ x => 0 ≤ x ∧ x ≤ 99999999
def g_p129 : Nat → Int → Prop := fun _ x => 0 ≤ x ∧ x ≤ 99999999
def g_p130 : Nat → Int → Prop := fun _ x => 0 ≤ x ∧ x ≤ 1
def g_p131 : Nat → Int → Prop := fun _ x => 0 ≤ x ∧ x ≤ 1
def g_p132 : Nat → Int → Prop := fun _ x => 0 ≤ x ∧ x ≤ 99999999
def g_p133 : Nat → Int → Prop := fun _ x => 0 ≤ x ∧ x ≤ 99999999
def g_p134 : Nat → Int → Prop := fun _ x => 0 ≤ x ∧ x ≤ 1
def g_p135 : Nat → Int → Prop := fun _ _ => True
def g_p136 : Nat → Int → Prop := fun _ _ => True
def g_p137 : Nat → Int → Prop := fun _ x => 0 ≤ x ∧ x ≤ 1
def g_p138 : Nat → Int → Prop := fun _ x => 0 ≤ x ∧ x ≤ 99999999
def g_p139 : Nat → Int → Prop := fun _ _ => True
def g_p140 : Nat → Int → Prop := fun _ _ => True
def g_p141 : Nat → Int → Prop := fun _ _ => True
def g_p142 : Nat → Int → Prop := fun _ _ => True
def g_p143 : Nat → Int → Prop := fun _ _ => True
def g_p144 : Nat → Int → Prop := fun _ _ => True
def g_p145 : Nat → Int → Prop := fun _ x => 0 ≤ x ∧ x ≤ 15
def g_p146 : Nat → Int → Prop := fun _ x => 0 ≤ x ∧ x ≤ 31
def g_p147 : Nat → Int → Prop := fun _ x => 0 ≤ x ∧ x ≤ 3
def g_bt : List (Nat × (Nat → Int → Prop)) := [(17, g_p0), (10, g_p1), (32, g_p2), (6, g_p3), (24, g_p4), (24, g_p5), (24, g_p6), (24, g_p7), (16, g_p8), (10, g_p9), (32, g_p10), (6, g_p11), (24, g_p12), (24, g_p13), (24, g_p14), (24, g_p15), (16, g_p16), (2, g_p17), (10, g_p18), (32, g_p19), (6, g_p20), (24, g_p21), (24, g_p22), (24, g_p23), (24, g_p24), (16, g_p25), (10, g_p26), (32, g_p27), (6, g_p28), (24, g_p29), (24, g_p30), (24, g_p31), (24, g_p32), (16, g_p33), (2, g_p34), (2, g_p35), (400, g_p36), (4, g_p37), (6, g_p38), (48, g_p39), (48, g_p40), (48, g_p41), (16, g_p42), (3, g_p43), (3, g_p44), (3, g_p45), (3, g_p46), (3, g_p47), (3, g_p48), (3, g_p49), (3, g_p50), (3, g_p51), (3, g_p52), (3, g_p53), (3, g_p54), (3, g_p55), (3, g_p56), (3, g_p57), (3, g_p58), (16, g_p59), (3, g_p60), (3, g_p61), (3, g_p62), (3, g_p63), (3, g_p64), (3, g_p65), (3, g_p66), (3, g_p67), (3, g_p68), (3, g_p69), (3, g_p70), (3, g_p71), (3, g_p72), (3, g_p73), (3, g_p74), (3, g_p75), (16, g_p76), (3, g_p77), (3, g_p78), (3, g_p79), (3, g_p80), (3, g_p81), (3, g_p82), (3, g_p83), (3, g_p84), (3, g_p85), (3, g_p86), (3, g_p87), (3, g_p88), (3, g_p89), (3, g_p90), (3, g_p91), (3, g_p92), (2, g_p93), (3, g_p94), (3, g_p95), (5, g_p96), (3, g_p97), (3, g_p98), (1, g_p99), (16, g_p100), (4, g_p101), (5, g_p102), (3, g_p103), (12, g_p104), (4, g_p105), (32, g_p106), (5, g_p107), (63, g_p108), (7, g_p109), (200, g_p110), (400, g_p111), (2, g_p112), (400, g_p113), (1000, g_p114), (10, g_p115), (10, g_p116), (60, g_p117), (60, g_p118), (60, g_p119), (60, g_p120), (60, g_p121), (32, g_p122), (6, g_p123), (80, g_p124), (80, g_p125), (16, g_p126), (16, g_p127), (80, g_p128), (80, g_p129), (16, g_p130), (16, g_p131), (5, g_p132), (5, g_p133), (256, g_p134), (10, g_p135), (10, g_p136), (5, g_p137), (20, g_p138), (10, g_p139), (10, g_p140), (10, g_p141), (10, g_p142), (3, g_p143), (3, g_p144), (16, g_p145), (3, g_p146), (32, g_p147)]
def g_X (h : m_H) : Prop := ∀ k, k < 2 → h 112 k ≠ 0 → ∀ i, i < 200 → r_lo i ≤ h 111 (200 * k + i) ∧ h 111 (200 * k + i) ≤ r_hi i
def GI (h : m_H) : Prop := (∀ (k : Nat) (q : Nat × (Nat → Int → Prop)), g_bt[k]? = some q → ∀ j, j < q.1 → q.2 j (h k j)) ∧ g_X h
theorem GI.up {h : m_H} {k j : Nat} {v : Int} {q : Nat × (Nat → Int → Prop)} (G : GI h) (hk : g_bt[k]? = some q) (hv : q.2 j v) (hne : k ≠ 111 ∧ k ≠ 112) : GI (m_up h k j v) := by
  refine ⟨fun a p ha b hb => ?_, fun a ha z i hi => ?_⟩
  · by_cases hab : a = k ∧ b = j
    · obtain ⟨rfl, rfl⟩ := hab
      cases hk.symm.trans ha
      rw [m_up_eq]; exact hv
    · rw [m_up_ne hab]; exact G.1 a p ha b hb
  · rw [m_up_ne1 (Ne.symm hne.2)] at z
    rw [m_up_ne1 (Ne.symm hne.1)]
    exact G.2 a ha z i hi
theorem g_0_0 {h : m_H} (G : GI h) : h 0 0 = ((1 : Nat) : Int) := G.1 0 (17, g_p0) rfl 0 (by decide)
theorem g_0_1 {h : m_H} (G : GI h) : h 0 1 = ((9 : Nat) : Int) := G.1 0 (17, g_p0) rfl 1 (by decide)
theorem g_0_2 {h : m_H} (G : GI h) : h 0 2 = ((17 : Nat) : Int) := G.1 0 (17, g_p0) rfl 2 (by decide)
theorem g_0_3 {h : m_H} (G : GI h) : h 0 3 = ((34 : Nat) : Int) := G.1 0 (17, g_p0) rfl 3 (by decide)
theorem g_0_4 {h : m_H} (G : GI h) : h 0 4 = ((35 : Nat) : Int) := G.1 0 (17, g_p0) rfl 4 (by decide)
theorem g_0_5 {h : m_H} (G : GI h) : h 0 5 = ((37 : Nat) : Int) := G.1 0 (17, g_p0) rfl 5 (by decide)
theorem g_0_6 {h : m_H} (G : GI h) : h 0 6 = ((38 : Nat) : Int) := G.1 0 (17, g_p0) rfl 6 (by decide)
theorem g_0_7 {h : m_H} (G : GI h) : h 0 7 = ((93 : Nat) : Int) := G.1 0 (17, g_p0) rfl 7 (by decide)
theorem g_0_8 {h : m_H} (G : GI h) : h 0 8 = ((96 : Nat) : Int) := G.1 0 (17, g_p0) rfl 8 (by decide)
theorem g_0_9 {h : m_H} (G : GI h) : h 0 9 = ((99 : Nat) : Int) := G.1 0 (17, g_p0) rfl 9 (by decide)
theorem g_0_10 {h : m_H} (G : GI h) : h 0 10 = ((101 : Nat) : Int) := G.1 0 (17, g_p0) rfl 10 (by decide)
theorem g_0_11 {h : m_H} (G : GI h) : h 0 11 = ((102 : Nat) : Int) := G.1 0 (17, g_p0) rfl 11 (by decide)
theorem g_0_12 {h : m_H} (G : GI h) : h 0 12 = ((105 : Nat) : Int) := G.1 0 (17, g_p0) rfl 12 (by decide)
theorem g_0_13 {h : m_H} (G : GI h) : h 0 13 = ((107 : Nat) : Int) := G.1 0 (17, g_p0) rfl 13 (by decide)
theorem u_0_14 {h : m_H} (G : GI h) {v : Int} : GI (m_up h 0 14 v) := G.up (q := (17, g_p0)) rfl trivial (by decide)
theorem u_0_15 {h : m_H} (G : GI h) {v : Int} : GI (m_up h 0 15 v) := G.up (q := (17, g_p0)) rfl trivial (by decide)
theorem u_0_16 {h : m_H} (G : GI h) {v : Int} : GI (m_up h 0 16 v) := G.up (q := (17, g_p0)) rfl trivial (by decide)
theorem g_1_0 {h : m_H} (G : GI h) : h 1 0 = ((2 : Nat) : Int) := G.1 1 (10, g_p1) rfl 0 (by decide)
theorem g_1_1 {h : m_H} (G : GI h) : h 1 1 = ((3 : Nat) : Int) := G.1 1 (10, g_p1) rfl 1 (by decide)
theorem g_1_2 {h : m_H} (G : GI h) : h 1 2 = ((4 : Nat) : Int) := G.1 1 (10, g_p1) rfl 2 (by decide)
theorem g_1_3 {h : m_H} (G : GI h) : h 1 3 = ((5 : Nat) : Int) := G.1 1 (10, g_p1) rfl 3 (by decide)
theorem g_1_4 {h : m_H} (G : GI h) : h 1 4 = ((6 : Nat) : Int) := G.1 1 (10, g_p1) rfl 4 (by decide)
theorem g_1_5 {h : m_H} (G : GI h) : h 1 5 = ((7 : Nat) : Int) := G.1 1 (10, g_p1) rfl 5 (by decide)
theorem g_1_6 {h : m_H} (G : GI h) : h 1 6 = ((8 : Nat) : Int) := G.1 1 (10, g_p1) rfl 6 (by decide)
theorem g_1_7 {h : m_H} (G : GI h) : (0 : Int) ≤ h 1 7 ∧ h 1 7 ≤ 24 := G.1 1 (10, g_p1) rfl 7 (by decide)
theorem u_1_7 {h : m_H} (G : GI h) {v : Int} (h1 : (0 : Int) ≤ v) (h2 : v ≤ 24) : GI (m_up h 1 7 v) := G.up (q := (10, g_p1)) rfl ⟨h1, h2⟩ (by decide)
theorem u_1_8 {h : m_H} (G : GI h) {v : Int} : GI (m_up h 1 8 v) := G.up (q := (10, g_p1)) rfl trivial (by decide)
theorem u_1_9 {h : m_H} (G : GI h) {v : Int} : GI (m_up h 1 9 v) := G.up (q := (10, g_p1)) rfl trivial (by decide)
theorem g_2 {h : m_H} (G : GI h) {j : Nat} (hj : j < 32) : (-1 : Int) ≤ h 2 j ∧ h 2 j ≤ 3 := G.1 2 (32, g_p2) rfl j hj
theorem u_2 {h : m_H} (G : GI h) {j : Nat} {v : Int} (h1 : (-1 : Int) ≤ v) (h2 : v ≤ 3) : GI (m_up h 2 j v) := G.up (q := (32, g_p2)) rfl ⟨h1, h2⟩ (by decide)
theorem g_3 {h : m_H} (G : GI h) {j : Nat} (hj : j < 6) : (-1 : Int) ≤ h 3 j ∧ h 3 j ≤ 31 := G.1 3 (6, g_p3) rfl j hj
theorem u_3 {h : m_H} (G : GI h) {j : Nat} {v : Int} (h1 : (-1 : Int) ≤ v) (h2 : v ≤ 31) : GI (m_up h 3 j v) := G.up (q := (6, g_p3)) rfl ⟨h1, h2⟩ (by decide)
theorem g_4 {h : m_H} (G : GI h) {j : Nat} (hj : j < 24) : (0 : Int) ≤ h 4 j ∧ h 4 j ≤ 5 := G.1 4 (24, g_p4) rfl j hj
theorem u_4 {h : m_H} (G : GI h) {j : Nat} {v : Int} (h1 : (0 : Int) ≤ v) (h2 : v ≤ 5) : GI (m_up h 4 j v) := G.up (q := (24, g_p4)) rfl ⟨h1, h2⟩ (by decide)
theorem g_5 {h : m_H} (G : GI h) {j : Nat} (hj : j < 24) : (0 : Int) ≤ h 5 j ∧ h 5 j ≤ 31 := G.1 5 (24, g_p5) rfl j hj
theorem u_5 {h : m_H} (G : GI h) {j : Nat} {v : Int} (h1 : (0 : Int) ≤ v) (h2 : v ≤ 31) : GI (m_up h 5 j v) := G.up (q := (24, g_p5)) rfl ⟨h1, h2⟩ (by decide)
theorem g_6 {h : m_H} (G : GI h) {j : Nat} (hj : j < 24) : (0 : Int) ≤ h 6 j ∧ h 6 j ≤ 99 := G.1 6 (24, g_p6) rfl j hj
theorem u_6 {h : m_H} (G : GI h) {j : Nat} {v : Int} (h1 : (0 : Int) ≤ v) (h2 : v ≤ 99) : GI (m_up h 6 j v) := G.up (q := (24, g_p6)) rfl ⟨h1, h2⟩ (by decide)
theorem g_7 {h : m_H} (G : GI h) {j : Nat} (hj : j < 24) : (0 : Int) ≤ h 7 j ∧ h 7 j ≤ 2 := G.1 7 (24, g_p7) rfl j hj
theorem u_7 {h : m_H} (G : GI h) {j : Nat} {v : Int} (h1 : (0 : Int) ≤ v) (h2 : v ≤ 2) : GI (m_up h 7 j v) := G.up (q := (24, g_p7)) rfl ⟨h1, h2⟩ (by decide)
theorem g_8 {h : m_H} (G : GI h) {j : Nat} (hj : j < 16) : (1 : Int) ≤ h 8 j ∧ h 8 j ≤ 9999 := G.1 8 (16, g_p8) rfl j hj
theorem u_8 {h : m_H} (G : GI h) {j : Nat} {v : Int} (h1 : (1 : Int) ≤ v) (h2 : v ≤ 9999) : GI (m_up h 8 j v) := G.up (q := (16, g_p8)) rfl ⟨h1, h2⟩ (by decide)
theorem g_9_0 {h : m_H} (G : GI h) : h 9 0 = ((10 : Nat) : Int) := G.1 9 (10, g_p9) rfl 0 (by decide)
theorem g_9_1 {h : m_H} (G : GI h) : h 9 1 = ((11 : Nat) : Int) := G.1 9 (10, g_p9) rfl 1 (by decide)
theorem g_9_2 {h : m_H} (G : GI h) : h 9 2 = ((12 : Nat) : Int) := G.1 9 (10, g_p9) rfl 2 (by decide)
theorem g_9_3 {h : m_H} (G : GI h) : h 9 3 = ((13 : Nat) : Int) := G.1 9 (10, g_p9) rfl 3 (by decide)
theorem g_9_4 {h : m_H} (G : GI h) : h 9 4 = ((14 : Nat) : Int) := G.1 9 (10, g_p9) rfl 4 (by decide)
theorem g_9_5 {h : m_H} (G : GI h) : h 9 5 = ((15 : Nat) : Int) := G.1 9 (10, g_p9) rfl 5 (by decide)
theorem g_9_6 {h : m_H} (G : GI h) : h 9 6 = ((16 : Nat) : Int) := G.1 9 (10, g_p9) rfl 6 (by decide)
theorem g_9_7 {h : m_H} (G : GI h) : (0 : Int) ≤ h 9 7 ∧ h 9 7 ≤ 24 := G.1 9 (10, g_p9) rfl 7 (by decide)
theorem u_9_7 {h : m_H} (G : GI h) {v : Int} (h1 : (0 : Int) ≤ v) (h2 : v ≤ 24) : GI (m_up h 9 7 v) := G.up (q := (10, g_p9)) rfl ⟨h1, h2⟩ (by decide)
theorem u_9_8 {h : m_H} (G : GI h) {v : Int} : GI (m_up h 9 8 v) := G.up (q := (10, g_p9)) rfl trivial (by decide)
theorem u_9_9 {h : m_H} (G : GI h) {v : Int} : GI (m_up h 9 9 v) := G.up (q := (10, g_p9)) rfl trivial (by decide)
theorem g_10 {h : m_H} (G : GI h) {j : Nat} (hj : j < 32) : (-1 : Int) ≤ h 10 j ∧ h 10 j ≤ 3 := G.1 10 (32, g_p10) rfl j hj
theorem u_10 {h : m_H} (G : GI h) {j : Nat} {v : Int} (h1 : (-1 : Int) ≤ v) (h2 : v ≤ 3) : GI (m_up h 10 j v) := G.up (q := (32, g_p10)) rfl ⟨h1, h2⟩ (by decide)
theorem g_11 {h : m_H} (G : GI h) {j : Nat} (hj : j < 6) : (-1 : Int) ≤ h 11 j ∧ h 11 j ≤ 31 := G.1 11 (6, g_p11) rfl j hj
theorem u_11 {h : m_H} (G : GI h) {j : Nat} {v : Int} (h1 : (-1 : Int) ≤ v) (h2 : v ≤ 31) : GI (m_up h 11 j v) := G.up (q := (6, g_p11)) rfl ⟨h1, h2⟩ (by decide)
theorem g_12 {h : m_H} (G : GI h) {j : Nat} (hj : j < 24) : (0 : Int) ≤ h 12 j ∧ h 12 j ≤ 5 := G.1 12 (24, g_p12) rfl j hj
theorem u_12 {h : m_H} (G : GI h) {j : Nat} {v : Int} (h1 : (0 : Int) ≤ v) (h2 : v ≤ 5) : GI (m_up h 12 j v) := G.up (q := (24, g_p12)) rfl ⟨h1, h2⟩ (by decide)
theorem g_13 {h : m_H} (G : GI h) {j : Nat} (hj : j < 24) : (0 : Int) ≤ h 13 j ∧ h 13 j ≤ 31 := G.1 13 (24, g_p13) rfl j hj
theorem u_13 {h : m_H} (G : GI h) {j : Nat} {v : Int} (h1 : (0 : Int) ≤ v) (h2 : v ≤ 31) : GI (m_up h 13 j v) := G.up (q := (24, g_p13)) rfl ⟨h1, h2⟩ (by decide)
theorem g_14 {h : m_H} (G : GI h) {j : Nat} (hj : j < 24) : (0 : Int) ≤ h 14 j ∧ h 14 j ≤ 99 := G.1 14 (24, g_p14) rfl j hj
theorem u_14 {h : m_H} (G : GI h) {j : Nat} {v : Int} (h1 : (0 : Int) ≤ v) (h2 : v ≤ 99) : GI (m_up h 14 j v) := G.up (q := (24, g_p14)) rfl ⟨h1, h2⟩ (by decide)
theorem g_15 {h : m_H} (G : GI h) {j : Nat} (hj : j < 24) : (0 : Int) ≤ h 15 j ∧ h 15 j ≤ 2 := G.1 15 (24, g_p15) rfl j hj
theorem u_15 {h : m_H} (G : GI h) {j : Nat} {v : Int} (h1 : (0 : Int) ≤ v) (h2 : v ≤ 2) : GI (m_up h 15 j v) := G.up (q := (24, g_p15)) rfl ⟨h1, h2⟩ (by decide)
theorem g_16 {h : m_H} (G : GI h) {j : Nat} (hj : j < 16) : (1 : Int) ≤ h 16 j ∧ h 16 j ≤ 9999 := G.1 16 (16, g_p16) rfl j hj
theorem u_16 {h : m_H} (G : GI h) {j : Nat} {v : Int} (h1 : (1 : Int) ≤ v) (h2 : v ≤ 9999) : GI (m_up h 16 j v) := G.up (q := (16, g_p16)) rfl ⟨h1, h2⟩ (by decide)
theorem g_17 {h : m_H} (G : GI h) {j : Nat} (hj : j < 2) : h 17 j = ((18 + 8 * j : Nat) : Int) := G.1 17 (2, g_p17) rfl j hj
theorem g_18_0 {h : m_H} (G : GI h) : h 18 0 = ((19 : Nat) : Int) := G.1 18 (10, g_p18) rfl 0 (by decide)
theorem g_18_1 {h : m_H} (G : GI h) : h 18 1 = ((20 : Nat) : Int) := G.1 18 (10, g_p18) rfl 1 (by decide)
theorem g_18_2 {h : m_H} (G : GI h) : h 18 2 = ((21 : Nat) : Int) := G.1 18 (10, g_p18) rfl 2 (by decide)
theorem g_18_3 {h : m_H} (G : GI h) : h 18 3 = ((22 : Nat) : Int) := G.1 18 (10, g_p18) rfl 3 (by decide)
theorem g_18_4 {h : m_H} (G : GI h) : h 18 4 = ((23 : Nat) : Int) := G.1 18 (10, g_p18) rfl 4 (by decide)
theorem g_18_5 {h : m_H} (G : GI h) : h 18 5 = ((24 : Nat) : Int) := G.1 18 (10, g_p18) rfl 5 (by decide)
theorem g_18_6 {h : m_H} (G : GI h) : h 18 6 = ((25 : Nat) : Int) := G.1 18 (10, g_p18) rfl 6 (by decide)
theorem g_18_7 {h : m_H} (G : GI h) : (0 : Int) ≤ h 18 7 ∧ h 18 7 ≤ 24 := G.1 18 (10, g_p18) rfl 7 (by decide)
theorem u_18_7 {h : m_H} (G : GI h) {v : Int} (h1 : (0 : Int) ≤ v) (h2 : v ≤ 24) : GI (m_up h 18 7 v) := G.up (q := (10, g_p18)) rfl ⟨h1, h2⟩ (by decide)
theorem u_18_8 {h : m_H} (G : GI h) {v : Int} : GI (m_up h 18 8 v) := G.up (q := (10, g_p18)) rfl trivial (by decide)
theorem u_18_9 {h : m_H} (G : GI h) {v : Int} : GI (m_up h 18 9 v) := G.up (q := (10, g_p18)) rfl trivial (by decide)
theorem g_19 {h : m_H} (G : GI h) {j : Nat} (hj : j < 32) : (-1 : Int) ≤ h 19 j ∧ h 19 j ≤ 3 := G.1 19 (32, g_p19) rfl j hj
theorem u_19 {h : m_H} (G : GI h) {j : Nat} {v : Int} (h1 : (-1 : Int) ≤ v) (h2 : v ≤ 3) : GI (m_up h 19 j v) := G.up (q := (32, g_p19)) rfl ⟨h1, h2⟩ (by decide)
theorem g_20 {h : m_H} (G : GI h) {j : Nat} (hj : j < 6) : (-1 : Int) ≤ h 20 j ∧ h 20 j ≤ 31 := G.1 20 (6, g_p20) rfl j hj
theorem u_20 {h : m_H} (G : GI h) {j : Nat} {v : Int} (h1 : (-1 : Int) ≤ v) (h2 : v ≤ 31) : GI (m_up h 20 j v) := G.up (q := (6, g_p20)) rfl ⟨h1, h2⟩ (by decide)
theorem g_21 {h : m_H} (G : GI h) {j : Nat} (hj : j < 24) : (0 : Int) ≤ h 21 j ∧ h 21 j ≤ 5 := G.1 21 (24, g_p21) rfl j hj
theorem u_21 {h : m_H} (G : GI h) {j : Nat} {v : Int} (h1 : (0 : Int) ≤ v) (h2 : v ≤ 5) : GI (m_up h 21 j v) := G.up (q := (24, g_p21)) rfl ⟨h1, h2⟩ (by decide)
theorem g_22 {h : m_H} (G : GI h) {j : Nat} (hj : j < 24) : (0 : Int) ≤ h 22 j ∧ h 22 j ≤ 31 := G.1 22 (24, g_p22) rfl j hj
theorem u_22 {h : m_H} (G : GI h) {j : Nat} {v : Int} (h1 : (0 : Int) ≤ v) (h2 : v ≤ 31) : GI (m_up h 22 j v) := G.up (q := (24, g_p22)) rfl ⟨h1, h2⟩ (by decide)
theorem g_23 {h : m_H} (G : GI h) {j : Nat} (hj : j < 24) : (0 : Int) ≤ h 23 j ∧ h 23 j ≤ 99 := G.1 23 (24, g_p23) rfl j hj
theorem u_23 {h : m_H} (G : GI h) {j : Nat} {v : Int} (h1 : (0 : Int) ≤ v) (h2 : v ≤ 99) : GI (m_up h 23 j v) := G.up (q := (24, g_p23)) rfl ⟨h1, h2⟩ (by decide)
theorem g_24 {h : m_H} (G : GI h) {j : Nat} (hj : j < 24) : (0 : Int) ≤ h 24 j ∧ h 24 j ≤ 2 := G.1 24 (24, g_p24) rfl j hj
theorem u_24 {h : m_H} (G : GI h) {j : Nat} {v : Int} (h1 : (0 : Int) ≤ v) (h2 : v ≤ 2) : GI (m_up h 24 j v) := G.up (q := (24, g_p24)) rfl ⟨h1, h2⟩ (by decide)
theorem g_25 {h : m_H} (G : GI h) {j : Nat} (hj : j < 16) : (1 : Int) ≤ h 25 j ∧ h 25 j ≤ 9999 := G.1 25 (16, g_p25) rfl j hj
theorem u_25 {h : m_H} (G : GI h) {j : Nat} {v : Int} (h1 : (1 : Int) ≤ v) (h2 : v ≤ 9999) : GI (m_up h 25 j v) := G.up (q := (16, g_p25)) rfl ⟨h1, h2⟩ (by decide)
theorem g_26_0 {h : m_H} (G : GI h) : h 26 0 = ((27 : Nat) : Int) := G.1 26 (10, g_p26) rfl 0 (by decide)
theorem g_26_1 {h : m_H} (G : GI h) : h 26 1 = ((28 : Nat) : Int) := G.1 26 (10, g_p26) rfl 1 (by decide)
theorem g_26_2 {h : m_H} (G : GI h) : h 26 2 = ((29 : Nat) : Int) := G.1 26 (10, g_p26) rfl 2 (by decide)
theorem g_26_3 {h : m_H} (G : GI h) : h 26 3 = ((30 : Nat) : Int) := G.1 26 (10, g_p26) rfl 3 (by decide)
theorem g_26_4 {h : m_H} (G : GI h) : h 26 4 = ((31 : Nat) : Int) := G.1 26 (10, g_p26) rfl 4 (by decide)
theorem g_26_5 {h : m_H} (G : GI h) : h 26 5 = ((32 : Nat) : Int) := G.1 26 (10, g_p26) rfl 5 (by decide)
theorem g_26_6 {h : m_H} (G : GI h) : h 26 6 = ((33 : Nat) : Int) := G.1 26 (10, g_p26) rfl 6 (by decide)
theorem g_26_7 {h : m_H} (G : GI h) : (0 : Int) ≤ h 26 7 ∧ h 26 7 ≤ 24 := G.1 26 (10, g_p26) rfl 7 (by decide)
theorem u_26_7 {h : m_H} (G : GI h) {v : Int} (h1 : (0 : Int) ≤ v) (h2 : v ≤ 24) : GI (m_up h 26 7 v) := G.up (q := (10, g_p26)) rfl ⟨h1, h2⟩ (by decide)
theorem u_26_8 {h : m_H} (G : GI h) {v : Int} : GI (m_up h 26 8 v) := G.up (q := (10, g_p26)) rfl trivial (by decide)
theorem u_26_9 {h : m_H} (G : GI h) {v : Int} : GI (m_up h 26 9 v) := G.up (q := (10, g_p26)) rfl trivial (by decide)
theorem g_27 {h : m_H} (G : GI h) {j : Nat} (hj : j < 32) : (-1 : Int) ≤ h 27 j ∧ h 27 j ≤ 3 := G.1 27 (32, g_p27) rfl j hj
theorem u_27 {h : m_H} (G : GI h) {j : Nat} {v : Int} (h1 : (-1 : Int) ≤ v) (h2 : v ≤ 3) : GI (m_up h 27 j v) := G.up (q := (32, g_p27)) rfl ⟨h1, h2⟩ (by decide)
theorem g_28 {h : m_H} (G : GI h) {j : Nat} (hj : j < 6) : (-1 : Int) ≤ h 28 j ∧ h 28 j ≤ 31 := G.1 28 (6, g_p28) rfl j hj
theorem u_28 {h : m_H} (G : GI h) {j : Nat} {v : Int} (h1 : (-1 : Int) ≤ v) (h2 : v ≤ 31) : GI (m_up h 28 j v) := G.up (q := (6, g_p28)) rfl ⟨h1, h2⟩ (by decide)
theorem g_29 {h : m_H} (G : GI h) {j : Nat} (hj : j < 24) : (0 : Int) ≤ h 29 j ∧ h 29 j ≤ 5 := G.1 29 (24, g_p29) rfl j hj
theorem u_29 {h : m_H} (G : GI h) {j : Nat} {v : Int} (h1 : (0 : Int) ≤ v) (h2 : v ≤ 5) : GI (m_up h 29 j v) := G.up (q := (24, g_p29)) rfl ⟨h1, h2⟩ (by decide)
theorem g_30 {h : m_H} (G : GI h) {j : Nat} (hj : j < 24) : (0 : Int) ≤ h 30 j ∧ h 30 j ≤ 31 := G.1 30 (24, g_p30) rfl j hj
theorem u_30 {h : m_H} (G : GI h) {j : Nat} {v : Int} (h1 : (0 : Int) ≤ v) (h2 : v ≤ 31) : GI (m_up h 30 j v) := G.up (q := (24, g_p30)) rfl ⟨h1, h2⟩ (by decide)
theorem g_31 {h : m_H} (G : GI h) {j : Nat} (hj : j < 24) : (0 : Int) ≤ h 31 j ∧ h 31 j ≤ 99 := G.1 31 (24, g_p31) rfl j hj
theorem u_31 {h : m_H} (G : GI h) {j : Nat} {v : Int} (h1 : (0 : Int) ≤ v) (h2 : v ≤ 99) : GI (m_up h 31 j v) := G.up (q := (24, g_p31)) rfl ⟨h1, h2⟩ (by decide)
theorem g_32 {h : m_H} (G : GI h) {j : Nat} (hj : j < 24) : (0 : Int) ≤ h 32 j ∧ h 32 j ≤ 2 := G.1 32 (24, g_p32) rfl j hj
theorem u_32 {h : m_H} (G : GI h) {j : Nat} {v : Int} (h1 : (0 : Int) ≤ v) (h2 : v ≤ 2) : GI (m_up h 32 j v) := G.up (q := (24, g_p32)) rfl ⟨h1, h2⟩ (by decide)
theorem g_33 {h : m_H} (G : GI h) {j : Nat} (hj : j < 16) : (1 : Int) ≤ h 33 j ∧ h 33 j ≤ 9999 := G.1 33 (16, g_p33) rfl j hj
theorem u_33 {h : m_H} (G : GI h) {j : Nat} {v : Int} (h1 : (1 : Int) ≤ v) (h2 : v ≤ 9999) : GI (m_up h 33 j v) := G.up (q := (16, g_p33)) rfl ⟨h1, h2⟩ (by decide)
theorem g_34 {h : m_H} (G : GI h) {j : Nat} (hj : j < 2) : (0 : Int) ≤ h 34 j ∧ h 34 j ≤ 1 := G.1 34 (2, g_p34) rfl j hj
theorem u_34 {h : m_H} (G : GI h) {j : Nat} {v : Int} (h1 : (0 : Int) ≤ v) (h2 : v ≤ 1) : GI (m_up h 34 j v) := G.up (q := (2, g_p34)) rfl ⟨h1, h2⟩ (by decide)
theorem g_35_0 {h : m_H} (G : GI h) : h 35 0 = ((36 : Nat) : Int) := G.1 35 (2, g_p35) rfl 0 (by decide)
theorem g_35_1 {h : m_H} (G : GI h) : (0 : Int) ≤ h 35 1 ∧ h 35 1 ≤ 400 := G.1 35 (2, g_p35) rfl 1 (by decide)
theorem u_35_1 {h : m_H} (G : GI h) {v : Int} (h1 : (0 : Int) ≤ v) (h2 : v ≤ 400) : GI (m_up h 35 1 v) := G.up (q := (2, g_p35)) rfl ⟨h1, h2⟩ (by decide)
theorem g_36 {h : m_H} (G : GI h) {j : Nat} (hj : j < 400) : (0 : Int) ≤ h 36 j ∧ h 36 j ≤ 255 := G.1 36 (400, g_p36) rfl j hj
theorem u_36 {h : m_H} (G : GI h) {j : Nat} {v : Int} (h1 : (0 : Int) ≤ v) (h2 : v ≤ 255) : GI (m_up h 36 j v) := G.up (q := (400, g_p36)) rfl ⟨h1, h2⟩ (by decide)
theorem g_37_0 {h : m_H} (G : GI h) : h 37 0 = ((35 : Nat) : Int) := G.1 37 (4, g_p37) rfl 0 (by decide)
theorem g_37_1 {h : m_H} (G : GI h) : (0 : Int) ≤ h 37 1 ∧ h 37 1 ≤ 400 := G.1 37 (4, g_p37) rfl 1 (by decide)
theorem u_37_1 {h : m_H} (G : GI h) {v : Int} (h1 : (0 : Int) ≤ v) (h2 : v ≤ 400) : GI (m_up h 37 1 v) := G.up (q := (4, g_p37)) rfl ⟨h1, h2⟩ (by decide)
theorem g_37_2 {h : m_H} (G : GI h) : (0 : Int) ≤ h 37 2 ∧ h 37 2 ≤ 400 := G.1 37 (4, g_p37) rfl 2 (by decide)
theorem u_37_2 {h : m_H} (G : GI h) {v : Int} (h1 : (0 : Int) ≤ v) (h2 : v ≤ 400) : GI (m_up h 37 2 v) := G.up (q := (4, g_p37)) rfl ⟨h1, h2⟩ (by decide)
theorem u_37_3 {h : m_H} (G : GI h) {v : Int} : GI (m_up h 37 3 v) := G.up (q := (4, g_p37)) rfl trivial (by decide)
theorem g_38_0 {h : m_H} (G : GI h) : h 38 0 = ((39 : Nat) : Int) := G.1 38 (6, g_p38) rfl 0 (by decide)
theorem g_38_1 {h : m_H} (G : GI h) : h 38 1 = ((40 : Nat) : Int) := G.1 38 (6, g_p38) rfl 1 (by decide)
theorem g_38_2 {h : m_H} (G : GI h) : h 38 2 = ((41 : Nat) : Int) := G.1 38 (6, g_p38) rfl 2 (by decide)
theorem g_38_3 {h : m_H} (G : GI h) : h 38 3 = ((42 : Nat) : Int) := G.1 38 (6, g_p38) rfl 3 (by decide)
theorem g_38_4 {h : m_H} (G : GI h) : h 38 4 = ((59 : Nat) : Int) := G.1 38 (6, g_p38) rfl 4 (by decide)
theorem g_38_5 {h : m_H} (G : GI h) : h 38 5 = ((76 : Nat) : Int) := G.1 38 (6, g_p38) rfl 5 (by decide)
theorem u_39 {h : m_H} (G : GI h) {j : Nat} {v : Int} : GI (m_up h 39 j v) := G.up (q := (48, g_p39)) rfl trivial (by decide)
theorem g_40 {h : m_H} (G : GI h) {j : Nat} (hj : j < 48) : (0 : Int) ≤ h 40 j ∧ h 40 j ≤ 1 := G.1 40 (48, g_p40) rfl j hj
theorem u_40 {h : m_H} (G : GI h) {j : Nat} {v : Int} (h1 : (0 : Int) ≤ v) (h2 : v ≤ 1) : GI (m_up h 40 j v) := G.up (q := (48, g_p40)) rfl ⟨h1, h2⟩ (by decide)
theorem u_41 {h : m_H} (G : GI h) {j : Nat} {v : Int} : GI (m_up h 41 j v) := G.up (q := (48, g_p41)) rfl trivial (by decide)
theorem g_42 {h : m_H} (G : GI h) {j : Nat} (hj : j < 16) : h 42 j = ((43 + j : Nat) : Int) := G.1 42 (16, g_p42) rfl j hj
theorem u_43_0 {h : m_H} (G : GI h) {v : Int} : GI (m_up h 43 0 v) := G.up (q := (3, g_p43)) rfl trivial (by decide)
theorem u_43_1 {h : m_H} (G : GI h) {v : Int} : GI (m_up h 43 1 v) := G.up (q := (3, g_p43)) rfl trivial (by decide)
theorem g_43_2 {h : m_H} (G : GI h) : (0 : Int) ≤ h 43 2 ∧ h 43 2 ≤ 1 := G.1 43 (3, g_p43) rfl 2 (by decide)
theorem u_43_2 {h : m_H} (G : GI h) {v : Int} (h1 : (0 : Int) ≤ v) (h2 : v ≤ 1) : GI (m_up h 43 2 v) := G.up (q := (3, g_p43)) rfl ⟨h1, h2⟩ (by decide)
theorem u_44_0 {h : m_H} (G : GI h) {v : Int} : GI (m_up h 44 0 v) := G.up (q := (3, g_p44)) rfl trivial (by decide)
theorem u_44_1 {h : m_H} (G : GI h) {v : Int} : GI (m_up h 44 1 v) := G.up (q := (3, g_p44)) rfl trivial (by decide)
theorem g_44_2 {h : m_H} (G : GI h) : (0 : Int) ≤ h 44 2 ∧ h 44 2 ≤ 1 := G.1 44 (3, g_p44) rfl 2 (by decide)
theorem u_44_2 {h : m_H} (G : GI h) {v : Int} (h1 : (0 : Int) ≤ v) (h2 : v ≤ 1) : GI (m_up h 44 2 v) := G.up (q := (3, g_p44)) rfl ⟨h1, h2⟩ (by decide)
theorem u_45_0 {h : m_H} (G : GI h) {v : Int} : GI (m_up h 45 0 v) := G.up (q := (3, g_p45)) rfl trivial (by decide)
theorem u_45_1 {h : m_H} (G : GI h) {v : Int} : GI (m_up h 45 1 v) := G.up (q := (3, g_p45)) rfl trivial (by decide)
theorem g_45_2 {h : m_H} (G : GI h) : (0 : Int) ≤ h 45 2 ∧ h 45 2 ≤ 1 := G.1 45 (3, g_p45) rfl 2 (by decide)
theorem u_45_2 {h : m_H} (G : GI h) {v : Int} (h1 : (0 : Int) ≤ v) (h2 : v ≤ 1) : GI (m_up h 45 2 v) := G.up (q := (3, g_p45)) rfl ⟨h1, h2⟩ (by decide)
theorem u_46_0 {h : m_H} (G : GI h) {v : Int} : GI (m_up h 46 0 v) := G.up (q := (3, g_p46)) rfl trivial (by decide)
theorem u_46_1 {h : m_H} (G : GI h) {v : Int} : GI (m_up h 46 1 v) := G.up (q := (3, g_p46)) rfl trivial (by decide)
theorem g_46_2 {h : m_H} (G : GI h) : (0 : Int) ≤ h 46 2 ∧ h 46 2 ≤ 1 := G.1 46 (3, g_p46) rfl 2 (by decide)
theorem u_46_2 {h : m_H} (G : GI h) {v : Int} (h1 : (0 : Int) ≤ v) (h2 : v ≤ 1) : GI (m_up h 46 2 v) := G.up (q := (3, g_p46)) rfl ⟨h1, h2⟩ (by decide)
theorem u_47_0 {h : m_H} (G : GI h) {v : Int} : GI (m_up h 47 0 v) := G.up (q := (3, g_p47)) rfl trivial (by decide)
theorem u_47_1 {h : m_H} (G : GI h) {v : Int} : GI (m_up h 47 1 v) := G.up (q := (3, g_p47)) rfl trivial (by decide)
theorem g_47_2 {h : m_H} (G : GI h) : (0 : Int) ≤ h 47 2 ∧ h 47 2 ≤ 1 := G.1 47 (3, g_p47) rfl 2 (by decide)
theorem u_47_2 {h : m_H} (G : GI h) {v : Int} (h1 : (0 : Int) ≤ v) (h2 : v ≤ 1) : GI (m_up h 47 2 v) := G.up (q := (3, g_p47)) rfl ⟨h1, h2⟩ (by decide)
theorem u_48_0 {h : m_H} (G : GI h) {v : Int} : GI (m_up h 48 0 v) := G.up (q := (3, g_p48)) rfl trivial (by decide)
theorem u_48_1 {h : m_H} (G : GI h) {v : Int} : GI (m_up h 48 1 v) := G.up (q := (3, g_p48)) rfl trivial (by decide)
theorem g_48_2 {h : m_H} (G : GI h) : (0 : Int) ≤ h 48 2 ∧ h 48 2 ≤ 1 := G.1 48 (3, g_p48) rfl 2 (by decide)
theorem u_48_2 {h : m_H} (G : GI h) {v : Int} (h1 : (0 : Int) ≤ v) (h2 : v ≤ 1) : GI (m_up h 48 2 v) := G.up (q := (3, g_p48)) rfl ⟨h1, h2⟩ (by decide)
theorem u_49_0 {h : m_H} (G : GI h) {v : Int} : GI (m_up h 49 0 v) := G.up (q := (3, g_p49)) rfl trivial (by decide)
theorem u_49_1 {h : m_H} (G : GI h) {v : Int} : GI (m_up h 49 1 v) := G.up (q := (3, g_p49)) rfl trivial (by decide)
theorem g_49_2 {h : m_H} (G : GI h) : (0 : Int) ≤ h 49 2 ∧ h 49 2 ≤ 1 := G.1 49 (3, g_p49) rfl 2 (by decide)
theorem u_49_2 {h : m_H} (G : GI h) {v : Int} (h1 : (0 : Int) ≤ v) (h2 : v ≤ 1) : GI (m_up h 49 2 v) := G.up (q := (3, g_p49)) rfl ⟨h1, h2⟩ (by decide)
theorem u_50_0 {h : m_H} (G : GI h) {v : Int} : GI (m_up h 50 0 v) := G.up (q := (3, g_p50)) rfl trivial (by decide)
theorem u_50_1 {h : m_H} (G : GI h) {v : Int} : GI (m_up h 50 1 v) := G.up (q := (3, g_p50)) rfl trivial (by decide)
theorem g_50_2 {h : m_H} (G : GI h) : (0 : Int) ≤ h 50 2 ∧ h 50 2 ≤ 1 := G.1 50 (3, g_p50) rfl 2 (by decide)
theorem u_50_2 {h : m_H} (G : GI h) {v : Int} (h1 : (0 : Int) ≤ v) (h2 : v ≤ 1) : GI (m_up h 50 2 v) := G.up (q := (3, g_p50)) rfl ⟨h1, h2⟩ (by decide)
theorem u_51_0 {h : m_H} (G : GI h) {v : Int} : GI (m_up h 51 0 v) := G.up (q := (3, g_p51)) rfl trivial (by decide)
theorem u_51_1 {h : m_H} (G : GI h) {v : Int} : GI (m_up h 51 1 v) := G.up (q := (3, g_p51)) rfl trivial (by decide)
theorem g_51_2 {h : m_H} (G : GI h) : (0 : Int) ≤ h 51 2 ∧ h 51 2 ≤ 1 := G.1 51 (3, g_p51) rfl 2 (by decide)
theorem u_51_2 {h : m_H} (G : GI h) {v : Int} (h1 : (0 : Int) ≤ v) (h2 : v ≤ 1) : GI (m_up h 51 2 v) := G.up (q := (3, g_p51)) rfl ⟨h1, h2⟩ (by decide)
theorem u_52_0 {h : m_H} (G : GI h) {v : Int} : GI (m_up h 52 0 v) := G.up (q := (3, g_p52)) rfl trivial (by decide)
theorem u_52_1 {h : m_H} (G : GI h) {v : Int} : GI (m_up h 52 1 v) := G.up (q := (3, g_p52)) rfl trivial (by decide)
theorem g_52_2 {h : m_H} (G : GI h) : (0 : Int) ≤ h 52 2 ∧ h 52 2 ≤ 1 := G.1 52 (3, g_p52) rfl 2 (by decide)
theorem u_52_2 {h : m_H} (G : GI h) {v : Int} (h1 : (0 : Int) ≤ v) (h2 : v ≤ 1) : GI (m_up h 52 2 v) := G.up (q := (3, g_p52)) rfl ⟨h1, h2⟩ (by decide)
theorem u_53_0 {h : m_H} (G : GI h) {v : Int} : GI (m_up h 53 0 v) := G.up (q := (3, g_p53)) rfl trivial (by decide)
theorem u_53_1 {h : m_H} (G : GI h) {v : Int} : GI (m_up h 53 1 v) := G.up (q := (3, g_p53)) rfl trivial (by decide)
theorem g_53_2 {h : m_H} (G : GI h) : (0 : Int) ≤ h 53 2 ∧ h 53 2 ≤ 1 := G.1 53 (3, g_p53) rfl 2 (by decide)
theorem u_53_2 {h : m_H} (G : GI h) {v : Int} (h1 : (0 : Int) ≤ v) (h2 : v ≤ 1) : GI (m_up h 53 2 v) := G.up (q := (3, g_p53)) rfl ⟨h1, h2⟩ (by decide)
theorem u_54_0 {h : m_H} (G : GI h) {v : Int} : GI (m_up h 54 0 v) := G.up (q := (3, g_p54)) rfl trivial (by decide)
theorem u_54_1 {h : m_H} (G : GI h) {v : Int} : GI (m_up h 54 1 v) := G.up (q := (3, g_p54)) rfl trivial (by decide)
theorem g_54_2 {h : m_H} (G : GI h) : (0 : Int) ≤ h 54 2 ∧ h 54 2 ≤ 1 := G.1 54 (3, g_p54) rfl 2 (by decide)
theorem u_54_2 {h : m_H} (G : GI h) {v : Int} (h1 : (0 : Int) ≤ v) (h2 : v ≤ 1) : GI (m_up h 54 2 v) := G.up (q := (3, g_p54)) rfl ⟨h1, h2⟩ (by decide)
theorem u_55_0 {h : m_H} (G : GI h) {v : Int} : GI (m_up h 55 0 v) := G.up (q := (3, g_p55)) rfl trivial (by decide)
theorem u_55_1 {h : m_H} (G : GI h) {v : Int} : GI (m_up h 55 1 v) := G.up (q := (3, g_p55)) rfl trivial (by decide)
theorem g_55_2 {h : m_H} (G : GI h) : (0 : Int) ≤ h 55 2 ∧ h 55 2 ≤ 1 := G.1 55 (3, g_p55) rfl 2 (by decide)
theorem u_55_2 {h : m_H} (G : GI h) {v : Int} (h1 : (0 : Int) ≤ v) (h2 : v ≤ 1) : GI (m_up h 55 2 v) := G.up (q := (3, g_p55)) rfl ⟨h1, h2⟩ (by decide)
theorem u_56_0 {h : m_H} (G : GI h) {v : Int} : GI (m_up h 56 0 v) := G.up (q := (3, g_p56)) rfl trivial (by decide)
theorem u_56_1 {h : m_H} (G : GI h) {v : Int} : GI (m_up h 56 1 v) := G.up (q := (3, g_p56)) rfl trivial (by decide)
theorem g_56_2 {h : m_H} (G : GI h) : (0 : Int) ≤ h 56 2 ∧ h 56 2 ≤ 1 := G.1 56 (3, g_p56) rfl 2 (by decide)
theorem u_56_2 {h : m_H} (G : GI h) {v : Int} (h1 : (0 : Int) ≤ v) (h2 : v ≤ 1) : GI (m_up h 56 2 v) := G.up (q := (3, g_p56)) rfl ⟨h1, h2⟩ (by decide)
theorem u_57_0 {h : m_H} (G : GI h) {v : Int} : GI (m_up h 57 0 v) := G.up (q := (3, g_p57)) rfl trivial (by decide)
theorem u_57_1 {h : m_H} (G : GI h) {v : Int} : GI (m_up h 57 1 v) := G.up (q := (3, g_p57)) rfl trivial (by decide)
theorem g_57_2 {h : m_H} (G : GI h) : (0 : Int) ≤ h 57 2 ∧ h 57 2 ≤ 1 := G.1 57 (3, g_p57) rfl 2 (by decide)
theorem u_57_2 {h : m_H} (G : GI h) {v : Int} (h1 : (0 : Int) ≤ v) (h2 : v ≤ 1) : GI (m_up h 57 2 v) := G.up (q := (3, g_p57)) rfl ⟨h1, h2⟩ (by decide)
theorem u_58_0 {h : m_H} (G : GI h) {v : Int} : GI (m_up h 58 0 v) := G.up (q := (3, g_p58)) rfl trivial (by decide)
theorem u_58_1 {h : m_H} (G : GI h) {v : Int} : GI (m_up h 58 1 v) := G.up (q := (3, g_p58)) rfl trivial (by decide)
theorem g_58_2 {h : m_H} (G : GI h) : (0 : Int) ≤ h 58 2 ∧ h 58 2 ≤ 1 := G.1 58 (3, g_p58) rfl 2 (by decide)
theorem u_58_2 {h : m_H} (G : GI h) {v : Int} (h1 : (0 : Int) ≤ v) (h2 : v ≤ 1) : GI (m_up h 58 2 v) := G.up (q := (3, g_p58)) rfl ⟨h1, h2⟩ (by decide)
theorem g_59 {h : m_H} (G : GI h) {j : Nat} (hj : j < 16) : h 59 j = ((60 + j : Nat) : Int) := G.1 59 (16, g_p59) rfl j hj
theorem u_60_0 {h : m_H} (G : GI h) {v : Int} : GI (m_up h 60 0 v) := G.up (q := (3, g_p60)) rfl trivial (by decide)
theorem u_60_1 {h : m_H} (G : GI h) {v : Int} : GI (m_up h 60 1 v) := G.up (q := (3, g_p60)) rfl trivial (by decide)
theorem g_60_2 {h : m_H} (G : GI h) : (0 : Int) ≤ h 60 2 ∧ h 60 2 ≤ 1 := G.1 60 (3, g_p60) rfl 2 (by decide)
theorem u_60_2 {h : m_H} (G : GI h) {v : Int} (h1 : (0 : Int) ≤ v) (h2 : v ≤ 1) : GI (m_up h 60 2 v) := G.up (q := (3, g_p60)) rfl ⟨h1, h2⟩ (by decide)
theorem u_61_0 {h : m_H} (G : GI h) {v : Int} : GI (m_up h 61 0 v) := G.up (q := (3, g_p61)) rfl trivial (by decide)
theorem u_61_1 {h : m_H} (G : GI h) {v : Int} : GI (m_up h 61 1 v) := G.up (q := (3, g_p61)) rfl trivial (by decide)
theorem g_61_2 {h : m_H} (G : GI h) : (0 : Int) ≤ h 61 2 ∧ h 61 2 ≤ 1 := G.1 61 (3, g_p61) rfl 2 (by decide)
theorem u_61_2 {h : m_H} (G : GI h) {v : Int} (h1 : (0 : Int) ≤ v) (h2 : v ≤ 1) : GI (m_up h 61 2 v) := G.up (q := (3, g_p61)) rfl ⟨h1, h2⟩ (by decide)
theorem u_62_0 {h : m_H} (G : GI h) {v : Int} : GI (m_up h 62 0 v) := G.up (q := (3, g_p62)) rfl trivial (by decide)
theorem u_62_1 {h : m_H} (G : GI h) {v : Int} : GI (m_up h 62 1 v) := G.up (q := (3, g_p62)) rfl trivial (by decide)
theorem g_62_2 {h : m_H} (G : GI h) : (0 : Int) ≤ h 62 2 ∧ h 62 2 ≤ 1 := G.1 62 (3, g_p62) rfl 2 (by decide)
theorem u_62_2 {h : m_H} (G : GI h) {v : Int} (h1 : (0 : Int) ≤ v) (h2 : v ≤ 1) : GI (m_up h 62 2 v) := G.up (q := (3, g_p62)) rfl ⟨h1, h2⟩ (by decide)
theorem u_63_0 {h : m_H} (G : GI h) {v : Int} : GI (m_up h 63 0 v) := G.up (q := (3, g_p63)) rfl trivial (by decide)
theorem u_63_1 {h : m_H} (G : GI h) {v : Int} : GI (m_up h 63 1 v) := G.up (q := (3, g_p63)) rfl trivial (by decide)
theorem g_63_2 {h : m_H} (G : GI h) : (0 : Int) ≤ h 63 2 ∧ h 63 2 ≤ 1 := G.1 63 (3, g_p63) rfl 2 (by decide)
theorem u_63_2 {h : m_H} (G : GI h) {v : Int} (h1 : (0 : Int) ≤ v) (h2 : v ≤ 1) : GI (m_up h 63 2 v) := G.up (q := (3, g_p63)) rfl ⟨h1, h2⟩ (by decide)
theorem u_64_0 {h : m_H} (G : GI h) {v : Int} : GI (m_up h 64 0 v) := G.up (q := (3, g_p64)) rfl trivial (by decide)
theorem u_64_1 {h : m_H} (G : GI h) {v : Int} : GI (m_up h 64 1 v) := G.up (q := (3, g_p64)) rfl trivial (by decide)
theorem g_64_2 {h : m_H} (G : GI h) : (0 : Int) ≤ h 64 2 ∧ h 64 2 ≤ 1 := G.1 64 (3, g_p64) rfl 2 (by decide)
theorem u_64_2 {h : m_H} (G : GI h) {v : Int} (h1 : (0 : Int) ≤ v) (h2 : v ≤ 1) : GI (m_up h 64 2 v) := G.up (q := (3, g_p64)) rfl ⟨h1, h2⟩ (by decide)
theorem u_65_0 {h : m_H} (G : GI h) {v : Int} : GI (m_up h 65 0 v) := G.up (q := (3, g_p65)) rfl trivial (by decide)
theorem u_65_1 {h : m_H} (G : GI h) {v : Int} : GI (m_up h 65 1 v) := G.up (q := (3, g_p65)) rfl trivial (by decide)
theorem g_65_2 {h : m_H} (G : GI h) : (0 : Int) ≤ h 65 2 ∧ h 65 2 ≤ 1 := G.1 65 (3, g_p65) rfl 2 (by decide)
theorem u_65_2 {h : m_H} (G : GI h) {v : Int} (h1 : (0 : Int) ≤ v) (h2 : v ≤ 1) : GI (m_up h 65 2 v) := G.up (q := (3, g_p65)) rfl ⟨h1, h2⟩ (by decide)
theorem u_66_0 {h : m_H} (G : GI h) {v : Int} : GI (m_up h 66 0 v) := G.up (q := (3, g_p66)) rfl trivial (by decide)
theorem u_66_1 {h : m_H} (G : GI h) {v : Int} : GI (m_up h 66 1 v) := G.up (q := (3, g_p66)) rfl trivial (by decide)
theorem g_66_2 {h : m_H} (G : GI h) : (0 : Int) ≤ h 66 2 ∧ h 66 2 ≤ 1 := G.1 66 (3, g_p66) rfl 2 (by decide)
theorem u_66_2 {h : m_H} (G : GI h) {v : Int} (h1 : (0 : Int) ≤ v) (h2 : v ≤ 1) : GI (m_up h 66 2 v) := G.up (q := (3, g_p66)) rfl ⟨h1, h2⟩ (by decide)
theorem u_67_0 {h : m_H} (G : GI h) {v : Int} : GI (m_up h 67 0 v) := G.up (q := (3, g_p67)) rfl trivial (by decide)
theorem u_67_1 {h : m_H} (G : GI h) {v : Int} : GI (m_up h 67 1 v) := G.up (q := (3, g_p67)) rfl trivial (by decide)
theorem g_67_2 {h : m_H} (G : GI h) : (0 : Int) ≤ h 67 2 ∧ h 67 2 ≤ 1 := G.1 67 (3, g_p67) rfl 2 (by decide)
theorem u_67_2 {h : m_H} (G : GI h) {v : Int} (h1 : (0 : Int) ≤ v) (h2 : v ≤ 1) : GI (m_up h 67 2 v) := G.up (q := (3, g_p67)) rfl ⟨h1, h2⟩ (by decide)
theorem u_68_0 {h : m_H} (G : GI h) {v : Int} : GI (m_up h 68 0 v) := G.up (q := (3, g_p68)) rfl trivial (by decide)
theorem u_68_1 {h : m_H} (G : GI h) {v : Int} : GI (m_up h 68 1 v) := G.up (q := (3, g_p68)) rfl trivial (by decide)
theorem g_68_2 {h : m_H} (G : GI h) : (0 : Int) ≤ h 68 2 ∧ h 68 2 ≤ 1 := G.1 68 (3, g_p68) rfl 2 (by decide)
theorem u_68_2 {h : m_H} (G : GI h) {v : Int} (h1 : (0 : Int) ≤ v) (h2 : v ≤ 1) : GI (m_up h 68 2 v) := G.up (q := (3, g_p68)) rfl ⟨h1, h2⟩ (by decide)
theorem u_69_0 {h : m_H} (G : GI h) {v : Int} : GI (m_up h 69 0 v) := G.up (q := (3, g_p69)) rfl trivial (by decide)
theorem u_69_1 {h : m_H} (G : GI h) {v : Int} : GI (m_up h 69 1 v) := G.up (q := (3, g_p69)) rfl trivial (by decide)
theorem g_69_2 {h : m_H} (G : GI h) : (0 : Int) ≤ h 69 2 ∧ h 69 2 ≤ 1 := G.1 69 (3, g_p69) rfl 2 (by decide)
theorem u_69_2 {h : m_H} (G : GI h) {v : Int} (h1 : (0 : Int) ≤ v) (h2 : v ≤ 1) : GI (m_up h 69 2 v) := G.up (q := (3, g_p69)) rfl ⟨h1, h2⟩ (by decide)
theorem u_70_0 {h : m_H} (G : GI h) {v : Int} : GI (m_up h 70 0 v) := G.up (q := (3, g_p70)) rfl trivial (by decide)
theorem u_70_1 {h : m_H} (G : GI h) {v : Int} : GI (m_up h 70 1 v) := G.up (q := (3, g_p70)) rfl trivial (by decide)
theorem g_70_2 {h : m_H} (G : GI h) : (0 : Int) ≤ h 70 2 ∧ h 70 2 ≤ 1 := G.1 70 (3, g_p70) rfl 2 (by decide)
theorem u_70_2 {h : m_H} (G : GI h) {v : Int} (h1 : (0 : Int) ≤ v) (h2 : v ≤ 1) : GI (m_up h 70 2 v) := G.up (q := (3, g_p70)) rfl ⟨h1, h2⟩ (by decide)
theorem u_71_0 {h : m_H} (G : GI h) {v : Int} : GI (m_up h 71 0 v) := G.up (q := (3, g_p71)) rfl trivial (by decide)
theorem u_71_1 {h : m_H} (G : GI h) {v : Int} : GI (m_up h 71 1 v) := G.up (q := (3, g_p71)) rfl trivial (by decide)
theorem g_71_2 {h : m_H} (G : GI h) : (0 : Int) ≤ h 71 2 ∧ h 71 2 ≤ 1 := G.1 71 (3, g_p71) rfl 2 (by decide)
theorem u_71_2 {h : m_H} (G : GI h) {v : Int} (h1 : (0 : Int) ≤ v) (h2 : v ≤ 1) : GI (m_up h 71 2 v) := G.up (q := (3, g_p71)) rfl ⟨h1, h2⟩ (by decide)
theorem u_72_0 {h : m_H} (G : GI h) {v : Int} : GI (m_up h 72 0 v) := G.up (q := (3, g_p72)) rfl trivial (by decide)
theorem u_72_1 {h : m_H} (G : GI h) {v : Int} : GI (m_up h 72 1 v) := G.up (q := (3, g_p72)) rfl trivial (by decide)
theorem g_72_2 {h : m_H} (G : GI h) : (0 : Int) ≤ h 72 2 ∧ h 72 2 ≤ 1 := G.1 72 (3, g_p72) rfl 2 (by decide)
theorem u_72_2 {h : m_H} (G : GI h) {v : Int} (h1 : (0 : Int) ≤ v) (h2 : v ≤ 1) : GI (m_up h 72 2 v) := G.up (q := (3, g_p72)) rfl ⟨h1, h2⟩ (by decide)
theorem u_73_0 {h : m_H} (G : GI h) {v : Int} : GI (m_up h 73 0 v) := G.up (q := (3, g_p73)) rfl trivial (by decide)
theorem u_73_1 {h : m_H} (G : GI h) {v : Int} : GI (m_up h 73 1 v) := G.up (q := (3, g_p73)) rfl trivial (by decide)
theorem g_73_2 {h : m_H} (G : GI h) : (0 : Int) ≤ h 73 2 ∧ h 73 2 ≤ 1 := G.1 73 (3, g_p73) rfl 2 (by decide)
theorem u_73_2 {h : m_H} (G : GI h) {v : Int} (h1 : (0 : Int) ≤ v) (h2 : v ≤ 1) : GI (m_up h 73 2 v) := G.up (q := (3, g_p73)) rfl ⟨h1, h2⟩ (by decide)
theorem u_74_0 {h : m_H} (G : GI h) {v : Int} : GI (m_up h 74 0 v) := G.up (q := (3, g_p74)) rfl trivial (by decide)
theorem u_74_1 {h : m_H} (G : GI h) {v : Int} : GI (m_up h 74 1 v) := G.up (q := (3, g_p74)) rfl trivial (by decide)
theorem g_74_2 {h : m_H} (G : GI h) : (0 : Int) ≤ h 74 2 ∧ h 74 2 ≤ 1 := G.1 74 (3, g_p74) rfl 2 (by decide)
theorem u_74_2 {h : m_H} (G : GI h) {v : Int} (h1 : (0 : Int) ≤ v) (h2 : v ≤ 1) : GI (m_up h 74 2 v) := G.up (q := (3, g_p74)) rfl ⟨h1, h2⟩ (by decide)
theorem u_75_0 {h : m_H} (G : GI h) {v : Int} : GI (m_up h 75 0 v) := G.up (q := (3, g_p75)) rfl trivial (by decide)
theorem u_75_1 {h : m_H} (G : GI h) {v : Int} : GI (m_up h 75 1 v) := G.up (q := (3, g_p75)) rfl trivial (by decide)
theorem g_75_2 {h : m_H} (G : GI h) : (0 : Int) ≤ h 75 2 ∧ h 75 2 ≤ 1 := G.1 75 (3, g_p75) rfl 2 (by decide)
theorem u_75_2 {h : m_H} (G : GI h) {v : Int} (h1 : (0 : Int) ≤ v) (h2 : v ≤ 1) : GI (m_up h 75 2 v) := G.up (q := (3, g_p75)) rfl ⟨h1, h2⟩ (by decide)
theorem g_76 {h : m_H} (G : GI h) {j : Nat} (hj : j < 16) : h 76 j = ((77 + j : Nat) : Int) := G.1 76 (16, g_p76) rfl j hj
theorem u_77_0 {h : m_H} (G : GI h) {v : Int} : GI (m_up h 77 0 v) := G.up (q := (3, g_p77)) rfl trivial (by decide)
theorem u_77_1 {h : m_H} (G : GI h) {v : Int} : GI (m_up h 77 1 v) := G.up (q := (3, g_p77)) rfl trivial (by decide)
theorem g_77_2 {h : m_H} (G : GI h) : (0 : Int) ≤ h 77 2 ∧ h 77 2 ≤ 1 := G.1 77 (3, g_p77) rfl 2 (by decide)
theorem u_77_2 {h : m_H} (G : GI h) {v : Int} (h1 : (0 : Int) ≤ v) (h2 : v ≤ 1) : GI (m_up h 77 2 v) := G.up (q := (3, g_p77)) rfl ⟨h1, h2⟩ (by decide)
theorem u_78_0 {h : m_H} (G : GI h) {v : Int} : GI (m_up h 78 0 v) := G.up (q := (3, g_p78)) rfl trivial (by decide)
theorem u_78_1 {h : m_H} (G : GI h) {v : Int} : GI (m_up h 78 1 v) := G.up (q := (3, g_p78)) rfl trivial (by decide)
theorem g_78_2 {h : m_H} (G : GI h) : (0 : Int) ≤ h 78 2 ∧ h 78 2 ≤ 1 := G.1 78 (3, g_p78) rfl 2 (by decide)
theorem u_78_2 {h : m_H} (G : GI h) {v : Int} (h1 : (0 : Int) ≤ v) (h2 : v ≤ 1) : GI (m_up h 78 2 v) := G.up (q := (3, g_p78)) rfl ⟨h1, h2⟩ (by decide)
theorem u_79_0 {h : m_H} (G : GI h) {v : Int} : GI (m_up h 79 0 v) := G.up (q := (3, g_p79)) rfl trivial (by decide)
theorem u_79_1 {h : m_H} (G : GI h) {v : Int} : GI (m_up h 79 1 v) := G.up (q := (3, g_p79)) rfl trivial (by decide)
theorem g_79_2 {h : m_H} (G : GI h) : (0 : Int) ≤ h 79 2 ∧ h 79 2 ≤ 1 := G.1 79 (3, g_p79) rfl 2 (by decide)
theorem u_79_2 {h : m_H} (G : GI h) {v : Int} (h1 : (0 : Int) ≤ v) (h2 : v ≤ 1) : GI (m_up h 79 2 v) := G.up (q := (3, g_p79)) rfl ⟨h1, h2⟩ (by decide)
theorem u_80_0 {h : m_H} (G : GI h) {v : Int} : GI (m_up h 80 0 v) := G.up (q := (3, g_p80)) rfl trivial (by decide)
theorem u_80_1 {h : m_H} (G : GI h) {v : Int} : GI (m_up h 80 1 v) := G.up (q := (3, g_p80)) rfl trivial (by decide)
theorem g_80_2 {h : m_H} (G : GI h) : (0 : Int) ≤ h 80 2 ∧ h 80 2 ≤ 1 := G.1 80 (3, g_p80) rfl 2 (by decide)
theorem u_80_2 {h : m_H} (G : GI h) {v : Int} (h1 : (0 : Int) ≤ v) (h2 : v ≤ 1) : GI (m_up h 80 2 v) := G.up (q := (3, g_p80)) rfl ⟨h1, h2⟩ (by decide)
theorem u_81_0 {h : m_H} (G : GI h) {v : Int} : GI (m_up h 81 0 v) := G.up (q := (3, g_p81)) rfl trivial (by decide)
theorem u_81_1 {h : m_H} (G : GI h) {v : Int} : GI (m_up h 81 1 v) := G.up (q := (3, g_p81)) rfl trivial (by decide)
theorem g_81_2 {h : m_H} (G : GI h) : (0 : Int) ≤ h 81 2 ∧ h 81 2 ≤ 1 := G.1 81 (3, g_p81) rfl 2 (by decide)
theorem u_81_2 {h : m_H} (G : GI h) {v : Int} (h1 : (0 : Int) ≤ v) (h2 : v ≤ 1) : GI (m_up h 81 2 v) := G.up (q := (3, g_p81)) rfl ⟨h1, h2⟩ (by decide)
theorem u_82_0 {h : m_H} (G : GI h) {v : Int} : GI (m_up h 82 0 v) := G.up (q := (3, g_p82)) rfl trivial (by decide)
theorem u_82_1 {h : m_H} (G : GI h) {v : Int} : GI (m_up h 82 1 v) := G.up (q := (3, g_p82)) rfl trivial (by decide)
theorem g_82_2 {h : m_H} (G : GI h) : (0 : Int) ≤ h 82 2 ∧ h 82 2 ≤ 1 := G.1 82 (3, g_p82) rfl 2 (by decide)
theorem u_82_2 {h : m_H} (G : GI h) {v : Int} (h1 : (0 : Int) ≤ v) (h2 : v ≤ 1) : GI (m_up h 82 2 v) := G.up (q := (3, g_p82)) rfl ⟨h1, h2⟩ (by decide)
theorem u_83_0 {h : m_H} (G : GI h) {v : Int} : GI (m_up h 83 0 v) := G.up (q := (3, g_p83)) rfl trivial (by decide)
theorem u_83_1 {h : m_H} (G : GI h) {v : Int} : GI (m_up h 83 1 v) := G.up (q := (3, g_p83)) rfl trivial (by decide)
theorem g_83_2 {h : m_H} (G : GI h) : (0 : Int) ≤ h 83 2 ∧ h 83 2 ≤ 1 := G.1 83 (3, g_p83) rfl 2 (by decide)
theorem u_83_2 {h : m_H} (G : GI h) {v : Int} (h1 : (0 : Int) ≤ v) (h2 : v ≤ 1) : GI (m_up h 83 2 v) := G.up (q := (3, g_p83)) rfl ⟨h1, h2⟩ (by decide)
theorem u_84_0 {h : m_H} (G : GI h) {v : Int} : GI (m_up h 84 0 v) := G.up (q := (3, g_p84)) rfl trivial (by decide)
theorem u_84_1 {h : m_H} (G : GI h) {v : Int} : GI (m_up h 84 1 v) := G.up (q := (3, g_p84)) rfl trivial (by decide)
theorem g_84_2 {h : m_H} (G : GI h) : (0 : Int) ≤ h 84 2 ∧ h 84 2 ≤ 1 := G.1 84 (3, g_p84) rfl 2 (by decide)
theorem u_84_2 {h : m_H} (G : GI h) {v : Int} (h1 : (0 : Int) ≤ v) (h2 : v ≤ 1) : GI (m_up h 84 2 v) := G.up (q := (3, g_p84)) rfl ⟨h1, h2⟩ (by decide)
theorem u_85_0 {h : m_H} (G : GI h) {v : Int} : GI (m_up h 85 0 v) := G.up (q := (3, g_p85)) rfl trivial (by decide)
theorem u_85_1 {h : m_H} (G : GI h) {v : Int} : GI (m_up h 85 1 v) := G.up (q := (3, g_p85)) rfl trivial (by decide)
theorem g_85_2 {h : m_H} (G : GI h) : (0 : Int) ≤ h 85 2 ∧ h 85 2 ≤ 1 := G.1 85 (3, g_p85) rfl 2 (by decide)
theorem u_85_2 {h : m_H} (G : GI h) {v : Int} (h1 : (0 : Int) ≤ v) (h2 : v ≤ 1) : GI (m_up h 85 2 v) := G.up (q := (3, g_p85)) rfl ⟨h1, h2⟩ (by decide)
theorem u_86_0 {h : m_H} (G : GI h) {v : Int} : GI (m_up h 86 0 v) := G.up (q := (3, g_p86)) rfl trivial (by decide)
theorem u_86_1 {h : m_H} (G : GI h) {v : Int} : GI (m_up h 86 1 v) := G.up (q := (3, g_p86)) rfl trivial (by decide)
theorem g_86_2 {h : m_H} (G : GI h) : (0 : Int) ≤ h 86 2 ∧ h 86 2 ≤ 1 := G.1 86 (3, g_p86) rfl 2 (by decide)
theorem u_86_2 {h : m_H} (G : GI h) {v : Int} (h1 : (0 : Int) ≤ v) (h2 : v ≤ 1) : GI (m_up h 86 2 v) := G.up (q := (3, g_p86)) rfl ⟨h1, h2⟩ (by decide)
theorem u_87_0 {h : m_H} (G : GI h) {v : Int} : GI (m_up h 87 0 v) := G.up (q := (3, g_p87)) rfl trivial (by decide)
theorem u_87_1 {h : m_H} (G : GI h) {v : Int} : GI (m_up h 87 1 v) := G.up (q := (3, g_p87)) rfl trivial (by decide)
theorem g_87_2 {h : m_H} (G : GI h) : (0 : Int) ≤ h 87 2 ∧ h 87 2 ≤ 1 := G.1 87 (3, g_p87) rfl 2 (by decide)
theorem u_87_2 {h : m_H} (G : GI h) {v : Int} (h1 : (0 : Int) ≤ v) (h2 : v ≤ 1) : GI (m_up h 87 2 v) := G.up (q := (3, g_p87)) rfl ⟨h1, h2⟩ (by decide)
theorem u_88_0 {h : m_H} (G : GI h) {v : Int} : GI (m_up h 88 0 v) := G.up (q := (3, g_p88)) rfl trivial (by decide)
theorem u_88_1 {h : m_H} (G : GI h) {v : Int} : GI (m_up h 88 1 v) := G.up (q := (3, g_p88)) rfl trivial (by decide)
theorem g_88_2 {h : m_H} (G : GI h) : (0 : Int) ≤ h 88 2 ∧ h 88 2 ≤ 1 := G.1 88 (3, g_p88) rfl 2 (by decide)
theorem u_88_2 {h : m_H} (G : GI h) {v : Int} (h1 : (0 : Int) ≤ v) (h2 : v ≤ 1) : GI (m_up h 88 2 v) := G.up (q := (3, g_p88)) rfl ⟨h1, h2⟩ (by decide)
theorem u_89_0 {h : m_H} (G : GI h) {v : Int} : GI (m_up h 89 0 v) := G.up (q := (3, g_p89)) rfl trivial (by decide)
theorem u_89_1 {h : m_H} (G : GI h) {v : Int} : GI (m_up h 89 1 v) := G.up (q := (3, g_p89)) rfl trivial (by decide)
theorem g_89_2 {h : m_H} (G : GI h) : (0 : Int) ≤ h 89 2 ∧ h 89 2 ≤ 1 := G.1 89 (3, g_p89) rfl 2 (by decide)
theorem u_89_2 {h : m_H} (G : GI h) {v : Int} (h1 : (0 : Int) ≤ v) (h2 : v ≤ 1) : GI (m_up h 89 2 v) := G.up (q := (3, g_p89)) rfl ⟨h1, h2⟩ (by decide)
theorem u_90_0 {h : m_H} (G : GI h) {v : Int} : GI (m_up h 90 0 v) := G.up (q := (3, g_p90)) rfl trivial (by decide)
theorem u_90_1 {h : m_H} (G : GI h) {v : Int} : GI (m_up h 90 1 v) := G.up (q := (3, g_p90)) rfl trivial (by decide)
theorem g_90_2 {h : m_H} (G : GI h) : (0 : Int) ≤ h 90 2 ∧ h 90 2 ≤ 1 := G.1 90 (3, g_p90) rfl 2 (by decide)
theorem u_90_2 {h : m_H} (G : GI h) {v : Int} (h1 : (0 : Int) ≤ v) (h2 : v ≤ 1) : GI (m_up h 90 2 v) := G.up (q := (3, g_p90)) rfl ⟨h1, h2⟩ (by decide)
theorem u_91_0 {h : m_H} (G : GI h) {v : Int} : GI (m_up h 91 0 v) := G.up (q := (3, g_p91)) rfl trivial (by decide)
theorem u_91_1 {h : m_H} (G : GI h) {v : Int} : GI (m_up h 91 1 v) := G.up (q := (3, g_p91)) rfl trivial (by decide)
theorem g_91_2 {h : m_H} (G : GI h) : (0 : Int) ≤ h 91 2 ∧ h 91 2 ≤ 1 := G.1 91 (3, g_p91) rfl 2 (by decide)
theorem u_91_2 {h : m_H} (G : GI h) {v : Int} (h1 : (0 : Int) ≤ v) (h2 : v ≤ 1) : GI (m_up h 91 2 v) := G.up (q := (3, g_p91)) rfl ⟨h1, h2⟩ (by decide)
theorem u_92_0 {h : m_H} (G : GI h) {v : Int} : GI (m_up h 92 0 v) := G.up (q := (3, g_p92)) rfl trivial (by decide)
theorem u_92_1 {h : m_H} (G : GI h) {v : Int} : GI (m_up h 92 1 v) := G.up (q := (3, g_p92)) rfl trivial (by decide)
theorem g_92_2 {h : m_H} (G : GI h) : (0 : Int) ≤ h 92 2 ∧ h 92 2 ≤ 1 := G.1 92 (3, g_p92) rfl 2 (by decide)
theorem u_92_2 {h : m_H} (G : GI h) {v : Int} (h1 : (0 : Int) ≤ v) (h2 : v ≤ 1) : GI (m_up h 92 2 v) := G.up (q := (3, g_p92)) rfl ⟨h1, h2⟩ (by decide)
theorem g_93_0 {h : m_H} (G : GI h) : h 93 0 = ((94 : Nat) : Int) := G.1 93 (2, g_p93) rfl 0 (by decide)
theorem g_93_1 {h : m_H} (G : GI h) : h 93 1 = ((95 : Nat) : Int) := G.1 93 (2, g_p93) rfl 1 (by decide)
theorem u_94_0 {h : m_H} (G : GI h) {v : Int} : GI (m_up h 94 0 v) := G.up (q := (3, g_p94)) rfl trivial (by decide)
theorem u_94_1 {h : m_H} (G : GI h) {v : Int} : GI (m_up h 94 1 v) := G.up (q := (3, g_p94)) rfl trivial (by decide)
theorem g_94_2 {h : m_H} (G : GI h) : (0 : Int) ≤ h 94 2 ∧ h 94 2 ≤ 1 := G.1 94 (3, g_p94) rfl 2 (by decide)
theorem u_94_2 {h : m_H} (G : GI h) {v : Int} (h1 : (0 : Int) ≤ v) (h2 : v ≤ 1) : GI (m_up h 94 2 v) := G.up (q := (3, g_p94)) rfl ⟨h1, h2⟩ (by decide)
theorem u_95_0 {h : m_H} (G : GI h) {v : Int} : GI (m_up h 95 0 v) := G.up (q := (3, g_p95)) rfl trivial (by decide)
theorem u_95_1 {h : m_H} (G : GI h) {v : Int} : GI (m_up h 95 1 v) := G.up (q := (3, g_p95)) rfl trivial (by decide)
theorem g_95_2 {h : m_H} (G : GI h) : (0 : Int) ≤ h 95 2 ∧ h 95 2 ≤ 1 := G.1 95 (3, g_p95) rfl 2 (by decide)
theorem u_95_2 {h : m_H} (G : GI h) {v : Int} (h1 : (0 : Int) ≤ v) (h2 : v ≤ 1) : GI (m_up h 95 2 v) := G.up (q := (3, g_p95)) rfl ⟨h1, h2⟩ (by decide)
theorem g_96_0 {h : m_H} (G : GI h) : h 96 0 = ((97 : Nat) : Int) := G.1 96 (5, g_p96) rfl 0 (by decide)
theorem g_96_1 {h : m_H} (G : GI h) : h 96 1 = ((98 : Nat) : Int) := G.1 96 (5, g_p96) rfl 1 (by decide)
theorem g_96_2 {h : m_H} (G : GI h) : (0 : Int) ≤ h 96 2 ∧ h 96 2 ≤ 3 := G.1 96 (5, g_p96) rfl 2 (by decide)
theorem u_96_2 {h : m_H} (G : GI h) {v : Int} (h1 : (0 : Int) ≤ v) (h2 : v ≤ 3) : GI (m_up h 96 2 v) := G.up (q := (5, g_p96)) rfl ⟨h1, h2⟩ (by decide)
theorem g_96_3 {h : m_H} (G : GI h) : (0 : Int) ≤ h 96 3 ∧ h 96 3 ≤ 1 := G.1 96 (5, g_p96) rfl 3 (by decide)
theorem u_96_3 {h : m_H} (G : GI h) {v : Int} (h1 : (0 : Int) ≤ v) (h2 : v ≤ 1) : GI (m_up h 96 3 v) := G.up (q := (5, g_p96)) rfl ⟨h1, h2⟩ (by decide)
theorem g_96_4 {h : m_H} (G : GI h) : (0 : Int) ≤ h 96 4 ∧ h 96 4 ≤ 1 := G.1 96 (5, g_p96) rfl 4 (by decide)
theorem u_96_4 {h : m_H} (G : GI h) {v : Int} (h1 : (0 : Int) ≤ v) (h2 : v ≤ 1) : GI (m_up h 96 4 v) := G.up (q := (5, g_p96)) rfl ⟨h1, h2⟩ (by decide)
theorem u_97 {h : m_H} (G : GI h) {j : Nat} {v : Int} : GI (m_up h 97 j v) := G.up (q := (3, g_p97)) rfl trivial (by decide)
theorem u_98 {h : m_H} (G : GI h) {j : Nat} {v : Int} : GI (m_up h 98 j v) := G.up (q := (3, g_p98)) rfl trivial (by decide)
theorem g_99_0 {h : m_H} (G : GI h) : h 99 0 = ((100 : Nat) : Int) := G.1 99 (1, g_p99) rfl 0 (by decide)
theorem u_100 {h : m_H} (G : GI h) {j : Nat} {v : Int} : GI (m_up h 100 j v) := G.up (q := (16, g_p100)) rfl trivial (by decide)
theorem g_101_0 {h : m_H} (G : GI h) : h 101 0 = ((38 : Nat) : Int) := G.1 101 (4, g_p101) rfl 0 (by decide)
theorem u_101_1 {h : m_H} (G : GI h) {v : Int} : GI (m_up h 101 1 v) := G.up (q := (4, g_p101)) rfl trivial (by decide)
theorem u_101_2 {h : m_H} (G : GI h) {v : Int} : GI (m_up h 101 2 v) := G.up (q := (4, g_p101)) rfl trivial (by decide)
theorem u_101_3 {h : m_H} (G : GI h) {v : Int} : GI (m_up h 101 3 v) := G.up (q := (4, g_p101)) rfl trivial (by decide)
theorem g_102_0 {h : m_H} (G : GI h) : h 102 0 = ((38 : Nat) : Int) := G.1 102 (5, g_p102) rfl 0 (by decide)
theorem g_102_1 {h : m_H} (G : GI h) : h 102 1 = ((103 : Nat) : Int) := G.1 102 (5, g_p102) rfl 1 (by decide)
theorem g_102_2 {h : m_H} (G : GI h) : h 102 2 = ((104 : Nat) : Int) := G.1 102 (5, g_p102) rfl 2 (by decide)
theorem g_102_3 {h : m_H} (G : GI h) : (0 : Int) ≤ h 102 3 ∧ h 102 3 ≤ 3 := G.1 102 (5, g_p102) rfl 3 (by decide)
theorem u_102_3 {h : m_H} (G : GI h) {v : Int} (h1 : (0 : Int) ≤ v) (h2 : v ≤ 3) : GI (m_up h 102 3 v) := G.up (q := (5, g_p102)) rfl ⟨h1, h2⟩ (by decide)
theorem u_102_4 {h : m_H} (G : GI h) {v : Int} : GI (m_up h 102 4 v) := G.up (q := (5, g_p102)) rfl trivial (by decide)
theorem g_103 {h : m_H} (G : GI h) {j : Nat} (hj : j < 3) : (0 : Int) ≤ h 103 j ∧ h 103 j ≤ 31 := G.1 103 (3, g_p103) rfl j hj
theorem u_103 {h : m_H} (G : GI h) {j : Nat} {v : Int} (h1 : (0 : Int) ≤ v) (h2 : v ≤ 31) : GI (m_up h 103 j v) := G.up (q := (3, g_p103)) rfl ⟨h1, h2⟩ (by decide)
theorem u_104 {h : m_H} (G : GI h) {j : Nat} {v : Int} : GI (m_up h 104 j v) := G.up (q := (12, g_p104)) rfl trivial (by decide)
theorem g_105_0 {h : m_H} (G : GI h) : h 105 0 = ((106 : Nat) : Int) := G.1 105 (4, g_p105) rfl 0 (by decide)
theorem g_105_1 {h : m_H} (G : GI h) : (0 : Int) ≤ h 105 1 ∧ h 105 1 ≤ 1 := G.1 105 (4, g_p105) rfl 1 (by decide)
theorem u_105_1 {h : m_H} (G : GI h) {v : Int} (h1 : (0 : Int) ≤ v) (h2 : v ≤ 1) : GI (m_up h 105 1 v) := G.up (q := (4, g_p105)) rfl ⟨h1, h2⟩ (by decide)
theorem u_105_2 {h : m_H} (G : GI h) {v : Int} : GI (m_up h 105 2 v) := G.up (q := (4, g_p105)) rfl trivial (by decide)
theorem u_105_3 {h : m_H} (G : GI h) {v : Int} : GI (m_up h 105 3 v) := G.up (q := (4, g_p105)) rfl trivial (by decide)
theorem g_106 {h : m_H} (G : GI h) {j : Nat} (hj : j < 32) : (0 : Int) ≤ h 106 j ∧ h 106 j ≤ 3 := G.1 106 (32, g_p106) rfl j hj
theorem u_106 {h : m_H} (G : GI h) {j : Nat} {v : Int} (h1 : (0 : Int) ≤ v) (h2 : v ≤ 3) : GI (m_up h 106 j v) := G.up (q := (32, g_p106)) rfl ⟨h1, h2⟩ (by decide)
theorem u_107 {h : m_H} (G : GI h) {j : Nat} {v : Int} : GI (m_up h 107 j v) := G.up (q := (5, g_p107)) rfl trivial (by decide)
theorem u_108_0 {h : m_H} (G : GI h) {v : Int} : GI (m_up h 108 0 v) := G.up (q := (63, g_p108)) rfl trivial (by decide)
theorem u_108_1 {h : m_H} (G : GI h) {v : Int} : GI (m_up h 108 1 v) := G.up (q := (63, g_p108)) rfl trivial (by decide)
theorem g_108_2 {h : m_H} (G : GI h) : h 108 2 = ((109 : Nat) : Int) := G.1 108 (63, g_p108) rfl 2 (by decide)
theorem g_108_3 {h : m_H} (G : GI h) : h 108 3 = ((110 : Nat) : Int) := G.1 108 (63, g_p108) rfl 3 (by decide)
theorem g_108_4 {h : m_H} (G : GI h) : h 108 4 = ((111 : Nat) : Int) := G.1 108 (63, g_p108) rfl 4 (by decide)
theorem g_108_5 {h : m_H} (G : GI h) : h 108 5 = ((112 : Nat) : Int) := G.1 108 (63, g_p108) rfl 5 (by decide)
theorem u_108_6 {h : m_H} (G : GI h) {v : Int} : GI (m_up h 108 6 v) := G.up (q := (63, g_p108)) rfl trivial (by decide)
theorem g_108_7 {h : m_H} (G : GI h) : h 108 7 = ((113 : Nat) : Int) := G.1 108 (63, g_p108) rfl 7 (by decide)
theorem g_108_8 {h : m_H} (G : GI h) : (0 : Int) ≤ h 108 8 ∧ h 108 8 ≤ 400 := G.1 108 (63, g_p108) rfl 8 (by decide)
theorem u_108_8 {h : m_H} (G : GI h) {v : Int} (h1 : (0 : Int) ≤ v) (h2 : v ≤ 400) : GI (m_up h 108 8 v) := G.up (q := (63, g_p108)) rfl ⟨h1, h2⟩ (by decide)
theorem g_108_9 {h : m_H} (G : GI h) : (0 : Int) ≤ h 108 9 ∧ h 108 9 ≤ 400 := G.1 108 (63, g_p108) rfl 9 (by decide)
theorem u_108_9 {h : m_H} (G : GI h) {v : Int} (h1 : (0 : Int) ≤ v) (h2 : v ≤ 400) : GI (m_up h 108 9 v) := G.up (q := (63, g_p108)) rfl ⟨h1, h2⟩ (by decide)
theorem g_108_10 {h : m_H} (G : GI h) : (0 : Int) ≤ h 108 10 ∧ h 108 10 ≤ 400 := G.1 108 (63, g_p108) rfl 10 (by decide)
theorem u_108_10 {h : m_H} (G : GI h) {v : Int} (h1 : (0 : Int) ≤ v) (h2 : v ≤ 400) : GI (m_up h 108 10 v) := G.up (q := (63, g_p108)) rfl ⟨h1, h2⟩ (by decide)
theorem g_108_11 {h : m_H} (G : GI h) : (0 : Int) ≤ h 108 11 ∧ h 108 11 ≤ 3 := G.1 108 (63, g_p108) rfl 11 (by decide)
theorem u_108_11 {h : m_H} (G : GI h) {v : Int} (h1 : (0 : Int) ≤ v) (h2 : v ≤ 3) : GI (m_up h 108 11 v) := G.up (q := (63, g_p108)) rfl ⟨h1, h2⟩ (by decide)
theorem u_108_12 {h : m_H} (G : GI h) {v : Int} : GI (m_up h 108 12 v) := G.up (q := (63, g_p108)) rfl trivial (by decide)
theorem u_108_13 {h : m_H} (G : GI h) {v : Int} : GI (m_up h 108 13 v) := G.up (q := (63, g_p108)) rfl trivial (by decide)
theorem g_108_14 {h : m_H} (G : GI h) : (0 : Int) ≤ h 108 14 ∧ h 108 14 ≤ 1 := G.1 108 (63, g_p108) rfl 14 (by decide)
theorem u_108_14 {h : m_H} (G : GI h) {v : Int} (h1 : (0 : Int) ≤ v) (h2 : v ≤ 1) : GI (m_up h 108 14 v) := G.up (q := (63, g_p108)) rfl ⟨h1, h2⟩ (by decide)
theorem g_108_15 {h : m_H} (G : GI h) : h 108 15 = ((114 : Nat) : Int) := G.1 108 (63, g_p108) rfl 15 (by decide)
theorem g_108_16 {h : m_H} (G : GI h) : (0 : Int) ≤ h 108 16 ∧ h 108 16 ≤ 200 := G.1 108 (63, g_p108) rfl 16 (by decide)
theorem u_108_16 {h : m_H} (G : GI h) {v : Int} (h1 : (0 : Int) ≤ v) (h2 : v ≤ 200) : GI (m_up h 108 16 v) := G.up (q := (63, g_p108)) rfl ⟨h1, h2⟩ (by decide)
theorem g_108_17 {h : m_H} (G : GI h) : (0 : Int) ≤ h 108 17 ∧ h 108 17 ≤ 24 := G.1 108 (63, g_p108) rfl 17 (by decide)
theorem u_108_17 {h : m_H} (G : GI h) {v : Int} (h1 : (0 : Int) ≤ v) (h2 : v ≤ 24) : GI (m_up h 108 17 v) := G.up (q := (63, g_p108)) rfl ⟨h1, h2⟩ (by decide)
theorem g_108_18 {h : m_H} (G : GI h) : (0 : Int) ≤ h 108 18 ∧ h 108 18 ≤ 6 := G.1 108 (63, g_p108) rfl 18 (by decide)
theorem u_108_18 {h : m_H} (G : GI h) {v : Int} (h1 : (0 : Int) ≤ v) (h2 : v ≤ 6) : GI (m_up h 108 18 v) := G.up (q := (63, g_p108)) rfl ⟨h1, h2⟩ (by decide)
theorem g_108_19 {h : m_H} (G : GI h) : h 108 19 = ((115 : Nat) : Int) := G.1 108 (63, g_p108) rfl 19 (by decide)
theorem g_108_20 {h : m_H} (G : GI h) : h 108 20 = ((116 : Nat) : Int) := G.1 108 (63, g_p108) rfl 20 (by decide)
theorem g_108_21 {h : m_H} (G : GI h) : (0 : Int) ≤ h 108 21 ∧ h 108 21 ≤ 60 := G.1 108 (63, g_p108) rfl 21 (by decide)
theorem u_108_21 {h : m_H} (G : GI h) {v : Int} (h1 : (0 : Int) ≤ v) (h2 : v ≤ 60) : GI (m_up h 108 21 v) := G.up (q := (63, g_p108)) rfl ⟨h1, h2⟩ (by decide)
theorem g_108_22 {h : m_H} (G : GI h) : h 108 22 = ((117 : Nat) : Int) := G.1 108 (63, g_p108) rfl 22 (by decide)
theorem g_108_23 {h : m_H} (G : GI h) : h 108 23 = ((118 : Nat) : Int) := G.1 108 (63, g_p108) rfl 23 (by decide)
theorem g_108_24 {h : m_H} (G : GI h) : h 108 24 = ((119 : Nat) : Int) := G.1 108 (63, g_p108) rfl 24 (by decide)
theorem g_108_25 {h : m_H} (G : GI h) : h 108 25 = ((120 : Nat) : Int) := G.1 108 (63, g_p108) rfl 25 (by decide)
theorem g_108_26 {h : m_H} (G : GI h) : h 108 26 = ((121 : Nat) : Int) := G.1 108 (63, g_p108) rfl 26 (by decide)
theorem g_108_27 {h : m_H} (G : GI h) : h 108 27 = ((122 : Nat) : Int) := G.1 108 (63, g_p108) rfl 27 (by decide)
theorem g_108_28 {h : m_H} (G : GI h) : h 108 28 = ((123 : Nat) : Int) := G.1 108 (63, g_p108) rfl 28 (by decide)
theorem g_108_29 {h : m_H} (G : GI h) : h 108 29 = ((124 : Nat) : Int) := G.1 108 (63, g_p108) rfl 29 (by decide)
theorem g_108_30 {h : m_H} (G : GI h) : h 108 30 = ((125 : Nat) : Int) := G.1 108 (63, g_p108) rfl 30 (by decide)
theorem g_108_31 {h : m_H} (G : GI h) : h 108 31 = ((126 : Nat) : Int) := G.1 108 (63, g_p108) rfl 31 (by decide)
theorem g_108_32 {h : m_H} (G : GI h) : h 108 32 = ((127 : Nat) : Int) := G.1 108 (63, g_p108) rfl 32 (by decide)
theorem g_108_33 {h : m_H} (G : GI h) : h 108 33 = ((128 : Nat) : Int) := G.1 108 (63, g_p108) rfl 33 (by decide)
theorem g_108_34 {h : m_H} (G : GI h) : h 108 34 = ((129 : Nat) : Int) := G.1 108 (63, g_p108) rfl 34 (by decide)
theorem g_108_35 {h : m_H} (G : GI h) : h 108 35 = ((130 : Nat) : Int) := G.1 108 (63, g_p108) rfl 35 (by decide)
theorem g_108_36 {h : m_H} (G : GI h) : h 108 36 = ((131 : Nat) : Int) := G.1 108 (63, g_p108) rfl 36 (by decide)
theorem g_108_37 {h : m_H} (G : GI h) : h 108 37 = ((132 : Nat) : Int) := G.1 108 (63, g_p108) rfl 37 (by decide)
theorem g_108_38 {h : m_H} (G : GI h) : h 108 38 = ((133 : Nat) : Int) := G.1 108 (63, g_p108) rfl 38 (by decide)
theorem g_108_39 {h : m_H} (G : GI h) : h 108 39 = ((134 : Nat) : Int) := G.1 108 (63, g_p108) rfl 39 (by decide)
theorem g_108_40 {h : m_H} (G : GI h) : h 108 40 = ((135 : Nat) : Int) := G.1 108 (63, g_p108) rfl 40 (by decide)
theorem g_108_41 {h : m_H} (G : GI h) : h 108 41 = ((136 : Nat) : Int) := G.1 108 (63, g_p108) rfl 41 (by decide)
theorem g_108_42 {h : m_H} (G : GI h) : h 108 42 = ((137 : Nat) : Int) := G.1 108 (63, g_p108) rfl 42 (by decide)
theorem g_108_43 {h : m_H} (G : GI h) : h 108 43 = ((138 : Nat) : Int) := G.1 108 (63, g_p108) rfl 43 (by decide)
theorem g_108_44 {h : m_H} (G : GI h) : (0 : Int) ≤ h 108 44 ∧ h 108 44 ≤ 1 := G.1 108 (63, g_p108) rfl 44 (by decide)
theorem u_108_44 {h : m_H} (G : GI h) {v : Int} (h1 : (0 : Int) ≤ v) (h2 : v ≤ 1) : GI (m_up h 108 44 v) := G.up (q := (63, g_p108)) rfl ⟨h1, h2⟩ (by decide)
theorem g_108_45 {h : m_H} (G : GI h) : (0 : Int) ≤ h 108 45 ∧ h 108 45 ≤ 1 := G.1 108 (63, g_p108) rfl 45 (by decide)
theorem u_108_45 {h : m_H} (G : GI h) {v : Int} (h1 : (0 : Int) ≤ v) (h2 : v ≤ 1) : GI (m_up h 108 45 v) := G.up (q := (63, g_p108)) rfl ⟨h1, h2⟩ (by decide)
theorem g_108_46 {h : m_H} (G : GI h) : (0 : Int) ≤ h 108 46 ∧ h 108 46 ≤ 1 := G.1 108 (63, g_p108) rfl 46 (by decide)
theorem u_108_46 {h : m_H} (G : GI h) {v : Int} (h1 : (0 : Int) ≤ v) (h2 : v ≤ 1) : GI (m_up h 108 46 v) := G.up (q := (63, g_p108)) rfl ⟨h1, h2⟩ (by decide)
theorem g_108_47 {h : m_H} (G : GI h) : (0 : Int) ≤ h 108 47 ∧ h 108 47 ≤ 1 := G.1 108 (63, g_p108) rfl 47 (by decide)
theorem u_108_47 {h : m_H} (G : GI h) {v : Int} (h1 : (0 : Int) ≤ v) (h2 : v ≤ 1) : GI (m_up h 108 47 v) := G.up (q := (63, g_p108)) rfl ⟨h1, h2⟩ (by decide)
theorem g_108_48 {h : m_H} (G : GI h) : h 108 48 = ((139 : Nat) : Int) := G.1 108 (63, g_p108) rfl 48 (by decide)
theorem g_108_49 {h : m_H} (G : GI h) : h 108 49 = ((140 : Nat) : Int) := G.1 108 (63, g_p108) rfl 49 (by decide)
theorem g_108_50 {h : m_H} (G : GI h) : h 108 50 = ((141 : Nat) : Int) := G.1 108 (63, g_p108) rfl 50 (by decide)
theorem g_108_51 {h : m_H} (G : GI h) : h 108 51 = ((142 : Nat) : Int) := G.1 108 (63, g_p108) rfl 51 (by decide)
theorem g_108_52 {h : m_H} (G : GI h) : h 108 52 = ((143 : Nat) : Int) := G.1 108 (63, g_p108) rfl 52 (by decide)
theorem g_108_53 {h : m_H} (G : GI h) : h 108 53 = ((144 : Nat) : Int) := G.1 108 (63, g_p108) rfl 53 (by decide)
theorem g_108_54 {h : m_H} (G : GI h) : (0 : Int) ≤ h 108 54 ∧ h 108 54 ≤ 1 := G.1 108 (63, g_p108) rfl 54 (by decide)
theorem u_108_54 {h : m_H} (G : GI h) {v : Int} (h1 : (0 : Int) ≤ v) (h2 : v ≤ 1) : GI (m_up h 108 54 v) := G.up (q := (63, g_p108)) rfl ⟨h1, h2⟩ (by decide)
theorem g_108_55 {h : m_H} (G : GI h) : (0 : Int) ≤ h 108 55 ∧ h 108 55 ≤ 1 := G.1 108 (63, g_p108) rfl 55 (by decide)
theorem u_108_55 {h : m_H} (G : GI h) {v : Int} (h1 : (0 : Int) ≤ v) (h2 : v ≤ 1) : GI (m_up h 108 55 v) := G.up (q := (63, g_p108)) rfl ⟨h1, h2⟩ (by decide)
theorem g_108_56 {h : m_H} (G : GI h) : h 108 56 = ((145 : Nat) : Int) := G.1 108 (63, g_p108) rfl 56 (by decide)
theorem g_108_57 {h : m_H} (G : GI h) : h 108 57 = ((146 : Nat) : Int) := G.1 108 (63, g_p108) rfl 57 (by decide)
theorem g_108_58 {h : m_H} (G : GI h) : (0 : Int) ≤ h 108 58 ∧ h 108 58 ≤ 3 := G.1 108 (63, g_p108) rfl 58 (by decide)
theorem u_108_58 {h : m_H} (G : GI h) {v : Int} (h1 : (0 : Int) ≤ v) (h2 : v ≤ 3) : GI (m_up h 108 58 v) := G.up (q := (63, g_p108)) rfl ⟨h1, h2⟩ (by decide)
theorem g_108_59 {h : m_H} (G : GI h) : h 108 59 = ((147 : Nat) : Int) := G.1 108 (63, g_p108) rfl 59 (by decide)
theorem g_108_60 {h : m_H} (G : GI h) : (0 : Int) ≤ h 108 60 ∧ h 108 60 ≤ 1 := G.1 108 (63, g_p108) rfl 60 (by decide)
theorem u_108_60 {h : m_H} (G : GI h) {v : Int} (h1 : (0 : Int) ≤ v) (h2 : v ≤ 1) : GI (m_up h 108 60 v) := G.up (q := (63, g_p108)) rfl ⟨h1, h2⟩ (by decide)
theorem g_108_61 {h : m_H} (G : GI h) : (-1 : Int) ≤ h 108 61 ∧ h 108 61 ≤ 31 := G.1 108 (63, g_p108) rfl 61 (by decide)
theorem u_108_61 {h : m_H} (G : GI h) {v : Int} (h1 : (-1 : Int) ≤ v) (h2 : v ≤ 31) : GI (m_up h 108 61 v) := G.up (q := (63, g_p108)) rfl ⟨h1, h2⟩ (by decide)
theorem g_108_62 {h : m_H} (G : GI h) : (-1 : Int) ≤ h 108 62 ∧ h 108 62 ≤ 31 := G.1 108 (63, g_p108) rfl 62 (by decide)
theorem u_108_62 {h : m_H} (G : GI h) {v : Int} (h1 : (-1 : Int) ≤ v) (h2 : v ≤ 31) : GI (m_up h 108 62 v) := G.up (q := (63, g_p108)) rfl ⟨h1, h2⟩ (by decide)
theorem u_109 {h : m_H} (G : GI h) {j : Nat} {v : Int} : GI (m_up h 109 j v) := G.up (q := (7, g_p109)) rfl trivial (by decide)
theorem g_110 {h : m_H} (G : GI h) {j : Nat} (hj : j < 200) : r_lo j ≤ h 110 j ∧ h 110 j ≤ r_hi j := G.1 110 (200, g_p110) rfl j hj
theorem u_110 {h : m_H} (G : GI h) {j : Nat} {v : Int} (h1 : r_lo j ≤ v) (h2 : v ≤ r_hi j) : GI (m_up h 110 j v) := G.up (q := (200, g_p110)) rfl ⟨h1, h2⟩ (by decide)
theorem g_112 {h : m_H} (G : GI h) {j : Nat} (hj : j < 2) : (0 : Int) ≤ h 112 j ∧ h 112 j ≤ 1 := G.1 112 (2, g_p112) rfl j hj
theorem g_113 {h : m_H} (G : GI h) {j : Nat} (hj : j < 400) : (0 : Int) ≤ h 113 j ∧ h 113 j ≤ 255 := G.1 113 (400, g_p113) rfl j hj
theorem u_113 {h : m_H} (G : GI h) {j : Nat} {v : Int} (h1 : (0 : Int) ≤ v) (h2 : v ≤ 255) : GI (m_up h 113 j v) := G.up (q := (400, g_p113)) rfl ⟨h1, h2⟩ (by decide)
theorem u_114 {h : m_H} (G : GI h) {j : Nat} {v : Int} : GI (m_up h 114 j v) := G.up (q := (1000, g_p114)) rfl trivial (by decide)
theorem u_115 {h : m_H} (G : GI h) {j : Nat} {v : Int} : GI (m_up h 115 j v) := G.up (q := (10, g_p115)) rfl trivial (by decide)
theorem u_116 {h : m_H} (G : GI h) {j : Nat} {v : Int} : GI (m_up h 116 j v) := G.up (q := (10, g_p116)) rfl trivial (by decide)
theorem g_117 {h : m_H} (G : GI h) {j : Nat} (hj : j < 60) : (0 : Int) ≤ h 117 j ∧ h 117 j ≤ 15 := G.1 117 (60, g_p117) rfl j hj
theorem u_117 {h : m_H} (G : GI h) {j : Nat} {v : Int} (h1 : (0 : Int) ≤ v) (h2 : v ≤ 15) : GI (m_up h 117 j v) := G.up (q := (60, g_p117)) rfl ⟨h1, h2⟩ (by decide)
theorem g_118 {h : m_H} (G : GI h) {j : Nat} (hj : j < 60) : (0 : Int) ≤ h 118 j ∧ h 118 j ≤ 15 := G.1 118 (60, g_p118) rfl j hj
theorem u_118 {h : m_H} (G : GI h) {j : Nat} {v : Int} (h1 : (0 : Int) ≤ v) (h2 : v ≤ 15) : GI (m_up h 118 j v) := G.up (q := (60, g_p118)) rfl ⟨h1, h2⟩ (by decide)
theorem g_119 {h : m_H} (G : GI h) {j : Nat} (hj : j < 60) : (0 : Int) ≤ h 119 j ∧ h 119 j ≤ 199 := G.1 119 (60, g_p119) rfl j hj
theorem u_119 {h : m_H} (G : GI h) {j : Nat} {v : Int} (h1 : (0 : Int) ≤ v) (h2 : v ≤ 199) : GI (m_up h 119 j v) := G.up (q := (60, g_p119)) rfl ⟨h1, h2⟩ (by decide)
theorem g_120 {h : m_H} (G : GI h) {j : Nat} (hj : j < 60) : (0 : Int) ≤ h 120 j ∧ h 120 j ≤ 199 := G.1 120 (60, g_p120) rfl j hj
theorem u_120 {h : m_H} (G : GI h) {j : Nat} {v : Int} (h1 : (0 : Int) ≤ v) (h2 : v ≤ 199) : GI (m_up h 120 j v) := G.up (q := (60, g_p120)) rfl ⟨h1, h2⟩ (by decide)
theorem g_121 {h : m_H} (G : GI h) {j : Nat} (hj : j < 60) : (0 : Int) ≤ h 121 j ∧ h 121 j ≤ 1 := G.1 121 (60, g_p121) rfl j hj
theorem u_121 {h : m_H} (G : GI h) {j : Nat} {v : Int} (h1 : (0 : Int) ≤ v) (h2 : v ≤ 1) : GI (m_up h 121 j v) := G.up (q := (60, g_p121)) rfl ⟨h1, h2⟩ (by decide)
theorem g_122 {h : m_H} (G : GI h) {j : Nat} (hj : j < 32) : (-1 : Int) ≤ h 122 j ∧ h 122 j ≤ 3 := G.1 122 (32, g_p122) rfl j hj
theorem u_122 {h : m_H} (G : GI h) {j : Nat} {v : Int} (h1 : (-1 : Int) ≤ v) (h2 : v ≤ 3) : GI (m_up h 122 j v) := G.up (q := (32, g_p122)) rfl ⟨h1, h2⟩ (by decide)
theorem g_123 {h : m_H} (G : GI h) {j : Nat} (hj : j < 6) : (-1 : Int) ≤ h 123 j ∧ h 123 j ≤ 31 := G.1 123 (6, g_p123) rfl j hj
theorem u_123 {h : m_H} (G : GI h) {j : Nat} {v : Int} (h1 : (-1 : Int) ≤ v) (h2 : v ≤ 31) : GI (m_up h 123 j v) := G.up (q := (6, g_p123)) rfl ⟨h1, h2⟩ (by decide)
theorem g_124 {h : m_H} (G : GI h) {j : Nat} (hj : j < 80) : (0 : Int) ≤ h 124 j ∧ h 124 j ≤ 99999999 := G.1 124 (80, g_p124) rfl j hj
theorem u_124 {h : m_H} (G : GI h) {j : Nat} {v : Int} (h1 : (0 : Int) ≤ v) (h2 : v ≤ 99999999) : GI (m_up h 124 j v) := G.up (q := (80, g_p124)) rfl ⟨h1, h2⟩ (by decide)
theorem g_125 {h : m_H} (G : GI h) {j : Nat} (hj : j < 80) : (0 : Int) ≤ h 125 j ∧ h 125 j ≤ 99999999 := G.1 125 (80, g_p125) rfl j hj
theorem u_125 {h : m_H} (G : GI h) {j : Nat} {v : Int} (h1 : (0 : Int) ≤ v) (h2 : v ≤ 99999999) : GI (m_up h 125 j v) := G.up (q := (80, g_p125)) rfl ⟨h1, h2⟩ (by decide)
theorem g_126 {h : m_H} (G : GI h) {j : Nat} (hj : j < 16) : (0 : Int) ≤ h 126 j ∧ h 126 j ≤ 1 := G.1 126 (16, g_p126) rfl j hj
theorem u_126 {h : m_H} (G : GI h) {j : Nat} {v : Int} (h1 : (0 : Int) ≤ v) (h2 : v ≤ 1) : GI (m_up h 126 j v) := G.up (q := (16, g_p126)) rfl ⟨h1, h2⟩ (by decide)
theorem g_127 {h : m_H} (G : GI h) {j : Nat} (hj : j < 16) : (0 : Int) ≤ h 127 j ∧ h 127 j ≤ 1 := G.1 127 (16, g_p127) rfl j hj
theorem u_127 {h : m_H} (G : GI h) {j : Nat} {v : Int} (h1 : (0 : Int) ≤ v) (h2 : v ≤ 1) : GI (m_up h 127 j v) := G.up (q := (16, g_p127)) rfl ⟨h1, h2⟩ (by decide)
theorem g_128 {h : m_H} (G : GI h) {j : Nat} (hj : j < 80) : (0 : Int) ≤ h 128 j ∧ h 128 j ≤ 99999999 := G.1 128 (80, g_p128) rfl j hj
theorem u_128 {h : m_H} (G : GI h) {j : Nat} {v : Int} (h1 : (0 : Int) ≤ v) (h2 : v ≤ 99999999) : GI (m_up h 128 j v) := G.up (q := (80, g_p128)) rfl ⟨h1, h2⟩ (by decide)
theorem g_129 {h : m_H} (G : GI h) {j : Nat} (hj : j < 80) : (0 : Int) ≤ h 129 j ∧ h 129 j ≤ 99999999 := G.1 129 (80, g_p129) rfl j hj
theorem u_129 {h : m_H} (G : GI h) {j : Nat} {v : Int} (h1 : (0 : Int) ≤ v) (h2 : v ≤ 99999999) : GI (m_up h 129 j v) := G.up (q := (80, g_p129)) rfl ⟨h1, h2⟩ (by decide)
theorem g_130 {h : m_H} (G : GI h) {j : Nat} (hj : j < 16) : (0 : Int) ≤ h 130 j ∧ h 130 j ≤ 1 := G.1 130 (16, g_p130) rfl j hj
theorem u_130 {h : m_H} (G : GI h) {j : Nat} {v : Int} (h1 : (0 : Int) ≤ v) (h2 : v ≤ 1) : GI (m_up h 130 j v) := G.up (q := (16, g_p130)) rfl ⟨h1, h2⟩ (by decide)
theorem g_131 {h : m_H} (G : GI h) {j : Nat} (hj : j < 16) : (0 : Int) ≤ h 131 j ∧ h 131 j ≤ 1 := G.1 131 (16, g_p131) rfl j hj
theorem u_131 {h : m_H} (G : GI h) {j : Nat} {v : Int} (h1 : (0 : Int) ≤ v) (h2 : v ≤ 1) : GI (m_up h 131 j v) := G.up (q := (16, g_p131)) rfl ⟨h1, h2⟩ (by decide)
theorem g_132 {h : m_H} (G : GI h) {j : Nat} (hj : j < 5) : (0 : Int) ≤ h 132 j ∧ h 132 j ≤ 99999999 := G.1 132 (5, g_p132) rfl j hj
theorem u_132 {h : m_H} (G : GI h) {j : Nat} {v : Int} (h1 : (0 : Int) ≤ v) (h2 : v ≤ 99999999) : GI (m_up h 132 j v) := G.up (q := (5, g_p132)) rfl ⟨h1, h2⟩ (by decide)
theorem g_133 {h : m_H} (G : GI h) {j : Nat} (hj : j < 5) : (0 : Int) ≤ h 133 j ∧ h 133 j ≤ 99999999 := G.1 133 (5, g_p133) rfl j hj
theorem u_133 {h : m_H} (G : GI h) {j : Nat} {v : Int} (h1 : (0 : Int) ≤ v) (h2 : v ≤ 99999999) : GI (m_up h 133 j v) := G.up (q := (5, g_p133)) rfl ⟨h1, h2⟩ (by decide)
theorem g_134 {h : m_H} (G : GI h) {j : Nat} (hj : j < 256) : (0 : Int) ≤ h 134 j ∧ h 134 j ≤ 1 := G.1 134 (256, g_p134) rfl j hj
theorem u_134 {h : m_H} (G : GI h) {j : Nat} {v : Int} (h1 : (0 : Int) ≤ v) (h2 : v ≤ 1) : GI (m_up h 134 j v) := G.up (q := (256, g_p134)) rfl ⟨h1, h2⟩ (by decide)
theorem u_135 {h : m_H} (G : GI h) {j : Nat} {v : Int} : GI (m_up h 135 j v) := G.up (q := (10, g_p135)) rfl trivial (by decide)
theorem u_136 {h : m_H} (G : GI h) {j : Nat} {v : Int} : GI (m_up h 136 j v) := G.up (q := (10, g_p136)) rfl trivial (by decide)
theorem g_137 {h : m_H} (G : GI h) {j : Nat} (hj : j < 5) : (0 : Int) ≤ h 137 j ∧ h 137 j ≤ 1 := G.1 137 (5, g_p137) rfl j hj
theorem u_137 {h : m_H} (G : GI h) {j : Nat} {v : Int} (h1 : (0 : Int) ≤ v) (h2 : v ≤ 1) : GI (m_up h 137 j v) := G.up (q := (5, g_p137)) rfl ⟨h1, h2⟩ (by decide)
theorem g_138 {h : m_H} (G : GI h) {j : Nat} (hj : j < 20) : (0 : Int) ≤ h 138 j ∧ h 138 j ≤ 99999999 := G.1 138 (20, g_p138) rfl j hj
theorem u_138 {h : m_H} (G : GI h) {j : Nat} {v : Int} (h1 : (0 : Int) ≤ v) (h2 : v ≤ 99999999) : GI (m_up h 138 j v) := G.up (q := (20, g_p138)) rfl ⟨h1, h2⟩ (by decide)
theorem u_139 {h : m_H} (G : GI h) {j : Nat} {v : Int} : GI (m_up h 139 j v) := G.up (q := (10, g_p139)) rfl trivial (by decide)
theorem u_140 {h : m_H} (G : GI h) {j : Nat} {v : Int} : GI (m_up h 140 j v) := G.up (q := (10, g_p140)) rfl trivial (by decide)
theorem u_141 {h : m_H} (G : GI h) {j : Nat} {v : Int} : GI (m_up h 141 j v) := G.up (q := (10, g_p141)) rfl trivial (by decide)
theorem u_142 {h : m_H} (G : GI h) {j : Nat} {v : Int} : GI (m_up h 142 j v) := G.up (q := (10, g_p142)) rfl trivial (by decide)
theorem u_143 {h : m_H} (G : GI h) {j : Nat} {v : Int} : GI (m_up h 143 j v) := G.up (q := (3, g_p143)) rfl trivial (by decide)
theorem u_144 {h : m_H} (G : GI h) {j : Nat} {v : Int} : GI (m_up h 144 j v) := G.up (q := (3, g_p144)) rfl trivial (by decide)
theorem g_145 {h : m_H} (G : GI h) {j : Nat} (hj : j < 16) : (0 : Int) ≤ h 145 j ∧ h 145 j ≤ 15 := G.1 145 (16, g_p145) rfl j hj
theorem u_145 {h : m_H} (G : GI h) {j : Nat} {v : Int} (h1 : (0 : Int) ≤ v) (h2 : v ≤ 15) : GI (m_up h 145 j v) := G.up (q := (16, g_p145)) rfl ⟨h1, h2⟩ (by decide)
theorem g_146 {h : m_H} (G : GI h) {j : Nat} (hj : j < 3) : (0 : Int) ≤ h 146 j ∧ h 146 j ≤ 31 := G.1 146 (3, g_p146) rfl j hj
theorem u_146 {h : m_H} (G : GI h) {j : Nat} {v : Int} (h1 : (0 : Int) ≤ v) (h2 : v ≤ 31) : GI (m_up h 146 j v) := G.up (q := (3, g_p146)) rfl ⟨h1, h2⟩ (by decide)
theorem g_147 {h : m_H} (G : GI h) {j : Nat} (hj : j < 32) : (0 : Int) ≤ h 147 j ∧ h 147 j ≤ 3 := G.1 147 (32, g_p147) rfl j hj
theorem u_147 {h : m_H} (G : GI h) {j : Nat} {v : Int} (h1 : (0 : Int) ≤ v) (h2 : v ≤ 3) : GI (m_up h 147 j v) := G.up (q := (32, g_p147)) rfl ⟨h1, h2⟩ (by decide)
def isL (L : Nat) : Prop := L = 1 ∨ L = 9 ∨ L = 18 ∨ L = 26
theorem oL {L : Nat} (hL : isL L) : oF[L]? = some (4 + 5, 10) := by rcases hL with rfl | rfl | rfl | rfl <;> rfl
theorem oL_1 {L : Nat} (hL : isL L) : oF[L + 1]? = some (0, 32) := by rcases hL with rfl | rfl | rfl | rfl <;> rfl
theorem rL_0 {h : m_H} {L : Nat} (hL : isL L) (G : GI h) : h L 0 = ((L + 1 : Nat) : Int) := by rcases hL with rfl | rfl | rfl | rfl <;> first | exact g_1_0 G | exact g_9_0 G | exact g_18_0 G | exact g_26_0 G
theorem gL_1 {h : m_H} {L : Nat} (hL : isL L) (G : GI h) {j : Nat} (hj : j < 32) : (-1 : Int) ≤ h (L + 1) j ∧ h (L + 1) j ≤ 3 := by rcases hL with rfl | rfl | rfl | rfl <;> first | exact g_2 G hj | exact g_10 G hj | exact g_19 G hj | exact g_27 G hj
theorem uL_1 {h : m_H} {L : Nat} (hL : isL L) (G : GI h) {j : Nat} {v : Int} (h1 : (-1 : Int) ≤ v) (h2 : v ≤ 3) : GI (m_up h (L + 1) j v) := by rcases hL with rfl | rfl | rfl | rfl <;> first | exact u_2 G h1 h2 | exact u_10 G h1 h2 | exact u_19 G h1 h2 | exact u_27 G h1 h2
theorem oL_2 {L : Nat} (hL : isL L) : oF[L + 2]? = some (0, 6) := by rcases hL with rfl | rfl | rfl | rfl <;> rfl
theorem rL_1 {h : m_H} {L : Nat} (hL : isL L) (G : GI h) : h L 1 = ((L + 2 : Nat) : Int) := by rcases hL with rfl | rfl | rfl | rfl <;> first | exact g_1_1 G | exact g_9_1 G | exact g_18_1 G | exact g_26_1 G
theorem gL_2 {h : m_H} {L : Nat} (hL : isL L) (G : GI h) {j : Nat} (hj : j < 6) : (-1 : Int) ≤ h (L + 2) j ∧ h (L + 2) j ≤ 31 := by rcases hL with rfl | rfl | rfl | rfl <;> first | exact g_3 G hj | exact g_11 G hj | exact g_20 G hj | exact g_28 G hj
theorem uL_2 {h : m_H} {L : Nat} (hL : isL L) (G : GI h) {j : Nat} {v : Int} (h1 : (-1 : Int) ≤ v) (h2 : v ≤ 31) : GI (m_up h (L + 2) j v) := by rcases hL with rfl | rfl | rfl | rfl <;> first | exact u_3 G h1 h2 | exact u_11 G h1 h2 | exact u_20 G h1 h2 | exact u_28 G h1 h2
theorem oL_3 {L : Nat} (hL : isL L) : oF[L + 3]? = some (0, 24) := by rcases hL with rfl | rfl | rfl | rfl <;> rfl
theorem rL_2 {h : m_H} {L : Nat} (hL : isL L) (G : GI h) : h L 2 = ((L + 3 : Nat) : Int) := by rcases hL with rfl | rfl | rfl | rfl <;> first | exact g_1_2 G | exact g_9_2 G | exact g_18_2 G | exact g_26_2 G
theorem gL_3 {h : m_H} {L : Nat} (hL : isL L) (G : GI h) {j : Nat} (hj : j < 24) : (0 : Int) ≤ h (L + 3) j ∧ h (L + 3) j ≤ 5 := by rcases hL with rfl | rfl | rfl | rfl <;> first | exact g_4 G hj | exact g_12 G hj | exact g_21 G hj | exact g_29 G hj
theorem uL_3 {h : m_H} {L : Nat} (hL : isL L) (G : GI h) {j : Nat} {v : Int} (h1 : (0 : Int) ≤ v) (h2 : v ≤ 5) : GI (m_up h (L + 3) j v) := by rcases hL with rfl | rfl | rfl | rfl <;> first | exact u_4 G h1 h2 | exact u_12 G h1 h2 | exact u_21 G h1 h2 | exact u_29 G h1 h2
theorem oL_4 {L : Nat} (hL : isL L) : oF[L + 4]? = some (0, 24) := by rcases hL with rfl | rfl | rfl | rfl <;> rfl
theorem rL_3 {h : m_H} {L : Nat} (hL : isL L) (G : GI h) : h L 3 = ((L + 4 : Nat) : Int) := by rcases hL with rfl | rfl | rfl | rfl <;> first | exact g_1_3 G | exact g_9_3 G | exact g_18_3 G | exact g_26_3 G
theorem gL_4 {h : m_H} {L : Nat} (hL : isL L) (G : GI h) {j : Nat} (hj : j < 24) : (0 : Int) ≤ h (L + 4) j ∧ h (L + 4) j ≤ 31 := by rcases hL with rfl | rfl | rfl | rfl <;> first | exact g_5 G hj | exact g_13 G hj | exact g_22 G hj | exact g_30 G hj
theorem uL_4 {h : m_H} {L : Nat} (hL : isL L) (G : GI h) {j : Nat} {v : Int} (h1 : (0 : Int) ≤ v) (h2 : v ≤ 31) : GI (m_up h (L + 4) j v) := by rcases hL with rfl | rfl | rfl | rfl <;> first | exact u_5 G h1 h2 | exact u_13 G h1 h2 | exact u_22 G h1 h2 | exact u_30 G h1 h2
theorem oL_5 {L : Nat} (hL : isL L) : oF[L + 5]? = some (0, 24) := by rcases hL with rfl | rfl | rfl | rfl <;> rfl
theorem rL_4 {h : m_H} {L : Nat} (hL : isL L) (G : GI h) : h L 4 = ((L + 5 : Nat) : Int) := by rcases hL with rfl | rfl | rfl | rfl <;> first | exact g_1_4 G | exact g_9_4 G | exact g_18_4 G | exact g_26_4 G
theorem gL_5 {h : m_H} {L : Nat} (hL : isL L) (G : GI h) {j : Nat} (hj : j < 24) : (0 : Int) ≤ h (L + 5) j ∧ h (L + 5) j ≤ 99 := by rcases hL with rfl | rfl | rfl | rfl <;> first | exact g_6 G hj | exact g_14 G hj | exact g_23 G hj | exact g_31 G hj
theorem uL_5 {h : m_H} {L : Nat} (hL : isL L) (G : GI h) {j : Nat} {v : Int} (h1 : (0 : Int) ≤ v) (h2 : v ≤ 99) : GI (m_up h (L + 5) j v) := by rcases hL with rfl | rfl | rfl | rfl <;> first | exact u_6 G h1 h2 | exact u_14 G h1 h2 | exact u_23 G h1 h2 | exact u_31 G h1 h2
theorem oL_6 {L : Nat} (hL : isL L) : oF[L + 6]? = some (0, 24) := by rcases hL with rfl | rfl | rfl | rfl <;> rfl
theorem rL_5 {h : m_H} {L : Nat} (hL : isL L) (G : GI h) : h L 5 = ((L + 6 : Nat) : Int) := by rcases hL with rfl | rfl | rfl | rfl <;> first | exact g_1_5 G | exact g_9_5 G | exact g_18_5 G | exact g_26_5 G
theorem gL_6 {h : m_H} {L : Nat} (hL : isL L) (G : GI h) {j : Nat} (hj : j < 24) : (0 : Int) ≤ h (L + 6) j ∧ h (L + 6) j ≤ 2 := by rcases hL with rfl | rfl | rfl | rfl <;> first | exact g_7 G hj | exact g_15 G hj | exact g_24 G hj | exact g_32 G hj
theorem uL_6 {h : m_H} {L : Nat} (hL : isL L) (G : GI h) {j : Nat} {v : Int} (h1 : (0 : Int) ≤ v) (h2 : v ≤ 2) : GI (m_up h (L + 6) j v) := by rcases hL with rfl | rfl | rfl | rfl <;> first | exact u_7 G h1 h2 | exact u_15 G h1 h2 | exact u_24 G h1 h2 | exact u_32 G h1 h2
theorem oL_7 {L : Nat} (hL : isL L) : oF[L + 7]? = some (0, 16) := by rcases hL with rfl | rfl | rfl | rfl <;> rfl
theorem rL_6 {h : m_H} {L : Nat} (hL : isL L) (G : GI h) : h L 6 = ((L + 7 : Nat) : Int) := by rcases hL with rfl | rfl | rfl | rfl <;> first | exact g_1_6 G | exact g_9_6 G | exact g_18_6 G | exact g_26_6 G
theorem gL_7 {h : m_H} {L : Nat} (hL : isL L) (G : GI h) {j : Nat} (hj : j < 16) : (1 : Int) ≤ h (L + 7) j ∧ h (L + 7) j ≤ 9999 := by rcases hL with rfl | rfl | rfl | rfl <;> first | exact g_8 G hj | exact g_16 G hj | exact g_25 G hj | exact g_33 G hj
theorem uL_7 {h : m_H} {L : Nat} (hL : isL L) (G : GI h) {j : Nat} {v : Int} (h1 : (1 : Int) ≤ v) (h2 : v ≤ 9999) : GI (m_up h (L + 7) j v) := by rcases hL with rfl | rfl | rfl | rfl <;> first | exact u_8 G h1 h2 | exact u_16 G h1 h2 | exact u_25 G h1 h2 | exact u_33 G h1 h2
theorem gL7 {h : m_H} {L : Nat} (hL : isL L) (G : GI h) : (0 : Int) ≤ h L 7 ∧ h L 7 ≤ 24 := by rcases hL with rfl | rfl | rfl | rfl <;> first | exact g_1_7 G | exact g_9_7 G | exact g_18_7 G | exact g_26_7 G
theorem uL7 {h : m_H} {L : Nat} (hL : isL L) (G : GI h) {v : Int} (h1 : (0 : Int) ≤ v) (h2 : v ≤ 24) : GI (m_up h L 7 v) := by rcases hL with rfl | rfl | rfl | rfl <;> first | exact u_1_7 G h1 h2 | exact u_9_7 G h1 h2 | exact u_18_7 G h1 h2 | exact u_26_7 G h1 h2
theorem uL8 {h : m_H} {L : Nat} (hL : isL L) (G : GI h) {v : Int} : GI (m_up h L 8 v) := by rcases hL with rfl | rfl | rfl | rfl <;> first | exact u_1_8 G | exact u_9_8 G | exact u_18_8 G | exact u_26_8 G
theorem uL9 {h : m_H} {L : Nat} (hL : isL L) (G : GI h) {v : Int} : GI (m_up h L 9 v) := by rcases hL with rfl | rfl | rfl | rfl <;> first | exact u_1_9 G | exact u_9_9 G | exact u_18_9 G | exact u_26_9 G
def isBb (k : Nat) : Bool := (43 ≤ k && k ≤ 58) || (60 ≤ k && k ≤ 75) || (77 ≤ k && k ≤ 92) || k == 94 || k == 95
def isB (k : Nat) : Prop := isBb k = true
theorem isB_lt {k : Nat} (h : isB k) : k < 96 := by unfold isB isBb at h; simp only [Bool.or_eq_true, Bool.and_eq_true, decide_eq_true_eq, beq_iff_eq] at h; omega
theorem oB_all : ∀ k, k < 96 → isBb k = true → oF[k]? = some (2 + 5, 3) := by decide +kernel
theorem oB {k : Nat} (h : isB k) : oF[k]? = some (2 + 5, 3) := oB_all k (isB_lt h) h
def g_pB : Nat → Int → Prop := fun j x => match j with | 2 => 0 ≤ x ∧ x ≤ 1 | _ => True
theorem bB_all : ∀ k, isB k → g_bt[k]? = some (3, g_pB) := by
  intro k hk
  have h1 := isB_lt hk
  have h2 : (43 ≤ k ∧ k ≤ 58) ∨ (60 ≤ k ∧ k ≤ 75) ∨ (77 ≤ k ∧ k ≤ 92) ∨ k = 94 ∨ k = 95 := by unfold isB isBb at hk; simp only [Bool.or_eq_true, Bool.and_eq_true, decide_eq_true_eq, beq_iff_eq] at hk; omega
  clear hk h1
  have h3 : k = 43 ∨ k = 44 ∨ k = 45 ∨ k = 46 ∨ k = 47 ∨ k = 48 ∨ k = 49 ∨ k = 50 ∨ k = 51 ∨ k = 52 ∨ k = 53 ∨ k = 54 ∨ k = 55 ∨ k = 56 ∨ k = 57 ∨ k = 58 ∨ k = 60 ∨ k = 61 ∨ k = 62 ∨ k = 63 ∨ k = 64 ∨ k = 65 ∨ k = 66 ∨ k = 67 ∨ k = 68 ∨ k = 69 ∨ k = 70 ∨ k = 71 ∨ k = 72 ∨ k = 73 ∨ k = 74 ∨ k = 75 ∨ k = 77 ∨ k = 78 ∨ k = 79 ∨ k = 80 ∨ k = 81 ∨ k = 82 ∨ k = 83 ∨ k = 84 ∨ k = 85 ∨ k = 86 ∨ k = 87 ∨ k = 88 ∨ k = 89 ∨ k = 90 ∨ k = 91 ∨ k = 92 ∨ k = 94 ∨ k = 95 := by omega
  rcases h3 with rfl | rfl | rfl | rfl | rfl | rfl | rfl | rfl | rfl | rfl | rfl | rfl | rfl | rfl | rfl | rfl | rfl | rfl | rfl | rfl | rfl | rfl | rfl | rfl | rfl | rfl | rfl | rfl | rfl | rfl | rfl | rfl | rfl | rfl | rfl | rfl | rfl | rfl | rfl | rfl | rfl | rfl | rfl | rfl | rfl | rfl | rfl | rfl | rfl | rfl <;> rfl
theorem gB {h : m_H} {k : Nat} (hk : isB k) (G : GI h) : (0 : Int) ≤ h k 2 ∧ h k 2 ≤ 1 := G.1 k _ (bB_all k hk) 2 (by decide)
theorem isB_ne {k : Nat} (h : isB k) : k ≠ 111 ∧ k ≠ 112 := by have := isB_lt h; omega
theorem uB0 {h : m_H} {k : Nat} (hk : isB k) (G : GI h) {v : Int} : GI (m_up h k 0 v) := G.up (bB_all k hk) trivial (isB_ne hk)
theorem uB1 {h : m_H} {k : Nat} (hk : isB k) (G : GI h) {v : Int} : GI (m_up h k 1 v) := G.up (bB_all k hk) trivial (isB_ne hk)
theorem uB2 {h : m_H} {k : Nat} (hk : isB k) (G : GI h) {v : Int} (h1 : (0 : Int) ≤ v) (h2 : v ≤ 1) : GI (m_up h k 2 v) := G.up (bB_all k hk) ⟨h1, h2⟩ (isB_ne hk)
