/-! ===== the rules, with something known besides ===== -/
def m_Y (X : m_E → Method → State → Prop) (Ω : m_W) (M : m_M) (pc : Nat) (ls : List (Option m_V)) (st : List m_V) (h : m_H) (Q : m_W → Option m_V → m_H → Prop) : Prop :=
  ∀ (E : m_E) (p : Program) (l : Launch) (e : Env) (s : State) (m : MethodId) (args : Array Value) (below : List Frame) (meth : Method) (c : Code) (QQ : State → Prop) (H : Heap) (locs : List Loc) (lsR : Array Slot),
    X E meth s → m_Cx E M p s m args c → m_Ret E M p l e s m args below meth c QQ Q → m_Rel E Ω h s H locs → m_LH E lsR M.2.2.2.1 ls → m_oks st → m_b Ω M →
    W p l e (m_rm M) s m args below meth c H locs (Ω.length - m_k0 M) (m_sz Ω - m_s0 M) QQ (F0 m pc lsR (st.map (m_v E)))
section YR
variable {X : m_E → Method → State → Prop} {Ω Ω' : m_W} {M M' : m_M} {ls : List (Option m_V)} {st rest : List m_V} {h h0 : m_H} {Q : m_W → Option m_V → m_H → Prop} {Q' : Option m_V → m_H → Prop} {cs : List Nat} {ss : List (Nat × Nat)}
theorem y_iconst (pc : Nat) {n : Int} (d : decode M.2.2.1 pc = .ok (.iconst n, 1)) (k : m_Y X Ω M (pc + 1) ls (mI n :: st) h Q) (hn : m_32 n := by (unfold m_32; decide)) : m_Y X Ω M pc ls st h Q := by
  intro E p l e s m args below meth c QQ H locs lsR hX C Rt Rl L o b
  refine lv_iconst C.1 C.2.1 d rfl ?_
  exact k E p l e s m args below meth c QQ H locs lsR hX C Rt Rl L ⟨hn, o⟩ b
theorem y_bipush (pc : Nat) {n : Int} (d : decode M.2.2.1 pc = .ok (.bipush n, 2)) (k : m_Y X Ω M (pc + 2) ls (mI n :: st) h Q) (hv : (Int8.ofInt n).toInt32 = Int32.ofInt n := by decide) (hn : m_32 n := by (unfold m_32; decide)) : m_Y X Ω M pc ls st h Q := by
  intro E p l e s m args below meth c QQ H locs lsR hX C Rt Rl L o b
  refine lv_bipush C.1 C.2.1 d hv ?_
  exact k E p l e s m args below meth c QQ H locs lsR hX C Rt Rl L ⟨hn, o⟩ b
theorem y_sipush (pc : Nat) {n : Int} (d : decode M.2.2.1 pc = .ok (.sipush n, 3)) (k : m_Y X Ω M (pc + 3) ls (mI n :: st) h Q) (hv : (Int16.ofInt n).toInt32 = Int32.ofInt n := by decide) (hn : m_32 n := by (unfold m_32; decide)) : m_Y X Ω M pc ls st h Q := by
  intro E p l e s m args below meth c QQ H locs lsR hX C Rt Rl L o b
  refine lv_sipush C.1 C.2.1 d hv ?_
  exact k E p l e s m args below meth c QQ H locs lsR hX C Rt Rl L ⟨hn, o⟩ b
theorem y_lconst (pc : Nat) {n : Fin 2} (d : decode M.2.2.1 pc = .ok (.lconst n, 1)) {v : Int} (k : m_Y X Ω M (pc + 1) ls (mJ v :: st) h Q) (hv : Int64.ofNat (n : Nat) = Int64.ofInt v := by decide) (hn : m_64 v := by (unfold m_64; decide)) : m_Y X Ω M pc ls st h Q := by
  intro E p l e s m args below meth c QQ H locs lsR hX C Rt Rl L o b
  refine lv_lconst C.1 C.2.1 d hv ?_
  exact k E p l e s m args below meth c QQ H locs lsR hX C Rt Rl L ⟨hn, o⟩ b
theorem y_ldc (pc : Nat) {index : Nat} (d : decode M.2.2.1 pc = .ok (.ldc index, 2)) {v : Int} (w : Cond.constant M.1 index (Int32.ofInt v) ∈ m_G) (k : m_Y X Ω M (pc + 2) ls (mI v :: st) h Q) (hn : m_32 v := by (unfold m_32; decide)) : m_Y X Ω M pc ls st h Q := by
  intro E p l e s m args below meth c QQ H locs lsR hX C Rt Rl L o b
  refine lv_ldc C.1 C.2.1 C.2.2.2.1 (C.2.2.2.2.1 _ w) d ?_
  exact k E p l e s m args below meth c QQ H locs lsR hX C Rt Rl L ⟨hn, o⟩ b
theorem y_ldcw (pc : Nat) {index : Nat} (d : decode M.2.2.1 pc = .ok (.ldc_w index, 3)) {v : Int} (w : Cond.constant M.1 index (Int32.ofInt v) ∈ m_G) (k : m_Y X Ω M (pc + 3) ls (mI v :: st) h Q) (hn : m_32 v := by (unfold m_32; decide)) : m_Y X Ω M pc ls st h Q := by
  intro E p l e s m args below meth c QQ H locs lsR hX C Rt Rl L o b
  refine lv_ldcw C.1 C.2.1 C.2.2.2.1 (C.2.2.2.2.1 _ w) d ?_
  exact k E p l e s m args below meth c QQ H locs lsR hX C Rt Rl L ⟨hn, o⟩ b
theorem y_ldc2 (pc : Nat) {index : Nat} (d : decode M.2.2.1 pc = .ok (.ldc2_w index, 3)) {v : Int} (w : Cond.constantLong M.1 index (Int64.ofInt v) ∈ m_G) (k : m_Y X Ω M (pc + 3) ls (mJ v :: st) h Q) (hn : m_64 v := by (unfold m_64; decide)) : m_Y X Ω M pc ls st h Q := by
  intro E p l e s m args below meth c QQ H locs lsR hX C Rt Rl L o b
  refine lv_ldc2 C.1 C.2.1 C.2.2.2.1 (C.2.2.2.2.1 _ w) d ?_
  exact k E p l e s m args below meth c QQ H locs lsR hX C Rt Rl L ⟨hn, o⟩ b
theorem y_iload_n (pc : Nat) {n : Fin 4} (d : decode M.2.2.1 pc = .ok (.iload_n n, 1)) {x : Int} (hl : ls[(n : Nat)]? = some (some (mI x))) (k : m_Y X Ω M (pc + 1) ls (mI x :: st) h Q) : m_Y X Ω M pc ls st h Q := by
  intro E p l e s m args below meth c QQ H locs lsR hX C Rt Rl L o b
  refine lv_iload_n C.1 C.2.1 d rfl (L.2.2 _ _ hl).1 ?_
  exact k E p l e s m args below meth c QQ H locs lsR hX C Rt Rl L ⟨(L.2.2 _ _ hl).2, o⟩ b
theorem y_iload (pc : Nat) {n : Nat} (d : decode M.2.2.1 pc = .ok (.iload n, 2)) {x : Int} (hl : ls[n]? = some (some (mI x))) (k : m_Y X Ω M (pc + 2) ls (mI x :: st) h Q) : m_Y X Ω M pc ls st h Q := by
  intro E p l e s m args below meth c QQ H locs lsR hX C Rt Rl L o b
  refine lv_iload C.1 C.2.1 d (L.2.2 _ _ hl).1 ?_
  exact k E p l e s m args below meth c QQ H locs lsR hX C Rt Rl L ⟨(L.2.2 _ _ hl).2, o⟩ b
theorem y_lload_n (pc : Nat) {n : Fin 4} (d : decode M.2.2.1 pc = .ok (.lload_n n, 1)) {x : Int} (hl : ls[(n : Nat)]? = some (some (mJ x))) (k : m_Y X Ω M (pc + 1) ls (mJ x :: st) h Q) : m_Y X Ω M pc ls st h Q := by
  intro E p l e s m args below meth c QQ H locs lsR hX C Rt Rl L o b
  refine lv_lload_n C.1 C.2.1 d rfl (L.2.2 _ _ hl).1 ?_
  exact k E p l e s m args below meth c QQ H locs lsR hX C Rt Rl L ⟨(L.2.2 _ _ hl).2, o⟩ b
theorem y_lload (pc : Nat) {n : Nat} (d : decode M.2.2.1 pc = .ok (.lload n, 2)) {x : Int} (hl : ls[n]? = some (some (mJ x))) (k : m_Y X Ω M (pc + 2) ls (mJ x :: st) h Q) : m_Y X Ω M pc ls st h Q := by
  intro E p l e s m args below meth c QQ H locs lsR hX C Rt Rl L o b
  refine lv_lload C.1 C.2.1 d (L.2.2 _ _ hl).1 ?_
  exact k E p l e s m args below meth c QQ H locs lsR hX C Rt Rl L ⟨(L.2.2 _ _ hl).2, o⟩ b
theorem y_aload_n (pc : Nat) {n : Fin 4} (d : decode M.2.2.1 pc = .ok (.aload_n n, 1)) {x : Nat} (hl : ls[(n : Nat)]? = some (some (mR x))) (k : m_Y X Ω M (pc + 1) ls (mR x :: st) h Q) : m_Y X Ω M pc ls st h Q := by
  intro E p l e s m args below meth c QQ H locs lsR hX C Rt Rl L o b
  refine lv_aload_n C.1 C.2.1 d rfl (L.2.2 _ _ hl).1 ?_
  exact k E p l e s m args below meth c QQ H locs lsR hX C Rt Rl L ⟨trivial, o⟩ b
theorem y_aload (pc : Nat) {n : Nat} (d : decode M.2.2.1 pc = .ok (.aload n, 2)) {x : Nat} (hl : ls[n]? = some (some (mR x))) (k : m_Y X Ω M (pc + 2) ls (mR x :: st) h Q) : m_Y X Ω M pc ls st h Q := by
  intro E p l e s m args below meth c QQ H locs lsR hX C Rt Rl L o b
  refine lv_aload C.1 C.2.1 d (L.2.2 _ _ hl).1 ?_
  exact k E p l e s m args below meth c QQ H locs lsR hX C Rt Rl L ⟨trivial, o⟩ b
theorem y_aload_nO (pc : Nat) {n : Fin 4} (d : decode M.2.2.1 pc = .ok (.aload_n n, 1)) {x : Nat} (hl : ls[(n : Nat)]? = some (some (mO x))) (k : m_Y X Ω M (pc + 1) ls (mO x :: st) h Q) (hx : x ≠ 40 := by omega) : m_Y X Ω M pc ls st h Q := by
  intro E p l e s m args below meth c QQ H locs lsR hX C Rt Rl L o b
  have h1 := (L.2.2 _ _ hl).1
  rw [m_vO hx] at h1
  refine lv_aload_n C.1 C.2.1 d rfl h1 ?_
  have key := k E p l e s m args below meth c QQ H locs lsR hX C Rt Rl L ⟨trivial, o⟩ b
  rw [List.map_cons, m_vO hx] at key
  exact key
theorem y_aloadO (pc : Nat) {n : Nat} (d : decode M.2.2.1 pc = .ok (.aload n, 2)) {x : Nat} (hl : ls[n]? = some (some (mO x))) (k : m_Y X Ω M (pc + 2) ls (mO x :: st) h Q) (hx : x ≠ 40 := by omega) : m_Y X Ω M pc ls st h Q := by
  intro E p l e s m args below meth c QQ H locs lsR hX C Rt Rl L o b
  have h1 := (L.2.2 _ _ hl).1
  rw [m_vO hx] at h1
  refine lv_aload C.1 C.2.1 d h1 ?_
  have key := k E p l e s m args below meth c QQ H locs lsR hX C Rt Rl L ⟨trivial, o⟩ b
  rw [List.map_cons, m_vO hx] at key
  exact key
theorem y_istore_n (pc : Nat) {n : Fin 4} (d : decode M.2.2.1 pc = .ok (.istore_n n, 1)) {x : Int} {ls' : List (Option m_V)} (hn : (n : Nat) < M.2.2.2.1) (e : m_st1 ls (n : Nat) (mI x) = ls') (k : m_Y X Ω M (pc + 1) ls' st h Q) : m_Y X Ω M pc ls (mI x :: st) h Q := by
  subst e
  intro E p l e s m args below meth c QQ H locs lsR hX C Rt Rl L o b
  refine lv_istore_n C.1 C.2.1 d rfl L.has hn rfl (fun ls2 hl2 => ?_)
  exact k E p l e s m args below meth c QQ H locs ls2 hX C Rt Rl (L.st1 o.1 hl2) o.2 b
theorem y_istore (pc : Nat) {n : Nat} (d : decode M.2.2.1 pc = .ok (.istore n, 2)) {x : Int} {ls' : List (Option m_V)} (hn : n < M.2.2.2.1) (e : m_st1 ls n (mI x) = ls') (k : m_Y X Ω M (pc + 2) ls' st h Q) : m_Y X Ω M pc ls (mI x :: st) h Q := by
  subst e
  intro E p l e s m args below meth c QQ H locs lsR hX C Rt Rl L o b
  refine lv_istore C.1 C.2.1 d L.has hn rfl (fun ls2 hl2 => ?_)
  exact k E p l e s m args below meth c QQ H locs ls2 hX C Rt Rl (L.st1 o.1 hl2) o.2 b
theorem y_lstore_n (pc : Nat) {n : Fin 4} (d : decode M.2.2.1 pc = .ok (.lstore_n n, 1)) {x : Int} {ls' : List (Option m_V)} (hn : (n : Nat) + 1 < M.2.2.2.1) (e : m_st2 ls (n : Nat) (mJ x) = ls') (k : m_Y X Ω M (pc + 1) ls' st h Q) : m_Y X Ω M pc ls (mJ x :: st) h Q := by
  subst e
  intro E p l e s m args below meth c QQ H locs lsR hX C Rt Rl L o b
  refine lv_lstore_n C.1 C.2.1 d rfl L.has hn rfl (fun ls2 hl2 => ?_)
  exact k E p l e s m args below meth c QQ H locs ls2 hX C Rt Rl (L.st2 o.1 hl2) o.2 b
theorem y_lstore (pc : Nat) {n : Nat} (d : decode M.2.2.1 pc = .ok (.lstore n, 2)) {x : Int} {ls' : List (Option m_V)} (hn : n + 1 < M.2.2.2.1) (e : m_st2 ls n (mJ x) = ls') (k : m_Y X Ω M (pc + 2) ls' st h Q) : m_Y X Ω M pc ls (mJ x :: st) h Q := by
  subst e
  intro E p l e s m args below meth c QQ H locs lsR hX C Rt Rl L o b
  refine lv_lstore C.1 C.2.1 d L.has hn rfl (fun ls2 hl2 => ?_)
  exact k E p l e s m args below meth c QQ H locs ls2 hX C Rt Rl (L.st2 o.1 hl2) o.2 b
theorem y_astore_n (pc : Nat) {n : Fin 4} (d : decode M.2.2.1 pc = .ok (.astore_n n, 1)) {x : Nat} {ls' : List (Option m_V)} (hn : (n : Nat) < M.2.2.2.1) (e : m_st1 ls (n : Nat) (mR x) = ls') (k : m_Y X Ω M (pc + 1) ls' st h Q) : m_Y X Ω M pc ls (mR x :: st) h Q := by
  subst e
  intro E p l e s m args below meth c QQ H locs lsR hX C Rt Rl L o b
  refine lv_astore_n C.1 C.2.1 d rfl L.has hn rfl (fun ls2 hl2 => ?_)
  exact k E p l e s m args below meth c QQ H locs ls2 hX C Rt Rl (L.st1 o.1 hl2) o.2 b
theorem y_astore (pc : Nat) {n : Nat} (d : decode M.2.2.1 pc = .ok (.astore n, 2)) {x : Nat} {ls' : List (Option m_V)} (hn : n < M.2.2.2.1) (e : m_st1 ls n (mR x) = ls') (k : m_Y X Ω M (pc + 2) ls' st h Q) : m_Y X Ω M pc ls (mR x :: st) h Q := by
  subst e
  intro E p l e s m args below meth c QQ H locs lsR hX C Rt Rl L o b
  refine lv_astore C.1 C.2.1 d L.has hn rfl (fun ls2 hl2 => ?_)
  exact k E p l e s m args below meth c QQ H locs ls2 hX C Rt Rl (L.st1 o.1 hl2) o.2 b
theorem y_iinc (pc : Nat) {n : Nat} {i : Int} (d : decode M.2.2.1 pc = .ok (.iinc n i, 3)) {x : Int} {ls' : List (Option m_V)} (hn : n < M.2.2.2.1) (hl : ls[n]? = some (some (mI x))) (hi : m_32 i) (e : m_st1 ls n (mI (m_w (x + i))) = ls') (k : m_Y X Ω M (pc + 3) ls' st h Q) : m_Y X Ω M pc ls st h Q := by
  subst e
  intro E p l e s m args below meth c QQ H locs lsR hX C Rt Rl L o b
  have hx := (L.2.2 _ _ hl).2
  have e1 : Int32.ofInt x + Int32.ofInt i = Int32.ofInt (m_w (x + i)) := m_eq32 (by rw [Int32.toInt_add, m_i32 hx, m_i32 hi]; rfl)
  obtain ⟨kk, hkk⟩ := List.getElem?_of_mem (m_pr_in (E := E) hl)
  refine lv_iinc C.1 C.2.1 d L.has hkk e1 hn rfl (fun ls2 hl2 => ?_)
  exact k E p l e s m args below meth c QQ H locs ls2 hX C Rt Rl (L.st1 (v := mI (m_w (x + i))) (m_w_ok _) hl2) o b
theorem y_iadd (pc : Nat) (d : decode M.2.2.1 pc = .ok (.iadd, 1)) {x y : Int} (k : m_Y X Ω M (pc + 1) ls (mI (m_w (x + y)) :: st) h Q) : m_Y X Ω M pc ls (mI y :: mI x :: st) h Q := by
  intro E p l e s m args below meth c QQ H locs lsR hX C Rt Rl L o b
  have e1 : Int32.ofInt x + Int32.ofInt y = Int32.ofInt (m_w (x + y)) := m_eq32 (by rw [Int32.toInt_add, m_i32 o.2.1, m_i32 o.1]; rfl)
  refine lv_iadd C.1 C.2.1 d ?_
  rw [e1]
  exact k E p l e s m args below meth c QQ H locs lsR hX C Rt Rl L ⟨m_w_ok _, o.2.2⟩ b
theorem y_ladd (pc : Nat) (d : decode M.2.2.1 pc = .ok (.ladd, 1)) {x y : Int} (k : m_Y X Ω M (pc + 1) ls (mJ (m_x (x + y)) :: st) h Q) : m_Y X Ω M pc ls (mJ y :: mJ x :: st) h Q := by
  intro E p l e s m args below meth c QQ H locs lsR hX C Rt Rl L o b
  have e1 : Int64.ofInt x + Int64.ofInt y = Int64.ofInt (m_x (x + y)) := m_eq64 (by rw [Int64.toInt_add, m_i64 o.2.1, m_i64 o.1]; rfl)
  refine lv_ladd C.1 C.2.1 d ?_
  rw [e1]
  exact k E p l e s m args below meth c QQ H locs lsR hX C Rt Rl L ⟨m_x_ok _, o.2.2⟩ b
theorem y_isub (pc : Nat) (d : decode M.2.2.1 pc = .ok (.isub, 1)) {x y : Int} (k : m_Y X Ω M (pc + 1) ls (mI (m_w (x - y)) :: st) h Q) : m_Y X Ω M pc ls (mI y :: mI x :: st) h Q := by
  intro E p l e s m args below meth c QQ H locs lsR hX C Rt Rl L o b
  have e1 : Int32.ofInt x - Int32.ofInt y = Int32.ofInt (m_w (x - y)) := m_eq32 (by rw [Int32.toInt_sub, m_i32 o.2.1, m_i32 o.1]; rfl)
  refine lv_isub C.1 C.2.1 d ?_
  rw [e1]
  exact k E p l e s m args below meth c QQ H locs lsR hX C Rt Rl L ⟨m_w_ok _, o.2.2⟩ b
theorem y_lsub (pc : Nat) (d : decode M.2.2.1 pc = .ok (.lsub, 1)) {x y : Int} (k : m_Y X Ω M (pc + 1) ls (mJ (m_x (x - y)) :: st) h Q) : m_Y X Ω M pc ls (mJ y :: mJ x :: st) h Q := by
  intro E p l e s m args below meth c QQ H locs lsR hX C Rt Rl L o b
  have e1 : Int64.ofInt x - Int64.ofInt y = Int64.ofInt (m_x (x - y)) := m_eq64 (by rw [Int64.toInt_sub, m_i64 o.2.1, m_i64 o.1]; rfl)
  refine lv_lsub C.1 C.2.1 d ?_
  rw [e1]
  exact k E p l e s m args below meth c QQ H locs lsR hX C Rt Rl L ⟨m_x_ok _, o.2.2⟩ b
theorem y_imul (pc : Nat) (d : decode M.2.2.1 pc = .ok (.imul, 1)) {x y : Int} (k : m_Y X Ω M (pc + 1) ls (mI (m_w (x * y)) :: st) h Q) : m_Y X Ω M pc ls (mI y :: mI x :: st) h Q := by
  intro E p l e s m args below meth c QQ H locs lsR hX C Rt Rl L o b
  have e1 : Int32.ofInt x * Int32.ofInt y = Int32.ofInt (m_w (x * y)) := m_eq32 (by rw [Int32.toInt_mul, m_i32 o.2.1, m_i32 o.1]; rfl)
  refine lv_imul C.1 C.2.1 d ?_
  rw [e1]
  exact k E p l e s m args below meth c QQ H locs lsR hX C Rt Rl L ⟨m_w_ok _, o.2.2⟩ b
theorem y_lmul (pc : Nat) (d : decode M.2.2.1 pc = .ok (.lmul, 1)) {x y : Int} (k : m_Y X Ω M (pc + 1) ls (mJ (m_x (x * y)) :: st) h Q) : m_Y X Ω M pc ls (mJ y :: mJ x :: st) h Q := by
  intro E p l e s m args below meth c QQ H locs lsR hX C Rt Rl L o b
  have e1 : Int64.ofInt x * Int64.ofInt y = Int64.ofInt (m_x (x * y)) := m_eq64 (by rw [Int64.toInt_mul, m_i64 o.2.1, m_i64 o.1]; rfl)
  refine lv_lmul C.1 C.2.1 d ?_
  rw [e1]
  exact k E p l e s m args below meth c QQ H locs lsR hX C Rt Rl L ⟨m_x_ok _, o.2.2⟩ b
theorem y_iand (pc : Nat) (d : decode M.2.2.1 pc = .ok (.iand, 1)) {x y : Int} (k : m_Y X Ω M (pc + 1) ls (mI (m_and x y) :: st) h Q) : m_Y X Ω M pc ls (mI y :: mI x :: st) h Q := by
  intro E p l e s m args below meth c QQ H locs lsR hX C Rt Rl L o b
  have e1 : Int32.ofInt x &&& Int32.ofInt y = Int32.ofInt (m_and x y) := m_eq32 rfl
  refine lv_iand C.1 C.2.1 d ?_
  rw [e1]
  exact k E p l e s m args below meth c QQ H locs lsR hX C Rt Rl L ⟨m_32t _, o.2.2⟩ b
theorem y_i2l (pc : Nat) (d : decode M.2.2.1 pc = .ok (.i2l, 1)) {x : Int} (k : m_Y X Ω M (pc + 1) ls (mJ x :: st) h Q) : m_Y X Ω M pc ls (mI x :: st) h Q := by
  intro E p l e s m args below meth c QQ H locs lsR hX C Rt Rl L o b
  have o1 : m_32 x := o.1
  refine lv_i2l (v := Int64.ofInt x) C.1 C.2.1 d (m_eq64 (by rw [Int32.toInt_toInt64, m_i32 o.1])) ?_
  exact k E p l e s m args below meth c QQ H locs lsR hX C Rt Rl L ⟨by unfold m_32 at o1; show m_64 x; unfold m_64; omega, o.2⟩ b
theorem y_dup (pc : Nat) (d : decode M.2.2.1 pc = .ok (.dup, 1)) {a : m_V} (ha : m_isL a = false) (k : m_Y X Ω M (pc + 1) ls (a :: a :: st) h Q) : m_Y X Ω M pc ls (a :: st) h Q := by
  intro E p l e s m args below meth c QQ H locs lsR hX C Rt Rl L o b
  refine lv_dup C.1 C.2.1 d (by rw [m_cat, ha]; rfl) ?_
  exact k E p l e s m args below meth c QQ H locs lsR hX C Rt Rl L ⟨o.1, o⟩ b
theorem y_pop (pc : Nat) (d : decode M.2.2.1 pc = .ok (.pop, 1)) {a : m_V} (ha : m_isL a = false) (k : m_Y X Ω M (pc + 1) ls st h Q) : m_Y X Ω M pc ls (a :: st) h Q := by
  intro E p l e s m args below meth c QQ H locs lsR hX C Rt Rl L o b
  refine lv_pop C.1 C.2.1 d (by rw [m_cat, ha]; rfl) ?_
  exact k E p l e s m args below meth c QQ H locs lsR hX C Rt Rl L o.2 b
theorem y_pop2 (pc : Nat) (d : decode M.2.2.1 pc = .ok (.pop2, 1)) {a : m_V} (ha : m_isL a = true) (k : m_Y X Ω M (pc + 1) ls st h Q) : m_Y X Ω M pc ls (a :: st) h Q := by
  intro E p l e s m args below meth c QQ H locs lsR hX C Rt Rl L o b
  refine lv_pop2_2 C.1 C.2.1 d (by rw [m_cat, ha]; rfl) ?_
  exact k E p l e s m args below meth c QQ H locs lsR hX C Rt Rl L o.2 b
theorem y_dup2 (pc : Nat) (d : decode M.2.2.1 pc = .ok (.dup2, 1)) {a a' : m_V} (ha : m_isL a = false) (ha' : m_isL a' = false) (k : m_Y X Ω M (pc + 1) ls (a :: a' :: a :: a' :: st) h Q) : m_Y X Ω M pc ls (a :: a' :: st) h Q := by
  intro E p l e s m args below meth c QQ H locs lsR hX C Rt Rl L o b
  refine lv_dup2_11 C.1 C.2.1 d (by rw [m_cat, ha]; rfl) (by rw [m_cat, ha']; rfl) ?_
  exact k E p l e s m args below meth c QQ H locs lsR hX C Rt Rl L ⟨o.1, o.2.1, o⟩ b
theorem y_if_eq (pc : Nat) {off : Int} {x : Int} (d : decode M.2.2.1 pc = .ok (.ifCond .eq off, 3)) (tgt : Nat) (ht : (pc : Int) + off = (tgt : Int)) (kt : x = 0 → m_Y X Ω M tgt ls st h Q) (kf : ¬ x = 0 → m_Y X Ω M (pc + 3) ls st h Q) : m_Y X Ω M pc ls (mI x :: st) h Q := by
  intro E p l e s m args below meth c QQ H locs lsR hX C Rt Rl L o b
  have hb := m_inj32 (x := x) (y := 0) o.1 m_320
  refine lv_if_eq C.1 C.2.1 d ht (fun q => kt ((hb).mp q) E p l e s m args below meth c QQ H locs lsR hX C Rt Rl L o.2 b) (fun q => kf (fun z => q ((hb).mpr z)) E p l e s m args below meth c QQ H locs lsR hX C Rt Rl L o.2 b)
theorem y_icmp_eq (pc : Nat) {off : Int} {x y : Int} (d : decode M.2.2.1 pc = .ok (.if_icmp .eq off, 3)) (tgt : Nat) (ht : (pc : Int) + off = (tgt : Int)) (kt : x = y → m_Y X Ω M tgt ls st h Q) (kf : ¬ x = y → m_Y X Ω M (pc + 3) ls st h Q) : m_Y X Ω M pc ls (mI y :: mI x :: st) h Q := by
  intro E p l e s m args below meth c QQ H locs lsR hX C Rt Rl L o b
  have hb := m_inj32 (x := x) (y := y) o.2.1 o.1
  refine lv_icmp_eq C.1 C.2.1 d ht (fun q => kt ((hb).mp q) E p l e s m args below meth c QQ H locs lsR hX C Rt Rl L o.2.2 b) (fun q => kf (fun z => q ((hb).mpr z)) E p l e s m args below meth c QQ H locs lsR hX C Rt Rl L o.2.2 b)
theorem y_if_ne (pc : Nat) {off : Int} {x : Int} (d : decode M.2.2.1 pc = .ok (.ifCond .ne off, 3)) (tgt : Nat) (ht : (pc : Int) + off = (tgt : Int)) (kt : ¬ x = 0 → m_Y X Ω M tgt ls st h Q) (kf : x = 0 → m_Y X Ω M (pc + 3) ls st h Q) : m_Y X Ω M pc ls (mI x :: st) h Q := by
  intro E p l e s m args below meth c QQ H locs lsR hX C Rt Rl L o b
  have hb := m_inj32 (x := x) (y := 0) o.1 m_320
  refine lv_if_ne C.1 C.2.1 d ht (fun q => kt (fun z => q ((hb).mpr z)) E p l e s m args below meth c QQ H locs lsR hX C Rt Rl L o.2 b) (fun q => kf ((hb).mp q) E p l e s m args below meth c QQ H locs lsR hX C Rt Rl L o.2 b)
theorem y_icmp_ne (pc : Nat) {off : Int} {x y : Int} (d : decode M.2.2.1 pc = .ok (.if_icmp .ne off, 3)) (tgt : Nat) (ht : (pc : Int) + off = (tgt : Int)) (kt : ¬ x = y → m_Y X Ω M tgt ls st h Q) (kf : x = y → m_Y X Ω M (pc + 3) ls st h Q) : m_Y X Ω M pc ls (mI y :: mI x :: st) h Q := by
  intro E p l e s m args below meth c QQ H locs lsR hX C Rt Rl L o b
  have hb := m_inj32 (x := x) (y := y) o.2.1 o.1
  refine lv_icmp_ne C.1 C.2.1 d ht (fun q => kt (fun z => q ((hb).mpr z)) E p l e s m args below meth c QQ H locs lsR hX C Rt Rl L o.2.2 b) (fun q => kf ((hb).mp q) E p l e s m args below meth c QQ H locs lsR hX C Rt Rl L o.2.2 b)
theorem y_if_lt (pc : Nat) {off : Int} {x : Int} (d : decode M.2.2.1 pc = .ok (.ifCond .lt off, 3)) (tgt : Nat) (ht : (pc : Int) + off = (tgt : Int)) (kt : x < 0 → m_Y X Ω M tgt ls st h Q) (kf : ¬ x < 0 → m_Y X Ω M (pc + 3) ls st h Q) : m_Y X Ω M pc ls (mI x :: st) h Q := by
  intro E p l e s m args below meth c QQ H locs lsR hX C Rt Rl L o b
  have hb := m_lt32 (x := x) (y := 0) o.1 m_320
  refine lv_if_lt C.1 C.2.1 d ht (fun q => kt ((hb).mp q) E p l e s m args below meth c QQ H locs lsR hX C Rt Rl L o.2 b) (fun q => kf (fun z => q ((hb).mpr z)) E p l e s m args below meth c QQ H locs lsR hX C Rt Rl L o.2 b)
theorem y_icmp_lt (pc : Nat) {off : Int} {x y : Int} (d : decode M.2.2.1 pc = .ok (.if_icmp .lt off, 3)) (tgt : Nat) (ht : (pc : Int) + off = (tgt : Int)) (kt : x < y → m_Y X Ω M tgt ls st h Q) (kf : ¬ x < y → m_Y X Ω M (pc + 3) ls st h Q) : m_Y X Ω M pc ls (mI y :: mI x :: st) h Q := by
  intro E p l e s m args below meth c QQ H locs lsR hX C Rt Rl L o b
  have hb := m_lt32 (x := x) (y := y) o.2.1 o.1
  refine lv_icmp_lt C.1 C.2.1 d ht (fun q => kt ((hb).mp q) E p l e s m args below meth c QQ H locs lsR hX C Rt Rl L o.2.2 b) (fun q => kf (fun z => q ((hb).mpr z)) E p l e s m args below meth c QQ H locs lsR hX C Rt Rl L o.2.2 b)
theorem y_if_ge (pc : Nat) {off : Int} {x : Int} (d : decode M.2.2.1 pc = .ok (.ifCond .ge off, 3)) (tgt : Nat) (ht : (pc : Int) + off = (tgt : Int)) (kt : 0 ≤ x → m_Y X Ω M tgt ls st h Q) (kf : ¬ 0 ≤ x → m_Y X Ω M (pc + 3) ls st h Q) : m_Y X Ω M pc ls (mI x :: st) h Q := by
  intro E p l e s m args below meth c QQ H locs lsR hX C Rt Rl L o b
  have hb := m_le32 (x := 0) (y := x) m_320 o.1
  refine lv_if_ge C.1 C.2.1 d ht (fun q => kt ((hb).mp q) E p l e s m args below meth c QQ H locs lsR hX C Rt Rl L o.2 b) (fun q => kf (fun z => q ((hb).mpr z)) E p l e s m args below meth c QQ H locs lsR hX C Rt Rl L o.2 b)
theorem y_icmp_ge (pc : Nat) {off : Int} {x y : Int} (d : decode M.2.2.1 pc = .ok (.if_icmp .ge off, 3)) (tgt : Nat) (ht : (pc : Int) + off = (tgt : Int)) (kt : y ≤ x → m_Y X Ω M tgt ls st h Q) (kf : ¬ y ≤ x → m_Y X Ω M (pc + 3) ls st h Q) : m_Y X Ω M pc ls (mI y :: mI x :: st) h Q := by
  intro E p l e s m args below meth c QQ H locs lsR hX C Rt Rl L o b
  have hb := m_le32 (x := y) (y := x) o.1 o.2.1
  refine lv_icmp_ge C.1 C.2.1 d ht (fun q => kt ((hb).mp q) E p l e s m args below meth c QQ H locs lsR hX C Rt Rl L o.2.2 b) (fun q => kf (fun z => q ((hb).mpr z)) E p l e s m args below meth c QQ H locs lsR hX C Rt Rl L o.2.2 b)
theorem y_if_gt (pc : Nat) {off : Int} {x : Int} (d : decode M.2.2.1 pc = .ok (.ifCond .gt off, 3)) (tgt : Nat) (ht : (pc : Int) + off = (tgt : Int)) (kt : 0 < x → m_Y X Ω M tgt ls st h Q) (kf : ¬ 0 < x → m_Y X Ω M (pc + 3) ls st h Q) : m_Y X Ω M pc ls (mI x :: st) h Q := by
  intro E p l e s m args below meth c QQ H locs lsR hX C Rt Rl L o b
  have hb := m_lt32 (x := 0) (y := x) m_320 o.1
  refine lv_if_gt C.1 C.2.1 d ht (fun q => kt ((hb).mp q) E p l e s m args below meth c QQ H locs lsR hX C Rt Rl L o.2 b) (fun q => kf (fun z => q ((hb).mpr z)) E p l e s m args below meth c QQ H locs lsR hX C Rt Rl L o.2 b)
theorem y_icmp_gt (pc : Nat) {off : Int} {x y : Int} (d : decode M.2.2.1 pc = .ok (.if_icmp .gt off, 3)) (tgt : Nat) (ht : (pc : Int) + off = (tgt : Int)) (kt : y < x → m_Y X Ω M tgt ls st h Q) (kf : ¬ y < x → m_Y X Ω M (pc + 3) ls st h Q) : m_Y X Ω M pc ls (mI y :: mI x :: st) h Q := by
  intro E p l e s m args below meth c QQ H locs lsR hX C Rt Rl L o b
  have hb := m_lt32 (x := y) (y := x) o.1 o.2.1
  refine lv_icmp_gt C.1 C.2.1 d ht (fun q => kt ((hb).mp q) E p l e s m args below meth c QQ H locs lsR hX C Rt Rl L o.2.2 b) (fun q => kf (fun z => q ((hb).mpr z)) E p l e s m args below meth c QQ H locs lsR hX C Rt Rl L o.2.2 b)
theorem y_if_le (pc : Nat) {off : Int} {x : Int} (d : decode M.2.2.1 pc = .ok (.ifCond .le off, 3)) (tgt : Nat) (ht : (pc : Int) + off = (tgt : Int)) (kt : x ≤ 0 → m_Y X Ω M tgt ls st h Q) (kf : ¬ x ≤ 0 → m_Y X Ω M (pc + 3) ls st h Q) : m_Y X Ω M pc ls (mI x :: st) h Q := by
  intro E p l e s m args below meth c QQ H locs lsR hX C Rt Rl L o b
  have hb := m_le32 (x := x) (y := 0) o.1 m_320
  refine lv_if_le C.1 C.2.1 d ht (fun q => kt ((hb).mp q) E p l e s m args below meth c QQ H locs lsR hX C Rt Rl L o.2 b) (fun q => kf (fun z => q ((hb).mpr z)) E p l e s m args below meth c QQ H locs lsR hX C Rt Rl L o.2 b)
theorem y_icmp_le (pc : Nat) {off : Int} {x y : Int} (d : decode M.2.2.1 pc = .ok (.if_icmp .le off, 3)) (tgt : Nat) (ht : (pc : Int) + off = (tgt : Int)) (kt : x ≤ y → m_Y X Ω M tgt ls st h Q) (kf : ¬ x ≤ y → m_Y X Ω M (pc + 3) ls st h Q) : m_Y X Ω M pc ls (mI y :: mI x :: st) h Q := by
  intro E p l e s m args below meth c QQ H locs lsR hX C Rt Rl L o b
  have hb := m_le32 (x := x) (y := y) o.2.1 o.1
  refine lv_icmp_le C.1 C.2.1 d ht (fun q => kt ((hb).mp q) E p l e s m args below meth c QQ H locs lsR hX C Rt Rl L o.2.2 b) (fun q => kf (fun z => q ((hb).mpr z)) E p l e s m args below meth c QQ H locs lsR hX C Rt Rl L o.2.2 b)
theorem y_goto (pc : Nat) {off : Int} (d : decode M.2.2.1 pc = .ok (.goto off, 3)) (tgt : Nat) (ht : (pc : Int) + off = (tgt : Int)) (k : m_Y X Ω M tgt ls st h Q) : m_Y X Ω M pc ls st h Q := by
  intro E p l e s m args below meth c QQ H locs lsR hX C Rt Rl L o b
  refine lv_goto C.1 C.2.1 d ht ?_
  exact k E p l e s m args below meth c QQ H locs lsR hX C Rt Rl L o b
theorem y_tabOut (pc : Nat) {df lo hi : Int} {offs : Array Int} {len : Nat} (d : decode M.2.2.1 pc = .ok (.tableswitch df lo hi offs, len)) {x : Int} (tgt : Nat) (hx : x < lo ∨ hi < x) (ht : (pc : Int) + df = (tgt : Int)) (k : m_Y X Ω M tgt ls st h Q) : m_Y X Ω M pc ls (mI x :: st) h Q := by
  intro E p l e s m args below meth c QQ H locs lsR hX C Rt Rl L o b
  refine lv_tableOut C.1 C.2.1 d (by rw [m_i32 o.1]; exact hx) ht ?_
  exact k E p l e s m args below meth c QQ H locs lsR hX C Rt Rl L o.2 b
theorem y_tabIn (pc : Nat) {df lo hi : Int} {offs : Array Int} {len : Nat} (d : decode M.2.2.1 pc = .ok (.tableswitch df lo hi offs, len)) {x off : Int} (tgt : Nat) (h1 : lo ≤ x) (h2 : x ≤ hi) (ho : offs[(x - lo).toNat]? = some off) (ht : (pc : Int) + off = (tgt : Int)) (k : m_Y X Ω M tgt ls st h Q) : m_Y X Ω M pc ls (mI x :: st) h Q := by
  intro E p l e s m args below meth c QQ H locs lsR hX C Rt Rl L o b
  have e1 := m_i32 (x := x) o.1
  refine lv_tableIn C.1 C.2.1 d (by rw [e1]; omega) (by rw [e1]; omega) (by rw [e1]; exact ho) ht ?_
  exact k E p l e s m args below meth c QQ H locs lsR hX C Rt Rl L o.2 b
theorem y_ok {pc : Nat} (k : m_oks st → m_hok Ω h → (∀ (i : Nat) (v : m_V), ls[i]? = some (some v) → m_ok v) → m_Y X Ω M pc ls st h Q) : m_Y X Ω M pc ls st h Q := by
  intro E p l e s m args below meth c QQ H locs lsR hX C Rt Rl L o b
  exact k o Rl.2.2.2 (fun i v q => (L.2.2 i v q).2) E p l e s m args below meth c QQ H locs lsR hX C Rt Rl L o b
theorem y_sub {pc : Nat} {ls' : List (Option m_V)} (q : ∀ (i : Nat) (v : m_V), ls'[i]? = some (some v) → ls[i]? = some (some v)) (k : m_Y X Ω M pc ls' st h Q) : m_Y X Ω M pc ls st h Q := by
  intro E p l e s m args below meth c QQ H locs lsR hX C Rt Rl L o b
  exact k E p l e s m args below meth c QQ H locs lsR hX C Rt Rl ⟨L.1, L.2.1, fun i v z => L.2.2 i v (q i v z)⟩ o b
theorem y_post {pc : Nat} {Q' : m_W → Option m_V → m_H → Prop} (q : ∀ w r h', Q' w r h' → Q w r h') (k : m_Y X Ω M pc ls st h Q') : m_Y X Ω M pc ls st h Q := by
  intro E p l e s m args below meth c QQ H locs lsR hX C Rt Rl L o b
  exact k E p l e s m args below meth c QQ H locs lsR hX C (fun Ω r h H locs pc ls i a => Rt Ω r h H locs pc ls i (q _ _ _ a)) Rl L o b
theorem y_iret (pc : Nat) {x : Int} (d : decode M.2.2.1 pc = .ok (.ireturn, 1)) (hr : M.2.2.2.2.1 = some .int) (q : Q Ω (some (mI x)) h) : m_Y X Ω M pc ls [mI x] h Q := by
  intro E p l e s m args below meth c QQ H locs lsR hX C Rt Rl L o b
  exact Rt Ω (some (mI x)) h H locs pc lsR _ q (fun v e => by cases e; exact o.1) Rl d (Or.inr (Or.inl ⟨x, hr, rfl, rfl⟩))
theorem y_zret (pc : Nat) {x : Int} (d : decode M.2.2.1 pc = .ok (.ireturn, 1)) (hr : M.2.2.2.2.1 = some .boolean) (hx : x = 0 ∨ x = 1) (q : Q Ω (some (mI x)) h) : m_Y X Ω M pc ls [mI x] h Q := by
  intro E p l e s m args below meth c QQ H locs lsR hX C Rt Rl L o b
  exact Rt Ω (some (mI x)) h H locs pc lsR _ q (fun v e => by cases e; exact o.1) Rl d (Or.inr (Or.inr (Or.inl ⟨x, hr, rfl, rfl, hx⟩)))
theorem y_lret (pc : Nat) {x : Int} (d : decode M.2.2.1 pc = .ok (.lreturn, 1)) (hr : M.2.2.2.2.1 = some .long) (q : Q Ω (some (mJ x)) h) : m_Y X Ω M pc ls [mJ x] h Q := by
  intro E p l e s m args below meth c QQ H locs lsR hX C Rt Rl L o b
  exact Rt Ω (some (mJ x)) h H locs pc lsR _ q (fun v e => by cases e; exact o.1) Rl d (Or.inr (Or.inr (Or.inr (Or.inl ⟨x, hr, rfl, rfl⟩))))
theorem y_vret (pc : Nat) (d : decode M.2.2.1 pc = .ok (.return_, 1)) (hr : M.2.2.2.2.1 = none) (q : Q Ω none h) : m_Y X Ω M pc ls [] h Q := by
  intro E p l e s m args below meth c QQ H locs lsR hX C Rt Rl L o b
  exact Rt Ω none h H locs pc lsR _ q (fun v e => by cases e) Rl d (Or.inl ⟨hr, rfl, rfl⟩)
theorem y_aret (pc : Nat) {x : Nat} (d : decode M.2.2.1 pc = .ok (.areturn, 1)) (hr : M.2.2.2.2.1 = some (.array (.object "WeekFoot$Bound"))) (q : Q Ω (some (mR x)) h) : m_Y X Ω M pc ls [mR x] h Q := by
  intro E p l e s m args below meth c QQ H locs lsR hX C Rt Rl L o b
  exact Rt Ω (some (mR x)) h H locs pc lsR _ q (fun v e => by cases e; trivial) Rl d (Or.inr (Or.inr (Or.inr (Or.inr (Or.inl ⟨x, hr, rfl, rfl⟩)))))
theorem y_nret (pc : Nat) {x : Int} (d : decode M.2.2.1 pc = .ok (.ireturn, 1)) {ty : FieldType} (hr : M.2.2.2.2.1 = some ty) (hn : narrow ty (.int (Int32.ofInt x)) = .int (Int32.ofInt x)) (q : Q Ω (some (mI x)) h) : m_Y X Ω M pc ls [mI x] h Q := by
  intro E p l e s m args below meth c QQ H locs lsR hX C Rt Rl L o b
  exact Rt Ω (some (mI x)) h H locs pc lsR _ q (fun v e => by cases e; exact o.1) Rl d (Or.inr (Or.inr (Or.inr (Or.inr (Or.inr ⟨x, ty, hr, rfl, rfl, hn⟩)))))
theorem y_getI (pc : Nat) {index ci N j k : Nat} (d : decode M.2.2.1 pc = .ok (.getfield index, 3)) (f : m_fl M.1 index ci N j) (hk : Ω[k]? = some (ci + 5, N)) (ht : m_tk (m_ty ci j) ≠ 1 ∧ m_tk (m_ty ci j) ≠ 3) (kk : m_Y X Ω M (pc + 3) ls (mI (h k j) :: st) h Q) : m_Y X Ω M pc ls (mR k :: st) h Q := by
  intro E p l e s m args below meth c QQ H locs lsR hX C Rt Rl L o b
  refine m_get C Rl d f hk ?_
  have hb := Rl.2.2.2 k _ hk j
  simp only [m_sk, m_rg, ht.1, ht.2, if_false] at hb
  simp only [m_sv, ht.1, ht.2, if_false]
  exact kk E p l e s m args below meth c QQ H locs lsR hX C Rt Rl L ⟨hb, o.2⟩ b
theorem y_getJ (pc : Nat) {index ci N j k : Nat} (d : decode M.2.2.1 pc = .ok (.getfield index, 3)) (f : m_fl M.1 index ci N j) (hk : Ω[k]? = some (ci + 5, N)) (ht : m_tk (m_ty ci j) = 1) (kk : m_Y X Ω M (pc + 3) ls (mJ (h k j) :: st) h Q) : m_Y X Ω M pc ls (mR k :: st) h Q := by
  intro E p l e s m args below meth c QQ H locs lsR hX C Rt Rl L o b
  refine m_get C Rl d f hk ?_
  have hb := Rl.2.2.2 k _ hk j
  simp only [m_sk, m_rg, ht, if_true] at hb
  simp only [m_sv, ht, if_true]
  exact kk E p l e s m args below meth c QQ H locs lsR hX C Rt Rl L ⟨hb, o.2⟩ b
theorem y_getR (pc : Nat) {index ci N j k t : Nat} (d : decode M.2.2.1 pc = .ok (.getfield index, 3)) (f : m_fl M.1 index ci N j) (hk : Ω[k]? = some (ci + 5, N)) (ht : m_tk (m_ty ci j) = 3) (hr : h k j = (t : Int)) (kk : m_Y X Ω M (pc + 3) ls (mR t :: st) h Q) : m_Y X Ω M pc ls (mR k :: st) h Q := by
  intro E p l e s m args below meth c QQ H locs lsR hX C Rt Rl L o b
  refine m_get C Rl d f hk ?_
  have e1 : m_sv E (m_tk (m_ty ci j)) (h k j) = .ref (E.1.1 + t) := by
    rw [ht, hr]
    simp [m_sv, m_rv]
  rw [e1]
  exact kk E p l e s m args below meth c QQ H locs lsR hX C Rt Rl L ⟨trivial, o.2⟩ b
theorem y_putI (pc : Nat) {index ci N j k : Nat} {x : Int} (d : decode M.2.2.1 pc = .ok (.putfield index, 3)) (f : m_fp M.1 index ci N j) (hk : Ω[k]? = some (ci + 5, N)) (ht : m_ty ci j = .int) (kk : m_Y X Ω M (pc + 3) ls st (m_up h k j x) Q) : m_Y X Ω M pc ls (mI x :: mR k :: st) h Q := by
  intro E p l e s m args below meth c QQ H locs lsR hX C Rt Rl L o b
  have e1 : m_sv E (m_tk (m_ty ci j)) x = .int (Int32.ofInt x) := by rw [ht]; rfl
  have h1 := m_put (x := x) (rest := st.map (m_v E)) (lsR := lsR) (QQ := QQ) (R := m_rm M) (l := l) (e := e) (below := below) (meth := meth) (cells := Ω.length - m_k0 M) (slots := m_sz Ω - m_s0 M) C Rl d f hk (by rw [e1, ht]; rfl) (by rw [e1, ht]; rfl) (by rw [ht]; exact o.1) (fun H1 locs1 R1 => kk E p l e s m args below meth c QQ H1 locs1 lsR hX C Rt R1 L o.2.2 b)
  rw [e1] at h1
  exact h1
theorem y_putZ (pc : Nat) {index ci N j k : Nat} {x : Int} (d : decode M.2.2.1 pc = .ok (.putfield index, 3)) (f : m_fp M.1 index ci N j) (hk : Ω[k]? = some (ci + 5, N)) (ht : m_ty ci j = .boolean) (hx : x = 0 ∨ x = 1) (kk : m_Y X Ω M (pc + 3) ls st (m_up h k j x) Q) : m_Y X Ω M pc ls (mI x :: mR k :: st) h Q := by
  intro E p l e s m args below meth c QQ H locs lsR hX C Rt Rl L o b
  have e1 : m_sv E (m_tk (m_ty ci j)) x = .int (Int32.ofInt x) := by rw [ht]; rfl
  have h1 := m_put (x := x) (rest := st.map (m_v E)) (lsR := lsR) (QQ := QQ) (R := m_rm M) (l := l) (e := e) (below := below) (meth := meth) (cells := Ω.length - m_k0 M) (slots := m_sz Ω - m_s0 M) C Rl d f hk (by rw [e1, ht]; rcases hx with rfl | rfl <;> rfl) (by rw [e1, ht]; rcases hx with rfl | rfl <;> rfl) (by rw [ht]; exact o.1) (fun H1 locs1 R1 => kk E p l e s m args below meth c QQ H1 locs1 lsR hX C Rt R1 L o.2.2 b)
  rw [e1] at h1
  exact h1
theorem y_putJ (pc : Nat) {index ci N j k : Nat} {x : Int} (d : decode M.2.2.1 pc = .ok (.putfield index, 3)) (f : m_fp M.1 index ci N j) (hk : Ω[k]? = some (ci + 5, N)) (ht : m_ty ci j = .long) (kk : m_Y X Ω M (pc + 3) ls st (m_up h k j x) Q) : m_Y X Ω M pc ls (mJ x :: mR k :: st) h Q := by
  intro E p l e s m args below meth c QQ H locs lsR hX C Rt Rl L o b
  have e1 : m_sv E (m_tk (m_ty ci j)) x = .long (Int64.ofInt x) := by rw [ht]; rfl
  have h1 := m_put (x := x) (rest := st.map (m_v E)) (lsR := lsR) (QQ := QQ) (R := m_rm M) (l := l) (e := e) (below := below) (meth := meth) (cells := Ω.length - m_k0 M) (slots := m_sz Ω - m_s0 M) C Rl d f hk (by rw [e1, ht]; rfl) (by rw [e1, ht]; rfl) (by rw [ht]; exact o.1) (fun H1 locs1 R1 => kk E p l e s m args below meth c QQ H1 locs1 lsR hX C Rt R1 L o.2.2 b)
  rw [e1] at h1
  exact h1
theorem y_iald (pc : Nat) {k n : Nat} {i : Int} (d : decode M.2.2.1 pc = .ok (.iaload, 1)) (hk : Ω[k]? = some (0, n)) (h0 : 0 ≤ i) (h1 : i < n) (kk : m_Y X Ω M (pc + 1) ls (mI (h k i.toNat) :: st) h Q) : m_Y X Ω M pc ls (mI i :: mR k :: st) h Q := by
  intro E p l e s m args below meth c QQ H locs lsR hX C Rt Rl L o b
  have hb := Rl.2.2.2 k _ hk i.toNat
  refine va_iald C.1 C.2.1 C.2.2.2.2.2.1 Rl.2.1 k 0 (m_wl_at hk) rfl (m_ix o.1 h0 h1) d ?_
  rw [m_cn o.1]
  exact kk E p l e s m args below meth c QQ H locs lsR hX C Rt Rl L ⟨hb, o.2.2⟩ b
theorem y_lald (pc : Nat) {k n : Nat} {i : Int} (d : decode M.2.2.1 pc = .ok (.laload, 1)) (hk : Ω[k]? = some (1, n)) (h0 : 0 ≤ i) (h1 : i < n) (kk : m_Y X Ω M (pc + 1) ls (mJ (h k i.toNat) :: st) h Q) : m_Y X Ω M pc ls (mI i :: mR k :: st) h Q := by
  intro E p l e s m args below meth c QQ H locs lsR hX C Rt Rl L o b
  have hb := Rl.2.2.2 k _ hk i.toNat
  refine va_lald C.1 C.2.1 C.2.2.2.2.2.1 Rl.2.1 k 1 (m_wl_at hk) rfl (m_ix o.1 h0 h1) d ?_
  rw [m_cn o.1]
  exact kk E p l e s m args below meth c QQ H locs lsR hX C Rt Rl L ⟨hb, o.2.2⟩ b
theorem y_zald (pc : Nat) {k n : Nat} {i : Int} (d : decode M.2.2.1 pc = .ok (.baload, 1)) (hk : Ω[k]? = some (2, n)) (h0 : 0 ≤ i) (h1 : i < n) (kk : m_Y X Ω M (pc + 1) ls (mI (h k i.toNat) :: st) h Q) : m_Y X Ω M pc ls (mI i :: mR k :: st) h Q := by
  intro E p l e s m args below meth c QQ H locs lsR hX C Rt Rl L o b
  have hb := Rl.2.2.2 k _ hk i.toNat
  refine va_zald C.1 C.2.1 C.2.2.2.2.2.1 Rl.2.1 k 2 (m_wl_at hk) rfl (m_ix o.1 h0 h1) d ?_
  rw [m_cn o.1]
  exact kk E p l e s m args below meth c QQ H locs lsR hX C Rt Rl L ⟨hb, o.2.2⟩ b
theorem y_aaldB (pc : Nat) {k n t : Nat} {i : Int} (d : decode M.2.2.1 pc = .ok (.aaload, 1)) (hk : Ω[k]? = some (3, n)) (h0 : 0 ≤ i) (h1 : i < n) (hr : h k i.toNat = (t : Int)) (kk : m_Y X Ω M (pc + 1) ls (mR t :: st) h Q) : m_Y X Ω M pc ls (mI i :: mR k :: st) h Q := by
  intro E p l e s m args below meth c QQ H locs lsR hX C Rt Rl L o b
  refine va_aldq (C := "WeekFoot$Bound") C.1 C.2.1 C.2.2.2.2.2.1 Rl.2.1 k 3 (m_wl_at hk) rfl (m_ix o.1 h0 h1) d ?_
  rw [m_cn o.1, hr, if_neg (by omega), Int.toNat_natCast]
  exact kk E p l e s m args below meth c QQ H locs lsR hX C Rt Rl L ⟨trivial, o.2.2⟩ b
theorem y_aaldL (pc : Nat) {k n t : Nat} {i : Int} (d : decode M.2.2.1 pc = .ok (.aaload, 1)) (hk : Ω[k]? = some (4, n)) (h0 : 0 ≤ i) (h1 : i < n) (hr : h k i.toNat = (t : Int)) (kk : m_Y X Ω M (pc + 1) ls (mR t :: st) h Q) : m_Y X Ω M pc ls (mI i :: mR k :: st) h Q := by
  intro E p l e s m args below meth c QQ H locs lsR hX C Rt Rl L o b
  refine va_aldq (C := "WeekFoot$Ledger") C.1 C.2.1 C.2.2.2.2.2.1 Rl.2.1 k 4 (m_wl_at hk) rfl (m_ix o.1 h0 h1) d ?_
  rw [m_cn o.1, hr, if_neg (by omega), Int.toNat_natCast]
  exact kk E p l e s m args below meth c QQ H locs lsR hX C Rt Rl L ⟨trivial, o.2.2⟩ b
theorem y_alen (pc : Nat) {k kd n : Nat} (d : decode M.2.2.1 pc = .ok (.arraylength, 1)) (hk : Ω[k]? = some (kd, n)) (hd : kd ≤ 4) (hn : n ≤ 2147483647) (kk : m_Y X Ω M (pc + 1) ls (mI n :: st) h Q) : m_Y X Ω M pc ls (mR k :: st) h Q := by
  intro E p l e s m args below meth c QQ H locs lsR hX C Rt Rl L o b
  have key : W p l e (m_rm M) s m args below meth c H locs (Ω.length - m_k0 M) (m_sz Ω - m_s0 M) QQ (F0 m (pc + 1) lsR (.int (Int32.ofInt n) :: st.map (m_v E))) := kk E p l e s m args below meth c QQ H locs lsR hX C Rt Rl L ⟨by show m_32 _; unfold m_32; omega, o.2⟩ b
  have e0 : ∀ x : vp_A, x.1 = n → Int32.ofNat x.1 = Int32.ofInt (n : Int) := fun x q => by rw [q]; rfl
  have hw := m_wl_at (E := E) (h := h) hk
  rcases (show kd = 0 ∨ kd = 1 ∨ kd = 2 ∨ kd = 3 ∨ kd = 4 by omega) with rfl | rfl | rfl | rfl | rfl
  · exact va_alen C.1 C.2.1 C.2.2.2.2.2.1 Rl.2.1 k 0 hw rfl (e0 _ rfl) d key
  · exact va_alen C.1 C.2.1 C.2.2.2.2.2.1 Rl.2.1 k 1 hw rfl (e0 _ rfl) d key
  · exact va_alen C.1 C.2.1 C.2.2.2.2.2.1 Rl.2.1 k 2 hw rfl (e0 _ rfl) d key
  · exact va_alen C.1 C.2.1 C.2.2.2.2.2.1 Rl.2.1 k 3 hw rfl (e0 _ rfl) d key
  · exact va_alen C.1 C.2.1 C.2.2.2.2.2.1 Rl.2.1 k 4 hw rfl (e0 _ rfl) d key
theorem y_iast (pc : Nat) {k n : Nat} {i x : Int} (d : decode M.2.2.1 pc = .ok (.iastore, 1)) (hk : Ω[k]? = some (0, n)) (h0 : 0 ≤ i) (h1 : i < n) (kk : m_Y X Ω M (pc + 1) ls st (m_up h k i.toNat x) Q) : m_Y X Ω M pc ls (mI x :: mI i :: mR k :: st) h Q := by
  intro E p l e s m args below meth c QQ H locs lsR hX C Rt Rl L o b
  have ha : H[E.1.1 + k]? = some (arrV (E.2.1 0) n (fun j => .int (Int32.ofInt (h k j)))) := Rl.2.1 k _ (m_wl_at hk)
  refine W.iast C.1 C.2.1 ha ((C.2.2.2.2.2.1.2 0 _ rfl).1 n (fun j => .int (Int32.ofInt (h k j)))) (fun q => by cases q) (by show ¬ (_ ∨ (arrV _ _ _).slots.size ≤ _); rw [arrV_size]; exact m_ix o.2.1 h0 h1) rfl rfl d fun H1 e1 z oq => ?_
  refine kk E p l e s m args below meth c QQ H1 _ lsR hX C Rt (m_rel_set Rl hk o.1 ?_ z oq) L o.2.2.2 b
  show H1[E.1.1 + k]? = some (arrV (E.2.1 0) n (fun j => .int (Int32.ofInt (m_up h k i.toNat x k j))))
  rw [e1, arrV_store, m_cn o.2.1]
  congr 2
  funext q
  by_cases hq : q = i.toNat
  · subst hq; simp [updV, m_up]
  · simp [updV, m_up, hq]
theorem y_last (pc : Nat) {k n : Nat} {i x : Int} (d : decode M.2.2.1 pc = .ok (.lastore, 1)) (hk : Ω[k]? = some (1, n)) (h0 : 0 ≤ i) (h1 : i < n) (kk : m_Y X Ω M (pc + 1) ls st (m_up h k i.toNat x) Q) : m_Y X Ω M pc ls (mJ x :: mI i :: mR k :: st) h Q := by
  intro E p l e s m args below meth c QQ H locs lsR hX C Rt Rl L o b
  have ha : H[E.1.1 + k]? = some (arrV (E.2.1 1) n (fun j => .long (Int64.ofInt (h k j)))) := Rl.2.1 k _ (m_wl_at hk)
  refine W.last C.1 C.2.1 ha ((C.2.2.2.2.2.1.2 1 _ rfl).1 n (fun j => .long (Int64.ofInt (h k j)))) (fun q => by cases q) (by show ¬ (_ ∨ (arrV _ _ _).slots.size ≤ _); rw [arrV_size]; exact m_ix o.2.1 h0 h1) rfl rfl d fun H1 e1 z oq => ?_
  refine kk E p l e s m args below meth c QQ H1 _ lsR hX C Rt (m_rel_set Rl hk o.1 ?_ z oq) L o.2.2.2 b
  show H1[E.1.1 + k]? = some (arrV (E.2.1 1) n (fun j => .long (Int64.ofInt (m_up h k i.toNat x k j))))
  rw [e1, arrV_store, m_cn o.2.1]
  congr 2
  funext q
  by_cases hq : q = i.toNat
  · subst hq; simp [updV, m_up]
  · simp [updV, m_up, hq]
theorem y_zast (pc : Nat) {k n : Nat} {i x : Int} (d : decode M.2.2.1 pc = .ok (.bastore, 1)) (hk : Ω[k]? = some (2, n)) (h0 : 0 ≤ i) (h1 : i < n) (hx : x = 0 ∨ x = 1) (kk : m_Y X Ω M (pc + 1) ls st (m_up h k i.toNat x) Q) : m_Y X Ω M pc ls (mI x :: mI i :: mR k :: st) h Q := by
  intro E p l e s m args below meth c QQ H locs lsR hX C Rt Rl L o b
  have ha : H[E.1.1 + k]? = some (arrV (E.2.1 2) n (fun j => .int (Int32.ofInt (h k j)))) := Rl.2.1 k _ (m_wl_at hk)
  refine W.zast C.1 C.2.1 ha ((C.2.2.2.2.2.1.2 2 _ rfl).1 n (fun j => .int (Int32.ofInt (h k j)))) (fun q => by cases q) (by show ¬ (_ ∨ (arrV _ _ _).slots.size ≤ _); rw [arrV_size]; exact m_ix o.2.1 h0 h1) rfl rfl d fun H1 e1 z oq => ?_
  refine kk E p l e s m args below meth c QQ H1 _ lsR hX C Rt (m_rel_set Rl hk o.1 ?_ z oq) L o.2.2.2 b
  show H1[E.1.1 + k]? = some (arrV (E.2.1 2) n (fun j => .int (Int32.ofInt (m_up h k i.toNat x k j))))
  have e2 : narrow .boolean (.int (Int32.ofInt x)) = .int (Int32.ofInt x) := by rcases hx with rfl | rfl <;> rfl
  rw [e1, e2, arrV_store, m_cn o.2.1]
  congr 2
  funext q
  by_cases hq : q = i.toNat
  · subst hq; simp [updV, m_up]
  · simp [updV, m_up, hq]
theorem y_callV (pc : Nat) {index k ci N n : Nat} {as : List m_V} (d : decode M.2.2.1 pc = .ok (.invokevirtual index, 3)) (mt : m_mV M' n) (lk : Cond.methodLink M.1 index M'.2.1 ∈ m_G) (rr : m_rr M M') (hc : m_C M' Ω Ω (mR k :: as) h Q') (hk : Ω[k]? = some (ci + 5, N)) (hcl : (vwCl[ci]?).map (fun q => q.1) = some M'.2.1.cls) (hst : as.reverse ++ mR k :: rest = st) (hn : as.length = n) (hrest : m_cs rest ≤ 8) (h0 : (m_rm M').cells = 0 ∧ (m_rm M').slots = 0)
    (kk : ∀ (r : Option m_V) (h' : m_H), Q' r h' → m_Y X Ω M (pc + 3) ls (r.toList ++ rest) h' Q) : m_Y X Ω M pc ls st h Q := by
  subst hst
  intro E p l e s m args below meth c QQ H locs lsR hX C Rt Rl L o b
  obtain ⟨o1, o2⟩ := m_oks_app o
  have hM := hc l E Rl.2.2.2 ⟨trivial, m_oks_rev o1⟩
  have hts := C.2.2.2.2.1
  obtain ⟨qc, hqc, hqn⟩ : ∃ qc : vw_C, vwCl[ci]? = some qc ∧ qc.1 = M'.2.1.cls := by
    cases hv : vwCl[ci]? with
    | none => rw [hv] at hcl; cases hcl
    | some qc => rw [hv] at hcl; exact ⟨qc, rfl, Option.some.inj hcl⟩
  have hrecv := va_recv C.2.2.2.2.2.1 Rl.2.1 hqc (m_wl_at (E := E) hk)
  rw [hqn] at hrecv
  have hcw : CallW (m_rm M) s args M.1 M'.2.1.cls index M'.2.1 M'.2.2.1 M'.2.2.2.1 M'.2.2.2.2.1 (m_ws M') (m_rm M') (m_rm M').cells (m_rm M').slots n :=
    ⟨callB_of n hts (m_good mt.2.1.2) rfl rfl rfl (hts _ mt.2.1.1) (hts _ lk) mt.2.2 rr, hts _ mt.1.1, hts _ mt.1.2⟩
  have hrun := va_runV (g := F0 m pc lsR ((as.reverse ++ mR k :: rest).map (m_v E))) (As := as.map (m_v E)) (rest := rest.map (m_v E)) (b := E.1.1 + k) (below := below) (locs := locs) (meth := meth) (e := e) ⟨C.1, C.2.1, C.2.2.1, C.2.2.2.1, hts⟩ hM hcw ⟨m_blind, hrecv, fun U hU hW => ⟨rfl, m_pre_at C Rl U hU hW⟩⟩ rfl (by rw [List.length_map]; exact hn) L.1 (by simp [m_v]) (m_roomW hrest) d (cells := Ω.length - m_k0 M) (slots := m_sz Ω - m_s0 M) (by rw [h0.1, h0.2]; exact b.2)
  refine m_after hrun Rl.2.2.1 (fun r h' H1 locs1 hq hr R1 => ?_)
  rw [h0.1, h0.2, m_toL]
  exact kk r h' hq E p l e s m args below meth c QQ H1 locs1 lsR hX C Rt R1 L (m_okT hr o2.2) b
theorem y_callS (pc : Nat) {index n : Nat} {as : List m_V} (d : decode M.2.2.1 pc = .ok (.invokestatic index, 3)) (mt : m_mS M' n) (lk : Cond.methodLink M.1 index M'.2.1 ∈ m_G) (rr : m_rr M M') (hc : m_C M' Ω Ω as h Q') (hst : as.reverse ++ rest = st) (hn : as.length = n) (hrest : m_cs rest ≤ 8) (h0 : (m_rm M').cells = 0 ∧ (m_rm M').slots = 0)
    (kk : ∀ (r : Option m_V) (h' : m_H), Q' r h' → m_Y X Ω M (pc + 3) ls (r.toList ++ rest) h' Q) : m_Y X Ω M pc ls st h Q := by
  subst hst
  intro E p l e s m args below meth c QQ H locs lsR hX C Rt Rl L o b
  obtain ⟨o1, o2⟩ := m_oks_app o
  have hM := hc l E Rl.2.2.2 (m_oks_rev o1)
  have hts := C.2.2.2.2.1
  have hcw : CallB (m_rm M) s args M.1 index M'.2.1 M'.2.2.1 M'.2.2.2.1 M'.2.2.2.2.1 (m_ws M') (m_rm M') (m_rm M').cells (m_rm M').slots n ∧ (Cond.static M'.2.1).before args s = true :=
    ⟨callB_of n hts (m_good mt.2.1.2) rfl rfl rfl (hts _ mt.2.1.1) (hts _ lk) mt.2.2 rr, hts _ mt.1⟩
  have hrun := va_runS (g := F0 m pc lsR ((as.reverse ++ rest).map (m_v E))) (As := as.map (m_v E)) (rest := rest.map (m_v E)) (below := below) (locs := locs) (meth := meth) (e := e) ⟨C.1, C.2.1, C.2.2.1, C.2.2.2.1, hts⟩ hM hcw ⟨m_blind, fun U hU hW => ⟨rfl, m_pre_at C Rl U hU hW⟩⟩ rfl (by rw [List.length_map]; exact hn) L.1 (by simp) (m_roomW hrest) d (cells := Ω.length - m_k0 M) (slots := m_sz Ω - m_s0 M) (by rw [h0.1, h0.2]; exact b.2)
  refine m_after hrun Rl.2.2.1 (fun r h' H1 locs1 hq hr R1 => ?_)
  rw [h0.1, h0.2, m_toL]
  exact kk r h' hq E p l e s m args below meth c QQ H1 locs1 lsR hX C Rt R1 L (m_okT hr o2) b
theorem y_callSN (pc : Nat) {index n : Nat} {host : String} {as : List m_V} (d : decode M.2.2.1 pc = .ok (.invokestatic index, 3)) (mt : m_mS M' n) (lk : Cond.methodLinkNest M.1 index M'.2.1 host ∈ m_N) (rr : m_rr M M') (hc : m_C M' Ω Ω as h Q') (hst : as.reverse ++ rest = st) (hn : as.length = n) (hrest : m_cs rest ≤ 8) (h0 : (m_rm M').cells = 0 ∧ (m_rm M').slots = 0)
    (kk : ∀ (r : Option m_V) (h' : m_H), Q' r h' → m_Y X Ω M (pc + 3) ls (r.toList ++ rest) h' Q) : m_Y X Ω M pc ls st h Q := by
  subst hst
  intro E p l e s m args below meth c QQ H locs lsR hX C Rt Rl L o b
  obtain ⟨o1, o2⟩ := m_oks_app o
  have hM := hc l E Rl.2.2.2 (m_oks_rev o1)
  have hts := C.2.2.2.2.1
  have hcw := va_cnB (R := m_rm M) (host := host) (index := index) (own := M.1) (y := M'.2.1) (bytes := M'.2.2.1) (maxL := M'.2.2.2.1) (ret := M'.2.2.2.2.1) (ws := m_ws M') (rm := m_rm M') (mc := (m_rm M').cells) (ms := (m_rm M').slots) n hts (m_good mt.2.1.2) rfl rfl rfl (C.2.2.2.2.2.2.1 _ lk) (hts _ mt.2.1.1) mt.2.2 rr
  have hrun := va_runSN (g := F0 m pc lsR ((as.reverse ++ rest).map (m_v E))) (As := as.map (m_v E)) (rest := rest.map (m_v E)) (below := below) (locs := locs) (meth := meth) (e := e) ⟨C.1, C.2.1, C.2.2.1, C.2.2.2.1, hts⟩ hM ⟨hcw, hts _ mt.1, trivial⟩ ⟨m_blind, fun U hU hW => ⟨rfl, m_pre_at C Rl U hU hW⟩⟩ rfl (by rw [List.length_map]; exact hn) L.1 (by simp) (m_roomW hrest) d (cells := Ω.length - m_k0 M) (slots := m_sz Ω - m_s0 M) (by rw [h0.1, h0.2]; exact b.2)
  refine m_after hrun Rl.2.2.1 (fun r h' H1 locs1 hq hr R1 => ?_)
  rw [h0.1, h0.2, m_toL]
  exact kk r h' hq E p l e s m args below meth c QQ H1 locs1 lsR hX C Rt R1 L (m_okT hr o2) b
theorem y_vI (pc : Nat) {index n k ci N : Nat} {as : List m_V} {P : Int → m_H → Prop} (d : decode M.2.2.1 pc = .ok (.invokevirtual index, 3)) (mt : m_mV M' n) (lk : Cond.methodLink M.1 index M'.2.1 ∈ m_G) (rr : m_rr M M') (hc : m_CI M' (mR k :: as) h P) (hk : oF[k]? = some (ci + 5, N)) (hcl : (vwCl[ci]?).map (fun q => q.1) = some M'.2.1.cls) (hst : as.reverse ++ mR k :: rest = st) (hn : as.length = n) (hrest : m_cs rest ≤ 8) (hz : (m_rm M').cells = 0 ∧ (m_rm M').slots = 0)
    (kk : ∀ (x : Int) (h' : m_H), P x h' → m_Y X oF M (pc + 3) ls (mI x :: rest) h' Q) : m_Y X oF M pc ls st h Q := y_callV pc d mt lk rr hc hk hcl hst hn hrest hz (fun r h' q => by obtain ⟨x, rfl, p⟩ := q; exact kk x h' p)
theorem y_vJ (pc : Nat) {index n k ci N : Nat} {as : List m_V} {P : Int → m_H → Prop} (d : decode M.2.2.1 pc = .ok (.invokevirtual index, 3)) (mt : m_mV M' n) (lk : Cond.methodLink M.1 index M'.2.1 ∈ m_G) (rr : m_rr M M') (hc : m_CJ M' (mR k :: as) h P) (hk : oF[k]? = some (ci + 5, N)) (hcl : (vwCl[ci]?).map (fun q => q.1) = some M'.2.1.cls) (hst : as.reverse ++ mR k :: rest = st) (hn : as.length = n) (hrest : m_cs rest ≤ 8) (hz : (m_rm M').cells = 0 ∧ (m_rm M').slots = 0)
    (kk : ∀ (x : Int) (h' : m_H), P x h' → m_Y X oF M (pc + 3) ls (mJ x :: rest) h' Q) : m_Y X oF M pc ls st h Q := y_callV pc d mt lk rr hc hk hcl hst hn hrest hz (fun r h' q => by obtain ⟨x, rfl, p⟩ := q; exact kk x h' p)
theorem y_vV (pc : Nat) {index n k ci N : Nat} {as : List m_V} {P : m_H → Prop} (d : decode M.2.2.1 pc = .ok (.invokevirtual index, 3)) (mt : m_mV M' n) (lk : Cond.methodLink M.1 index M'.2.1 ∈ m_G) (rr : m_rr M M') (hc : m_CV M' (mR k :: as) h P) (hk : oF[k]? = some (ci + 5, N)) (hcl : (vwCl[ci]?).map (fun q => q.1) = some M'.2.1.cls) (hst : as.reverse ++ mR k :: rest = st) (hn : as.length = n) (hrest : m_cs rest ≤ 8) (hz : (m_rm M').cells = 0 ∧ (m_rm M').slots = 0)
    (kk : ∀ (h' : m_H), P h' → m_Y X oF M (pc + 3) ls rest h' Q) : m_Y X oF M pc ls st h Q := y_callV pc d mt lk rr hc hk hcl hst hn hrest hz (fun r h' q => by obtain ⟨rfl, p⟩ := q; exact kk h' p)
theorem y_sI (pc : Nat) {index n : Nat} {as : List m_V} {P : Int → m_H → Prop} (d : decode M.2.2.1 pc = .ok (.invokestatic index, 3)) (mt : m_mS M' n) (lk : Cond.methodLink M.1 index M'.2.1 ∈ m_G) (rr : m_rr M M') (hc : m_CI M' (as) h P) (hst : as.reverse ++ rest = st) (hn : as.length = n) (hrest : m_cs rest ≤ 8) (hz : (m_rm M').cells = 0 ∧ (m_rm M').slots = 0)
    (kk : ∀ (x : Int) (h' : m_H), P x h' → m_Y X oF M (pc + 3) ls (mI x :: rest) h' Q) : m_Y X oF M pc ls st h Q := y_callS pc d mt lk rr hc hst hn hrest hz (fun r h' q => by obtain ⟨x, rfl, p⟩ := q; exact kk x h' p)
theorem y_sV (pc : Nat) {index n : Nat} {as : List m_V} {P : m_H → Prop} (d : decode M.2.2.1 pc = .ok (.invokestatic index, 3)) (mt : m_mS M' n) (lk : Cond.methodLink M.1 index M'.2.1 ∈ m_G) (rr : m_rr M M') (hc : m_CV M' (as) h P) (hst : as.reverse ++ rest = st) (hn : as.length = n) (hrest : m_cs rest ≤ 8) (hz : (m_rm M').cells = 0 ∧ (m_rm M').slots = 0)
    (kk : ∀ (h' : m_H), P h' → m_Y X oF M (pc + 3) ls rest h' Q) : m_Y X oF M pc ls st h Q := y_callS pc d mt lk rr hc hst hn hrest hz (fun r h' q => by obtain ⟨rfl, p⟩ := q; exact kk h' p)
theorem y_iaddN (pc : Nat) {x y : Int} (d : decode M.2.2.1 pc = .ok (.iadd, 1)) (h1 : -2147483648 ≤ x + y) (h2 : x + y ≤ 2147483647) (k : m_Y X Ω M (pc + 1) ls (mI (x + y) :: st) h Q) : m_Y X Ω M pc ls (mI y :: mI x :: st) h Q := y_iadd pc d (by rw [m_w_id h1 h2]; exact k)
theorem y_isubN (pc : Nat) {x y : Int} (d : decode M.2.2.1 pc = .ok (.isub, 1)) (h1 : -2147483648 ≤ x - y) (h2 : x - y ≤ 2147483647) (k : m_Y X Ω M (pc + 1) ls (mI (x - y) :: st) h Q) : m_Y X Ω M pc ls (mI y :: mI x :: st) h Q := y_isub pc d (by rw [m_w_id h1 h2]; exact k)
theorem y_imulN (pc : Nat) {x y : Int} (d : decode M.2.2.1 pc = .ok (.imul, 1)) (h1 : -2147483648 ≤ x * y) (h2 : x * y ≤ 2147483647) (k : m_Y X Ω M (pc + 1) ls (mI (x * y) :: st) h Q) : m_Y X Ω M pc ls (mI y :: mI x :: st) h Q := y_imul pc d (by rw [m_w_id h1 h2]; exact k)
theorem y_iincN (pc : Nat) {n : Nat} {i x : Int} {ls' : List (Option m_V)} (d : decode M.2.2.1 pc = .ok (.iinc n i, 3)) (hn : n < M.2.2.2.1) (hl : ls[n]? = some (some (mI x))) (hi : m_32 i) (h1 : -2147483648 ≤ x + i) (h2 : x + i ≤ 2147483647) (e : m_st1 ls n (mI (x + i)) = ls') (k : m_Y X Ω M (pc + 3) ls' st h Q) : m_Y X Ω M pc ls st h Q := y_iinc pc d hn hl hi (by rw [m_w_id h1 h2]; exact e) k
theorem y_topI {pc : Nat} {x : Int} (k : ∀ y : Int, x = y → m_Y X Ω M pc ls (mI y :: st) h Q) : m_Y X Ω M pc ls (mI x :: st) h Q := k x rfl
theorem y_topBI {pc : Nat} {x lo hi : Int} (hb : lo ≤ x ∧ x ≤ hi) (k : ∀ y : Int, x = y → lo ≤ y → y ≤ hi → m_Y X Ω M pc ls (mI y :: st) h Q) : m_Y X Ω M pc ls (mI x :: st) h Q := k x rfl hb.1 hb.2
theorem y_topm {pc : Nat} {x : Int} (k : ∀ y : Int, x = y → m_32 y → m_Y X Ω M pc ls (mI y :: st) h Q) : m_Y X Ω M pc ls (mI x :: st) h Q := y_ok (fun o _ _ => k x rfl o.1)
theorem y_icmp_ge_T (pc : Nat) {x y off : Int} (d : decode M.2.2.1 pc = .ok (.if_icmp .ge off, 3)) (tgt : Nat) (ht : (pc : Int) + off = (tgt : Int)) (hc : y ≤ x) (k : m_Y X Ω M tgt ls st h Q) : m_Y X Ω M pc ls (mI y :: mI x :: st) h Q := y_icmp_ge pc d tgt ht (fun _ => k) (fun q => absurd hc (q))
theorem y_icmp_ge_F (pc : Nat) {x y off : Int} (d : decode M.2.2.1 pc = .ok (.if_icmp .ge off, 3)) (tgt : Nat) (ht : (pc : Int) + off = (tgt : Int)) (hc : ¬ y ≤ x) (k : m_Y X Ω M (pc + 3) ls st h Q) : m_Y X Ω M pc ls (mI y :: mI x :: st) h Q := y_icmp_ge pc d tgt ht (fun q => absurd q hc) (fun _ => k)
theorem y_icmp_gt_T (pc : Nat) {x y off : Int} (d : decode M.2.2.1 pc = .ok (.if_icmp .gt off, 3)) (tgt : Nat) (ht : (pc : Int) + off = (tgt : Int)) (hc : y < x) (k : m_Y X Ω M tgt ls st h Q) : m_Y X Ω M pc ls (mI y :: mI x :: st) h Q := y_icmp_gt pc d tgt ht (fun _ => k) (fun q => absurd hc (q))
theorem y_icmp_gt_F (pc : Nat) {x y off : Int} (d : decode M.2.2.1 pc = .ok (.if_icmp .gt off, 3)) (tgt : Nat) (ht : (pc : Int) + off = (tgt : Int)) (hc : ¬ y < x) (k : m_Y X Ω M (pc + 3) ls st h Q) : m_Y X Ω M pc ls (mI y :: mI x :: st) h Q := y_icmp_gt pc d tgt ht (fun q => absurd q hc) (fun _ => k)
theorem y_mask {M : m_M} {pc : Nat} {ls ls' : List (Option m_V)} {st : List m_V} {h : m_H} {Q : m_W → Option m_V → m_H → Prop} (mask : List Bool) (e : m_mask mask ls = ls') (k : m_Y X Ω M pc ls' st h Q) : m_Y X Ω M pc ls st h Q := by
  subst e
  exact y_sub (fun i v q => m_mask_at mask ls i v q) k
theorem y_ls {M : m_M} {pc : Nat} {ls ls' : List (Option m_V)} {st : List m_V} {h : m_H} {Q : m_W → Option m_V → m_H → Prop} (e : ls = ls') (k : m_Y X Ω M pc ls' st h Q) : m_Y X Ω M pc ls st h Q := by subst e; exact k

theorem y_maxI (pc : Nat) {index : Nat} {x y : Int} (d : decode M.2.2.1 pc = .ok (.invokestatic index, 3)) (lk : Cond.methodLink M.1 index Lib.Math.max.name ∈ m_G) (hf : 1 ≤ (m_rm M).frames) (hl : m_cs rest + 13 ≤ (m_rm M).locals) (k : m_Y X Ω M (pc + 3) ls (mI (if x < y then y else x) :: rest) h Q) : m_Y X Ω M pc ls (mI y :: mI x :: rest) h Q := by
  intro E p l e s m args below meth c QQ H locs lsR hX C Rt Rl L o b
  have hts := C.2.2.2.2.1
  refine va_mmax C.1 C.2.1 (by rw [L.1]; exact C.2.2.1) C.2.2.2.1 (hts _ lk) (hts _ mm_maxI_s) (hts _ mm_ini) (hts _ mm_maxI_c) hf (by rw [m_csE]; exact hl) b.2.1 b.2.2 d ?_
  have e1 : (if Int32.ofInt x < Int32.ofInt y then Int32.ofInt y else Int32.ofInt x) = Int32.ofInt (if x < y then y else x) := by
    have hxy := m_lt32 (x := x) (y := y) o.2.1 o.1
    have hyx := m_lt32 (x := y) (y := x) o.1 o.2.1
    by_cases q : x < y
    · have q2 : ¬ y < x := by omega
      simp [q, q2, hxy, hyx]
    · by_cases q2 : y < x
      · simp [q, q2, hxy, hyx]
      · have : x = y := by omega
        subst this; simp
  rw [e1]
  exact k E p l e s m args below meth c QQ H locs lsR hX C Rt Rl L ⟨by show m_32 _; have h1 : m_32 x := o.2.1; have h2 : m_32 y := o.1; split <;> assumption, o.2.2⟩ b
end YR
