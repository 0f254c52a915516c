section ZR
variable {Ω : m_W} {M : m_M} {ls : List (Option m_V)} {st : List m_V} {h : m_H} {Q : m_W → Option m_V → m_H → Prop}
theorem z_iconst (pc : Nat) {n : Int} (d : decode M.2.2.1 pc = .ok (.iconst n, 1)) (k : m_Z Ω M (pc + 1) ls (mI n :: st) h Q) (hn : m_32 n := by (unfold m_32; decide)) : m_Z Ω M pc ls st h Q := by
  intro E p l e s m args below meth c QQ H locs lsR C Rt Rl L o b
  refine lv_iconst C.1 C.2.1 d rfl ?_
  exact k E p l e s m args below meth c QQ H locs lsR C Rt Rl L ⟨hn, o⟩ b
theorem z_bipush (pc : Nat) {n : Int} (d : decode M.2.2.1 pc = .ok (.bipush n, 2)) (k : m_Z Ω M (pc + 2) ls (mI n :: st) h Q) (hv : (Int8.ofInt n).toInt32 = Int32.ofInt n := by decide) (hn : m_32 n := by (unfold m_32; decide)) : m_Z Ω M pc ls st h Q := by
  intro E p l e s m args below meth c QQ H locs lsR C Rt Rl L o b
  refine lv_bipush C.1 C.2.1 d hv ?_
  exact k E p l e s m args below meth c QQ H locs lsR C Rt Rl L ⟨hn, o⟩ b
theorem z_sipush (pc : Nat) {n : Int} (d : decode M.2.2.1 pc = .ok (.sipush n, 3)) (k : m_Z Ω M (pc + 3) ls (mI n :: st) h Q) (hv : (Int16.ofInt n).toInt32 = Int32.ofInt n := by decide) (hn : m_32 n := by (unfold m_32; decide)) : m_Z Ω M pc ls st h Q := by
  intro E p l e s m args below meth c QQ H locs lsR C Rt Rl L o b
  refine lv_sipush C.1 C.2.1 d hv ?_
  exact k E p l e s m args below meth c QQ H locs lsR C Rt Rl L ⟨hn, o⟩ b
theorem z_lconst (pc : Nat) {n : Fin 2} (d : decode M.2.2.1 pc = .ok (.lconst n, 1)) {v : Int} (k : m_Z Ω M (pc + 1) ls (mJ v :: st) h Q) (hv : Int64.ofNat (n : Nat) = Int64.ofInt v := by decide) (hn : m_64 v := by (unfold m_64; decide)) : m_Z Ω M pc ls st h Q := by
  intro E p l e s m args below meth c QQ H locs lsR C Rt Rl L o b
  refine lv_lconst C.1 C.2.1 d hv ?_
  exact k E p l e s m args below meth c QQ H locs lsR C Rt Rl L ⟨hn, o⟩ b
theorem z_ldc (pc : Nat) {index : Nat} (d : decode M.2.2.1 pc = .ok (.ldc index, 2)) {v : Int} (w : Cond.constant M.1 index (Int32.ofInt v) ∈ m_G) (k : m_Z Ω M (pc + 2) ls (mI v :: st) h Q) (hn : m_32 v := by (unfold m_32; decide)) : m_Z Ω M pc ls st h Q := by
  intro E p l e s m args below meth c QQ H locs lsR C Rt Rl L o b
  refine lv_ldc C.1 C.2.1 C.2.2.2.1 (C.2.2.2.2.1 _ w) d ?_
  exact k E p l e s m args below meth c QQ H locs lsR C Rt Rl L ⟨hn, o⟩ b
theorem z_ldcw (pc : Nat) {index : Nat} (d : decode M.2.2.1 pc = .ok (.ldc_w index, 3)) {v : Int} (w : Cond.constant M.1 index (Int32.ofInt v) ∈ m_G) (k : m_Z Ω M (pc + 3) ls (mI v :: st) h Q) (hn : m_32 v := by (unfold m_32; decide)) : m_Z Ω M pc ls st h Q := by
  intro E p l e s m args below meth c QQ H locs lsR C Rt Rl L o b
  refine lv_ldcw C.1 C.2.1 C.2.2.2.1 (C.2.2.2.2.1 _ w) d ?_
  exact k E p l e s m args below meth c QQ H locs lsR C Rt Rl L ⟨hn, o⟩ b
theorem z_ldc2 (pc : Nat) {index : Nat} (d : decode M.2.2.1 pc = .ok (.ldc2_w index, 3)) {v : Int} (w : Cond.constantLong M.1 index (Int64.ofInt v) ∈ m_G) (k : m_Z Ω M (pc + 3) ls (mJ v :: st) h Q) (hn : m_64 v := by (unfold m_64; decide)) : m_Z Ω M pc ls st h Q := by
  intro E p l e s m args below meth c QQ H locs lsR C Rt Rl L o b
  refine lv_ldc2 C.1 C.2.1 C.2.2.2.1 (C.2.2.2.2.1 _ w) d ?_
  exact k E p l e s m args below meth c QQ H locs lsR C Rt Rl L ⟨hn, o⟩ b
theorem z_iload_n (pc : Nat) {n : Fin 4} (d : decode M.2.2.1 pc = .ok (.iload_n n, 1)) {x : Int} (hl : ls[(n : Nat)]? = some (some (mI x))) (k : m_Z Ω M (pc + 1) ls (mI x :: st) h Q) : m_Z Ω M pc ls st h Q := by
  intro E p l e s m args below meth c QQ H locs lsR C Rt Rl L o b
  refine lv_iload_n C.1 C.2.1 d rfl (L.2.2 _ _ hl).1 ?_
  exact k E p l e s m args below meth c QQ H locs lsR C Rt Rl L ⟨(L.2.2 _ _ hl).2, o⟩ b
theorem z_iload (pc : Nat) {n : Nat} (d : decode M.2.2.1 pc = .ok (.iload n, 2)) {x : Int} (hl : ls[n]? = some (some (mI x))) (k : m_Z Ω M (pc + 2) ls (mI x :: st) h Q) : m_Z Ω M pc ls st h Q := by
  intro E p l e s m args below meth c QQ H locs lsR C Rt Rl L o b
  refine lv_iload C.1 C.2.1 d (L.2.2 _ _ hl).1 ?_
  exact k E p l e s m args below meth c QQ H locs lsR C Rt Rl L ⟨(L.2.2 _ _ hl).2, o⟩ b
theorem z_lload_n (pc : Nat) {n : Fin 4} (d : decode M.2.2.1 pc = .ok (.lload_n n, 1)) {x : Int} (hl : ls[(n : Nat)]? = some (some (mJ x))) (k : m_Z Ω M (pc + 1) ls (mJ x :: st) h Q) : m_Z Ω M pc ls st h Q := by
  intro E p l e s m args below meth c QQ H locs lsR C Rt Rl L o b
  refine lv_lload_n C.1 C.2.1 d rfl (L.2.2 _ _ hl).1 ?_
  exact k E p l e s m args below meth c QQ H locs lsR C Rt Rl L ⟨(L.2.2 _ _ hl).2, o⟩ b
theorem z_lload (pc : Nat) {n : Nat} (d : decode M.2.2.1 pc = .ok (.lload n, 2)) {x : Int} (hl : ls[n]? = some (some (mJ x))) (k : m_Z Ω M (pc + 2) ls (mJ x :: st) h Q) : m_Z Ω M pc ls st h Q := by
  intro E p l e s m args below meth c QQ H locs lsR C Rt Rl L o b
  refine lv_lload C.1 C.2.1 d (L.2.2 _ _ hl).1 ?_
  exact k E p l e s m args below meth c QQ H locs lsR C Rt Rl L ⟨(L.2.2 _ _ hl).2, o⟩ b
theorem z_aload_n (pc : Nat) {n : Fin 4} (d : decode M.2.2.1 pc = .ok (.aload_n n, 1)) {x : Nat} (hl : ls[(n : Nat)]? = some (some (mR x))) (k : m_Z Ω M (pc + 1) ls (mR x :: st) h Q) : m_Z Ω M pc ls st h Q := by
  intro E p l e s m args below meth c QQ H locs lsR C Rt Rl L o b
  refine lv_aload_n C.1 C.2.1 d rfl (L.2.2 _ _ hl).1 ?_
  exact k E p l e s m args below meth c QQ H locs lsR C Rt Rl L ⟨trivial, o⟩ b
theorem z_aload (pc : Nat) {n : Nat} (d : decode M.2.2.1 pc = .ok (.aload n, 2)) {x : Nat} (hl : ls[n]? = some (some (mR x))) (k : m_Z Ω M (pc + 2) ls (mR x :: st) h Q) : m_Z Ω M pc ls st h Q := by
  intro E p l e s m args below meth c QQ H locs lsR C Rt Rl L o b
  refine lv_aload C.1 C.2.1 d (L.2.2 _ _ hl).1 ?_
  exact k E p l e s m args below meth c QQ H locs lsR C Rt Rl L ⟨trivial, o⟩ b
theorem z_aload_nO (pc : Nat) {n : Fin 4} (d : decode M.2.2.1 pc = .ok (.aload_n n, 1)) {x : Nat} (hl : ls[(n : Nat)]? = some (some (mO x))) (k : m_Z Ω M (pc + 1) ls (mO x :: st) h Q) (hx : x ≠ 40 := by omega) : m_Z Ω M pc ls st h Q := by
  intro E p l e s m args below meth c QQ H locs lsR C Rt Rl L o b
  have h1 := (L.2.2 _ _ hl).1
  rw [m_vO hx] at h1
  refine lv_aload_n C.1 C.2.1 d rfl h1 ?_
  have key := k E p l e s m args below meth c QQ H locs lsR C Rt Rl L ⟨trivial, o⟩ b
  rw [List.map_cons, m_vO hx] at key
  exact key
theorem z_aloadO (pc : Nat) {n : Nat} (d : decode M.2.2.1 pc = .ok (.aload n, 2)) {x : Nat} (hl : ls[n]? = some (some (mO x))) (k : m_Z Ω M (pc + 2) ls (mO x :: st) h Q) (hx : x ≠ 40 := by omega) : m_Z Ω M pc ls st h Q := by
  intro E p l e s m args below meth c QQ H locs lsR C Rt Rl L o b
  have h1 := (L.2.2 _ _ hl).1
  rw [m_vO hx] at h1
  refine lv_aload C.1 C.2.1 d h1 ?_
  have key := k E p l e s m args below meth c QQ H locs lsR C Rt Rl L ⟨trivial, o⟩ b
  rw [List.map_cons, m_vO hx] at key
  exact key
theorem z_istore_n (pc : Nat) {n : Fin 4} (d : decode M.2.2.1 pc = .ok (.istore_n n, 1)) {x : Int} {ls' : List (Option m_V)} (hn : (n : Nat) < M.2.2.2.1) (e : m_st1 ls (n : Nat) (mI x) = ls') (k : m_Z Ω M (pc + 1) ls' st h Q) : m_Z Ω M pc ls (mI x :: st) h Q := by
  subst e
  intro E p l e s m args below meth c QQ H locs lsR C Rt Rl L o b
  refine lv_istore_n C.1 C.2.1 d rfl L.has hn rfl (fun ls2 hl2 => ?_)
  exact k E p l e s m args below meth c QQ H locs ls2 C Rt Rl (L.st1 o.1 hl2) o.2 b
theorem z_istore (pc : Nat) {n : Nat} (d : decode M.2.2.1 pc = .ok (.istore n, 2)) {x : Int} {ls' : List (Option m_V)} (hn : n < M.2.2.2.1) (e : m_st1 ls n (mI x) = ls') (k : m_Z Ω M (pc + 2) ls' st h Q) : m_Z Ω M pc ls (mI x :: st) h Q := by
  subst e
  intro E p l e s m args below meth c QQ H locs lsR C Rt Rl L o b
  refine lv_istore C.1 C.2.1 d L.has hn rfl (fun ls2 hl2 => ?_)
  exact k E p l e s m args below meth c QQ H locs ls2 C Rt Rl (L.st1 o.1 hl2) o.2 b
theorem z_lstore_n (pc : Nat) {n : Fin 4} (d : decode M.2.2.1 pc = .ok (.lstore_n n, 1)) {x : Int} {ls' : List (Option m_V)} (hn : (n : Nat) + 1 < M.2.2.2.1) (e : m_st2 ls (n : Nat) (mJ x) = ls') (k : m_Z Ω M (pc + 1) ls' st h Q) : m_Z Ω M pc ls (mJ x :: st) h Q := by
  subst e
  intro E p l e s m args below meth c QQ H locs lsR C Rt Rl L o b
  refine lv_lstore_n C.1 C.2.1 d rfl L.has hn rfl (fun ls2 hl2 => ?_)
  exact k E p l e s m args below meth c QQ H locs ls2 C Rt Rl (L.st2 o.1 hl2) o.2 b
theorem z_lstore (pc : Nat) {n : Nat} (d : decode M.2.2.1 pc = .ok (.lstore n, 2)) {x : Int} {ls' : List (Option m_V)} (hn : n + 1 < M.2.2.2.1) (e : m_st2 ls n (mJ x) = ls') (k : m_Z Ω M (pc + 2) ls' st h Q) : m_Z Ω M pc ls (mJ x :: st) h Q := by
  subst e
  intro E p l e s m args below meth c QQ H locs lsR C Rt Rl L o b
  refine lv_lstore C.1 C.2.1 d L.has hn rfl (fun ls2 hl2 => ?_)
  exact k E p l e s m args below meth c QQ H locs ls2 C Rt Rl (L.st2 o.1 hl2) o.2 b
theorem z_astore_n (pc : Nat) {n : Fin 4} (d : decode M.2.2.1 pc = .ok (.astore_n n, 1)) {x : Nat} {ls' : List (Option m_V)} (hn : (n : Nat) < M.2.2.2.1) (e : m_st1 ls (n : Nat) (mR x) = ls') (k : m_Z Ω M (pc + 1) ls' st h Q) : m_Z Ω M pc ls (mR x :: st) h Q := by
  subst e
  intro E p l e s m args below meth c QQ H locs lsR C Rt Rl L o b
  refine lv_astore_n C.1 C.2.1 d rfl L.has hn rfl (fun ls2 hl2 => ?_)
  exact k E p l e s m args below meth c QQ H locs ls2 C Rt Rl (L.st1 o.1 hl2) o.2 b
theorem z_astore (pc : Nat) {n : Nat} (d : decode M.2.2.1 pc = .ok (.astore n, 2)) {x : Nat} {ls' : List (Option m_V)} (hn : n < M.2.2.2.1) (e : m_st1 ls n (mR x) = ls') (k : m_Z Ω M (pc + 2) ls' st h Q) : m_Z Ω M pc ls (mR x :: st) h Q := by
  subst e
  intro E p l e s m args below meth c QQ H locs lsR C Rt Rl L o b
  refine lv_astore C.1 C.2.1 d L.has hn rfl (fun ls2 hl2 => ?_)
  exact k E p l e s m args below meth c QQ H locs ls2 C Rt Rl (L.st1 o.1 hl2) o.2 b
theorem z_iinc (pc : Nat) {n : Nat} {i : Int} (d : decode M.2.2.1 pc = .ok (.iinc n i, 3)) {x : Int} {ls' : List (Option m_V)} (hn : n < M.2.2.2.1) (hl : ls[n]? = some (some (mI x))) (hi : m_32 i) (e : m_st1 ls n (mI (m_w (x + i))) = ls') (k : m_Z Ω M (pc + 3) ls' st h Q) : m_Z Ω M pc ls st h Q := by
  subst e
  intro E p l e s m args below meth c QQ H locs lsR C Rt Rl L o b
  have hx := (L.2.2 _ _ hl).2
  have e1 : Int32.ofInt x + Int32.ofInt i = Int32.ofInt (m_w (x + i)) := m_eq32 (by rw [Int32.toInt_add, m_i32 hx, m_i32 hi]; rfl)
  obtain ⟨kk, hkk⟩ := List.getElem?_of_mem (m_pr_in (E := E) hl)
  refine lv_iinc C.1 C.2.1 d L.has hkk e1 hn rfl (fun ls2 hl2 => ?_)
  exact k E p l e s m args below meth c QQ H locs ls2 C Rt Rl (L.st1 (v := mI (m_w (x + i))) (m_w_ok _) hl2) o b
theorem z_iadd (pc : Nat) (d : decode M.2.2.1 pc = .ok (.iadd, 1)) {x y : Int} (k : m_Z Ω M (pc + 1) ls (mI (m_w (x + y)) :: st) h Q) : m_Z Ω M pc ls (mI y :: mI x :: st) h Q := by
  intro E p l e s m args below meth c QQ H locs lsR C Rt Rl L o b
  have e1 : Int32.ofInt x + Int32.ofInt y = Int32.ofInt (m_w (x + y)) := m_eq32 (by rw [Int32.toInt_add, m_i32 o.2.1, m_i32 o.1]; rfl)
  refine lv_iadd C.1 C.2.1 d ?_
  rw [e1]
  exact k E p l e s m args below meth c QQ H locs lsR C Rt Rl L ⟨m_w_ok _, o.2.2⟩ b
theorem z_ladd (pc : Nat) (d : decode M.2.2.1 pc = .ok (.ladd, 1)) {x y : Int} (k : m_Z Ω M (pc + 1) ls (mJ (m_x (x + y)) :: st) h Q) : m_Z Ω M pc ls (mJ y :: mJ x :: st) h Q := by
  intro E p l e s m args below meth c QQ H locs lsR C Rt Rl L o b
  have e1 : Int64.ofInt x + Int64.ofInt y = Int64.ofInt (m_x (x + y)) := m_eq64 (by rw [Int64.toInt_add, m_i64 o.2.1, m_i64 o.1]; rfl)
  refine lv_ladd C.1 C.2.1 d ?_
  rw [e1]
  exact k E p l e s m args below meth c QQ H locs lsR C Rt Rl L ⟨m_x_ok _, o.2.2⟩ b
theorem z_isub (pc : Nat) (d : decode M.2.2.1 pc = .ok (.isub, 1)) {x y : Int} (k : m_Z Ω M (pc + 1) ls (mI (m_w (x - y)) :: st) h Q) : m_Z Ω M pc ls (mI y :: mI x :: st) h Q := by
  intro E p l e s m args below meth c QQ H locs lsR C Rt Rl L o b
  have e1 : Int32.ofInt x - Int32.ofInt y = Int32.ofInt (m_w (x - y)) := m_eq32 (by rw [Int32.toInt_sub, m_i32 o.2.1, m_i32 o.1]; rfl)
  refine lv_isub C.1 C.2.1 d ?_
  rw [e1]
  exact k E p l e s m args below meth c QQ H locs lsR C Rt Rl L ⟨m_w_ok _, o.2.2⟩ b
theorem z_lsub (pc : Nat) (d : decode M.2.2.1 pc = .ok (.lsub, 1)) {x y : Int} (k : m_Z Ω M (pc + 1) ls (mJ (m_x (x - y)) :: st) h Q) : m_Z Ω M pc ls (mJ y :: mJ x :: st) h Q := by
  intro E p l e s m args below meth c QQ H locs lsR C Rt Rl L o b
  have e1 : Int64.ofInt x - Int64.ofInt y = Int64.ofInt (m_x (x - y)) := m_eq64 (by rw [Int64.toInt_sub, m_i64 o.2.1, m_i64 o.1]; rfl)
  refine lv_lsub C.1 C.2.1 d ?_
  rw [e1]
  exact k E p l e s m args below meth c QQ H locs lsR C Rt Rl L ⟨m_x_ok _, o.2.2⟩ b
theorem z_imul (pc : Nat) (d : decode M.2.2.1 pc = .ok (.imul, 1)) {x y : Int} (k : m_Z Ω M (pc + 1) ls (mI (m_w (x * y)) :: st) h Q) : m_Z Ω M pc ls (mI y :: mI x :: st) h Q := by
  intro E p l e s m args below meth c QQ H locs lsR C Rt Rl L o b
  have e1 : Int32.ofInt x * Int32.ofInt y = Int32.ofInt (m_w (x * y)) := m_eq32 (by rw [Int32.toInt_mul, m_i32 o.2.1, m_i32 o.1]; rfl)
  refine lv_imul C.1 C.2.1 d ?_
  rw [e1]
  exact k E p l e s m args below meth c QQ H locs lsR C Rt Rl L ⟨m_w_ok _, o.2.2⟩ b
theorem z_lmul (pc : Nat) (d : decode M.2.2.1 pc = .ok (.lmul, 1)) {x y : Int} (k : m_Z Ω M (pc + 1) ls (mJ (m_x (x * y)) :: st) h Q) : m_Z Ω M pc ls (mJ y :: mJ x :: st) h Q := by
  intro E p l e s m args below meth c QQ H locs lsR C Rt Rl L o b
  have e1 : Int64.ofInt x * Int64.ofInt y = Int64.ofInt (m_x (x * y)) := m_eq64 (by rw [Int64.toInt_mul, m_i64 o.2.1, m_i64 o.1]; rfl)
  refine lv_lmul C.1 C.2.1 d ?_
  rw [e1]
  exact k E p l e s m args below meth c QQ H locs lsR C Rt Rl L ⟨m_x_ok _, o.2.2⟩ b
def m_and (x y : Int) : Int := (Int32.ofInt x &&& Int32.ofInt y).toInt
def m_or (x y : Int) : Int := (Int32.ofInt x ||| Int32.ofInt y).toInt
def m_xor (x y : Int) : Int := (Int32.ofInt x ^^^ Int32.ofInt y).toInt
def m_shl (x y : Int) : Int := (Int32.ofInt x <<< (Int32.ofInt y &&& 31)).toInt
def m_shr (x y : Int) : Int := (Int32.ofInt x >>> (Int32.ofInt y &&& 31)).toInt
def m_ushr (x y : Int) : Int := ((Int32.ofInt x).toUInt32 >>> ((Int32.ofInt y).toUInt32 &&& Int32.toUInt32 31)).toInt32.toInt
theorem z_iand (pc : Nat) (d : decode M.2.2.1 pc = .ok (.iand, 1)) {x y : Int} (k : m_Z Ω M (pc + 1) ls (mI (m_and x y) :: st) h Q) : m_Z Ω M pc ls (mI y :: mI x :: st) h Q := by
  intro E p l e s m args below meth c QQ H locs lsR C Rt Rl L o b
  have e1 : Int32.ofInt x &&& Int32.ofInt y = Int32.ofInt (m_and x y) := m_eq32 rfl
  refine lv_iand C.1 C.2.1 d ?_
  rw [e1]
  exact k E p l e s m args below meth c QQ H locs lsR C Rt Rl L ⟨m_32t _, o.2.2⟩ b
theorem z_ior (pc : Nat) (d : decode M.2.2.1 pc = .ok (.ior, 1)) {x y : Int} (k : m_Z Ω M (pc + 1) ls (mI (m_or x y) :: st) h Q) : m_Z Ω M pc ls (mI y :: mI x :: st) h Q := by
  intro E p l e s m args below meth c QQ H locs lsR C Rt Rl L o b
  have e1 : Int32.ofInt x ||| Int32.ofInt y = Int32.ofInt (m_or x y) := m_eq32 rfl
  refine lv_ior C.1 C.2.1 d ?_
  rw [e1]
  exact k E p l e s m args below meth c QQ H locs lsR C Rt Rl L ⟨m_32t _, o.2.2⟩ b
theorem z_ixor (pc : Nat) (d : decode M.2.2.1 pc = .ok (.ixor, 1)) {x y : Int} (k : m_Z Ω M (pc + 1) ls (mI (m_xor x y) :: st) h Q) : m_Z Ω M pc ls (mI y :: mI x :: st) h Q := by
  intro E p l e s m args below meth c QQ H locs lsR C Rt Rl L o b
  have e1 : Int32.ofInt x ^^^ Int32.ofInt y = Int32.ofInt (m_xor x y) := m_eq32 rfl
  refine lv_ixor C.1 C.2.1 d ?_
  rw [e1]
  exact k E p l e s m args below meth c QQ H locs lsR C Rt Rl L ⟨m_32t _, o.2.2⟩ b
theorem z_ishl (pc : Nat) (d : decode M.2.2.1 pc = .ok (.ishl, 1)) {x y : Int} (k : m_Z Ω M (pc + 1) ls (mI (m_shl x y) :: st) h Q) : m_Z Ω M pc ls (mI y :: mI x :: st) h Q := by
  intro E p l e s m args below meth c QQ H locs lsR C Rt Rl L o b
  have e1 : Int32.ofInt x <<< (Int32.ofInt y &&& 31) = Int32.ofInt (m_shl x y) := m_eq32 rfl
  refine lv_ishl C.1 C.2.1 d ?_
  rw [e1]
  exact k E p l e s m args below meth c QQ H locs lsR C Rt Rl L ⟨m_32t _, o.2.2⟩ b
theorem z_ishr (pc : Nat) (d : decode M.2.2.1 pc = .ok (.ishr, 1)) {x y : Int} (k : m_Z Ω M (pc + 1) ls (mI (m_shr x y) :: st) h Q) : m_Z Ω M pc ls (mI y :: mI x :: st) h Q := by
  intro E p l e s m args below meth c QQ H locs lsR C Rt Rl L o b
  have e1 : Int32.ofInt x >>> (Int32.ofInt y &&& 31) = Int32.ofInt (m_shr x y) := m_eq32 rfl
  refine lv_ishr C.1 C.2.1 d ?_
  rw [e1]
  exact k E p l e s m args below meth c QQ H locs lsR C Rt Rl L ⟨m_32t _, o.2.2⟩ b
theorem z_iushr (pc : Nat) (d : decode M.2.2.1 pc = .ok (.iushr, 1)) {x y : Int} (k : m_Z Ω M (pc + 1) ls (mI (m_ushr x y) :: st) h Q) : m_Z Ω M pc ls (mI y :: mI x :: st) h Q := by
  intro E p l e s m args below meth c QQ H locs lsR C Rt Rl L o b
  refine lv_iushr C.1 C.2.1 d (m_eq32 (x := m_ushr x y) rfl) ?_
  exact k E p l e s m args below meth c QQ H locs lsR C Rt Rl L ⟨m_32t _, o.2.2⟩ b
theorem z_idiv (pc : Nat) (d : decode M.2.2.1 pc = .ok (.idiv, 1)) {x y : Int} (hy : y ≠ 0) (k : m_Z Ω M (pc + 1) ls (mI (m_w (x.tdiv y)) :: st) h Q) : m_Z Ω M pc ls (mI y :: mI x :: st) h Q := by
  intro E p l e s m args below meth c QQ H locs lsR C Rt Rl L o b
  have e1 : Int32.ofInt x / Int32.ofInt y = Int32.ofInt (m_w (x.tdiv y)) := m_eq32 (by rw [Int32.toInt_div, m_i32 o.2.1, m_i32 o.1]; rfl)
  refine lv_idiv C.1 C.2.1 d (fun q => hy ((m_inj32 o.1 m_320).mp q)) ?_
  rw [e1]
  exact k E p l e s m args below meth c QQ H locs lsR C Rt Rl L ⟨m_w_ok _, o.2.2⟩ b
theorem z_irem (pc : Nat) (d : decode M.2.2.1 pc = .ok (.irem, 1)) {x y : Int} (hy : y ≠ 0) (k : m_Z Ω M (pc + 1) ls (mI (x.tmod y) :: st) h Q) : m_Z Ω M pc ls (mI y :: mI x :: st) h Q := by
  intro E p l e s m args below meth c QQ H locs lsR C Rt Rl L o b
  have hb : m_32 (x.tmod y) := by
    have h1 := o.1; have h2 := o.2.1
    have h3 : (x.tmod y).natAbs ≤ x.natAbs := by rw [Int.natAbs_tmod]; exact Nat.mod_le _ _
    have h4 : 0 ≤ x → 0 ≤ x.tmod y := fun q => Int.tmod_nonneg _ q
    have h5 : (x.tmod y).natAbs < y.natAbs := by rw [Int.natAbs_tmod]; exact Nat.mod_lt _ (by omega)
    unfold m_ok m_32 at h1 h2; unfold m_32; omega
  have e1 : Int32.ofInt x - Int32.ofInt x / Int32.ofInt y * Int32.ofInt y = Int32.ofInt (x.tmod y) := by
    rw [← Int32.toInt_inj, m_i32 hb, Int32.toInt_sub, Int32.toInt_mul, Int32.toInt_div, m_i32 o.2.1, m_i32 o.1]
    rw [Int.bmod_mul_bmod, Int.sub_bmod_bmod, Int.mul_comm, ← Int.tmod_def]
    exact Int.bmod_eq_of_le (by unfold m_32 at hb; omega) (by unfold m_32 at hb; omega)
  refine lv_irem C.1 C.2.1 d (fun q => hy ((m_inj32 o.1 m_320).mp q)) ?_
  rw [e1]
  exact k E p l e s m args below meth c QQ H locs lsR C Rt Rl L ⟨hb, o.2.2⟩ b
theorem z_ldiv (pc : Nat) (d : decode M.2.2.1 pc = .ok (.ldiv, 1)) {x y : Int} (hy : y ≠ 0) (k : m_Z Ω M (pc + 1) ls (mJ (m_x (x.tdiv y)) :: st) h Q) : m_Z Ω M pc ls (mJ y :: mJ x :: st) h Q := by
  intro E p l e s m args below meth c QQ H locs lsR C Rt Rl L o b
  have e1 : Int64.ofInt x / Int64.ofInt y = Int64.ofInt (m_x (x.tdiv y)) := m_eq64 (by rw [Int64.toInt_div, m_i64 o.2.1, m_i64 o.1]; rfl)
  refine lv_ldiv C.1 C.2.1 d (fun q => hy ((m_inj64 o.1 m_640).mp q)) ?_
  rw [e1]
  exact k E p l e s m args below meth c QQ H locs lsR C Rt Rl L ⟨m_x_ok _, o.2.2⟩ b
theorem z_lrem (pc : Nat) (d : decode M.2.2.1 pc = .ok (.lrem, 1)) {x y : Int} (hy : y ≠ 0) (k : m_Z Ω M (pc + 1) ls (mJ (x.tmod y) :: st) h Q) : m_Z Ω M pc ls (mJ y :: mJ x :: st) h Q := by
  intro E p l e s m args below meth c QQ H locs lsR C Rt Rl L o b
  have hb : m_64 (x.tmod y) := by
    have h1 := o.1; have h2 := o.2.1
    have h3 : (x.tmod y).natAbs ≤ x.natAbs := by rw [Int.natAbs_tmod]; exact Nat.mod_le _ _
    have h4 : 0 ≤ x → 0 ≤ x.tmod y := fun q => Int.tmod_nonneg _ q
    have h5 : (x.tmod y).natAbs < y.natAbs := by rw [Int.natAbs_tmod]; exact Nat.mod_lt _ (by omega)
    unfold m_ok m_64 at h1 h2; unfold m_64; omega
  have e1 : Int64.ofInt x - Int64.ofInt x / Int64.ofInt y * Int64.ofInt y = Int64.ofInt (x.tmod y) := by
    rw [← Int64.toInt_inj, m_i64 hb, Int64.toInt_sub, Int64.toInt_mul, Int64.toInt_div, m_i64 o.2.1, m_i64 o.1]
    rw [Int.bmod_mul_bmod, Int.sub_bmod_bmod, Int.mul_comm, ← Int.tmod_def]
    exact Int.bmod_eq_of_le (by unfold m_64 at hb; omega) (by unfold m_64 at hb; omega)
  refine lv_lrem C.1 C.2.1 d (fun q => hy ((m_inj64 o.1 m_640).mp q)) ?_
  rw [e1]
  exact k E p l e s m args below meth c QQ H locs lsR C Rt Rl L ⟨hb, o.2.2⟩ b
theorem z_ineg (pc : Nat) (d : decode M.2.2.1 pc = .ok (.ineg, 1)) {x : Int} (k : m_Z Ω M (pc + 1) ls (mI (m_w (-x)) :: st) h Q) : m_Z Ω M pc ls (mI x :: st) h Q := by
  intro E p l e s m args below meth c QQ H locs lsR C Rt Rl L o b
  have e1 : -Int32.ofInt x = Int32.ofInt (m_w (-x)) := m_eq32 (by rw [Int32.toInt_neg, m_i32 o.1]; rfl)
  refine lv_ineg C.1 C.2.1 d ?_
  rw [e1]
  exact k E p l e s m args below meth c QQ H locs lsR C Rt Rl L ⟨m_w_ok _, o.2⟩ b
theorem z_i2l (pc : Nat) (d : decode M.2.2.1 pc = .ok (.i2l, 1)) {x : Int} (k : m_Z Ω M (pc + 1) ls (mJ x :: st) h Q) : m_Z Ω M pc ls (mI x :: st) h Q := by
  intro E p l e s m args below meth c QQ H locs lsR C Rt Rl L o b
  have o1 : m_32 x := o.1
  refine lv_i2l (v := Int64.ofInt x) C.1 C.2.1 d (m_eq64 (by rw [Int32.toInt_toInt64, m_i32 o.1])) ?_
  exact k E p l e s m args below meth c QQ H locs lsR C Rt Rl L ⟨by unfold m_32 at o1; show m_64 x; unfold m_64; omega, o.2⟩ b
theorem z_l2i (pc : Nat) (d : decode M.2.2.1 pc = .ok (.l2i, 1)) {x : Int} (k : m_Z Ω M (pc + 1) ls (mI (m_w x) :: st) h Q) : m_Z Ω M pc ls (mJ x :: st) h Q := by
  intro E p l e s m args below meth c QQ H locs lsR C Rt Rl L o b
  refine lv_l2i (v := Int32.ofInt (m_w x)) C.1 C.2.1 d (m_eq32 (by rw [Int64.toInt_toInt32, m_i64 o.1]; rfl)) ?_
  exact k E p l e s m args below meth c QQ H locs lsR C Rt Rl L ⟨m_w_ok _, o.2⟩ b
def m_cmp (x y : Int) : Int := if y < x then 1 else if x = y then 0 else -1
theorem z_lcmp (pc : Nat) (d : decode M.2.2.1 pc = .ok (.lcmp, 1)) {x y : Int} (k : m_Z Ω M (pc + 1) ls (mI (m_cmp x y) :: st) h Q) : m_Z Ω M pc ls (mJ y :: mJ x :: st) h Q := by
  intro E p l e s m args below meth c QQ H locs lsR C Rt Rl L o b
  have e1 : lg_cmp (Int64.ofInt x) (Int64.ofInt y) = Int32.ofInt (m_cmp x y) := by
    have h1 : (Int64.ofInt y < Int64.ofInt x) ↔ y < x := m_lt64 o.1 o.2.1
    have h2 := m_inj64 (x := x) (y := y) o.2.1 o.1
    unfold lg_cmp m_cmp
    by_cases q1 : y < x
    · simp [q1, h1]
    · by_cases q2 : x = y
      · subst q2; simp
      · simp [q1, q2, h1, h2]
  refine W.lcmp C.1 C.2.1 d ?_
  rw [e1]
  exact k E p l e s m args below meth c QQ H locs lsR C Rt Rl L ⟨by show m_32 (m_cmp x y); unfold m_cmp m_32; split; omega; split <;> omega, o.2.2⟩ b
theorem z_dup (pc : Nat) (d : decode M.2.2.1 pc = .ok (.dup, 1)) {a : m_V} (ha : m_isL a = false) (k : m_Z Ω M (pc + 1) ls (a :: a :: st) h Q) : m_Z Ω M pc ls (a :: st) h Q := by
  intro E p l e s m args below meth c QQ H locs lsR C Rt Rl L o b
  refine lv_dup C.1 C.2.1 d (by rw [m_cat, ha]; rfl) ?_
  exact k E p l e s m args below meth c QQ H locs lsR C Rt Rl L ⟨o.1, o⟩ b
theorem z_pop (pc : Nat) (d : decode M.2.2.1 pc = .ok (.pop, 1)) {a : m_V} (ha : m_isL a = false) (k : m_Z Ω M (pc + 1) ls st h Q) : m_Z Ω M pc ls (a :: st) h Q := by
  intro E p l e s m args below meth c QQ H locs lsR C Rt Rl L o b
  refine lv_pop C.1 C.2.1 d (by rw [m_cat, ha]; rfl) ?_
  exact k E p l e s m args below meth c QQ H locs lsR C Rt Rl L o.2 b
theorem z_pop2 (pc : Nat) (d : decode M.2.2.1 pc = .ok (.pop2, 1)) {a : m_V} (ha : m_isL a = true) (k : m_Z Ω M (pc + 1) ls st h Q) : m_Z Ω M pc ls (a :: st) h Q := by
  intro E p l e s m args below meth c QQ H locs lsR C Rt Rl L o b
  refine lv_pop2_2 C.1 C.2.1 d (by rw [m_cat, ha]; rfl) ?_
  exact k E p l e s m args below meth c QQ H locs lsR C Rt Rl L o.2 b
theorem z_dup2 (pc : Nat) (d : decode M.2.2.1 pc = .ok (.dup2, 1)) {a a' : m_V} (ha : m_isL a = false) (ha' : m_isL a' = false) (k : m_Z Ω M (pc + 1) ls (a :: a' :: a :: a' :: st) h Q) : m_Z Ω M pc ls (a :: a' :: st) h Q := by
  intro E p l e s m args below meth c QQ H locs lsR C Rt Rl L o b
  refine lv_dup2_11 C.1 C.2.1 d (by rw [m_cat, ha]; rfl) (by rw [m_cat, ha']; rfl) ?_
  exact k E p l e s m args below meth c QQ H locs lsR C Rt Rl L ⟨o.1, o.2.1, o⟩ b
theorem z_if_eq (pc : Nat) {off : Int} {x : Int} (d : decode M.2.2.1 pc = .ok (.ifCond .eq off, 3)) (tgt : Nat) (ht : (pc : Int) + off = (tgt : Int)) (kt : x = 0 → m_Z Ω M tgt ls st h Q) (kf : ¬ x = 0 → m_Z Ω M (pc + 3) ls st h Q) : m_Z Ω M pc ls (mI x :: st) h Q := by
  intro E p l e s m args below meth c QQ H locs lsR C Rt Rl L o b
  have hb := m_inj32 (x := x) (y := 0) o.1 m_320
  refine lv_if_eq C.1 C.2.1 d ht (fun q => kt ((hb).mp q) E p l e s m args below meth c QQ H locs lsR C Rt Rl L o.2 b) (fun q => kf (fun z => q ((hb).mpr z)) E p l e s m args below meth c QQ H locs lsR C Rt Rl L o.2 b)
theorem z_icmp_eq (pc : Nat) {off : Int} {x y : Int} (d : decode M.2.2.1 pc = .ok (.if_icmp .eq off, 3)) (tgt : Nat) (ht : (pc : Int) + off = (tgt : Int)) (kt : x = y → m_Z Ω M tgt ls st h Q) (kf : ¬ x = y → m_Z Ω M (pc + 3) ls st h Q) : m_Z Ω M pc ls (mI y :: mI x :: st) h Q := by
  intro E p l e s m args below meth c QQ H locs lsR C Rt Rl L o b
  have hb := m_inj32 (x := x) (y := y) o.2.1 o.1
  refine lv_icmp_eq C.1 C.2.1 d ht (fun q => kt ((hb).mp q) E p l e s m args below meth c QQ H locs lsR C Rt Rl L o.2.2 b) (fun q => kf (fun z => q ((hb).mpr z)) E p l e s m args below meth c QQ H locs lsR C Rt Rl L o.2.2 b)
theorem z_if_ne (pc : Nat) {off : Int} {x : Int} (d : decode M.2.2.1 pc = .ok (.ifCond .ne off, 3)) (tgt : Nat) (ht : (pc : Int) + off = (tgt : Int)) (kt : ¬ x = 0 → m_Z Ω M tgt ls st h Q) (kf : x = 0 → m_Z Ω M (pc + 3) ls st h Q) : m_Z Ω M pc ls (mI x :: st) h Q := by
  intro E p l e s m args below meth c QQ H locs lsR C Rt Rl L o b
  have hb := m_inj32 (x := x) (y := 0) o.1 m_320
  refine lv_if_ne C.1 C.2.1 d ht (fun q => kt (fun z => q ((hb).mpr z)) E p l e s m args below meth c QQ H locs lsR C Rt Rl L o.2 b) (fun q => kf ((hb).mp q) E p l e s m args below meth c QQ H locs lsR C Rt Rl L o.2 b)
theorem z_icmp_ne (pc : Nat) {off : Int} {x y : Int} (d : decode M.2.2.1 pc = .ok (.if_icmp .ne off, 3)) (tgt : Nat) (ht : (pc : Int) + off = (tgt : Int)) (kt : ¬ x = y → m_Z Ω M tgt ls st h Q) (kf : x = y → m_Z Ω M (pc + 3) ls st h Q) : m_Z Ω M pc ls (mI y :: mI x :: st) h Q := by
  intro E p l e s m args below meth c QQ H locs lsR C Rt Rl L o b
  have hb := m_inj32 (x := x) (y := y) o.2.1 o.1
  refine lv_icmp_ne C.1 C.2.1 d ht (fun q => kt (fun z => q ((hb).mpr z)) E p l e s m args below meth c QQ H locs lsR C Rt Rl L o.2.2 b) (fun q => kf ((hb).mp q) E p l e s m args below meth c QQ H locs lsR C Rt Rl L o.2.2 b)
theorem z_if_lt (pc : Nat) {off : Int} {x : Int} (d : decode M.2.2.1 pc = .ok (.ifCond .lt off, 3)) (tgt : Nat) (ht : (pc : Int) + off = (tgt : Int)) (kt : x < 0 → m_Z Ω M tgt ls st h Q) (kf : ¬ x < 0 → m_Z Ω M (pc + 3) ls st h Q) : m_Z Ω M pc ls (mI x :: st) h Q := by
  intro E p l e s m args below meth c QQ H locs lsR C Rt Rl L o b
  have hb := m_lt32 (x := x) (y := 0) o.1 m_320
  refine lv_if_lt C.1 C.2.1 d ht (fun q => kt ((hb).mp q) E p l e s m args below meth c QQ H locs lsR C Rt Rl L o.2 b) (fun q => kf (fun z => q ((hb).mpr z)) E p l e s m args below meth c QQ H locs lsR C Rt Rl L o.2 b)
theorem z_icmp_lt (pc : Nat) {off : Int} {x y : Int} (d : decode M.2.2.1 pc = .ok (.if_icmp .lt off, 3)) (tgt : Nat) (ht : (pc : Int) + off = (tgt : Int)) (kt : x < y → m_Z Ω M tgt ls st h Q) (kf : ¬ x < y → m_Z Ω M (pc + 3) ls st h Q) : m_Z Ω M pc ls (mI y :: mI x :: st) h Q := by
  intro E p l e s m args below meth c QQ H locs lsR C Rt Rl L o b
  have hb := m_lt32 (x := x) (y := y) o.2.1 o.1
  refine lv_icmp_lt C.1 C.2.1 d ht (fun q => kt ((hb).mp q) E p l e s m args below meth c QQ H locs lsR C Rt Rl L o.2.2 b) (fun q => kf (fun z => q ((hb).mpr z)) E p l e s m args below meth c QQ H locs lsR C Rt Rl L o.2.2 b)
theorem z_if_ge (pc : Nat) {off : Int} {x : Int} (d : decode M.2.2.1 pc = .ok (.ifCond .ge off, 3)) (tgt : Nat) (ht : (pc : Int) + off = (tgt : Int)) (kt : 0 ≤ x → m_Z Ω M tgt ls st h Q) (kf : ¬ 0 ≤ x → m_Z Ω M (pc + 3) ls st h Q) : m_Z Ω M pc ls (mI x :: st) h Q := by
  intro E p l e s m args below meth c QQ H locs lsR C Rt Rl L o b
  have hb := m_le32 (x := 0) (y := x) m_320 o.1
  refine lv_if_ge C.1 C.2.1 d ht (fun q => kt ((hb).mp q) E p l e s m args below meth c QQ H locs lsR C Rt Rl L o.2 b) (fun q => kf (fun z => q ((hb).mpr z)) E p l e s m args below meth c QQ H locs lsR C Rt Rl L o.2 b)
theorem z_icmp_ge (pc : Nat) {off : Int} {x y : Int} (d : decode M.2.2.1 pc = .ok (.if_icmp .ge off, 3)) (tgt : Nat) (ht : (pc : Int) + off = (tgt : Int)) (kt : y ≤ x → m_Z Ω M tgt ls st h Q) (kf : ¬ y ≤ x → m_Z Ω M (pc + 3) ls st h Q) : m_Z Ω M pc ls (mI y :: mI x :: st) h Q := by
  intro E p l e s m args below meth c QQ H locs lsR C Rt Rl L o b
  have hb := m_le32 (x := y) (y := x) o.1 o.2.1
  refine lv_icmp_ge C.1 C.2.1 d ht (fun q => kt ((hb).mp q) E p l e s m args below meth c QQ H locs lsR C Rt Rl L o.2.2 b) (fun q => kf (fun z => q ((hb).mpr z)) E p l e s m args below meth c QQ H locs lsR C Rt Rl L o.2.2 b)
theorem z_if_gt (pc : Nat) {off : Int} {x : Int} (d : decode M.2.2.1 pc = .ok (.ifCond .gt off, 3)) (tgt : Nat) (ht : (pc : Int) + off = (tgt : Int)) (kt : 0 < x → m_Z Ω M tgt ls st h Q) (kf : ¬ 0 < x → m_Z Ω M (pc + 3) ls st h Q) : m_Z Ω M pc ls (mI x :: st) h Q := by
  intro E p l e s m args below meth c QQ H locs lsR C Rt Rl L o b
  have hb := m_lt32 (x := 0) (y := x) m_320 o.1
  refine lv_if_gt C.1 C.2.1 d ht (fun q => kt ((hb).mp q) E p l e s m args below meth c QQ H locs lsR C Rt Rl L o.2 b) (fun q => kf (fun z => q ((hb).mpr z)) E p l e s m args below meth c QQ H locs lsR C Rt Rl L o.2 b)
theorem z_icmp_gt (pc : Nat) {off : Int} {x y : Int} (d : decode M.2.2.1 pc = .ok (.if_icmp .gt off, 3)) (tgt : Nat) (ht : (pc : Int) + off = (tgt : Int)) (kt : y < x → m_Z Ω M tgt ls st h Q) (kf : ¬ y < x → m_Z Ω M (pc + 3) ls st h Q) : m_Z Ω M pc ls (mI y :: mI x :: st) h Q := by
  intro E p l e s m args below meth c QQ H locs lsR C Rt Rl L o b
  have hb := m_lt32 (x := y) (y := x) o.1 o.2.1
  refine lv_icmp_gt C.1 C.2.1 d ht (fun q => kt ((hb).mp q) E p l e s m args below meth c QQ H locs lsR C Rt Rl L o.2.2 b) (fun q => kf (fun z => q ((hb).mpr z)) E p l e s m args below meth c QQ H locs lsR C Rt Rl L o.2.2 b)
theorem z_if_le (pc : Nat) {off : Int} {x : Int} (d : decode M.2.2.1 pc = .ok (.ifCond .le off, 3)) (tgt : Nat) (ht : (pc : Int) + off = (tgt : Int)) (kt : x ≤ 0 → m_Z Ω M tgt ls st h Q) (kf : ¬ x ≤ 0 → m_Z Ω M (pc + 3) ls st h Q) : m_Z Ω M pc ls (mI x :: st) h Q := by
  intro E p l e s m args below meth c QQ H locs lsR C Rt Rl L o b
  have hb := m_le32 (x := x) (y := 0) o.1 m_320
  refine lv_if_le C.1 C.2.1 d ht (fun q => kt ((hb).mp q) E p l e s m args below meth c QQ H locs lsR C Rt Rl L o.2 b) (fun q => kf (fun z => q ((hb).mpr z)) E p l e s m args below meth c QQ H locs lsR C Rt Rl L o.2 b)
theorem z_icmp_le (pc : Nat) {off : Int} {x y : Int} (d : decode M.2.2.1 pc = .ok (.if_icmp .le off, 3)) (tgt : Nat) (ht : (pc : Int) + off = (tgt : Int)) (kt : x ≤ y → m_Z Ω M tgt ls st h Q) (kf : ¬ x ≤ y → m_Z Ω M (pc + 3) ls st h Q) : m_Z Ω M pc ls (mI y :: mI x :: st) h Q := by
  intro E p l e s m args below meth c QQ H locs lsR C Rt Rl L o b
  have hb := m_le32 (x := x) (y := y) o.2.1 o.1
  refine lv_icmp_le C.1 C.2.1 d ht (fun q => kt ((hb).mp q) E p l e s m args below meth c QQ H locs lsR C Rt Rl L o.2.2 b) (fun q => kf (fun z => q ((hb).mpr z)) E p l e s m args below meth c QQ H locs lsR C Rt Rl L o.2.2 b)
theorem z_goto (pc : Nat) {off : Int} (d : decode M.2.2.1 pc = .ok (.goto off, 3)) (tgt : Nat) (ht : (pc : Int) + off = (tgt : Int)) (k : m_Z Ω M tgt ls st h Q) : m_Z Ω M pc ls st h Q := by
  intro E p l e s m args below meth c QQ H locs lsR C Rt Rl L o b
  refine lv_goto C.1 C.2.1 d ht ?_
  exact k E p l e s m args below meth c QQ H locs lsR C Rt Rl L o b
theorem z_tabOut (pc : Nat) {df lo hi : Int} {offs : Array Int} {len : Nat} (d : decode M.2.2.1 pc = .ok (.tableswitch df lo hi offs, len)) {x : Int} (tgt : Nat) (hx : x < lo ∨ hi < x) (ht : (pc : Int) + df = (tgt : Int)) (k : m_Z Ω M tgt ls st h Q) : m_Z Ω M pc ls (mI x :: st) h Q := by
  intro E p l e s m args below meth c QQ H locs lsR C Rt Rl L o b
  refine lv_tableOut C.1 C.2.1 d (by rw [m_i32 o.1]; exact hx) ht ?_
  exact k E p l e s m args below meth c QQ H locs lsR C Rt Rl L o.2 b
theorem z_tabIn (pc : Nat) {df lo hi : Int} {offs : Array Int} {len : Nat} (d : decode M.2.2.1 pc = .ok (.tableswitch df lo hi offs, len)) {x off : Int} (tgt : Nat) (h1 : lo ≤ x) (h2 : x ≤ hi) (ho : offs[(x - lo).toNat]? = some off) (ht : (pc : Int) + off = (tgt : Int)) (k : m_Z Ω M tgt ls st h Q) : m_Z Ω M pc ls (mI x :: st) h Q := by
  intro E p l e s m args below meth c QQ H locs lsR C Rt Rl L o b
  have e1 := m_i32 (x := x) o.1
  refine lv_tableIn C.1 C.2.1 d (by rw [e1]; omega) (by rw [e1]; omega) (by rw [e1]; exact ho) ht ?_
  exact k E p l e s m args below meth c QQ H locs lsR C Rt Rl L o.2 b
theorem z_lookup (pc : Nat) {df : Int} {ps : Array (Int × Int)} {len : Nat} (d : decode M.2.2.1 pc = .ok (.lookupswitch df ps, len)) {x off : Int} (tgt : Nat) (hp : (ps.toList.zip (ps.toList.drop 1)).all (fun (a, next) => a.1 < next.1) = true) (ho : Op.lookupswitch.offset ps.toList df x = off) (ht : (pc : Int) + off = (tgt : Int)) (k : m_Z Ω M tgt ls st h Q) : m_Z Ω M pc ls (mI x :: st) h Q := by
  intro E p l e s m args below meth c QQ H locs lsR C Rt Rl L o b
  refine lv_lookup C.1 C.2.1 d hp (by rw [m_i32 o.1]; exact ho) ht ?_
  exact k E p l e s m args below meth c QQ H locs lsR C Rt Rl L o.2 b
theorem z_ok {pc : Nat} (k : m_oks st → m_hok Ω h → (∀ (i : Nat) (v : m_V), ls[i]? = some (some v) → m_ok v) → m_Z Ω M pc ls st h Q) : m_Z Ω M pc ls st h Q := by
  intro E p l e s m args below meth c QQ H locs lsR C Rt Rl L o b
  exact k o Rl.2.2.2 (fun i v q => (L.2.2 i v q).2) E p l e s m args below meth c QQ H locs lsR C Rt Rl L o b
theorem z_sub {pc : Nat} {ls' : List (Option m_V)} (q : ∀ (i : Nat) (v : m_V), ls'[i]? = some (some v) → ls[i]? = some (some v)) (k : m_Z Ω M pc ls' st h Q) : m_Z Ω M pc ls st h Q := by
  intro E p l e s m args below meth c QQ H locs lsR C Rt Rl L o b
  exact k E p l e s m args below meth c QQ H locs lsR C Rt Rl ⟨L.1, L.2.1, fun i v z => L.2.2 i v (q i v z)⟩ o b
theorem z_post {pc : Nat} {Q' : m_W → Option m_V → m_H → Prop} (q : ∀ w r h', Q' w r h' → Q w r h') (k : m_Z Ω M pc ls st h Q') : m_Z Ω M pc ls st h Q := by
  intro E p l e s m args below meth c QQ H locs lsR C Rt Rl L o b
  exact k E p l e s m args below meth c QQ H locs lsR C (fun Ω r h H locs pc ls i a => Rt Ω r h H locs pc ls i (q _ _ _ a)) Rl L o b
theorem z_iret (pc : Nat) {x : Int} (d : decode M.2.2.1 pc = .ok (.ireturn, 1)) (hr : M.2.2.2.2.1 = some .int) (q : Q Ω (some (mI x)) h) : m_Z Ω M pc ls [mI x] h Q := by
  intro E p l e s m args below meth c QQ H locs lsR C Rt Rl L o b
  exact Rt Ω (some (mI x)) h H locs pc lsR _ q (fun v e => by cases e; exact o.1) Rl d (Or.inr (Or.inl ⟨x, hr, rfl, rfl⟩))
theorem z_zret (pc : Nat) {x : Int} (d : decode M.2.2.1 pc = .ok (.ireturn, 1)) (hr : M.2.2.2.2.1 = some .boolean) (hx : x = 0 ∨ x = 1) (q : Q Ω (some (mI x)) h) : m_Z Ω M pc ls [mI x] h Q := by
  intro E p l e s m args below meth c QQ H locs lsR C Rt Rl L o b
  exact Rt Ω (some (mI x)) h H locs pc lsR _ q (fun v e => by cases e; exact o.1) Rl d (Or.inr (Or.inr (Or.inl ⟨x, hr, rfl, rfl, hx⟩)))
theorem z_lret (pc : Nat) {x : Int} (d : decode M.2.2.1 pc = .ok (.lreturn, 1)) (hr : M.2.2.2.2.1 = some .long) (q : Q Ω (some (mJ x)) h) : m_Z Ω M pc ls [mJ x] h Q := by
  intro E p l e s m args below meth c QQ H locs lsR C Rt Rl L o b
  exact Rt Ω (some (mJ x)) h H locs pc lsR _ q (fun v e => by cases e; exact o.1) Rl d (Or.inr (Or.inr (Or.inr (Or.inl ⟨x, hr, rfl, rfl⟩))))
theorem z_vret (pc : Nat) (d : decode M.2.2.1 pc = .ok (.return_, 1)) (hr : M.2.2.2.2.1 = none) (q : Q Ω none h) : m_Z Ω M pc ls [] h Q := by
  intro E p l e s m args below meth c QQ H locs lsR C Rt Rl L o b
  exact Rt Ω none h H locs pc lsR _ q (fun v e => by cases e) Rl d (Or.inl ⟨hr, rfl, rfl⟩)
theorem z_aret (pc : Nat) {x : Nat} (d : decode M.2.2.1 pc = .ok (.areturn, 1)) (hr : M.2.2.2.2.1 = some (.array (.object "WeekFoot$Bound"))) (q : Q Ω (some (mR x)) h) : m_Z Ω M pc ls [mR x] h Q := by
  intro E p l e s m args below meth c QQ H locs lsR C Rt Rl L o b
  exact Rt Ω (some (mR x)) h H locs pc lsR _ q (fun v e => by cases e; trivial) Rl d (Or.inr (Or.inr (Or.inr (Or.inr (Or.inl ⟨x, hr, rfl, rfl⟩)))))
theorem z_nret (pc : Nat) {x : Int} (d : decode M.2.2.1 pc = .ok (.ireturn, 1)) {ty : FieldType} (hr : M.2.2.2.2.1 = some ty) (hn : narrow ty (.int (Int32.ofInt x)) = .int (Int32.ofInt x)) (q : Q Ω (some (mI x)) h) : m_Z Ω M pc ls [mI x] h Q := by
  intro E p l e s m args below meth c QQ H locs lsR C Rt Rl L o b
  exact Rt Ω (some (mI x)) h H locs pc lsR _ q (fun v e => by cases e; exact o.1) Rl d (Or.inr (Or.inr (Or.inr (Or.inr (Or.inr ⟨x, ty, hr, rfl, rfl, hn⟩)))))
end ZR
