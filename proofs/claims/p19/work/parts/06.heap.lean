/-! ===== fields and arrays of the small machine ===== -/
section ZH
variable {Ω : m_W} {M : m_M} {ls : List (Option m_V)} {st : List m_V} {h : m_H} {Q : m_W → Option m_V → m_H → Prop}
def m_cf (ci : Nat) (C : String) (T : u_T) (N : Nat) : Prop := vwCl[ci]? = some (C, T, N) ∧ (∀ w ∈ u_ws C T N, w ∈ m_G) ∧ (∀ k, k < N → parseFieldDescriptor (T k).2.2.1 = some (m_ty ci k)) ∧ ∀ a, a < N → ∀ b, b < N → a ≠ b → (T a).2.1 ≠ (T b).2.1
/-- field j of class ci (N fields), as class own's entry index names it -/
def m_fl (own : String) (index ci N j : Nat) : Prop := ∃ (C : String) (T : u_T), m_cf ci C T N ∧ j < N ∧ Cond.fieldLink own index (T j).1 (T j).2.1 (T j).2.2.1 ∈ m_G ∧ ∃ fin : Bool, (T j).2.2.2 = fin
/-- the same, of a field that isn't final -/
def m_fp (own : String) (index ci N j : Nat) : Prop := ∃ (C : String) (T : u_T), m_cf ci C T N ∧ j < N ∧ Cond.fieldLink own index (T j).1 (T j).2.1 (T j).2.2.1 ∈ m_G ∧ (T j).2.2.2 = false
theorem m_fs_at {E : m_E} {f : Nat → Int} {ci N j : Nat} (hj : j < N) : ((List.range N).map (fun j => m_sv E (m_tk (m_ty ci j)) (f j)))[j]? = some (m_sv E (m_tk (m_ty ci j)) (f j)) := by
  simp [hj]
theorem m_fs_set {E : m_E} {h : m_H} {k ci N j : Nat} {x : Int} (hj : j < N) : ((List.range N).map (fun i => m_sv E (m_tk (m_ty ci i)) (h k i))).set j (m_sv E (m_tk (m_ty ci j)) x) = (List.range N).map (fun i => m_sv E (m_tk (m_ty ci i)) (m_up h k j x k i)) := by
  apply List.ext_getElem?
  intro i
  by_cases hi : i = j
  · subst hi
    rw [List.getElem?_set_self (by simpa using hj), List.getElem?_map, List.getElem?_range hj]
    simp [m_up_eq]
  · rw [List.getElem?_set_ne (Ne.symm hi), List.getElem?_map, List.getElem?_map]
    by_cases hiN : i < N
    · rw [List.getElem?_range hiN]
      simp only [Option.map_some]
      rw [show m_up h k j x k i = h k i from m_up_ne (fun q => hi q.2)]
    · rw [List.getElem?_eq_none (by simpa using hiN)]
      rfl
theorem m_get {E : m_E} {p : Program} {l : Launch} {e : Env} {s : State} {m : MethodId} {args : Array Value} {below : List Frame} {meth : Method} {c : Code} {R : Room} {QQ : State → Prop} {H : Heap} {locs : List Loc} {lsR : Array Slot} {rest : List Value} {cells slots pc index ci N j k : Nat} (C : m_Cx E M p s m args c) (Rl : m_Rel E Ω h s H locs) (d : decode M.2.2.1 pc = .ok (.getfield index, 3)) (f : m_fl M.1 index ci N j) (hk : Ω[k]? = some (ci + 5, N))
    (kk : W p l e R s m args below meth c H locs cells slots QQ (F0 m (pc + 3) lsR (m_sv E (m_tk (m_ty ci j)) (h k j) :: rest))) : W p l e R s m args below meth c H locs cells slots QQ (F0 m pc lsR (.ref (E.1.1 + k) :: rest)) := by
  obtain ⟨Cn, T, ⟨c1, c2, c3, c4⟩, hj, hl, -⟩ := f
  exact va_get (C := Cn) (T := T) (N := N) (ref := (T j).1) C.1 C.2.1 C.2.2.2.2.1 c2 C.2.2.2.1 C.2.2.2.2.2.1 Rl.2.1 k (m_wl_at hk) c1 j hj (C.2.2.2.2.1 _ hl) (fun x q => q) (m_fs_at hj) d kk
theorem z_getI (pc : Nat) {index ci N j k : Nat} (d : decode M.2.2.1 pc = .ok (.getfield index, 3)) (f : m_fl M.1 index ci N j) (hk : Ω[k]? = some (ci + 5, N)) (ht : m_tk (m_ty ci j) ≠ 1 ∧ m_tk (m_ty ci j) ≠ 3) (kk : m_Z Ω M (pc + 3) ls (mI (h k j) :: st) h Q) : m_Z Ω M pc ls (mR k :: st) h Q := by
  intro E p l e s m args below meth c QQ H locs lsR C Rt Rl L o b
  refine m_get C Rl d f hk ?_
  have hb := Rl.2.2.2 k _ hk j
  simp only [m_sk, m_rg, ht.1, ht.2, if_false] at hb
  simp only [m_sv, ht.1, ht.2, if_false]
  exact kk E p l e s m args below meth c QQ H locs lsR C Rt Rl L ⟨hb, o.2⟩ b
theorem z_getJ (pc : Nat) {index ci N j k : Nat} (d : decode M.2.2.1 pc = .ok (.getfield index, 3)) (f : m_fl M.1 index ci N j) (hk : Ω[k]? = some (ci + 5, N)) (ht : m_tk (m_ty ci j) = 1) (kk : m_Z Ω M (pc + 3) ls (mJ (h k j) :: st) h Q) : m_Z Ω M pc ls (mR k :: st) h Q := by
  intro E p l e s m args below meth c QQ H locs lsR C Rt Rl L o b
  refine m_get C Rl d f hk ?_
  have hb := Rl.2.2.2 k _ hk j
  simp only [m_sk, m_rg, ht, if_true] at hb
  simp only [m_sv, ht, if_true]
  exact kk E p l e s m args below meth c QQ H locs lsR C Rt Rl L ⟨hb, o.2⟩ b
theorem z_getR (pc : Nat) {index ci N j k t : Nat} (d : decode M.2.2.1 pc = .ok (.getfield index, 3)) (f : m_fl M.1 index ci N j) (hk : Ω[k]? = some (ci + 5, N)) (ht : m_tk (m_ty ci j) = 3) (hr : h k j = (t : Int)) (kk : m_Z Ω M (pc + 3) ls (mR t :: st) h Q) : m_Z Ω M pc ls (mR k :: st) h Q := by
  intro E p l e s m args below meth c QQ H locs lsR C Rt Rl L o b
  refine m_get C Rl d f hk ?_
  have e1 : m_sv E (m_tk (m_ty ci j)) (h k j) = .ref (E.1.1 + t) := by
    rw [ht, hr]
    simp [m_sv, m_rv]
  rw [e1]
  exact kk E p l e s m args below meth c QQ H locs lsR C Rt Rl L ⟨trivial, o.2⟩ b
theorem m_rel_set {E : m_E} {s : State} {H H1 : Heap} {locs : List Loc} {k j : Nat} {x : Int} {q : Nat × Nat} {n : Nat} (Rl : m_Rel E Ω h s H locs) (hk : Ω[k]? = some q) (hx : m_rg (m_sk q.1 j) x) (he : va_at E.2.2 vwCl (E.1.1 + k, m_el E q (m_up h k j x k)) H1) (z : H1.size = H.size) (oq : ∀ a : Nat, a ≠ E.1.1 + k → H1[a]? = H[a]?) : m_Rel E Ω (m_up h k j x) s H1 (locs ++ [⟨E.1.1 + k, n⟩]) :=
  ⟨by rw [z]; exact Rl.1, by rw [← m_wl_set hk]; exact Rl.2.1.set (m_wl_D E Ω h) (m_wl_at hk) he oq, Rl.2.2.1.put z oq (Nat.le_add_right _ _), m_hok_up hk Rl.2.2.2 hx⟩
theorem m_put {E : m_E} {p : Program} {l : Launch} {e : Env} {s : State} {m : MethodId} {args : Array Value} {below : List Frame} {meth : Method} {c : Code} {R : Room} {QQ : State → Prop} {H : Heap} {locs : List Loc} {lsR : Array Slot} {rest : List Value} {cells slots pc index ci N j k : Nat} {x : Int} (C : m_Cx E M p s m args c) (Rl : m_Rel E Ω h s H locs) (d : decode M.2.2.1 pc = .ok (.putfield index, 3)) (f : m_fp M.1 index ci N j) (hk : Ω[k]? = some (ci + 5, N))
    (hn : narrow (m_ty ci j) (m_sv E (m_tk (m_ty ci j)) x) = m_sv E (m_tk (m_ty ci j)) x) (hf : fits (m_ty ci j) (m_sv E (m_tk (m_ty ci j)) x) = true) (hx : m_rg (m_tk (m_ty ci j)) x)
    (kk : ∀ (H1 : Heap) (locs1 : List Loc), m_Rel E Ω (m_up h k j x) s H1 locs1 → W p l e R s m args below meth c H1 locs1 cells slots QQ (F0 m (pc + 3) lsR rest)) : W p l e R s m args below meth c H locs cells slots QQ (F0 m pc lsR (m_sv E (m_tk (m_ty ci j)) x :: .ref (E.1.1 + k) :: rest)) := by
  obtain ⟨Cn, T, ⟨c1, c2, c3, c4⟩, hj, hl, hfin⟩ := f
  have hts := C.2.2.2.2.1
  have hap := va_apart (own := M.1) hts c2 (m_ty ci) c3 c4 C.2.2.2.2.2.1 c1
  obtain ⟨r, h1, cell, q1, q2, q3, q4⟩ := Rl.2.1 k _ (m_wl_at hk)
  have hr : r = (Cn, T, N) := Option.some.inj (h1.symm.trans c1)
  subst hr
  obtain ⟨hS, hfc, kC, hkC, hkind⟩ := C.2.2.2.2.2.1.1 ci _ c1
  obtain ⟨cf, kf, fi, fd, hi, hsl⟩ := hS j hj
  have hlay := hts _ (c2 _ (u_in_lay hj))
  unfold u_lay at hlay
  rw [if_neg (by rw [hfin]; decide)] at hlay
  have hst := (u_facts hfc hkC (u_lays hts c2 hj) hi).1
  have h6 := u_store hfc hkC hkind hlay hi (c3 j hj) hn hf
  refine W.putK C.1 C.2.1 (f := fd) ⟨C.2.2.2.1, hts _ hl, ⟨_, _, _, hi⟩, hst⟩ (by rw [q2]; exact h6) q1 q3 (by rw [hsl]; exact k2_hasslot (q4 j hj)) rfl rfl d fun H' e1 e2 e3 => ?_
  refine kk H' _ (m_rel_set Rl hk hx ?_ e2 e3)
  rw [hsl] at e1
  show va_at E.2.2 vwCl (E.1.1 + k, .inr (ci, (List.range N).map (fun i => m_sv E (m_tk (m_ty ci i)) (m_up h k j x k i)))) H'
  rw [← m_fs_set hj]
  exact ⟨_, c1, t_OB.to (V := updV (vp_V _) j _) ⟨_, e1, q2, q3, t_set q4 hap hj _⟩ (fun i _ => vp_updV_set (by simpa using hj) _ i)⟩
theorem z_putI (pc : Nat) {index ci N j k : Nat} {x : Int} (d : decode M.2.2.1 pc = .ok (.putfield index, 3)) (f : m_fp M.1 index ci N j) (hk : Ω[k]? = some (ci + 5, N)) (ht : m_ty ci j = .int) (kk : m_Z Ω M (pc + 3) ls st (m_up h k j x) Q) : m_Z Ω M pc ls (mI x :: mR k :: st) h Q := by
  intro E p l e s m args below meth c QQ H locs lsR C Rt Rl L o b
  have e1 : m_sv E (m_tk (m_ty ci j)) x = .int (Int32.ofInt x) := by rw [ht]; rfl
  have h1 := m_put (x := x) (rest := st.map (m_v E)) (lsR := lsR) (QQ := QQ) (R := m_rm M) (l := l) (e := e) (below := below) (meth := meth) (cells := Ω.length - m_k0 M) (slots := m_sz Ω - m_s0 M) C Rl d f hk (by rw [e1, ht]; rfl) (by rw [e1, ht]; rfl) (by rw [ht]; exact o.1) (fun H1 locs1 R1 => kk E p l e s m args below meth c QQ H1 locs1 lsR C Rt R1 L o.2.2 b)
  rw [e1] at h1
  exact h1
theorem z_putZ (pc : Nat) {index ci N j k : Nat} {x : Int} (d : decode M.2.2.1 pc = .ok (.putfield index, 3)) (f : m_fp M.1 index ci N j) (hk : Ω[k]? = some (ci + 5, N)) (ht : m_ty ci j = .boolean) (hx : x = 0 ∨ x = 1) (kk : m_Z Ω M (pc + 3) ls st (m_up h k j x) Q) : m_Z Ω M pc ls (mI x :: mR k :: st) h Q := by
  intro E p l e s m args below meth c QQ H locs lsR C Rt Rl L o b
  have e1 : m_sv E (m_tk (m_ty ci j)) x = .int (Int32.ofInt x) := by rw [ht]; rfl
  have h1 := m_put (x := x) (rest := st.map (m_v E)) (lsR := lsR) (QQ := QQ) (R := m_rm M) (l := l) (e := e) (below := below) (meth := meth) (cells := Ω.length - m_k0 M) (slots := m_sz Ω - m_s0 M) C Rl d f hk (by rw [e1, ht]; rcases hx with rfl | rfl <;> rfl) (by rw [e1, ht]; rcases hx with rfl | rfl <;> rfl) (by rw [ht]; exact o.1) (fun H1 locs1 R1 => kk E p l e s m args below meth c QQ H1 locs1 lsR C Rt R1 L o.2.2 b)
  rw [e1] at h1
  exact h1
theorem z_putJ (pc : Nat) {index ci N j k : Nat} {x : Int} (d : decode M.2.2.1 pc = .ok (.putfield index, 3)) (f : m_fp M.1 index ci N j) (hk : Ω[k]? = some (ci + 5, N)) (ht : m_ty ci j = .long) (kk : m_Z Ω M (pc + 3) ls st (m_up h k j x) Q) : m_Z Ω M pc ls (mJ x :: mR k :: st) h Q := by
  intro E p l e s m args below meth c QQ H locs lsR C Rt Rl L o b
  have e1 : m_sv E (m_tk (m_ty ci j)) x = .long (Int64.ofInt x) := by rw [ht]; rfl
  have h1 := m_put (x := x) (rest := st.map (m_v E)) (lsR := lsR) (QQ := QQ) (R := m_rm M) (l := l) (e := e) (below := below) (meth := meth) (cells := Ω.length - m_k0 M) (slots := m_sz Ω - m_s0 M) C Rl d f hk (by rw [e1, ht]; rfl) (by rw [e1, ht]; rfl) (by rw [ht]; exact o.1) (fun H1 locs1 R1 => kk E p l e s m args below meth c QQ H1 locs1 lsR C Rt R1 L o.2.2 b)
  rw [e1] at h1
  exact h1
/-! arrays -/
theorem m_ix {i : Int} {n : Nat} (hi : m_32 i) (h0 : 0 ≤ i) (h1 : i < n) : vp_in (Int32.ofInt i) n := by
  rw [vp_in_iff, m_i32 hi]; exact ⟨h0, h1⟩
theorem m_cn {i : Int} (hi : m_32 i) : (Int32.ofInt i).toNatClampNeg = i.toNat := Int32.toNatClampNeg_ofInt_of_le (by unfold m_32 at hi; omega) (by unfold m_32 at hi; omega)
theorem z_iald (pc : Nat) {k n : Nat} {i : Int} (d : decode M.2.2.1 pc = .ok (.iaload, 1)) (hk : Ω[k]? = some (0, n)) (h0 : 0 ≤ i) (h1 : i < n) (kk : m_Z Ω M (pc + 1) ls (mI (h k i.toNat) :: st) h Q) : m_Z Ω M pc ls (mI i :: mR k :: st) h Q := by
  intro E p l e s m args below meth c QQ H locs lsR C Rt Rl L o b
  have hb := Rl.2.2.2 k _ hk i.toNat
  refine va_iald C.1 C.2.1 C.2.2.2.2.2.1 Rl.2.1 k 0 (m_wl_at hk) rfl (m_ix o.1 h0 h1) d ?_
  rw [m_cn o.1]
  exact kk E p l e s m args below meth c QQ H locs lsR C Rt Rl L ⟨hb, o.2.2⟩ b
theorem z_lald (pc : Nat) {k n : Nat} {i : Int} (d : decode M.2.2.1 pc = .ok (.laload, 1)) (hk : Ω[k]? = some (1, n)) (h0 : 0 ≤ i) (h1 : i < n) (kk : m_Z Ω M (pc + 1) ls (mJ (h k i.toNat) :: st) h Q) : m_Z Ω M pc ls (mI i :: mR k :: st) h Q := by
  intro E p l e s m args below meth c QQ H locs lsR C Rt Rl L o b
  have hb := Rl.2.2.2 k _ hk i.toNat
  refine va_lald C.1 C.2.1 C.2.2.2.2.2.1 Rl.2.1 k 1 (m_wl_at hk) rfl (m_ix o.1 h0 h1) d ?_
  rw [m_cn o.1]
  exact kk E p l e s m args below meth c QQ H locs lsR C Rt Rl L ⟨hb, o.2.2⟩ b
theorem z_zald (pc : Nat) {k n : Nat} {i : Int} (d : decode M.2.2.1 pc = .ok (.baload, 1)) (hk : Ω[k]? = some (2, n)) (h0 : 0 ≤ i) (h1 : i < n) (kk : m_Z Ω M (pc + 1) ls (mI (h k i.toNat) :: st) h Q) : m_Z Ω M pc ls (mI i :: mR k :: st) h Q := by
  intro E p l e s m args below meth c QQ H locs lsR C Rt Rl L o b
  have hb := Rl.2.2.2 k _ hk i.toNat
  refine va_zald C.1 C.2.1 C.2.2.2.2.2.1 Rl.2.1 k 2 (m_wl_at hk) rfl (m_ix o.1 h0 h1) d ?_
  rw [m_cn o.1]
  exact kk E p l e s m args below meth c QQ H locs lsR C Rt Rl L ⟨hb, o.2.2⟩ b
theorem z_aaldB (pc : Nat) {k n t : Nat} {i : Int} (d : decode M.2.2.1 pc = .ok (.aaload, 1)) (hk : Ω[k]? = some (3, n)) (h0 : 0 ≤ i) (h1 : i < n) (hr : h k i.toNat = (t : Int)) (kk : m_Z Ω M (pc + 1) ls (mR t :: st) h Q) : m_Z Ω M pc ls (mI i :: mR k :: st) h Q := by
  intro E p l e s m args below meth c QQ H locs lsR C Rt Rl L o b
  refine va_aldq (C := "WeekFoot$Bound") C.1 C.2.1 C.2.2.2.2.2.1 Rl.2.1 k 3 (m_wl_at hk) rfl (m_ix o.1 h0 h1) d ?_
  rw [m_cn o.1, hr, if_neg (by omega), Int.toNat_natCast]
  exact kk E p l e s m args below meth c QQ H locs lsR C Rt Rl L ⟨trivial, o.2.2⟩ b
theorem z_aaldL (pc : Nat) {k n t : Nat} {i : Int} (d : decode M.2.2.1 pc = .ok (.aaload, 1)) (hk : Ω[k]? = some (4, n)) (h0 : 0 ≤ i) (h1 : i < n) (hr : h k i.toNat = (t : Int)) (kk : m_Z Ω M (pc + 1) ls (mR t :: st) h Q) : m_Z Ω M pc ls (mI i :: mR k :: st) h Q := by
  intro E p l e s m args below meth c QQ H locs lsR C Rt Rl L o b
  refine va_aldq (C := "WeekFoot$Ledger") C.1 C.2.1 C.2.2.2.2.2.1 Rl.2.1 k 4 (m_wl_at hk) rfl (m_ix o.1 h0 h1) d ?_
  rw [m_cn o.1, hr, if_neg (by omega), Int.toNat_natCast]
  exact kk E p l e s m args below meth c QQ H locs lsR C Rt Rl L ⟨trivial, o.2.2⟩ b
theorem z_alen (pc : Nat) {k kd n : Nat} (d : decode M.2.2.1 pc = .ok (.arraylength, 1)) (hk : Ω[k]? = some (kd, n)) (hd : kd ≤ 4) (hn : n ≤ 2147483647) (kk : m_Z Ω M (pc + 1) ls (mI n :: st) h Q) : m_Z Ω M pc ls (mR k :: st) h Q := by
  intro E p l e s m args below meth c QQ H locs lsR C Rt Rl L o b
  have key : W p l e (m_rm M) s m args below meth c H locs (Ω.length - m_k0 M) (m_sz Ω - m_s0 M) QQ (F0 m (pc + 1) lsR (.int (Int32.ofInt n) :: st.map (m_v E))) := kk E p l e s m args below meth c QQ H locs lsR C Rt Rl L ⟨by show m_32 _; unfold m_32; omega, o.2⟩ b
  have e0 : ∀ x : vp_A, x.1 = n → Int32.ofNat x.1 = Int32.ofInt (n : Int) := fun x q => by rw [q]; rfl
  have hw := m_wl_at (E := E) (h := h) hk
  rcases (show kd = 0 ∨ kd = 1 ∨ kd = 2 ∨ kd = 3 ∨ kd = 4 by omega) with rfl | rfl | rfl | rfl | rfl
  · exact va_alen C.1 C.2.1 C.2.2.2.2.2.1 Rl.2.1 k 0 hw rfl (e0 _ rfl) d key
  · exact va_alen C.1 C.2.1 C.2.2.2.2.2.1 Rl.2.1 k 1 hw rfl (e0 _ rfl) d key
  · exact va_alen C.1 C.2.1 C.2.2.2.2.2.1 Rl.2.1 k 2 hw rfl (e0 _ rfl) d key
  · exact va_alen C.1 C.2.1 C.2.2.2.2.2.1 Rl.2.1 k 3 hw rfl (e0 _ rfl) d key
  · exact va_alen C.1 C.2.1 C.2.2.2.2.2.1 Rl.2.1 k 4 hw rfl (e0 _ rfl) d key
theorem z_iast (pc : Nat) {k n : Nat} {i x : Int} (d : decode M.2.2.1 pc = .ok (.iastore, 1)) (hk : Ω[k]? = some (0, n)) (h0 : 0 ≤ i) (h1 : i < n) (kk : m_Z Ω M (pc + 1) ls st (m_up h k i.toNat x) Q) : m_Z Ω M pc ls (mI x :: mI i :: mR k :: st) h Q := by
  intro E p l e s m args below meth c QQ H locs lsR C Rt Rl L o b
  have ha : H[E.1.1 + k]? = some (arrV (E.2.1 0) n (fun j => .int (Int32.ofInt (h k j)))) := Rl.2.1 k _ (m_wl_at hk)
  refine W.iast C.1 C.2.1 ha ((C.2.2.2.2.2.1.2 0 _ rfl).1 n (fun j => .int (Int32.ofInt (h k j)))) (fun q => by cases q) (by show ¬ (_ ∨ (arrV _ _ _).slots.size ≤ _); rw [arrV_size]; exact m_ix o.2.1 h0 h1) rfl rfl d fun H1 e1 z oq => ?_
  refine kk E p l e s m args below meth c QQ H1 _ lsR C Rt (m_rel_set Rl hk o.1 ?_ z oq) L o.2.2.2 b
  show H1[E.1.1 + k]? = some (arrV (E.2.1 0) n (fun j => .int (Int32.ofInt (m_up h k i.toNat x k j))))
  rw [e1, arrV_store, m_cn o.2.1]
  congr 2
  funext q
  by_cases hq : q = i.toNat
  · subst hq; simp [updV, m_up]
  · simp [updV, m_up, hq]
theorem z_last (pc : Nat) {k n : Nat} {i x : Int} (d : decode M.2.2.1 pc = .ok (.lastore, 1)) (hk : Ω[k]? = some (1, n)) (h0 : 0 ≤ i) (h1 : i < n) (kk : m_Z Ω M (pc + 1) ls st (m_up h k i.toNat x) Q) : m_Z Ω M pc ls (mJ x :: mI i :: mR k :: st) h Q := by
  intro E p l e s m args below meth c QQ H locs lsR C Rt Rl L o b
  have ha : H[E.1.1 + k]? = some (arrV (E.2.1 1) n (fun j => .long (Int64.ofInt (h k j)))) := Rl.2.1 k _ (m_wl_at hk)
  refine W.last C.1 C.2.1 ha ((C.2.2.2.2.2.1.2 1 _ rfl).1 n (fun j => .long (Int64.ofInt (h k j)))) (fun q => by cases q) (by show ¬ (_ ∨ (arrV _ _ _).slots.size ≤ _); rw [arrV_size]; exact m_ix o.2.1 h0 h1) rfl rfl d fun H1 e1 z oq => ?_
  refine kk E p l e s m args below meth c QQ H1 _ lsR C Rt (m_rel_set Rl hk o.1 ?_ z oq) L o.2.2.2 b
  show H1[E.1.1 + k]? = some (arrV (E.2.1 1) n (fun j => .long (Int64.ofInt (m_up h k i.toNat x k j))))
  rw [e1, arrV_store, m_cn o.2.1]
  congr 2
  funext q
  by_cases hq : q = i.toNat
  · subst hq; simp [updV, m_up]
  · simp [updV, m_up, hq]
theorem z_zast (pc : Nat) {k n : Nat} {i x : Int} (d : decode M.2.2.1 pc = .ok (.bastore, 1)) (hk : Ω[k]? = some (2, n)) (h0 : 0 ≤ i) (h1 : i < n) (hx : x = 0 ∨ x = 1) (kk : m_Z Ω M (pc + 1) ls st (m_up h k i.toNat x) Q) : m_Z Ω M pc ls (mI x :: mI i :: mR k :: st) h Q := by
  intro E p l e s m args below meth c QQ H locs lsR C Rt Rl L o b
  have ha : H[E.1.1 + k]? = some (arrV (E.2.1 2) n (fun j => .int (Int32.ofInt (h k j)))) := Rl.2.1 k _ (m_wl_at hk)
  refine W.zast C.1 C.2.1 ha ((C.2.2.2.2.2.1.2 2 _ rfl).1 n (fun j => .int (Int32.ofInt (h k j)))) (fun q => by cases q) (by show ¬ (_ ∨ (arrV _ _ _).slots.size ≤ _); rw [arrV_size]; exact m_ix o.2.1 h0 h1) rfl rfl d fun H1 e1 z oq => ?_
  refine kk E p l e s m args below meth c QQ H1 _ lsR C Rt (m_rel_set Rl hk o.1 ?_ z oq) L o.2.2.2 b
  show H1[E.1.1 + k]? = some (arrV (E.2.1 2) n (fun j => .int (Int32.ofInt (m_up h k i.toNat x k j))))
  have e2 : narrow .boolean (.int (Int32.ofInt x)) = .int (Int32.ofInt x) := by rcases hx with rfl | rfl <;> rfl
  rw [e1, e2, arrV_store, m_cn o.2.1]
  congr 2
  funext q
  by_cases hq : q = i.toNat
  · subst hq; simp [updV, m_up]
  · simp [updV, m_up, hq]
end ZH
