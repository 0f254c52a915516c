/-! ===== contracts and calls of the small machine ===== -/
theorem m_N_is {w : Cond} (h : w ∈ m_N) : ∃ (a : String) (i : Nat) (x : MethodName) (g : String), w = .methodLinkNest a i x g := by
  have h1 := (List.mem_filter.mp h).2
  cases w <;> simp [m_isN] at h1
  exact ⟨_, _, _, _, rfl⟩
theorem m_Nw_same {u U : State} (hv : u.vm = U.vm) (h : ∀ w ∈ m_N, va_Nw w u) : ∀ w ∈ m_N, va_Nw w U := by
  intro w hw
  obtain ⟨a, i, x, g, rfl⟩ := m_N_is hw
  exact va_Nw.same rfl hv (h _ hw)
theorem m_Nw_warm {s U : State} (hW : s.WarmedH U.vm) (h : ∀ w ∈ m_N, va_Nw w s) : ∀ w ∈ m_N, va_Nw w U := by
  intro w hw
  obtain ⟨a, i, x, g, rfl⟩ := m_N_is hw
  exact va_Nw.warmM hW (h _ hw)
theorem m_Str_warm {E : m_E} {s U : State} {H : Heap} {locs : List Loc} (hW : s.WarmedH U.vm) (hS : va_S (fun q => E.1.1 ≤ q) s.heap H locs) (h : m_Str E s s.heap) : m_Str E U H :=
  ⟨(h.1.moved hW.alike).kept hS.2.1, fun i q e => (h.2.1 i q e).warm hW, (h.2.2.1.moved hW.alike).kept hS.2.1, (h.2.2.2.moved hW.alike).kept hS.2.1⟩
def m_Pre (E : m_E) (Ω : m_W) (h : m_H) (U : State) : Prop :=
  U.heap.size = E.1.1 + Ω.length ∧ va_P E.2.2 vwCl (m_wl E Ω h) U.heap ∧ va_K E.2.2 vwCl (m_tys E) U ∧ (∀ w ∈ m_N, va_Nw w U) ∧ m_Str E U U.heap
def m_Post (E : m_E) (Ω' : m_W) (Q : Option m_V → m_H → Prop) : Array Value → State → Outcome → State → Prop := fun _ st oc t =>
  (∃ (r : Option m_V) (h' : m_H), oc = .returned (r.map (m_v E)) ∧ Q r h' ∧ m_hok Ω' h' ∧ m_okr r ∧ t.heap.size = E.1.1 + Ω'.length ∧ va_P E.2.2 vwCl (m_wl E Ω' h') t.heap) ∧ va_F (fun q => E.1.1 ≤ q) st t
/-- a method's contract: from these arguments and this heap it returns, with Q -/
def m_C (M : m_M) (Ω Ω' : m_W) (as : List m_V) (h : m_H) (Q : Option m_V → m_H → Prop) : Prop :=
  ∀ (l : Launch) (E : m_E), m_hok Ω h → m_oks as → Met l M.2.1 (m_ws M) (m_rm M) (va_Pc (as.map (m_v E)) (m_Pre E Ω h)) (m_Post E Ω' Q) (m_rm M).cells (m_rm M).slots (fun q => E.1.1 ≤ q)
theorem m_C.weaken {M : m_M} {Ω Ω' : m_W} {as : List m_V} {h : m_H} {Q Q' : Option m_V → m_H → Prop} (c : m_C M Ω Ω' as h Q) (q : ∀ r h', Q r h' → Q' r h') : m_C M Ω Ω' as h Q' := by
  intro l E h1 h2
  have hm := c l E h1 h2
  intro p e ha hc hk s m args below hf hs hP hK
  obtain ⟨k, o, a1, a2, a3, ⟨⟨⟨r, h', b1, b2, b3⟩, b4⟩, a5⟩⟩ := hm p e ha hc hk s m args below hf hs hP hK
  exact ⟨k, o, a1, a2, a3, ⟨⟨⟨r, h', b1, q r h' b2, b3⟩, b4⟩, a5⟩⟩
def m_arg : List m_V → List (Option m_V)
  | [] => []
  | v :: t => if m_isL v then some v :: none :: m_arg t else some v :: m_arg t
def m_loc (as : List m_V) (n : Nat) : List (Option m_V) := m_arg as ++ List.replicate (n - (m_arg as).length) none
theorem m_oks_in : ∀ {as : List m_V} {v : m_V}, m_oks as → v ∈ as → m_ok v
  | a :: t, v, h, hv => by
    rcases List.mem_cons.mp hv with rfl | q
    · exact h.1
    · exact m_oks_in h.2 q
theorem m_arg_in (E : m_E) : ∀ (as : List m_V) (off i : Nat) (v : m_V), (m_arg as)[i]? = some (some v) → (off + i, m_v E v) ∈ lv_args off (as.map (m_v E)) ∧ v ∈ as
  | [], off, i, v, h => by simp [m_arg] at h
  | a :: t, off, i, v, h => by
    simp only [List.map_cons, lv_args]
    have hc := m_cat E a
    by_cases ha : m_isL a = true
    · rw [m_arg, if_pos ha] at h
      rw [hc, if_pos ha, if_pos rfl]
      match i, h with
      | 0, h => cases h; exact ⟨List.mem_cons_self, List.mem_cons_self⟩
      | 1, h => cases h
      | i + 2, h =>
        have h1 := m_arg_in E t (off + 2) i v h
        exact ⟨List.mem_cons_of_mem _ (by rw [show off + (i + 2) = off + 2 + i by omega]; exact h1.1), List.mem_cons_of_mem _ h1.2⟩
    · rw [m_arg, if_neg ha] at h
      rw [hc, if_neg ha, if_neg (by decide)]
      match i, h with
      | 0, h => cases h; exact ⟨List.mem_cons_self, List.mem_cons_self⟩
      | i + 1, h =>
        have h1 := m_arg_in E t (off + 1) i v h
        exact ⟨List.mem_cons_of_mem _ (by rw [show off + (i + 1) = off + 1 + i by omega]; exact h1.1), List.mem_cons_of_mem _ h1.2⟩
theorem m_arg_len (E : m_E) : ∀ (as : List m_V), (lg_sl (as.map (m_v E))).length = (m_arg as).length
  | [] => rfl
  | a :: t => by
    have hc := m_cat E a
    have ih := m_arg_len E t
    simp only [lg_sl, List.map_cons, List.flatMap_cons, List.length_append] at ih ⊢
    rw [hc, m_arg]
    by_cases ha : m_isL a = true
    · simp [ha, ih]; omega
    · simp [ha, ih]; omega
theorem m_loc_in {as : List m_V} {n i : Nat} {v : m_V} (h : (m_loc as n)[i]? = some (some v)) : (m_arg as)[i]? = some (some v) := by
  unfold m_loc at h
  by_cases hi : i < (m_arg as).length
  · rw [List.getElem?_append_left hi] at h; exact h
  · rw [List.getElem?_append_right (by omega)] at h
    have h1 := List.mem_of_getElem? h
    rw [List.mem_replicate] at h1
    cases h1.2
/-- a method's contract out of its body -/
theorem m_C_of {M : m_M} {Ω Ω' : m_W} {as : List m_V} {h : m_H} {Q : Option m_V → m_H → Prop} (hy : plainName M.2.1.cls = true) (hown : M.1 = M.2.1.cls) (hl : (m_arg as).length ≤ M.2.2.2.1) (hb : m_b Ω M) (hk0 : m_k0 M = Ω.length ∧ m_s0 M = m_sz Ω) (hrm : Ω'.length - Ω.length = (m_rm M).cells ∧ m_sz Ω' - m_sz Ω = (m_rm M).slots)
    (z : m_Z Ω M 0 (m_loc as M.2.2.2.1) [] h (fun w r h' => w = Ω' ∧ Q r h')) : m_C M Ω Ω' as h Q := by
  intro l E hok has
  refine Met.ofW (cc := M.2.2.1) (maxL := M.2.2.2.1) (ret := M.2.2.2.2.1) hy rfl ?_
  intro p e s m args below meth c s₁ B hml hv
  obtain ⟨rfl, hsz, hP, hK, hN, hStr⟩ := hv
  have hts := atoms_spec (ws := m_ws M) B.pre
  have hown' : s.vm.findClass M.1 = some m.cls := by rw [hown]; exact findClass_of_methodNamed B.named
  have hlk := B.notSynchronized
  have hle : (lg_sl (as.map (m_v E))).length ≤ M.2.2.2.1 := by rw [m_arg_len]; exact hl
  have hl0 := lv_entry (as.map (m_v E)) (n := M.2.2.2.1) hle
  rw [lg_entry_eq]
  generalize (lg_sl (as.map (m_v E)) ++ List.replicate (M.2.2.2.1 - (lg_sl (as.map (m_v E))).length) Slot.unset).toArray = lsR at hl0 ⊢
  have key := z E p l e s m (as.map (m_v E)).toArray below meth c (MQ below (m_Post E Ω' Q) (as.map (m_v E)).toArray s (m_rm M).cells (m_rm M).slots (fun q => E.1.1 ≤ q)) s.heap [] lsR
    ⟨B.exec, B.bytes, hml, hown', fun w hw => hts w (List.mem_cons_of_mem _ hw), hK, hN, hStr, by rw [hsz]; exact Nat.le_add_right _ _⟩ ?_ ⟨hsz, hP, va_S.rf, hok⟩ ⟨hl0.1, hl0.2.1, fun i v q => ?_⟩ trivial hb
  · rw [hk0.1, hk0.2, Nat.sub_self, Nat.sub_self] at key
    exact key
  · intro Ω2 r h2 H2 locs2 pc ls i hq hr Rl d hi
    obtain ⟨rfl, hq⟩ := hq
    have e1 : Ω2.length - m_k0 M = (m_rm M).cells := by rw [hk0.1]; exact hrm.1
    have e2 : m_sz Ω2 - m_s0 M = (m_rm M).slots := by rw [hk0.2]; exact hrm.2
    rw [e1, e2]
    have hfin : ∀ t : State, t.heap = H2 → s.WarmedH t.vm → m_Post E Ω2 Q (as.map (m_v E)).toArray s (.returned (r.map (m_v E))) t := fun t ht _ =>
      ⟨⟨r, h2, rfl, hq, Rl.2.2.2, hr, by rw [ht]; exact Rl.1, by rw [ht]; exact Rl.2.1⟩, Rl.2.2.1.F ht⟩
    have hret := B.returns
    rcases hi with ⟨g1, g2, g3⟩ | ⟨x, g1, g2, g3⟩ | ⟨x, g1, g2, g3, g4⟩ | ⟨x, g1, g2, g3⟩ | ⟨k, g1, g2, g3⟩ | ⟨x, ty, g1, g2, g3, g4⟩
    · subst g2; subst g3
      exact W.vret B.exec B.bytes (hret.trans g1) hfin Rl.2.2.1.2.2 d
    · subst g2; subst g3
      exact W.iret B.exec B.bytes (hret.trans g1) hfin Rl.2.2.1.2.2 d
    · subst g2; subst g3
      exact W.zret B.exec B.bytes (hret.trans g1) (by rcases g4 with rfl | rfl <;> rfl) hfin Rl.2.2.1.2.2 d
    · subst g2; subst g3
      exact W.lret B.exec B.bytes (hret.trans g1) hfin Rl.2.2.1.2.2 d
    · subst g2; subst g3
      exact W.aret B.exec B.bytes (hret.trans g1) (Or.inr ⟨_, rfl⟩) (Or.inr ⟨_, rfl⟩) hfin Rl.2.2.1.2.2 d
    · subst g2; subst g3
      exact W.zret B.exec B.bytes (hret.trans g1) g4 hfin Rl.2.2.1.2.2 d
  · have h1 := m_arg_in E as 0 i v (m_loc_in q)
    rw [Nat.zero_add] at h1
    exact ⟨hl0.2.2 _ h1.1, m_oks_in has h1.2⟩
theorem m_blind {E : m_E} {Ω : m_W} {h : m_H} {av : List Value} : FrameBlind (va_Pc av (m_Pre E Ω h)) := by
  intro a U g mk q
  obtain ⟨q0, q1, q2, q3, q4, q5, q6, q7, q8⟩ := q
  exact ⟨q0, q1, q2, va_K.moved (u := U) (U := U.calling g mk a) (Vm.Alike.refl U.vm) q3, m_Nw_same (u := U) (U := U.calling g mk a) rfl q4, vk_S.moved (u := U) (U := U.calling g mk a) (Vm.Alike.refl U.vm) q5, fun i x e => vk_R.same (u := U) (U := U.calling g mk a) rfl (q6 i x e), va_Z.moved (u := U) (U := U.calling g mk a) (Vm.Alike.refl U.vm) q7, va_Z.moved (u := U) (U := U.calling g mk a) (Vm.Alike.refl U.vm) q8⟩
theorem m_pre_at {E : m_E} {M : m_M} {Ω : m_W} {h : m_H} {p : Program} {s : State} {m : MethodId} {args : Array Value} {c : Code} {H : Heap} {locs : List Loc} (C : m_Cx E M p s m args c) (Rl : m_Rel E Ω h s H locs) (U : State) (hU : U.heap = H) (hW : s.WarmedH U.vm) : m_Pre E Ω h U :=
  ⟨by rw [hU]; exact Rl.1, by rw [hU]; exact Rl.2.1, va_K.moved hW.alike C.2.2.2.2.2.1, m_Nw_warm hW C.2.2.2.2.2.2.1, by rw [hU]; exact m_Str_warm hW Rl.2.2.1 C.2.2.2.2.2.2.2.1⟩
section ZC
variable {Ω Ω' : m_W} {M M' : m_M} {ls : List (Option m_V)} {st rest : List m_V} {h : m_H} {Q : m_W → Option m_V → m_H → Prop} {Q' : Option m_V → m_H → Prop}
theorem m_after {E : m_E} {p : Program} {l : Launch} {e : Env} {s : State} {m : MethodId} {args : Array Value} {below : List Frame} {meth : Method} {c : Code} {R : Room} {QQ : State → Prop} {H : Heap} {locs : List Loc} {lsR : Array Slot} {st0 rest : List Value} {a : Array Value} {cells slots mc ms pc : Nat}
    (hr : va_Run p l e R s m args below meth c H locs cells slots mc ms (F0 m pc lsR st0) rest (m_Post E Ω' Q' a) (fun q => E.1.1 ≤ q)) (hS : va_S (fun q => E.1.1 ≤ q) s.heap H locs)
    (kk : ∀ (r : Option m_V) (h' : m_H) (H1 : Heap) (locs1 : List Loc), Q' r h' → m_okr r → m_Rel E Ω' h' s H1 locs1 → W p l e R s m args below meth c H1 locs1 (cells + mc) (slots + ms) QQ (F0 m (pc + 3) lsR ((r.map (m_v E)).toList ++ rest))) : W p l e R s m args below meth c H locs cells slots QQ (F0 m pc lsR st0) := by
  intro T hT X
  obtain ⟨v, st₀, t, T', L, h0, X', hL, e1, e2, ⟨⟨r, h', hv, hq, hok, hr1, hsz, hP⟩, hz, hk⟩, st⟩ := hr T hT X
  cases hv
  rw [h0] at hz hk
  obtain ⟨t2, a1, b1⟩ := kk r h' T'.heap (locs ++ L) hq hr1 ⟨by rw [e1]; exact hsz, by rw [e1]; exact hP, ⟨Nat.le_trans hS.1 (by rw [e1]; exact hz), fun q h1 h2 => by rw [e1, hk q (Nat.lt_of_lt_of_le h1 hS.1) h2]; exact hS.2.1 q h1 h2, fun q hq => by
      rcases List.mem_append.mp hq with g | g
      · exact hS.2.2 q g
      · exact hL q g⟩, hok⟩ T' rfl X'
  exact ⟨t2, st t2 a1, b1⟩
/-- what the tables say of a method that is called on an object -/
def m_mV (M : m_M) (n : Nat) : Prop := (Cond.instanceMethod M.2.1 ∈ m_G ∧ Cond.selects M.2.1.cls M.2.1 M.2.1 ∈ m_G) ∧ (Cond.initialized M.2.1.cls ∈ m_G ∧ Cond.code M.2.1 M.2.2.1 M.2.2.2.1 M.2.2.2.2.1 ∈ m_G) ∧ (M.2.1.cls ≠ "java/lang/invoke/MethodHandle" ∧ M.2.1.cls ≠ "java/lang/invoke/VarHandle" ∧ (parseMethodDescriptor M.2.1.desc).map (fun d => d.parameters.length) = some n)
def m_mS (M : m_M) (n : Nat) : Prop := Cond.static M.2.1 ∈ m_G ∧ (Cond.initialized M.2.1.cls ∈ m_G ∧ Cond.code M.2.1 M.2.2.1 M.2.2.2.1 M.2.2.2.2.1 ∈ m_G) ∧ (M.2.1.cls ≠ "java/lang/invoke/MethodHandle" ∧ M.2.1.cls ≠ "java/lang/invoke/VarHandle" ∧ (parseMethodDescriptor M.2.1.desc).map (fun d => d.parameters.length) = some n)
def m_mI (M : m_M) (n : Nat) : Prop := (Cond.instanceMethod M.2.1 ∈ m_G ∧ M.2.1.name = "<init>" ∧ M.2.2.2.2.1 = none) ∧ (Cond.initialized M.2.1.cls ∈ m_G ∧ Cond.code M.2.1 M.2.2.1 M.2.2.2.1 M.2.2.2.2.1 ∈ m_G) ∧ (M.2.1.cls ≠ "java/lang/invoke/MethodHandle" ∧ M.2.1.cls ≠ "java/lang/invoke/VarHandle" ∧ (parseMethodDescriptor M.2.1.desc).map (fun d => d.parameters.length) = some n)
def m_rr (M M' : m_M) : Prop := (m_rm M').frames + 1 ≤ (m_rm M).frames ∧ 8 + (M'.2.2.2.1 + 11) + (m_rm M').locals ≤ (m_rm M).locals
def m_cs (st : List m_V) : Nat := (st.map (fun v => if m_isL v then 2 else 1)).sum
theorem m_goodG : GoodIn m_G m_G := fun w hw => ⟨hw, good_of_word (List.mem_filter.mp hw).2⟩
theorem m_good (hc : Cond.code M'.2.1 M'.2.2.1 M'.2.2.2.1 M'.2.2.2.2.1 ∈ m_G) : GoodIn m_G (m_ws M') := fun w hw => by
  rcases List.mem_cons.mp hw with rfl | q
  · exact m_goodG _ hc
  · exact m_goodG _ q
theorem m_roomW {E : m_E} {m : MethodId} {pc : Nat} {lsR : Array Slot} {g : List Value} {rest : List m_V} (hr : m_cs rest ≤ 8) : 2 * (F0 m pc lsR g).monitorRoom + ((rest.map (m_v E)).map fun v => v.category).sum ≤ 8 := by
  refine lv_room ?_
  rw [List.map_map]
  have e1 : ((fun v : Value => v.category) ∘ m_v E) = fun v => if m_isL v then 2 else 1 := by funext v; exact m_cat E v
  rw [e1]
  exact hr
theorem m_bcall (b : m_b Ω M) (hb : m_b Ω' M) (hc : (m_rm M').cells = Ω'.length - Ω.length ∧ (m_rm M').slots = m_sz Ω' - m_sz Ω) (hle : Ω.length ≤ Ω'.length ∧ m_sz Ω ≤ m_sz Ω') : Ω.length - m_k0 M + (m_rm M').cells = Ω'.length - m_k0 M ∧ m_sz Ω - m_s0 M + (m_rm M').slots = m_sz Ω' - m_s0 M := by
  unfold m_b at b hb
  omega
theorem m_toL {E : m_E} {r : Option m_V} {rest : List m_V} : (r.map (m_v E)).toList ++ rest.map (m_v E) = (r.toList ++ rest).map (m_v E) := by
  cases r <;> simp
theorem m_okT {r : Option m_V} {rest : List m_V} (h1 : m_okr r) (h2 : m_oks rest) : m_oks (r.toList ++ rest) := by
  cases r with
  | none => exact h2
  | some v => exact ⟨h1 v rfl, h2⟩
theorem m_oks_app : ∀ {a b : List m_V}, m_oks (a ++ b) → m_oks a ∧ m_oks b
  | [], b, h => ⟨trivial, h⟩
  | v :: a, b, h => ⟨⟨h.1, (m_oks_app h.2).1⟩, (m_oks_app h.2).2⟩
theorem m_oks_mk : ∀ {a : List m_V}, (∀ v ∈ a, m_ok v) → m_oks a
  | [], _ => trivial
  | v :: a, h => ⟨h v List.mem_cons_self, m_oks_mk fun w hw => h w (List.mem_cons_of_mem _ hw)⟩
theorem m_oks_rev {a : List m_V} (h : m_oks a.reverse) : m_oks a := m_oks_mk fun v hv => m_oks_in h (List.mem_reverse.mpr hv)
theorem z_callV (pc : Nat) {index k ci N n : Nat} {as : List m_V} (d : decode M.2.2.1 pc = .ok (.invokevirtual index, 3)) (mt : m_mV M' n) (lk : Cond.methodLink M.1 index M'.2.1 ∈ m_G) (rr : m_rr M M') (hc : m_C M' Ω Ω (mR k :: as) h Q') (hk : Ω[k]? = some (ci + 5, N)) (hcl : (vwCl[ci]?).map (fun q => q.1) = some M'.2.1.cls) (hst : as.reverse ++ mR k :: rest = st) (hn : as.length = n) (hrest : m_cs rest ≤ 8) (h0 : (m_rm M').cells = 0 ∧ (m_rm M').slots = 0)
    (kk : ∀ (r : Option m_V) (h' : m_H), Q' r h' → m_Z Ω M (pc + 3) ls (r.toList ++ rest) h' Q) : m_Z Ω M pc ls st h Q := by
  subst hst
  intro E p l e s m args below meth c QQ H locs lsR C Rt Rl L o b
  obtain ⟨o1, o2⟩ := m_oks_app o
  have hM := hc l E Rl.2.2.2 ⟨trivial, m_oks_rev o1⟩
  have hts := C.2.2.2.2.1
  obtain ⟨qc, hqc, hqn⟩ : ∃ qc : vw_C, vwCl[ci]? = some qc ∧ qc.1 = M'.2.1.cls := by
    cases hv : vwCl[ci]? with
    | none => rw [hv] at hcl; cases hcl
    | some qc => rw [hv] at hcl; exact ⟨qc, rfl, Option.some.inj hcl⟩
  have hrecv := va_recv C.2.2.2.2.2.1 Rl.2.1 hqc (m_wl_at (E := E) hk)
  rw [hqn] at hrecv
  have hcw : CallW (m_rm M) s args M.1 M'.2.1.cls index M'.2.1 M'.2.2.1 M'.2.2.2.1 M'.2.2.2.2.1 (m_ws M') (m_rm M') (m_rm M').cells (m_rm M').slots n :=
    ⟨callB_of n hts (m_good mt.2.1.2) rfl rfl rfl (hts _ mt.2.1.1) (hts _ lk) mt.2.2 rr, hts _ mt.1.1, hts _ mt.1.2⟩
  have hrun := va_runV (g := F0 m pc lsR ((as.reverse ++ mR k :: rest).map (m_v E))) (As := as.map (m_v E)) (rest := rest.map (m_v E)) (b := E.1.1 + k) (below := below) (locs := locs) (meth := meth) (e := e) ⟨C.1, C.2.1, C.2.2.1, C.2.2.2.1, hts⟩ hM hcw ⟨m_blind, hrecv, fun U hU hW => ⟨rfl, m_pre_at C Rl U hU hW⟩⟩ rfl (by rw [List.length_map]; exact hn) L.1 (by simp [m_v]) (m_roomW hrest) d (cells := Ω.length - m_k0 M) (slots := m_sz Ω - m_s0 M) (by rw [h0.1, h0.2]; exact b.2)
  refine m_after hrun Rl.2.2.1 (fun r h' H1 locs1 hq hr R1 => ?_)
  rw [h0.1, h0.2, m_toL]
  exact kk r h' hq E p l e s m args below meth c QQ H1 locs1 lsR C Rt R1 L (m_okT hr o2.2) b
theorem z_callS (pc : Nat) {index n : Nat} {as : List m_V} (d : decode M.2.2.1 pc = .ok (.invokestatic index, 3)) (mt : m_mS M' n) (lk : Cond.methodLink M.1 index M'.2.1 ∈ m_G) (rr : m_rr M M') (hc : m_C M' Ω Ω as h Q') (hst : as.reverse ++ rest = st) (hn : as.length = n) (hrest : m_cs rest ≤ 8) (h0 : (m_rm M').cells = 0 ∧ (m_rm M').slots = 0)
    (kk : ∀ (r : Option m_V) (h' : m_H), Q' r h' → m_Z Ω M (pc + 3) ls (r.toList ++ rest) h' Q) : m_Z Ω M pc ls st h Q := by
  subst hst
  intro E p l e s m args below meth c QQ H locs lsR C Rt Rl L o b
  obtain ⟨o1, o2⟩ := m_oks_app o
  have hM := hc l E Rl.2.2.2 (m_oks_rev o1)
  have hts := C.2.2.2.2.1
  have hcw : CallB (m_rm M) s args M.1 index M'.2.1 M'.2.2.1 M'.2.2.2.1 M'.2.2.2.2.1 (m_ws M') (m_rm M') (m_rm M').cells (m_rm M').slots n ∧ (Cond.static M'.2.1).before args s = true :=
    ⟨callB_of n hts (m_good mt.2.1.2) rfl rfl rfl (hts _ mt.2.1.1) (hts _ lk) mt.2.2 rr, hts _ mt.1⟩
  have hrun := va_runS (g := F0 m pc lsR ((as.reverse ++ rest).map (m_v E))) (As := as.map (m_v E)) (rest := rest.map (m_v E)) (below := below) (locs := locs) (meth := meth) (e := e) ⟨C.1, C.2.1, C.2.2.1, C.2.2.2.1, hts⟩ hM hcw ⟨m_blind, fun U hU hW => ⟨rfl, m_pre_at C Rl U hU hW⟩⟩ rfl (by rw [List.length_map]; exact hn) L.1 (by simp) (m_roomW hrest) d (cells := Ω.length - m_k0 M) (slots := m_sz Ω - m_s0 M) (by rw [h0.1, h0.2]; exact b.2)
  refine m_after hrun Rl.2.2.1 (fun r h' H1 locs1 hq hr R1 => ?_)
  rw [h0.1, h0.2, m_toL]
  exact kk r h' hq E p l e s m args below meth c QQ H1 locs1 lsR C Rt R1 L (m_okT hr o2) b
theorem z_callSN (pc : Nat) {index n : Nat} {host : String} {as : List m_V} (d : decode M.2.2.1 pc = .ok (.invokestatic index, 3)) (mt : m_mS M' n) (lk : Cond.methodLinkNest M.1 index M'.2.1 host ∈ m_N) (rr : m_rr M M') (hc : m_C M' Ω Ω as h Q') (hst : as.reverse ++ rest = st) (hn : as.length = n) (hrest : m_cs rest ≤ 8) (h0 : (m_rm M').cells = 0 ∧ (m_rm M').slots = 0)
    (kk : ∀ (r : Option m_V) (h' : m_H), Q' r h' → m_Z Ω M (pc + 3) ls (r.toList ++ rest) h' Q) : m_Z Ω M pc ls st h Q := by
  subst hst
  intro E p l e s m args below meth c QQ H locs lsR C Rt Rl L o b
  obtain ⟨o1, o2⟩ := m_oks_app o
  have hM := hc l E Rl.2.2.2 (m_oks_rev o1)
  have hts := C.2.2.2.2.1
  have hcw := va_cnB (R := m_rm M) (host := host) (index := index) (own := M.1) (y := M'.2.1) (bytes := M'.2.2.1) (maxL := M'.2.2.2.1) (ret := M'.2.2.2.2.1) (ws := m_ws M') (rm := m_rm M') (mc := (m_rm M').cells) (ms := (m_rm M').slots) n hts (m_good mt.2.1.2) rfl rfl rfl (C.2.2.2.2.2.2.1 _ lk) (hts _ mt.2.1.1) mt.2.2 rr
  have hrun := va_runSN (g := F0 m pc lsR ((as.reverse ++ rest).map (m_v E))) (As := as.map (m_v E)) (rest := rest.map (m_v E)) (below := below) (locs := locs) (meth := meth) (e := e) ⟨C.1, C.2.1, C.2.2.1, C.2.2.2.1, hts⟩ hM ⟨hcw, hts _ mt.1, trivial⟩ ⟨m_blind, fun U hU hW => ⟨rfl, m_pre_at C Rl U hU hW⟩⟩ rfl (by rw [List.length_map]; exact hn) L.1 (by simp) (m_roomW hrest) d (cells := Ω.length - m_k0 M) (slots := m_sz Ω - m_s0 M) (by rw [h0.1, h0.2]; exact b.2)
  refine m_after hrun Rl.2.2.1 (fun r h' H1 locs1 hq hr R1 => ?_)
  rw [h0.1, h0.2, m_toL]
  exact kk r h' hq E p l e s m args below meth c QQ H1 locs1 lsR C Rt R1 L (m_okT hr o2) b
end ZC
