/-! ===== contracts of constructors ===== -/
def xI (nm : String) : m_E → Method → State → Prop := fun _ meth s => meth.name = nm ∧ va_AO "WeekFoot$Bound" s ∧ va_AO "WeekFoot$Ledger" s
def m_PreD (E : m_E) (Ω : m_W) (h : m_H) (U : State) : Prop := m_Pre E Ω h U ∧ va_AO "WeekFoot$Bound" U ∧ va_AO "WeekFoot$Ledger" U
def m_D (M : m_M) (Ω Ω' : m_W) (as : List m_V) (h : m_H) (Q : Option m_V → m_H → Prop) : Prop :=
  ∀ (l : Launch) (E : m_E), m_hok Ω h → m_oks as → Met l M.2.1 (m_ws M) (m_rm M) (va_Pc (as.map (m_v E)) (m_PreD E Ω h)) (m_Post E Ω' Q) (m_rm M).cells (m_rm M).slots (fun q => E.1.1 ≤ q)
theorem m_D_of {M : m_M} {Ω Ω' : m_W} {as : List m_V} {h : m_H} {Q : Option m_V → m_H → Prop} (hy : plainName M.2.1.cls = true) (hown : M.1 = M.2.1.cls) (hl : (m_arg as).length ≤ M.2.2.2.1) (hb : m_b Ω M) (hk0 : m_k0 M = Ω.length ∧ m_s0 M = m_sz Ω) (hrm : Ω'.length - Ω.length = (m_rm M).cells ∧ m_sz Ω' - m_sz Ω = (m_rm M).slots)
    {ls : List (Option m_V)} (hls : m_loc as M.2.2.2.1 = ls) (z : m_Y (xI M.2.1.name) Ω M 0 ls [] h (fun w r h' => w = Ω' ∧ Q r h')) : m_D M Ω Ω' as h Q := by
  subst hls
  intro l E hok has
  refine Met.ofW (cc := M.2.2.1) (maxL := M.2.2.2.1) (ret := M.2.2.2.2.1) hy rfl ?_
  intro p e s m args below meth c s₁ B hml hv
  obtain ⟨rfl, ⟨hsz, hP, hK, hN, hStr⟩, hA1, hA2⟩ := hv
  have hts := atoms_spec (ws := m_ws M) B.pre
  have hown' : s.vm.findClass M.1 = some m.cls := by rw [hown]; exact findClass_of_methodNamed B.named
  have hlk := B.notSynchronized
  have hle : (lg_sl (as.map (m_v E))).length ≤ M.2.2.2.1 := by rw [m_arg_len]; exact hl
  have hl0 := lv_entry (as.map (m_v E)) (n := M.2.2.2.1) hle
  rw [lg_entry_eq]
  generalize (lg_sl (as.map (m_v E)) ++ List.replicate (M.2.2.2.1 - (lg_sl (as.map (m_v E))).length) Slot.unset).toArray = lsR at hl0 ⊢
  have key := z E p l e s m (as.map (m_v E)).toArray below meth c (MQ below (m_Post E Ω' Q) (as.map (m_v E)).toArray s (m_rm M).cells (m_rm M).slots (fun q => E.1.1 ≤ q)) s.heap [] lsR
    ⟨(name_of_methodNamed B.named B.method).1, hA1, hA2⟩ ⟨B.exec, B.bytes, hml, hown', fun w hw => hts w (List.mem_cons_of_mem _ hw), hK, hN, hStr, by rw [hsz]; exact Nat.le_add_right _ _⟩ ?_ ⟨hsz, hP, va_S.rf, hok⟩ ⟨hl0.1, hl0.2.1, fun i v q => ?_⟩ trivial hb
  · rw [hk0.1, hk0.2, Nat.sub_self, Nat.sub_self] at key
    exact key
  · intro Ω2 r h2 H2 locs2 pc ls i hq hr Rl d hi
    obtain ⟨rfl, hq⟩ := hq
    have e1 : Ω2.length - m_k0 M = (m_rm M).cells := by rw [hk0.1]; exact hrm.1
    have e2 : m_sz Ω2 - m_s0 M = (m_rm M).slots := by rw [hk0.2]; exact hrm.2
    rw [e1, e2]
    have hfin : ∀ t : State, t.heap = H2 → s.WarmedH t.vm → m_Post E Ω2 Q (as.map (m_v E)).toArray s (.returned (r.map (m_v E))) t := fun t ht _ =>
      ⟨⟨r, h2, rfl, hq, Rl.2.2.2, hr, by rw [ht]; exact Rl.1, by rw [ht]; exact Rl.2.1⟩, Rl.2.2.1.F ht⟩
    have hret := B.returns
    rcases hi with ⟨g1, g2, g3⟩ | ⟨x, g1, g2, g3⟩ | ⟨x, g1, g2, g3, g4⟩ | ⟨x, g1, g2, g3⟩ | ⟨k, g1, g2, g3⟩ | ⟨x, ty, g1, g2, g3, g4⟩
    · subst g2; subst g3
      exact W.vret B.exec B.bytes (hret.trans g1) hfin Rl.2.2.1.2.2 d
    · subst g2; subst g3
      exact W.iret B.exec B.bytes (hret.trans g1) hfin Rl.2.2.1.2.2 d
    · subst g2; subst g3
      exact W.zret B.exec B.bytes (hret.trans g1) (by rcases g4 with rfl | rfl <;> rfl) hfin Rl.2.2.1.2.2 d
    · subst g2; subst g3
      exact W.lret B.exec B.bytes (hret.trans g1) hfin Rl.2.2.1.2.2 d
    · subst g2; subst g3
      exact W.aret B.exec B.bytes (hret.trans g1) (Or.inr ⟨_, rfl⟩) (Or.inr ⟨_, rfl⟩) hfin Rl.2.2.1.2.2 d
    · subst g2; subst g3
      exact W.zret B.exec B.bytes (hret.trans g1) g4 hfin Rl.2.2.1.2.2 d
  · have h1 := m_arg_in E as 0 i v (m_loc_in q)
    rw [Nat.zero_add] at h1
    exact ⟨hl0.2.2 _ h1.1, m_oks_in has h1.2⟩
theorem m_blindD {E : m_E} {Ω : m_W} {h : m_H} {av : List Value} : FrameBlind (va_Pc av (m_PreD E Ω h)) := by
  intro a U g mk q
  obtain ⟨q0, ⟨q1, q2, q3, q4, q5, q6, q7, q8⟩, q9, q10⟩ := q
  exact ⟨q0, ⟨q1, q2, va_K.moved (u := U) (U := U.calling g mk a) (Vm.Alike.refl U.vm) q3, m_Nw_same (u := U) (U := U.calling g mk a) rfl q4, vk_S.moved (u := U) (U := U.calling g mk a) (Vm.Alike.refl U.vm) q5, fun i x e => vk_R.same (u := U) (U := U.calling g mk a) rfl (q6 i x e), va_Z.moved (u := U) (U := U.calling g mk a) (Vm.Alike.refl U.vm) q7, va_Z.moved (u := U) (U := U.calling g mk a) (Vm.Alike.refl U.vm) q8⟩, va_AO.moved (u := U) (U := U.calling g mk a) (Vm.Alike.refl U.vm) q9, va_AO.moved (u := U) (U := U.calling g mk a) (Vm.Alike.refl U.vm) q10⟩
def xA (X : m_E → Method → State → Prop) : Prop := ∀ E meth s, X E meth s → va_AO "WeekFoot$Bound" s ∧ va_AO "WeekFoot$Ledger" s
theorem xI_A {nm : String} : xA (xI nm) := fun _ _ _ h => h.2
section YD
variable {X : m_E → Method → State → Prop} {Ω Ω' : m_W} {M M' : m_M} {ls : List (Option m_V)} {st rest : List m_V} {h h0 : m_H} {Q : m_W → Option m_V → m_H → Prop} {Q' : Option m_V → m_H → Prop}
/-- how much a call makes -/
def m_cr (Ω Ω' : m_W) (M M' : m_M) : Prop := ((m_rm M').cells = Ω'.length - Ω.length ∧ (m_rm M').slots = m_sz Ω' - m_sz Ω) ∧ (Ω.length ≤ Ω'.length ∧ m_sz Ω ≤ m_sz Ω') ∧ m_b Ω' M
theorem m_room {b : m_b Ω M} (cr : m_cr Ω Ω' M M') : (Ω.length - m_k0 M + (m_rm M').cells = Ω'.length - m_k0 M ∧ m_sz Ω - m_s0 M + (m_rm M').slots = m_sz Ω' - m_s0 M) ∧ Ω.length - m_k0 M + (m_rm M').cells ≤ (m_rm M).cells ∧ m_sz Ω - m_s0 M + (m_rm M').slots ≤ (m_rm M).slots := by
  obtain ⟨c1, c2, c3⟩ := cr
  unfold m_b at b c3
  omega
theorem y_callI (pc : Nat) {index k n : Nat} {as : List m_V} (d : decode M.2.2.1 pc = .ok (.invokespecial index, 3)) (mt : m_mI M' n) (lk : Cond.methodLink M.1 index M'.2.1 ∈ m_G) (rr : m_rr M M') (hXA : xA X) (hc : m_D M' Ω Ω' (mR k :: as) h Q') (hst : as.reverse ++ mR k :: rest = st) (hn : as.length = n) (hrest : m_cs rest ≤ 8) (cr : m_cr Ω Ω' M M')
    (kk : ∀ (r : Option m_V) (h' : m_H), Q' r h' → m_Y X Ω' M (pc + 3) ls (r.toList ++ rest) h' Q) : m_Y X Ω M pc ls st h Q := by
  subst hst
  intro E p l e s m args below meth c QQ H locs lsR hX C Rt Rl L o b
  obtain ⟨o1, o2⟩ := m_oks_app o
  have hM := hc l E Rl.2.2.2 ⟨trivial, m_oks_rev o1⟩
  have hts := C.2.2.2.2.1
  have hA := hXA E meth s hX
  obtain ⟨⟨g1, g2⟩, g3, g4⟩ := m_room (b := b) cr
  have hcw : CallB (m_rm M) s args M.1 index M'.2.1 M'.2.2.1 M'.2.2.2.1 none (m_ws M') (m_rm M') (m_rm M').cells (m_rm M').slots n ∧ M'.2.1.name = "<init>" ∧ (Cond.instanceMethod M'.2.1).before args s = true := by
    have h1 := callB_of (R := m_rm M) (own := M.1) (index := index) (y := M'.2.1) (bytes := M'.2.2.1) (maxL := M'.2.2.2.1) (ret := M'.2.2.2.2.1) (ws := m_ws M') (rm := m_rm M') (mc := (m_rm M').cells) (ms := (m_rm M').slots) n hts (m_good mt.2.1.2) rfl rfl rfl (hts _ mt.2.1.1) (hts _ lk) mt.2.2 rr
    rw [mt.1.2.2] at h1
    exact ⟨h1, mt.1.2.1, hts _ mt.1.1⟩
  have hrun := va_runI (g := F0 m pc lsR ((as.reverse ++ mR k :: rest).map (m_v E))) (As := as.map (m_v E)) (rest := rest.map (m_v E)) (b := E.1.1 + k) (below := below) (locs := locs) (meth := meth) (e := e) ⟨C.1, C.2.1, C.2.2.1, C.2.2.2.1, hts⟩ hM hcw ⟨m_blindD, fun U hU hW => ⟨rfl, m_pre_at C Rl U hU hW, va_AO.moved hW.alike hA.1, va_AO.moved hW.alike hA.2⟩⟩ rfl (by rw [List.length_map]; exact hn) L.1 (by simp [m_v]) (m_roomW hrest) d (cells := Ω.length - m_k0 M) (slots := m_sz Ω - m_s0 M) ⟨g3, g4⟩
  refine m_after hrun Rl.2.2.1 (fun r h' H1 locs1 hq hr R1 => ?_)
  rw [g1, g2, m_toL]
  exact kk r h' hq E p l e s m args below meth c QQ H1 locs1 lsR hX C Rt R1 L (m_okT hr o2.2) cr.2.2
theorem y_callIN (pc : Nat) {index k n : Nat} {host : String} {as : List m_V} (d : decode M.2.2.1 pc = .ok (.invokespecial index, 3)) (mt : m_mI M' n) (lk : Cond.methodLinkNest M.1 index M'.2.1 host ∈ m_N) (rr : m_rr M M') (hXA : xA X) (hc : m_D M' Ω Ω' (mR k :: as) h Q') (hst : as.reverse ++ mR k :: rest = st) (hn : as.length = n) (hrest : m_cs rest ≤ 8) (cr : m_cr Ω Ω' M M')
    (kk : ∀ (r : Option m_V) (h' : m_H), Q' r h' → m_Y X Ω' M (pc + 3) ls (r.toList ++ rest) h' Q) : m_Y X Ω M pc ls st h Q := by
  subst hst
  intro E p l e s m args below meth c QQ H locs lsR hX C Rt Rl L o b
  obtain ⟨o1, o2⟩ := m_oks_app o
  have hM := hc l E Rl.2.2.2 ⟨trivial, m_oks_rev o1⟩
  have hts := C.2.2.2.2.1
  have hA := hXA E meth s hX
  obtain ⟨⟨g1, g2⟩, g3, g4⟩ := m_room (b := b) cr
  have hcw := va_cnB (R := m_rm M) (host := host) (index := index) (own := M.1) (y := M'.2.1) (bytes := M'.2.2.1) (maxL := M'.2.2.2.1) (ret := M'.2.2.2.2.1) (ws := m_ws M') (rm := m_rm M') (mc := (m_rm M').cells) (ms := (m_rm M').slots) n hts (m_good mt.2.1.2) rfl rfl rfl (C.2.2.2.2.2.2.1 _ lk) (hts _ mt.2.1.1) mt.2.2 rr
  rw [mt.1.2.2] at hcw
  have hrun := va_runIN (g := F0 m pc lsR ((as.reverse ++ mR k :: rest).map (m_v E))) (As := as.map (m_v E)) (rest := rest.map (m_v E)) (b := E.1.1 + k) (below := below) (locs := locs) (meth := meth) (e := e) ⟨C.1, C.2.1, C.2.2.1, C.2.2.2.1, hts⟩ hM ⟨hcw, mt.1.2.1, hts _ mt.1.1⟩ ⟨m_blindD, fun U hU hW => ⟨rfl, m_pre_at C Rl U hU hW, va_AO.moved hW.alike hA.1, va_AO.moved hW.alike hA.2⟩⟩ rfl (by rw [List.length_map]; exact hn) L.1 (by simp [m_v]) (m_roomW hrest) d (cells := Ω.length - m_k0 M) (slots := m_sz Ω - m_s0 M) ⟨g3, g4⟩
  refine m_after hrun Rl.2.2.1 (fun r h' H1 locs1 hq hr R1 => ?_)
  rw [g1, g2, m_toL]
  exact kk r h' hq E p l e s m args below meth c QQ H1 locs1 lsR hX C Rt R1 L (m_okT hr o2.2) cr.2.2
theorem y_callSND (pc : Nat) {index n : Nat} {host : String} {as : List m_V} (d : decode M.2.2.1 pc = .ok (.invokestatic index, 3)) (mt : m_mS M' n) (lk : Cond.methodLinkNest M.1 index M'.2.1 host ∈ m_N) (rr : m_rr M M') (hXA : xA X) (hc : m_D M' Ω Ω' as h Q') (hst : as.reverse ++ rest = st) (hn : as.length = n) (hrest : m_cs rest ≤ 8) (cr : m_cr Ω Ω' M M')
    (kk : ∀ (r : Option m_V) (h' : m_H), Q' r h' → m_Y X Ω' M (pc + 3) ls (r.toList ++ rest) h' Q) : m_Y X Ω M pc ls st h Q := by
  subst hst
  intro E p l e s m args below meth c QQ H locs lsR hX C Rt Rl L o b
  obtain ⟨o1, o2⟩ := m_oks_app o
  have hM := hc l E Rl.2.2.2 (m_oks_rev o1)
  have hts := C.2.2.2.2.1
  have hA := hXA E meth s hX
  obtain ⟨⟨g1, g2⟩, g3, g4⟩ := m_room (b := b) cr
  have hcw := va_cnB (R := m_rm M) (host := host) (index := index) (own := M.1) (y := M'.2.1) (bytes := M'.2.2.1) (maxL := M'.2.2.2.1) (ret := M'.2.2.2.2.1) (ws := m_ws M') (rm := m_rm M') (mc := (m_rm M').cells) (ms := (m_rm M').slots) n hts (m_good mt.2.1.2) rfl rfl rfl (C.2.2.2.2.2.2.1 _ lk) (hts _ mt.2.1.1) mt.2.2 rr
  have hrun := va_runSN (g := F0 m pc lsR ((as.reverse ++ rest).map (m_v E))) (As := as.map (m_v E)) (rest := rest.map (m_v E)) (below := below) (locs := locs) (meth := meth) (e := e) ⟨C.1, C.2.1, C.2.2.1, C.2.2.2.1, hts⟩ hM ⟨hcw, hts _ mt.1, trivial⟩ ⟨m_blindD, fun U hU hW => ⟨rfl, m_pre_at C Rl U hU hW, va_AO.moved hW.alike hA.1, va_AO.moved hW.alike hA.2⟩⟩ rfl (by rw [List.length_map]; exact hn) L.1 (by simp) (m_roomW hrest) d (cells := Ω.length - m_k0 M) (slots := m_sz Ω - m_s0 M) ⟨g3, g4⟩
  refine m_after hrun Rl.2.2.1 (fun r h' H1 locs1 hq hr R1 => ?_)
  rw [g1, g2, m_toL]
  exact kk r h' hq E p l e s m args below meth c QQ H1 locs1 lsR hX C Rt R1 L (m_okT hr o2) cr.2.2
end YD
