/-! THE CLAIM OUT OF ONE WALK OF THE LAW'S BODY. Your part is whole_start (and what it stands on); all else here is the same for every law, but numbers. -/
def R_law : String := "WeekFootLaw"
def lw_P (b : Addr) (xs : List Int32) (args : Array Value) (s : State) : Prop := args = #[.ref b] ∧ s.IntsAt b xs ∧ xs.length ≤ 3072 ∧ (Jvm.Cond.and given_1 narrow_1).before args s = true
def lw_Q (_ : Array Value) (s : State) (o : Outcome) (t : State) : Prop := o = .returned (some (.int 1)) ∧ Framed s o t [] 600000 7302249
def lw_Z (below : List Frame) (a : Array Value) (s : State) : State → Prop := fun t => ∃ o, t.status = .running ∧ Ended t below o ∧ lw_Q a s o t
/-- the law's own end, with 1 on the stack, nothing written that was there before, its room as the claim has it -/
theorem lw_ret {p : Program} {l : Launch} {e : Env} {s : State} {m : MethodId} {below : List Frame} {meth : Method} {c : Code} {b : Nat} (hx : p.tables.exec = Jvm.exec) (hb : c.code = code) (hr : meth.sig.returnType = ret) (hlocks : meth.locks = false) {pc : Nat} {H : Heap} {ls : Array Slot} (hdg : decode code pc = .ok (.ireturn, 1)) : W p l e room_1 s m #[Value.ref b] below meth c H [] 600000 7302249 (lw_Z below #[Value.ref b] s) (F0 m pc ls [.int 1]) := by
  intro T hT X
  obtain ⟨fs, hret, hrun, hended, hW, hframe⟩ := X.leave (v := some (.int 1)) (hlocks := hlocks) (fun h => by rw [hr] at h; cases h)
  have hmeth' : T.vm.method? m = some meth := X.method'
  refine ⟨T.setFrames fs, ?_, .returned (some (.int 1)), hrun, hended, rfl, ⟨_, rfl⟩, hW, hframe⟩
  jvm_step X.here [X.here.top, hx, hb, hdg, hmeth', hr, ret, narrow_b1]
  (try refine ⟨rfl, ?_⟩); (try refine ⟨rfl, ?_⟩)
  first | (intro acts; rw [hret _ acts rfl rfl rfl]) | rw [hret _ _ rfl rfl rfl]
  exact Steps.refl _
/-- what holds at the law's entry: the machine, the code, the tables' words (any of lw_tbl by 'hts w (by decide +kernel)'), the script of L ints xs at the cell b, what the Statement gives of the start (any of its parts by flat_of_before) -/
def lw_At (p : Program) (s : State) (m : MethodId) (meth : Method) (c : Code) (b L : Nat) (xs : Nat → Int32) : Prop :=
  p.tables.exec = Jvm.exec ∧ c.code = code ∧ meth.sig.returnType = ret ∧ c.maxLocals = 4 ∧ s.vm.findClass R_law = some m.cls ∧ (∀ w ∈ lw_tbl, w.before #[Value.ref b] s = true) ∧ va_X b L xs s s.heap ∧ b < s.heap.size ∧ meth.locks = false ∧ (Jvm.Cond.and given_1 narrow_1).before #[Value.ref b] s = true
theorem m_vF (E : m_E) : m_v E (mO 40) = if E.1.2 42 = 0 then .null else .ref (E.1.2 40) := by
  show (if 40 = 40 ∧ E.1.2 42 = 0 then Value.null else .ref (E.1.2 40)) = _
  by_cases q : E.1.2 42 = 0
  · simp [q]
  · simp [q]
theorem whole_start {p : Program} {e : Env} {s : State} {m : MethodId} {below : List Frame} {meth : Method} {c : Code} (l : Launch) {b L : Nat} {xs : Nat → Int32} (hL : L ≤ 3072) (C0 : lw_At p s m meth c b L xs) : W p l e room_1 s m #[Value.ref b] below meth c s.heap [] 0 0 (lw_Z below #[Value.ref b] s) (entryFrame m ([Value.ref b] : List Value).toArray 4) := by
  obtain ⟨hx, hb, hr, hml, hown, hts, hX, hbl, hlk, hgv⟩ := C0
  have hG : ∀ w ∈ m_G, w.before #[Value.ref b] s = true := fun w hw => hts w (List.mem_filter.mp hw).1
  have hA : ∀ a : Nat, a < s.heap.size → ¬ (fun q : Nat => s.heap.size ≤ q) a := fun a h1 h2 => absurd (Nat.lt_of_lt_of_le h1 h2) (Nat.lt_irrefl _)
  have hs := flat_of_before _ hgv
  obtain ⟨D, hD⟩ := e_K1 hG
  obtain ⟨c0, i1, i2⟩ := e_A (ty := .int) (fun _ => rfl) (hG _ acI)
  obtain ⟨c1, j1, j2⟩ := e_A (ty := .long) (fun _ => rfl) (hG _ acJ)
  obtain ⟨c2, z1, z2⟩ := e_A (ty := .boolean) (fun _ => rfl) (hG _ acZ)
  obtain ⟨c3, b1, b2⟩ := e_O (hts _ ao_B)
  obtain ⟨c4, l1, l2⟩ := e_O (hts _ ao_L)
  obtain ⟨adK, adV, hS, hev⟩ := e_S hgv hA
  obtain ⟨fz, fa, hF⟩ := e_F (va_Zqof (hts _ ls_F) (hts _ is_F) (hs _ st_F) hA)
  have hZ := va_Zof (hts _ ls_C) (hts _ is_C) (va_eqt (hs _ st_C)) hA
  let E : m_E := ((s.heap.size, ad adK adV b fz fa), (fun i => if i = 0 then c0 else if i = 1 then c1 else if i = 2 then c2 else if i = 3 then c3 else c4), D)
  have hK : va_K E.2.2 vwCl (m_tys E) s := by
    refine ⟨hD, fun k q hk => ?_⟩
    match k with
    | 0 => cases hk; exact ⟨i1, i2⟩
    | 1 => cases hk; exact ⟨j1, j2⟩
    | 2 => cases hk; exact ⟨z1, z2⟩
    | 3 => cases hk; exact ⟨b1, b2⟩
    | 4 => cases hk; exact ⟨l1, l2⟩
    | n + 5 => cases hk
  have hStr : m_Str E s s.heap := by
    refine ⟨e_Sc (fun i hi => ad_K hi) (fun i hi => ad_V hi) hS, fun i q hq => ?_, hZ, ?_⟩
    · have hi : i < 16 := (List.getElem?_eq_some_iff.mp hq).1
      have e1 : m_sx.getD i (0, "") = q := by rw [List.getD_eq_getElem?_getD, hq]; rfl
      have h1 := hts _ (st_rf ⟨i, hi⟩)
      have h2 := hev i hi
      unfold tmS at h2
      rw [show m_sx.getD (⟨i, hi⟩ : Fin 16).1 (0, "") = q from e1] at h1
      rw [e1] at h2
      rw [show E.1.2 i = adK i from ad_K hi]
      exact vk_R.of h1 h2
    · rw [m_vF]; exact hF
  have hC : m_Cx E M_law p s m #[Value.ref b] c := ⟨hx, hb, hml, hown, hG, hK, fun w hw => va_Nw.of (e_N (List.mem_filter.mp hw).2) (hts w (List.mem_filter.mp hw).1), hStr, Nat.le_refl _⟩
  have hRt : m_Ret E M_law p l e s m #[Value.ref b] below meth c (lw_Z below #[Value.ref b] s) Ql := by
    intro Ω r h H locs pc ls i hQ _ Rl d hi
    obtain ⟨rfl, rfl⟩ := hQ
    have hir : i = .ireturn := by
      rcases hi with ⟨g1, g2, g3⟩ | ⟨x, g1, g2, g3⟩ | ⟨x, g1, g2, g3, g4⟩ | ⟨x, g1, g2, g3⟩ | ⟨k, g1, g2, g3⟩ | ⟨x, ty, g1, g2, g3, g4⟩
      · cases g3
      · exact g2
      · exact g2
      · cases g3
      · cases g3
      · exact g2
    subst hir
    have hb1 : m_b oF M_law := by have q := tk_bL (n := 148) (Nat.le_refl _); rw [tk_all] at q; exact q
    refine va_forget (fun q hq => Rl.2.2.1.2.2 q hq) (W.widen (k := 600000) (n := 7302249) hb1.2.1 hb1.2.2 ?_)
    have e1 : Value.int 1 = m_v E (mI 1) := by show Value.int 1 = Value.int (Int32.ofInt 1); decide
    have k := lw_ret (p := p) (l := l) (e := e) (s := s) (m := m) (below := below) (meth := meth) (c := c) (b := b) (ls := ls) (H := H) hx hb hr hlk d
    rw [e1] at k
    exact k
  have e0 : ([mO 41].map (m_v E)) = [Value.ref b] := by
    show [m_v E (mO 41)] = _
    rw [m_vO (by decide)]
    rfl
  have hle : (lg_sl ([mO 41].map (m_v E))).length ≤ 4 := by rw [m_arg_len]; decide
  have hl0 := lv_entry ([mO 41].map (m_v E)) (n := 4) hle
  rw [show (entryFrame m ([Value.ref b] : List Value).toArray 4) = entryFrame m ([mO 41].map (m_v E)).toArray 4 by rw [e0], lg_entry_eq]
  generalize (lg_sl ([mO 41].map (m_v E)) ++ List.replicate (4 - (lg_sl ([mO 41].map (m_v E))).length) Slot.unset).toArray = lsR at hl0 ⊢
  have key := lk_start (xs := xs) hL (fun _ _ => 0) E p l e s m #[Value.ref b] below meth c (lw_Z below #[Value.ref b] s) s.heap [] lsR ⟨⟨va_AO.of (hts _ ao_B), va_AO.of (hts _ ao_L)⟩, hX, hbl, rfl⟩ hC hRt ⟨rfl, (fun k q hq => by cases hq), va_S.rf, (fun k q hq => by cases hq)⟩ ⟨hl0.1, hl0.2.1, fun i v q => ?_⟩ trivial (tk_bL (by decide))
  · exact key
  · have q' : (m_loc [mO 41] 4)[i]? = some (some v) := q
    have h1 := m_arg_in E [mO 41] 0 i v (m_loc_in q')
    rw [Nat.zero_add] at h1
    exact ⟨hl0.2.2 _ h1.1, m_oks_in (as := [mO 41]) ⟨trivial, trivial⟩ h1.2⟩
set_option maxHeartbeats 4000000 in
theorem lw_walk (l : Launch) (b : Addr) (xs : List Int32) : MetFree l x (headSpec (Jvm.Cond.code x code maxLocals ret :: tables_1) room_1) (lw_P b xs) (fun _ _ _ _ _ => True) lw_Q := by
  refine MetFree.of_bodyS (code := code) (maxLocals := maxLocals) (ret := ret) (by decide) ?_ ?_
  · intro args s m h hn
    obtain ⟨meth, c, h1, h2, h3, h4, h5, h6, -, -⟩ := Cond.code_spec hn (atoms_spec (ws := Jvm.Cond.code x code maxLocals ret :: tables_1) h _ List.mem_cons_self)
    exact ⟨meth, c, h1, h2, h3, h4, h5, h6⟩
  · intro p e s m args below meth c s₁ B hml0 hP _
    obtain ⟨rfl, hx, hbd, hgv⟩ := hP
    obtain ⟨scr, harrAt, hlist, hof, hsmall⟩ := hx
    obtain ⟨hcb, hkn, -, -⟩ := State.arrayAt?_spec harrAt
    have hown : s.vm.findClass R_law = some m.cls := findClass_of_methodNamed B.named
    have hts0 : ∀ c ∈ (Jvm.Cond.code x code maxLocals ret :: tables_1), c.before #[Value.ref b] s = true := atoms_spec (ws := Jvm.Cond.code x code maxLocals ret :: tables_1) B.pre
    have hts : ∀ w ∈ lw_tbl, w.before #[Value.ref b] s = true := k2_hts_sels lw_privs (fun w hw => hts0 w (List.mem_cons_of_mem _ hw)) lw_privs_ok
    have hml : c.maxLocals = 4 := B.maxLocals_eq (hts0 _ List.mem_cons_self)
    have X₀ : Stand p l e room_1 s m #[Value.ref b] below meth c s₁ [] 0 0 := Stand.of_body B
    have hh0 : s₁.heap = s.heap := by rw [B.state]; rfl
    have hsz : scr.slots.size = xs.length := by rw [← Array.length_toList, hlist, List.length_map]
    have hval : ∀ j : Nat, j < xs.length → scr.slots[j]? = some (.int (xs.getD j 0)) := fun j hj => by
      rw [← Array.getElem?_toList, hlist]
      simp [hj]
    have hbl : b < s.heap.size := (Array.getElem?_eq_some_iff.mp hcb).1
    have hX : va_X b xs.length (fun j => xs.getD j 0) s s.heap := ⟨scr, hcb, hof, hkn, hsz, hval⟩
    have K : W p l e room_1 s m #[Value.ref b] below meth c s₁.heap [] 0 0 (lw_Z below #[Value.ref b] s) (entryFrame m ([Value.ref b] : List Value).toArray 4) := by
      rw [hh0]
      exact whole_start l hbd ⟨B.exec, B.bytes, B.returns, hml, hown, hts, hX, hbl, B.notSynchronized, hgv⟩
    obtain ⟨t, a1, o, b1, b2, b3⟩ := K s₁ rfl X₀
    exact ⟨t, o, a1, b1, b2, b3⟩
theorem lw_pre_spec {args : Array Value} {s : State} (h : (Jvm.Cond.and given_1 narrow_1).before args s = true) (hr : rest_1_c.before args s = true) : ∃ (b : Addr) (xs : List Int32), lw_P b xs args s := by
  have hs := flat_of_before _ h
  have hq := flat_of_before _ hr
  have hc : (Cond.count 1).before args s = true := hs _ (by decide +kernel)
  have harr : (Cond.arrayOf (.arg 0) .int).before args s = true := hs _ (by decide +kernel)
  have hle : (Cond.le (.length (.arg 0)) (.int 3072)).before args s = true := hs _ (by decide +kernel)
  have hlen : (Cond.isInt (.length (.arg 0))).before args s = true := hq _ (by decide +kernel)
  have hall : (Cond.all (.arg 0) (.isInt (.elem (.arg 0) (.index 0)))).before args s = true := hq _ (by decide +kernel)
  obtain ⟨b, xs, hb, hx⟩ := State.ints_of_pre rfl harr hlen hall
  have hsm : xs.length < 2 ^ 31 := hx.choose_spec.2.2.2
  have hev : (Term.length (.arg 0)).eval args s none [] s = some (.int xs.length.toInt32) := hx.length_eval hb
  have hv := Cond.le_ints hev (show (Term.int 3072).eval args s none [] s = some (.int 3072) from rfl)
  have hd : xs.length.toInt32 ≤ 3072 := by
    simpa [Cond.before, Cond.holds, hv] using hle
  have hN : xs.length ≤ 3072 := (Int32.ofNat_le_ofNat hsm (by decide)).mp (show Int32.ofNat xs.length ≤ Int32.ofNat 3072 from hd)
  exact ⟨b, xs, Cond.one_arg hc (show args[0]? = some (.ref b) from hb), hx, hN, h⟩
theorem lw_comes (l : Launch) : Comes l x (Jvm.Cond.code x code maxLocals ret :: tables_1) room_1 (fun tb e args s => Calls_1 tb e args s ∧ rest_1 tb e args s ∧ Pre_1 tb e args s)
    (fun _ _ args s o t => lw_Q args s o t) := by
  intro p e ha hc hk s m args below hf hfit hheap happ hpre
  obtain ⟨b, xs, hP⟩ := lw_pre_spec hpre.2.2 hpre.2.1
  obtain ⟨k, o, h1, h2, h3, hQ⟩ := lw_walk l b xs p e ha hc hk s m args below hf ((Spec.applies_iff_loose hf).mp happ).1 hP trivial
  exact ⟨k, o, h1, h2, h3, hQ⟩
theorem lw_frame {s t : State} {o : Outcome} {args : Array Value} (h : Framed s o t [] 600000 7302249) :
    Framed s o t (fieldLocs frame_1_writes args s ++ arrayLocs frame_1_arrays args s ++ staticLocs frame_1_statics s) 600000 7302249 := h
theorem lw_limb (L : Cond) (hL : ∀ (args : Array Value) (s t : State), L.after args s (.returned (some (.int 1))) t = true) :
    ArmFor flags0 classFile x code maxLocals ret World_1 tables_1 room_1 Calls_1 rest_1 Pre_1
      (fun tb e a s o t => postC L tb e a s o t ∧ Framed s o t (fieldLocs frame_1_writes a s ++ arrayLocs frame_1_arrays a s ++ staticLocs frame_1_statics s) 600000 7302249) := by
  intro l _ _ _ p e ha hc hk s m args below hf hfit hheap happ hpre
  obtain ⟨k, o, h1, h2, h3, rfl, hF⟩ := lw_comes l p e ha hc hk s m args below hf hfit hheap happ hpre
  exact ⟨k, _, h1, h2, h3, hL args s _, lw_frame hF⟩
theorem i_vc : Claimed_1_1 ∧ Claimed_1_2 := ⟨lw_limb limb_1_1 (fun args s t => by simp [limb_1_1, Cond.after, Cond.holds, Cond.value]), lw_limb limb_1_2 (fun args s t => Cond.after_iff.mpr (by
  first | (rw [show limb_1_2 = Cond.eq .result (.int 1) from rfl, Cond.eq_ints (x := 1) (y := 1) rfl rfl]; simp; done) | (simp [limb_1_2, Cond.value, Term.eval]; done)))⟩
