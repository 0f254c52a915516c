/-! ===== a world that grows ===== -/
def m_nw (h : m_H) (n : Nat) (q : Nat × Nat) : m_H := fun a b => if a = n then (if m_sk q.1 b = 3 then -1 else 0) else h a b
theorem m_nw_at {h h' : m_H} {n : Nat} {q : Nat × Nat} (E : h' = m_nw h n q) (j : Nat) : h' n j = if m_sk q.1 j = 3 then -1 else 0 := by rw [E]; simp [m_nw]
theorem m_nw_ne {h h' : m_H} {n : Nat} {q : Nat × Nat} (E : h' = m_nw h n q) {a : Nat} (ha : a ≠ n) : h' a = h a := by funext b; rw [E]; simp [m_nw, ha]
theorem m_nw_up {h h' : m_H} {n k j : Nat} {q : Nat × Nat} {v : Int} (E : h' = m_nw h n q) (e : h k j = v) (hk : k < n) : h' k j = v := by rw [m_nw_ne E (by omega)]; exact e
theorem m_wl_app {E : m_E} {Ω : m_W} {q : Nat × Nat} {h h' : m_H} (e : ∀ k, k < Ω.length → h' k = h k) : m_wl E (Ω ++ [q]) h' = m_wl E Ω h ++ [(E.1.1 + Ω.length, m_el E q (h' Ω.length))] := by
  apply List.ext_getElem?
  intro i
  have hl : (m_wl E Ω h).length = Ω.length := by simp [m_wl]
  by_cases hi : i < Ω.length
  · rw [List.getElem?_append_left (by rw [hl]; exact hi)]
    unfold m_wl
    rw [List.getElem?_mapIdx, List.getElem?_mapIdx, List.getElem?_append_left hi]
    cases hq : Ω[i]? with
    | none => rfl
    | some z => simp only [Option.map_some]; rw [e i hi]
  · by_cases hi2 : i = Ω.length
    · subst hi2
      rw [List.getElem?_append_right (by rw [hl]; exact Nat.le_refl _), hl, Nat.sub_self]
      unfold m_wl
      rw [List.getElem?_mapIdx, List.getElem?_append_right (Nat.le_refl _), Nat.sub_self]
      rfl
    · rw [List.getElem?_eq_none (by simp [m_wl]; omega), List.getElem?_eq_none (by rw [List.length_append, hl]; simp; omega)]
theorem m_sz_app (Ω : m_W) (q : Nat × Nat) : m_sz (Ω ++ [q]) = m_sz Ω + q.2 := by simp [m_sz]
theorem m_rg_0 (t : Nat) : m_rg t (if t = 3 then -1 else 0) := by
  unfold m_rg m_64 m_32
  by_cases h1 : t = 1
  · subst h1; simp
  · by_cases h3 : t = 3
    · subst h3; simp
    · simp [h1, h3]
theorem m_rel_app {E : m_E} {Ω : m_W} {q : Nat × Nat} {h : m_H} {s : State} {H H1 : Heap} {locs : List Loc} (Rl : m_Rel E Ω h s H locs) (hc : va_at E.2.2 vwCl (E.1.1 + Ω.length, m_el E q (m_nw h Ω.length q Ω.length)) H1) (z1 : H1.size = H.size + 1) (o1 : ∀ a : Nat, a < H.size → H1[a]? = H[a]?) : m_Rel E (Ω ++ [q]) (m_nw h Ω.length q) s H1 locs := by
  have e0 : ∀ k, k < Ω.length → m_nw h Ω.length q k = h k := fun k hk => m_nw_ne rfl (by omega)
  refine ⟨by rw [z1, Rl.1, List.length_append]; rfl, ?_, ⟨Nat.le_trans Rl.2.2.1.1 (by omega), fun x h1 h2 => (o1 x (Nat.lt_of_lt_of_le h1 Rl.2.2.1.1)).trans (Rl.2.2.1.2.1 x h1 h2), Rl.2.2.1.2.2⟩, ?_⟩
  · rw [m_wl_app e0]
    refine (Rl.2.1.kept (fun k x hx => o1 x.1 ((Rl.2.1 k x hx).lt))).app (fun k x hx => ?_)
    have hz : k < 1 := (List.getElem?_eq_some_iff.mp hx).1
    rw [show k = 0 by omega] at hx
    cases hx
    exact hc
  · intro a p ha b
    by_cases hi : a < Ω.length
    · rw [List.getElem?_append_left hi] at ha
      rw [e0 a hi]; exact Rl.2.2.2 a p ha b
    · rw [List.getElem?_append_right (by omega)] at ha
      have hz : a - Ω.length < 1 := (List.getElem?_eq_some_iff.mp ha).1
      have e1 : a = Ω.length := by omega
      subst e1
      rw [Nat.sub_self] at ha
      cases ha
      rw [m_nw_at rfl]; exact m_rg_0 _
theorem m_grow {Ω : m_W} {q : Nat × Nat} {M : m_M} (b : m_b Ω M) (hb : m_b (Ω ++ [q]) M) : ((Ω ++ [q]).length - m_k0 M = Ω.length - m_k0 M + 1 ∧ m_sz (Ω ++ [q]) - m_s0 M = m_sz Ω - m_s0 M + q.2) ∧ Ω.length - m_k0 M + 1 ≤ (m_rm M).cells ∧ m_sz Ω - m_s0 M + q.2 ≤ (m_rm M).slots := by
  unfold m_b at b hb
  rw [m_sz_app, List.length_append] at hb
  rw [m_sz_app, List.length_append]
  simp only [List.length_cons, List.length_nil] at hb ⊢
  omega
/-- class C (number ci, N fields) can be made, as class own's entry index names it -/
def m_okt : FieldType → Bool
  | .int => true | .long => true | .boolean => true | .object _ => true | .array _ => true | _ => false
def m_nf (own : String) (index ci N : Nat) : Prop := ∃ (C : String) (T : u_T), m_cf ci C T N ∧ (Cond.classLink own index C ∈ m_G ∧ Cond.instantiable C N ∈ m_G ∧ Cond.initialized C ∈ m_G) ∧ ∀ j, j < N → m_okt (m_ty ci j) = true
theorem m_dv {E : m_E} {ty : FieldType} (h : m_okt ty = true) : defaultValue ty = m_sv E (m_tk ty) (if m_tk ty = 3 then -1 else 0) := by
  cases ty <;> first | rfl | cases h
section YG
variable {X : m_E → Method → State → Prop} {Ω Ω' : m_W} {M M' : m_M} {ls : List (Option m_V)} {st rest : List m_V} {h h0 : m_H} {Q : m_W → Option m_V → m_H → Prop} {Q' : Option m_V → m_H → Prop}
theorem y_new (pc : Nat) {index ci N n : Nat} (d : decode M.2.2.1 pc = .ok (.new index, 3)) (f : m_nf M.1 index ci N) (hΩ : Ω' = Ω ++ [(ci + 5, N)]) (hn : Ω.length = n) (hb : m_b Ω' M) (k : ∀ h', h' = m_nw h n (ci + 5, N) → m_Y X Ω' M (pc + 3) ls (mR n :: st) h' Q) : m_Y X Ω M pc ls st h Q := by
  subst hΩ; subst hn
  intro E p l e s m args below meth c QQ H locs lsR hX C Rt Rl L o b
  obtain ⟨Cn, T, ⟨c1, c2, c3, c4⟩, ⟨w1, w2, w3⟩, hty⟩ := f
  have hts := C.2.2.2.2.1
  have hKn := C.2.2.2.2.2.1.1 ci _ c1
  obtain ⟨⟨g1, g2⟩, g3, g4⟩ := m_grow b hb
  refine W.newcK C.1 C.2.1 C.2.2.2.1 (hts _ w1) (hts _ w2) (hts _ w3) rfl d g3 g4 hKn.2.1 rfl fun H1 kC hkC e1 z1 o1 => ?_
  have hc : va_at E.2.2 vwCl (E.1.1 + Ω.length, m_el E (ci + 5, N) (m_nw h Ω.length (ci + 5, N) Ω.length)) H1 := by
    show va_at E.2.2 vwCl (E.1.1 + Ω.length, .inr (ci, (List.range N).map (fun j => m_sv E (m_tk (m_ty ci j)) (m_nw h Ω.length (ci + 5, N) Ω.length j)))) H1
    rw [← Rl.1]
    refine ⟨_, c1, (u_born (m_ty ci) hts c2 hKn hkC e1 c3).to (fun j hj => ?_)⟩
    show _ = List.getD _ j Value.null
    rw [List.getD_eq_getElem?_getD, m_fs_at hj, m_dv (E := E) (hty j hj)]
    rw [m_nw_at rfl]
    rfl
  have key := k _ rfl E p l e s m args below meth c QQ H1 locs lsR hX C Rt (m_rel_app Rl hc z1 o1) L ⟨trivial, o⟩ hb
  rw [g1, g2] at key
  rw [Rl.1]
  exact key
theorem m_ar {E : m_E} {s : State} {cA : ClassId} {t : Nat} {ty : FieldType} (hK : va_K E.2.2 vwCl (m_tys E) s) (ht : (m_tys E)[t]? = some (E.2.1 t, ty)) (hp : va_RA s (E.2.1 t) ty = (s.vm.findClass ("[" ++ ty.toString) = some (E.2.1 t))) (h : s.vm.findClass ("[" ++ ty.toString) = some cA) : cA = E.2.1 t := by
  have h1 := (hK.2 t _ ht).2
  rw [hp] at h1
  exact Option.some.inj (h.symm.trans h1)
theorem m_N32 {N : Nat} (hN : N ≤ 1000) : ¬ Int32.ofInt (N : Int) < 0 ∧ (Int32.ofInt (N : Int)).toNatClampNeg = N := by
  have h1 : m_32 (N : Int) := by unfold m_32; omega
  refine ⟨fun q => ?_, ?_⟩
  · have h2 := (m_lt32 h1 m_320).mp q
    omega
  · rw [m_cn h1]; omega
theorem y_newaI (pc : Nat) {N n : Nat} (d : decode M.2.2.1 pc = .ok (.newarray .int, 2)) (w : Cond.arrayClass .int ∈ m_G) (hN : N ≤ 1000) (hΩ : Ω' = Ω ++ [(0, N)]) (hn : Ω.length = n) (hb : m_b Ω' M) (k : ∀ h', h' = m_nw h n (0, N) → m_Y X Ω' M (pc + 2) ls (mR n :: st) h' Q) : m_Y X Ω M pc ls (mI N :: st) h Q := by
  subst hΩ; subst hn
  intro E p l e s m args below meth c QQ H locs lsR hX C Rt Rl L o b
  obtain ⟨⟨g1, g2⟩, g3, g4⟩ := m_grow b hb
  obtain ⟨n1, n2⟩ := m_N32 hN
  refine va_newaK (atype := .int) C.1 C.2.1 (C.2.2.2.2.1 _ w) rfl d rfl n1 n2 (by show N * 4 ≤ _; omega) g3 g4 rfl fun H1 cA e1 z1 o1 hAr hNm => ?_
  have hcA : cA = E.2.1 0 := m_ar (t := 0) (ty := .int) C.2.2.2.2.2.1 rfl rfl hNm
  subst hcA
  have hc : va_at E.2.2 vwCl (E.1.1 + Ω.length, m_el E (0, N) (m_nw h Ω.length (0, N) Ω.length)) H1 := by
    show H1[E.1.1 + Ω.length]? = some (arrV (E.2.1 0) N (fun j => .int (Int32.ofInt (m_nw h Ω.length (0, N) Ω.length j))))
    rw [← Rl.1, e1]
    congr 2
    funext j
    rw [m_nw_at rfl]
    rfl
  have key := k _ rfl E p l e s m args below meth c QQ H1 locs lsR hX C Rt (m_rel_app Rl hc z1 o1) L ⟨trivial, o.2⟩ hb
  rw [g1, g2] at key
  rw [Rl.1]
  exact key
theorem y_newaJ (pc : Nat) {N n : Nat} (d : decode M.2.2.1 pc = .ok (.newarray .long, 2)) (w : Cond.arrayClass .long ∈ m_G) (hN : N ≤ 1000) (hΩ : Ω' = Ω ++ [(1, N)]) (hn : Ω.length = n) (hb : m_b Ω' M) (k : ∀ h', h' = m_nw h n (1, N) → m_Y X Ω' M (pc + 2) ls (mR n :: st) h' Q) : m_Y X Ω M pc ls (mI N :: st) h Q := by
  subst hΩ; subst hn
  intro E p l e s m args below meth c QQ H locs lsR hX C Rt Rl L o b
  obtain ⟨⟨g1, g2⟩, g3, g4⟩ := m_grow b hb
  obtain ⟨n1, n2⟩ := m_N32 hN
  refine va_newaK (atype := .long) C.1 C.2.1 (C.2.2.2.2.1 _ w) rfl d rfl n1 n2 (by show N * 8 ≤ _; omega) g3 g4 rfl fun H1 cA e1 z1 o1 hAr hNm => ?_
  have hcA : cA = E.2.1 1 := m_ar (t := 1) (ty := .long) C.2.2.2.2.2.1 rfl rfl hNm
  subst hcA
  have hc : va_at E.2.2 vwCl (E.1.1 + Ω.length, m_el E (1, N) (m_nw h Ω.length (1, N) Ω.length)) H1 := by
    show H1[E.1.1 + Ω.length]? = some (arrV (E.2.1 1) N (fun j => .long (Int64.ofInt (m_nw h Ω.length (1, N) Ω.length j))))
    rw [← Rl.1, e1]
    congr 2
    funext j
    rw [m_nw_at rfl]
    rfl
  have key := k _ rfl E p l e s m args below meth c QQ H1 locs lsR hX C Rt (m_rel_app Rl hc z1 o1) L ⟨trivial, o.2⟩ hb
  rw [g1, g2] at key
  rw [Rl.1]
  exact key
theorem y_newaZ (pc : Nat) {N n : Nat} (d : decode M.2.2.1 pc = .ok (.newarray .boolean, 2)) (w : Cond.arrayClass .boolean ∈ m_G) (hN : N ≤ 1000) (hΩ : Ω' = Ω ++ [(2, N)]) (hn : Ω.length = n) (hb : m_b Ω' M) (k : ∀ h', h' = m_nw h n (2, N) → m_Y X Ω' M (pc + 2) ls (mR n :: st) h' Q) : m_Y X Ω M pc ls (mI N :: st) h Q := by
  subst hΩ; subst hn
  intro E p l e s m args below meth c QQ H locs lsR hX C Rt Rl L o b
  obtain ⟨⟨g1, g2⟩, g3, g4⟩ := m_grow b hb
  obtain ⟨n1, n2⟩ := m_N32 hN
  refine va_newaK (atype := .boolean) C.1 C.2.1 (C.2.2.2.2.1 _ w) rfl d rfl n1 n2 (by show N * 1 ≤ _; omega) g3 g4 rfl fun H1 cA e1 z1 o1 hAr hNm => ?_
  have hcA : cA = E.2.1 2 := m_ar (t := 2) (ty := .boolean) C.2.2.2.2.2.1 rfl rfl hNm
  subst hcA
  have hc : va_at E.2.2 vwCl (E.1.1 + Ω.length, m_el E (2, N) (m_nw h Ω.length (2, N) Ω.length)) H1 := by
    show H1[E.1.1 + Ω.length]? = some (arrV (E.2.1 2) N (fun j => .int (Int32.ofInt (m_nw h Ω.length (2, N) Ω.length j))))
    rw [← Rl.1, e1]
    congr 2
    funext j
    rw [m_nw_at rfl]
    rfl
  have key := k _ rfl E p l e s m args below meth c QQ H1 locs lsR hX C Rt (m_rel_app Rl hc z1 o1) L ⟨trivial, o.2⟩ hb
  rw [g1, g2] at key
  rw [Rl.1]
  exact key
theorem m_ao {E : m_E} {s : State} {cA comp : ClassId} {kA : Class} {t : Nat} {C : String} (hK : va_K E.2.2 vwCl (m_tys E) s) (ht : (m_tys E)[t]? = some (E.2.1 t, .object C)) (f1 : s.vm.findClass ("[" ++ (FieldType.object C).toString) = some cA) : cA = E.2.1 t := by
  obtain ⟨kA, comp, k1, k2, k3, k4⟩ := (hK.2 t _ ht).2
  exact Option.some.inj (f1.symm.trans k4)
theorem y_newq (pc : Nat) {index N n t : Nat} {Cn : String} (d : decode M.2.2.1 pc = .ok (.anewarray index, 3)) (w : Cond.classLink M.1 index Cn ∈ m_G) (hN : N ≤ 1000) (ht : (t = 3 ∧ Cn = "WeekFoot$Bound") ∨ (t = 4 ∧ Cn = "WeekFoot$Ledger")) (hXA : ∀ E meth s, X E meth s → va_AO Cn s) (hΩ : Ω' = Ω ++ [(t, N)]) (hn : Ω.length = n) (hb : m_b Ω' M) (k : ∀ h', h' = m_nw h n (t, N) → m_Y X Ω' M (pc + 3) ls (mR n :: st) h' Q) : m_Y X Ω M pc ls (mI N :: st) h Q := by
  subst hΩ; subst hn
  intro E p l e s m args below meth c QQ H locs lsR hX C Rt Rl L o b
  obtain ⟨⟨g1, g2⟩, g3, g4⟩ := m_grow b hb
  obtain ⟨n1, n2⟩ := m_N32 hN
  refine W.anew C.1 C.2.1 C.2.2.2.1 (C.2.2.2.2.1 _ w) (va_AO.use (hXA E meth s hX)) rfl d rfl n1 (by rw [n2]; omega) g3 (by rw [n2]; exact g4) fun cA kA comp f1 f2 f3 f4 => ?_
  rw [n2]
  generalize hH1 : H.push ({ cls := cA, slots := Array.replicate N .null, vm := .none } : Cell) = H1
  have z1 : H1.size = H.size + 1 := by rw [← hH1, Array.size_push]
  have e1 : H1[H.size]? = some (arrV cA N (fun _ => .null)) := by rw [← hH1, Array.getElem?_push_size, ← arrV_new]
  have o1 : ∀ q : Nat, q < H.size → H1[q]? = H[q]? := fun q hq => by rw [← hH1, Array.getElem?_push, if_neg (Nat.ne_of_lt hq)]
  have hcA : cA = E.2.1 t := by
    rcases ht with ⟨rfl, rfl⟩ | ⟨rfl, rfl⟩
    · exact m_ao (comp := comp) (kA := kA) C.2.2.2.2.2.1 rfl f1
    · exact m_ao (comp := comp) (kA := kA) C.2.2.2.2.2.1 rfl f1
  have hc : va_at E.2.2 vwCl (E.1.1 + Ω.length, m_el E (t, N) (m_nw h Ω.length (t, N) Ω.length)) H1 := by
    rcases ht with ⟨rfl, rfl⟩ | ⟨rfl, rfl⟩
    · show H1[E.1.1 + Ω.length]? = some (arrV (E.2.1 3) N (fun j => va_rf (if m_nw h Ω.length (3, N) Ω.length j < 0 then none else some (E.1.1 + (m_nw h Ω.length (3, N) Ω.length j).toNat))))
      rw [← Rl.1, e1, hcA]
      congr 2
      funext j
      rw [m_nw_at rfl]
      rfl
    · show H1[E.1.1 + Ω.length]? = some (arrV (E.2.1 4) N (fun j => va_rf (if m_nw h Ω.length (4, N) Ω.length j < 0 then none else some (E.1.1 + (m_nw h Ω.length (4, N) Ω.length j).toNat))))
      rw [← Rl.1, e1, hcA]
      congr 2
      funext j
      rw [m_nw_at rfl]
      rfl
  have key := k _ rfl E p l e s m args below meth c QQ H1 locs lsR hX C Rt (m_rel_app Rl hc z1 o1) L ⟨trivial, o.2⟩ hb
  rw [g1, g2] at key
  rw [Rl.1]
  exact key
/-- a final field of a reference, in its own class's constructor -/
def m_ff (own : String) (index ci N j : Nat) : Prop := ∃ (C : String) (T : u_T), m_cf ci C T N ∧ j < N ∧ Cond.fieldLink own index (T j).1 (T j).2.1 (T j).2.2.1 ∈ m_G ∧ (T j).2.2.2 = true ∧ (T j).1 = own
theorem y_putF (pc : Nat) {index ci N j k t : Nat} (d : decode M.2.2.1 pc = .ok (.putfield index, 3)) (f : m_ff M.1 index ci N j) (hk : Ω[k]? = some (ci + 5, N)) (hXN : ∀ E meth s, X E meth s → meth.name = "<init>") (ht : m_tk (m_ty ci j) = 3) (hn : ∀ q : Nat, narrow (m_ty ci j) (.ref q) = .ref q ∧ fits (m_ty ci j) (.ref q) = true) (kk : ∀ h', h' = m_up h k j (t : Int) → m_Y X Ω M (pc + 3) ls st h' Q) : m_Y X Ω M pc ls (mR t :: mR k :: st) h Q := by
  intro E p l e s m args below meth c QQ H locs lsR hX C Rt Rl L o b
  obtain ⟨Cn, T, ⟨c1, c2, c3, c4⟩, hj, hl, hfin, hdecl⟩ := f
  have hts := C.2.2.2.2.1
  have hap := va_apart (own := M.1) hts c2 (m_ty ci) c3 c4 C.2.2.2.2.2.1 c1
  obtain ⟨r, h1, cell, q1, q2, q3, q4⟩ := Rl.2.1 k _ (m_wl_at hk)
  have hr : r = (Cn, T, N) := Option.some.inj (h1.symm.trans c1)
  subst hr
  obtain ⟨hS, hfc, kC, hkC, hkind⟩ := C.2.2.2.2.2.1.1 ci _ c1
  obtain ⟨cf, kf, fi, fd, hi, hsl⟩ := hS j hj
  have hlay := hts _ (c2 _ (u_in_lay hj))
  unfold u_lay at hlay
  rw [if_pos hfin] at hlay
  have hst := (u_facts hfc hkC (u_lays hts c2 hj) hi).1
  have hcf : m.cls = cf := by
    obtain ⟨_, _, c', _, _, _, -, -, hf', -, -, -, hown2, -⟩ := Cond.laysFinal_spec hlay
    have e1 : c' = cf := by have := hi.symm.trans hf'; simp at this; exact this.1.symm
    rw [hdecl] at hown2
    rw [← e1]; exact Option.some.inj (C.2.2.2.1.symm.trans hown2)
  have h6 := u_fits hfc hkC hkind (Or.inr hlay) hi (c3 j hj) (hn (E.1.1 + t)).1 (hn (E.1.1 + t)).2
  have e0 : m_sv E (m_tk (m_ty ci j)) (t : Int) = .ref (E.1.1 + t) := by rw [ht]; simp [m_sv, m_rv]
  refine W.putFinK C.1 C.2.1 C.2.2.2.1 (hts _ hl) hi hst hcf (hXN E meth s hX) (by rw [q2]; exact h6) q1 q3 (by rw [hsl]; exact k2_hasslot (q4 j hj)) rfl rfl d fun H' e1 e2 e3 => ?_
  have hx : m_rg (m_sk (ci + 5, N).1 j) (t : Int) := by show m_rg (m_tk (m_ty ci j)) _; rw [ht]; simp [m_rg]
  refine kk _ rfl E p l e s m args below meth c QQ H' _ lsR hX C Rt (m_rel_set Rl hk hx ?_ e2 e3) L o.2.2 b
  rw [hsl] at e1
  show va_at E.2.2 vwCl (E.1.1 + k, .inr (ci, (List.range N).map (fun i => m_sv E (m_tk (m_ty ci i)) (m_up h k j (t : Int) k i)))) H'
  rw [← m_fs_set hj, e0]
  exact ⟨_, c1, t_OB.to (V := updV (vp_V _) j _) ⟨_, e1, q2, q3, t_set q4 hap hj _⟩ (fun i _ => vp_updV_set (by simpa using hj) _ i)⟩
theorem y_aast (pc : Nat) {k n a v ci N : Nat} {r : vw_C} {i : Int} (d : decode M.2.2.1 pc = .ok (.aastore, 1)) (ht : (k = 3 ∧ r.1 = "WeekFoot$Bound") ∨ (k = 4 ∧ r.1 = "WeekFoot$Ledger")) (hk : Ω[a]? = some (k, n)) (hv : Ω[v]? = some (ci + 5, N)) (hc : vwCl[ci]? = some r) (h0' : 0 ≤ i) (h1 : i < n) (kk : ∀ h', h' = m_up h a i.toNat (v : Int) → m_Y X Ω M (pc + 1) ls st h' Q) : m_Y X Ω M pc ls (mR v :: mI i :: mR a :: st) h Q := by
  intro E p l e s m args below meth c QQ H locs lsR hX C Rt Rl L o b
  have hin := m_ix o.2.1 h0' h1
  have hlt : (Int32.ofInt i).toNatClampNeg < n := Nat.not_le.mp fun q => hin (Or.inr q)
  have hn0 : ¬ Int32.ofInt i < 0 := fun q => hin (Or.inl q)
  have main : ∀ (f : Nat → Option Nat), (m_wl E Ω h)[a]? = some (E.1.1 + a, .inl (E.2.1 k, n, .inr (.inr (.inr (.inr f))))) → (m_tys E)[k]? = some (E.2.1 k, .object r.1) → (∀ H1 : Heap, H1[E.1.1 + a]? = some (arrV (E.2.1 k) n (fun j => va_rf (va_up f i.toNat (some (E.1.1 + v)) j))) → va_at E.2.2 vwCl (E.1.1 + a, m_el E (k, n) (m_up h a i.toNat (v : Int) a)) H1) → W p l e (m_rm M) s m args below meth c H locs (Ω.length - m_k0 M) (m_sz Ω - m_s0 M) QQ (F0 m pc lsR ((mR v :: mI i :: mR a :: st).map (m_v E))) := by
    intro f ha ht2 hfin
    obtain ⟨r', hr', cellV, g1, g2, g3, -⟩ := Rl.2.1 v _ (m_wl_at hv)
    have hcls := (C.2.2.2.2.2.1.1 ci r hc).2
    obtain ⟨kA, comp, k1, k2, k3, -⟩ := (C.2.2.2.2.2.1.2 k _ ht2).2
    have hcomp : comp = E.2.2.1 ci := Option.some.inj (k3.symm.trans hcls.1)
    subst hcomp
    obtain ⟨kC, hkC, -⟩ := hcls.2
    refine W.aast C.1 C.2.1 (Rl.2.1 a _ ha) (fun q h => by cases h) (fun h => by cases h) k1 k2 rfl hkC ⟨hn0, by show _ < (arrV _ _ _).slots.size; rw [arrV_size]; exact hlt⟩ g1 (fun q h => by rw [g3] at h; cases h) (by rw [g2]; exact hkC) (by rw [g2]; exact va_assign hcls) rfl rfl d fun H1 e z oq => ?_
    have hx : m_rg (m_sk (k, n).1 i.toNat) (v : Int) := by
      rcases ht with ⟨rfl, -⟩ | ⟨rfl, -⟩ <;> exact trivial
    refine kk _ rfl E p l _ s m args below meth c QQ H1 _ lsR hX C Rt (m_rel_set Rl hk hx (hfin H1 ?_) z oq) L o.2.2.2 b
    rw [e]
    show some ((vp_cell _ _).setSlot _ _) = _
    rw [vp_cell_q, arrV_store, m_cn o.2.1]
    congr 2
    funext q
    by_cases hq : q = i.toNat
    · subst hq
      simp [updV, va_up, va_rf]
    · simp [updV, va_up, hq]
  have up : ∀ q, (if m_up h a i.toNat (v : Int) a q < 0 then none else some (E.1.1 + (m_up h a i.toNat (v : Int) a q).toNat)) = va_up (fun j => if h a j < 0 then none else some (E.1.1 + (h a j).toNat)) i.toNat (some (E.1.1 + v)) q := by
    intro q
    by_cases hq : q = i.toNat
    · subst hq
      rw [m_up_eq]
      simp [va_up]
    · rw [m_up_ne (fun z => hq z.2)]
      simp [va_up, hq]
  rcases ht with ⟨rfl, hr⟩ | ⟨rfl, hr⟩
  · refine main _ (m_wl_at hk) (by rw [hr]; rfl) (fun H1 e => ?_)
    show H1[E.1.1 + a]? = some (arrV (E.2.1 3) n (fun j => va_rf (if m_up h a i.toNat (v : Int) a j < 0 then none else some (E.1.1 + (m_up h a i.toNat (v : Int) a j).toNat))))
    rw [e]
    congr 2
    funext q
    rw [up]
  · refine main _ (m_wl_at hk) (by rw [hr]; rfl) (fun H1 e => ?_)
    show H1[E.1.1 + a]? = some (arrV (E.2.1 4) n (fun j => va_rf (if m_up h a i.toNat (v : Int) a j < 0 then none else some (E.1.1 + (m_up h a i.toNat (v : Int) a j).toNat))))
    rw [e]
    congr 2
    funext q
    rw [up]
theorem y_objI (pc : Nat) {index k : Nat} (d : decode M.2.2.1 pc = .ok (.invokespecial index, 3)) (w1 : Cond.methodLink M.1 index Lib.objectInit ∈ m_G) (w2 : Cond.instanceMethod Lib.objectInit ∈ m_G) (w3 : Cond.code Lib.objectInit ⟨#[0xb1]⟩ 1 none ∈ m_G) (hf : 1 ≤ (m_rm M).frames) (hl : m_cs st + 12 ≤ (m_rm M).locals) (kk : m_Y X Ω M (pc + 3) ls st h Q) : m_Y X Ω M pc ls (mR k :: st) h Q := by
  intro E p l e s m args below meth c QQ H locs lsR hX C Rt Rl L o b
  have hts := C.2.2.2.2.1
  have hc : (st.map (fun v => if m_isL v then 2 else 1)).sum = ((st.map (m_v E)).map fun v => v.category).sum := by
    rw [List.map_map]
    congr 2
    funext v
    exact (m_cat E v).symm
  refine W.objInit C.1 C.2.1 C.2.2.2.1 (hts _ w1) (hts _ w2) (hts _ w3) rfl (by rw [C.2.2.1]; exact L.1) rfl d hf ?_ ?_
  · show 0 + _ + 12 ≤ _
    unfold m_cs at hl
    rw [Nat.zero_add, ← hc]; exact hl
  · exact kk E p l e s m args below meth c QQ H locs lsR hX C Rt Rl L o.2 b
end YG
