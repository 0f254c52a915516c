def m_QI (P : Int → m_H → Prop) : m_W → Option m_V → m_H → Prop := fun w r h' => w = oF ∧ ∃ x, r = some (mI x) ∧ P x h'
def m_QJ (P : Int → m_H → Prop) : m_W → Option m_V → m_H → Prop := fun w r h' => w = oF ∧ ∃ x, r = some (mJ x) ∧ P x h'
def m_QV (P : m_H → Prop) : m_W → Option m_V → m_H → Prop := fun w r h' => w = oF ∧ r = none ∧ P h'
def m_CI (M : m_M) (as : List m_V) (h : m_H) (P : Int → m_H → Prop) : Prop := m_C M oF oF as h (fun r h' => ∃ x, r = some (mI x) ∧ P x h')
def m_CJ (M : m_M) (as : List m_V) (h : m_H) (P : Int → m_H → Prop) : Prop := m_C M oF oF as h (fun r h' => ∃ x, r = some (mJ x) ∧ P x h')
def m_CV (M : m_M) (as : List m_V) (h : m_H) (P : m_H → Prop) : Prop := m_C M oF oF as h (fun r h' => r = none ∧ P h')
theorem m_b_of {M : m_M} (h1 : m_k0 M = 148) (h2 : m_s0 M = 4732) : m_b oF M := by
  unfold m_b; rw [h1, h2, oF_len, oF_sz]; refine ⟨⟨Nat.le_refl _, Nat.le_refl _⟩, ?_, ?_⟩ <;> simp
def m_st (M : m_M) (as : List m_V) : Prop := plainName M.2.1.cls = true ∧ M.1 = M.2.1.cls ∧ (m_arg as).length ≤ M.2.2.2.1 ∧ (m_k0 M = 148 ∧ m_s0 M = 4732) ∧ (m_rm M).cells = 0 ∧ (m_rm M).slots = 0
theorem m_C_st {M : m_M} {as : List m_V} {h : m_H} {ls : List (Option m_V)} {Q : Option m_V → m_H → Prop} (s : m_st M as) (hl : m_loc as M.2.2.2.1 = ls) (z : m_Z oF M 0 ls [] h (fun w r h' => w = oF ∧ Q r h')) : m_C M oF oF as h Q := by
  subst hl
  obtain ⟨s1, s2, s3, s4, s5, s6⟩ := s
  exact m_C_of s1 s2 s3 (m_b_of s4.1 s4.2) ⟨by rw [s4.1, oF_len], by rw [s4.2, oF_sz]⟩ ⟨by rw [s5, Nat.sub_self], by rw [s6, Nat.sub_self]⟩ z
theorem m_CI_of {M : m_M} {as : List m_V} {h : m_H} {ls : List (Option m_V)} {P : Int → m_H → Prop} (s : m_st M as) (hl : m_loc as M.2.2.2.1 = ls) (z : m_Z oF M 0 ls [] h (m_QI P)) : m_CI M as h P := m_C_st s hl z
theorem m_CJ_of {M : m_M} {as : List m_V} {h : m_H} {ls : List (Option m_V)} {P : Int → m_H → Prop} (s : m_st M as) (hl : m_loc as M.2.2.2.1 = ls) (z : m_Z oF M 0 ls [] h (m_QJ P)) : m_CJ M as h P := m_C_st s hl z
theorem m_CV_of {M : m_M} {as : List m_V} {h : m_H} {ls : List (Option m_V)} {P : m_H → Prop} (s : m_st M as) (hl : m_loc as M.2.2.2.1 = ls) (z : m_Z oF M 0 ls [] h (m_QV P)) : m_CV M as h P := m_C_st s hl z
theorem m_CI.weaken {M : m_M} {as : List m_V} {h : m_H} {P P' : Int → m_H → Prop} (c : m_CI M as h P) (q : ∀ x h', P x h' → P' x h') : m_CI M as h P' := m_C.weaken c (fun _ h' ⟨x, e, p⟩ => ⟨x, e, q x h' p⟩)
theorem m_CJ.weaken {M : m_M} {as : List m_V} {h : m_H} {P P' : Int → m_H → Prop} (c : m_CJ M as h P) (q : ∀ x h', P x h' → P' x h') : m_CJ M as h P' := m_C.weaken c (fun _ h' ⟨x, e, p⟩ => ⟨x, e, q x h' p⟩)
theorem m_CV.weaken {M : m_M} {as : List m_V} {h : m_H} {P P' : m_H → Prop} (c : m_CV M as h P) (q : ∀ h', P h' → P' h') : m_CV M as h P' := m_C.weaken c (fun _ h' ⟨e, p⟩ => ⟨e, q h' p⟩)
/-! frames: the cells (cs) and slots (ss) that may change -/
def fr (cs : List Nat) (ss : List (Nat × Nat)) (k j : Nat) : Bool := cs.any (fun c => c == k) || ss.any (fun q => q.1 == k && q.2 == j)
def FR (cs : List Nat) (ss : List (Nat × Nat)) (h h' : m_H) : Prop := ∀ k j, fr cs ss k j = false → h' k j = h k j
theorem FR.rf {cs : List Nat} {ss : List (Nat × Nat)} {h : m_H} : FR cs ss h h := fun _ _ _ => rfl
theorem FR.up {cs : List Nat} {ss : List (Nat × Nat)} {h h' : m_H} {k j : Nat} {v : Int} (R : FR cs ss h h') (hF : fr cs ss k j = true) : FR cs ss h (m_up h' k j v) := by
  intro a b q
  rw [m_up_ne (fun z => by obtain ⟨rfl, rfl⟩ := z; rw [hF] at q; cases q)]
  exact R a b q
def fsub (cs' : List Nat) (ss' : List (Nat × Nat)) (cs : List Nat) (ss : List (Nat × Nat)) : Bool := cs'.all (fun c => cs.any (fun d => d == c)) && ss'.all (fun q => fr cs ss q.1 q.2)
theorem FR.mono {cs cs' : List Nat} {ss ss' : List (Nat × Nat)} {h h' : m_H} (R : FR cs' ss' h h') (s : fsub cs' ss' cs ss = true) : FR cs ss h h' := by
  intro a b q
  refine R a b ?_
  unfold fsub at s
  rw [Bool.and_eq_true] at s
  cases hx : fr cs' ss' a b with
  | false => rfl
  | true =>
    exfalso
    unfold fr at hx
    rw [Bool.or_eq_true] at hx
    rcases hx with hx | hx
    · obtain ⟨c, hc, e⟩ := List.any_eq_true.mp hx
      have e1 : c = a := by simpa using e
      subst e1
      have h2 := List.all_eq_true.mp s.1 c hc
      unfold fr at q
      rw [h2] at q
      cases q
    · obtain ⟨p, hp, e⟩ := List.any_eq_true.mp hx
      have e1 : p.1 = a ∧ p.2 = b := by simpa using e
      have h2 := List.all_eq_true.mp s.2 p hp
      rw [e1.1, e1.2, q] at h2
      cases h2
theorem FR.trans {cs : List Nat} {ss : List (Nat × Nat)} {h h' h'' : m_H} (R : FR cs ss h h') (S : FR cs ss h' h'') : FR cs ss h h'' := fun k j q => (S k j q).trans (R k j q)
theorem FR.call {cs cs' : List Nat} {ss ss' : List (Nat × Nat)} {h h' h'' : m_H} (R : FR cs ss h h') (S : FR cs' ss' h' h'') (s : fsub cs' ss' cs ss = true) : FR cs ss h h'' := R.trans (S.mono s)
def csB : List Nat := [43, 44, 45, 46, 47, 48, 49, 50, 51, 52, 53, 54, 55, 56, 57, 58, 60, 61, 62, 63, 64, 65, 66, 67, 68, 69, 70, 71, 72, 73, 74, 75, 77, 78, 79, 80, 81, 82, 83, 84, 85, 86, 87, 88, 89, 90, 91, 92, 94, 95]
theorem csB_in : ∀ k, k < 96 → isBb k = true → csB.any (fun c => c == k) = true := by decide +kernel
theorem frB {cs : List Nat} {ss : List (Nat × Nat)} {k j : Nat} (hk : isB k) : fr (csB ++ cs) ss k j = true := by
  unfold fr; rw [List.any_append, csB_in k (isB_lt hk) hk]; rfl
theorem upE {h h' : m_H} {k j : Nat} {v : Int} (E : h' = m_up h k j v) : h' k j = v := by rw [E, m_up_eq]
theorem upN {h h' : m_H} {k j : Nat} {v : Int} (E : h' = m_up h k j v) {a b : Nat} (q : ¬ (a = k ∧ b = j)) : h' a b = h a b := by rw [E, m_up_ne q]
theorem m_rr_of {M M' : m_M} (e : (Nat.ble ((m_rm M').frames + 1) (m_rm M).frames && Nat.ble (8 + (M'.2.2.2.1 + 11) + (m_rm M').locals) (m_rm M).locals) = true) : m_rr M M' := by
  rw [Bool.and_eq_true] at e
  exact ⟨Nat.le_of_ble_eq_true e.1, Nat.le_of_ble_eq_true e.2⟩
section ZL
variable {M M' : m_M} {ls : List (Option m_V)} {st rest : List m_V} {h h0 : m_H} {Q : m_W → Option m_V → m_H → Prop} {cs : List Nat} {ss : List (Nat × Nat)}
theorem z_retI (pc : Nat) {x : Int} {P : Int → m_H → Prop} (d : decode M.2.2.1 pc = .ok (.ireturn, 1)) (hr : M.2.2.2.2.1 = some .int) (q : P x h) : m_Z oF M pc ls [mI x] h (m_QI P) := z_iret pc d hr ⟨rfl, x, rfl, q⟩
theorem z_retZ (pc : Nat) {x : Int} {P : Int → m_H → Prop} (d : decode M.2.2.1 pc = .ok (.ireturn, 1)) (hr : M.2.2.2.2.1 = some .boolean) (hx : x = 0 ∨ x = 1) (q : P x h) : m_Z oF M pc ls [mI x] h (m_QI P) := z_zret pc d hr hx ⟨rfl, x, rfl, q⟩
theorem z_retJ (pc : Nat) {x : Int} {P : Int → m_H → Prop} (d : decode M.2.2.1 pc = .ok (.lreturn, 1)) (hr : M.2.2.2.2.1 = some .long) (q : P x h) : m_Z oF M pc ls [mJ x] h (m_QJ P) := z_lret pc d hr ⟨rfl, x, rfl, q⟩
theorem z_retV (pc : Nat) {P : m_H → Prop} (d : decode M.2.2.1 pc = .ok (.return_, 1)) (hr : M.2.2.2.2.1 = none) (q : P h) : m_Z oF M pc ls [] h (m_QV P) := z_vret pc d hr ⟨rfl, rfl, q⟩
theorem z_vI (pc : Nat) {index n k ci N : Nat} {as : List m_V} {P : Int → m_H → Prop} (d : decode M.2.2.1 pc = .ok (.invokevirtual index, 3)) (mt : m_mV M' n) (lk : Cond.methodLink M.1 index M'.2.1 ∈ m_G) (rr : m_rr M M') (hc : m_CI M' (mR k :: as) h P) (hk : oF[k]? = some (ci + 5, N)) (hcl : (vwCl[ci]?).map (fun q => q.1) = some M'.2.1.cls) (hst : as.reverse ++ mR k :: rest = st) (hn : as.length = n) (hrest : m_cs rest ≤ 8) (hz : (m_rm M').cells = 0 ∧ (m_rm M').slots = 0)
    (kk : ∀ (x : Int) (h' : m_H), P x h' → m_Z oF M (pc + 3) ls (mI x :: rest) h' Q) : m_Z oF M pc ls st h Q := z_callV pc d mt lk rr hc hk hcl hst hn hrest hz (fun r h' q => by obtain ⟨x, rfl, p⟩ := q; exact kk x h' p)
theorem z_vJ (pc : Nat) {index n k ci N : Nat} {as : List m_V} {P : Int → m_H → Prop} (d : decode M.2.2.1 pc = .ok (.invokevirtual index, 3)) (mt : m_mV M' n) (lk : Cond.methodLink M.1 index M'.2.1 ∈ m_G) (rr : m_rr M M') (hc : m_CJ M' (mR k :: as) h P) (hk : oF[k]? = some (ci + 5, N)) (hcl : (vwCl[ci]?).map (fun q => q.1) = some M'.2.1.cls) (hst : as.reverse ++ mR k :: rest = st) (hn : as.length = n) (hrest : m_cs rest ≤ 8) (hz : (m_rm M').cells = 0 ∧ (m_rm M').slots = 0)
    (kk : ∀ (x : Int) (h' : m_H), P x h' → m_Z oF M (pc + 3) ls (mJ x :: rest) h' Q) : m_Z oF M pc ls st h Q := z_callV pc d mt lk rr hc hk hcl hst hn hrest hz (fun r h' q => by obtain ⟨x, rfl, p⟩ := q; exact kk x h' p)
theorem z_vV (pc : Nat) {index n k ci N : Nat} {as : List m_V} {P : m_H → Prop} (d : decode M.2.2.1 pc = .ok (.invokevirtual index, 3)) (mt : m_mV M' n) (lk : Cond.methodLink M.1 index M'.2.1 ∈ m_G) (rr : m_rr M M') (hc : m_CV M' (mR k :: as) h P) (hk : oF[k]? = some (ci + 5, N)) (hcl : (vwCl[ci]?).map (fun q => q.1) = some M'.2.1.cls) (hst : as.reverse ++ mR k :: rest = st) (hn : as.length = n) (hrest : m_cs rest ≤ 8) (hz : (m_rm M').cells = 0 ∧ (m_rm M').slots = 0)
    (kk : ∀ (h' : m_H), P h' → m_Z oF M (pc + 3) ls rest h' Q) : m_Z oF M pc ls st h Q := z_callV pc d mt lk rr hc hk hcl hst hn hrest hz (fun r h' q => by obtain ⟨rfl, p⟩ := q; exact kk h' p)
theorem z_sI (pc : Nat) {index n : Nat} {as : List m_V} {P : Int → m_H → Prop} (d : decode M.2.2.1 pc = .ok (.invokestatic index, 3)) (mt : m_mS M' n) (lk : Cond.methodLink M.1 index M'.2.1 ∈ m_G) (rr : m_rr M M') (hc : m_CI M' (as) h P) (hst : as.reverse ++ rest = st) (hn : as.length = n) (hrest : m_cs rest ≤ 8) (hz : (m_rm M').cells = 0 ∧ (m_rm M').slots = 0)
    (kk : ∀ (x : Int) (h' : m_H), P x h' → m_Z oF M (pc + 3) ls (mI x :: rest) h' Q) : m_Z oF M pc ls st h Q := z_callS pc d mt lk rr hc hst hn hrest hz (fun r h' q => by obtain ⟨x, rfl, p⟩ := q; exact kk x h' p)
theorem z_sJ (pc : Nat) {index n : Nat} {as : List m_V} {P : Int → m_H → Prop} (d : decode M.2.2.1 pc = .ok (.invokestatic index, 3)) (mt : m_mS M' n) (lk : Cond.methodLink M.1 index M'.2.1 ∈ m_G) (rr : m_rr M M') (hc : m_CJ M' (as) h P) (hst : as.reverse ++ rest = st) (hn : as.length = n) (hrest : m_cs rest ≤ 8) (hz : (m_rm M').cells = 0 ∧ (m_rm M').slots = 0)
    (kk : ∀ (x : Int) (h' : m_H), P x h' → m_Z oF M (pc + 3) ls (mJ x :: rest) h' Q) : m_Z oF M pc ls st h Q := z_callS pc d mt lk rr hc hst hn hrest hz (fun r h' q => by obtain ⟨x, rfl, p⟩ := q; exact kk x h' p)
theorem z_sV (pc : Nat) {index n : Nat} {as : List m_V} {P : m_H → Prop} (d : decode M.2.2.1 pc = .ok (.invokestatic index, 3)) (mt : m_mS M' n) (lk : Cond.methodLink M.1 index M'.2.1 ∈ m_G) (rr : m_rr M M') (hc : m_CV M' (as) h P) (hst : as.reverse ++ rest = st) (hn : as.length = n) (hrest : m_cs rest ≤ 8) (hz : (m_rm M').cells = 0 ∧ (m_rm M').slots = 0)
    (kk : ∀ (h' : m_H), P h' → m_Z oF M (pc + 3) ls rest h' Q) : m_Z oF M pc ls st h Q := z_callS pc d mt lk rr hc hst hn hrest hz (fun r h' q => by obtain ⟨rfl, p⟩ := q; exact kk h' p)
theorem z_nI (pc : Nat) {index n : Nat} {as : List m_V} {host : String} {P : Int → m_H → Prop} (d : decode M.2.2.1 pc = .ok (.invokestatic index, 3)) (mt : m_mS M' n) (lk : Cond.methodLinkNest M.1 index M'.2.1 host ∈ m_N) (rr : m_rr M M') (hc : m_CI M' (as) h P) (hst : as.reverse ++ rest = st) (hn : as.length = n) (hrest : m_cs rest ≤ 8) (hz : (m_rm M').cells = 0 ∧ (m_rm M').slots = 0)
    (kk : ∀ (x : Int) (h' : m_H), P x h' → m_Z oF M (pc + 3) ls (mI x :: rest) h' Q) : m_Z oF M pc ls st h Q := z_callSN pc d mt lk rr hc hst hn hrest hz (fun r h' q => by obtain ⟨x, rfl, p⟩ := q; exact kk x h' p)
theorem z_nJ (pc : Nat) {index n : Nat} {as : List m_V} {host : String} {P : Int → m_H → Prop} (d : decode M.2.2.1 pc = .ok (.invokestatic index, 3)) (mt : m_mS M' n) (lk : Cond.methodLinkNest M.1 index M'.2.1 host ∈ m_N) (rr : m_rr M M') (hc : m_CJ M' (as) h P) (hst : as.reverse ++ rest = st) (hn : as.length = n) (hrest : m_cs rest ≤ 8) (hz : (m_rm M').cells = 0 ∧ (m_rm M').slots = 0)
    (kk : ∀ (x : Int) (h' : m_H), P x h' → m_Z oF M (pc + 3) ls (mJ x :: rest) h' Q) : m_Z oF M pc ls st h Q := z_callSN pc d mt lk rr hc hst hn hrest hz (fun r h' q => by obtain ⟨x, rfl, p⟩ := q; exact kk x h' p)
theorem z_nV (pc : Nat) {index n : Nat} {as : List m_V} {host : String} {P : m_H → Prop} (d : decode M.2.2.1 pc = .ok (.invokestatic index, 3)) (mt : m_mS M' n) (lk : Cond.methodLinkNest M.1 index M'.2.1 host ∈ m_N) (rr : m_rr M M') (hc : m_CV M' (as) h P) (hst : as.reverse ++ rest = st) (hn : as.length = n) (hrest : m_cs rest ≤ 8) (hz : (m_rm M').cells = 0 ∧ (m_rm M').slots = 0)
    (kk : ∀ (h' : m_H), P h' → m_Z oF M (pc + 3) ls rest h' Q) : m_Z oF M pc ls st h Q := z_callSN pc d mt lk rr hc hst hn hrest hz (fun r h' q => by obtain ⟨rfl, p⟩ := q; exact kk h' p)
theorem z_iaddN (pc : Nat) {x y : Int} (d : decode M.2.2.1 pc = .ok (.iadd, 1)) (h1 : -2147483648 ≤ x + y) (h2 : x + y ≤ 2147483647) (k : m_Z oF M (pc + 1) ls (mI (x + y) :: st) h Q) : m_Z oF M pc ls (mI y :: mI x :: st) h Q := z_iadd pc d (by rw [m_w_id h1 h2]; exact k)
theorem z_laddN (pc : Nat) {x y : Int} (d : decode M.2.2.1 pc = .ok (.ladd, 1)) (h1 : -9223372036854775808 ≤ x + y) (h2 : x + y ≤ 9223372036854775807) (k : m_Z oF M (pc + 1) ls (mJ (x + y) :: st) h Q) : m_Z oF M pc ls (mJ y :: mJ x :: st) h Q := z_ladd pc d (by rw [m_x_id h1 h2]; exact k)
theorem z_isubN (pc : Nat) {x y : Int} (d : decode M.2.2.1 pc = .ok (.isub, 1)) (h1 : -2147483648 ≤ x - y) (h2 : x - y ≤ 2147483647) (k : m_Z oF M (pc + 1) ls (mI (x - y) :: st) h Q) : m_Z oF M pc ls (mI y :: mI x :: st) h Q := z_isub pc d (by rw [m_w_id h1 h2]; exact k)
theorem z_lsubN (pc : Nat) {x y : Int} (d : decode M.2.2.1 pc = .ok (.lsub, 1)) (h1 : -9223372036854775808 ≤ x - y) (h2 : x - y ≤ 9223372036854775807) (k : m_Z oF M (pc + 1) ls (mJ (x - y) :: st) h Q) : m_Z oF M pc ls (mJ y :: mJ x :: st) h Q := z_lsub pc d (by rw [m_x_id h1 h2]; exact k)
theorem z_imulN (pc : Nat) {x y : Int} (d : decode M.2.2.1 pc = .ok (.imul, 1)) (h1 : -2147483648 ≤ x * y) (h2 : x * y ≤ 2147483647) (k : m_Z oF M (pc + 1) ls (mI (x * y) :: st) h Q) : m_Z oF M pc ls (mI y :: mI x :: st) h Q := z_imul pc d (by rw [m_w_id h1 h2]; exact k)
theorem z_lmulN (pc : Nat) {x y : Int} (d : decode M.2.2.1 pc = .ok (.lmul, 1)) (h1 : -9223372036854775808 ≤ x * y) (h2 : x * y ≤ 9223372036854775807) (k : m_Z oF M (pc + 1) ls (mJ (x * y) :: st) h Q) : m_Z oF M pc ls (mJ y :: mJ x :: st) h Q := z_lmul pc d (by rw [m_x_id h1 h2]; exact k)
theorem z_idivN (pc : Nat) {x y : Int} (d : decode M.2.2.1 pc = .ok (.idiv, 1)) (hx : 0 ≤ x) (hy : 0 < y) (k : m_Z oF M (pc + 1) ls (mI (x / y) :: st) h Q) : m_Z oF M pc ls (mI y :: mI x :: st) h Q := by
  refine z_ok (fun o _ _ => ?_)
  refine z_idiv pc d (by omega) ?_
  have h1 : 0 ≤ x / y := Int.ediv_nonneg hx (by omega)
  have h2 : x / y ≤ x := Int.ediv_le_self y hx
  have h3 : m_32 x := o.2.1
  unfold m_32 at h3
  rw [Int.tdiv_eq_ediv_of_nonneg hx, m_w_id (by omega) (by omega)]
  exact k
theorem z_iremN (pc : Nat) {x y : Int} (d : decode M.2.2.1 pc = .ok (.irem, 1)) (hx : 0 ≤ x) (hy : y ≠ 0) (k : m_Z oF M (pc + 1) ls (mI (x % y) :: st) h Q) : m_Z oF M pc ls (mI y :: mI x :: st) h Q := z_irem pc d hy (by rw [Int.tmod_eq_emod_of_nonneg hx]; exact k)
theorem z_ldivN (pc : Nat) {x y : Int} (d : decode M.2.2.1 pc = .ok (.ldiv, 1)) (hx : 0 ≤ x) (hy : 0 < y) (k : m_Z oF M (pc + 1) ls (mJ (x / y) :: st) h Q) : m_Z oF M pc ls (mJ y :: mJ x :: st) h Q := by
  refine z_ok (fun o _ _ => ?_)
  refine z_ldiv pc d (by omega) ?_
  have h1 : 0 ≤ x / y := Int.ediv_nonneg hx (by omega)
  have h2 : x / y ≤ x := Int.ediv_le_self y hx
  have h3 : m_64 x := o.2.1
  unfold m_64 at h3
  rw [Int.tdiv_eq_ediv_of_nonneg hx, m_x_id (by omega) (by omega)]
  exact k
theorem z_lremN (pc : Nat) {x y : Int} (d : decode M.2.2.1 pc = .ok (.lrem, 1)) (hx : 0 ≤ x) (hy : y ≠ 0) (k : m_Z oF M (pc + 1) ls (mJ (x % y) :: st) h Q) : m_Z oF M pc ls (mJ y :: mJ x :: st) h Q := z_lrem pc d hy (by rw [Int.tmod_eq_emod_of_nonneg hx]; exact k)
theorem z_inegN (pc : Nat) {x : Int} (d : decode M.2.2.1 pc = .ok (.ineg, 1)) (h1 : -2147483648 ≤ -x) (h2 : -x ≤ 2147483647) (k : m_Z oF M (pc + 1) ls (mI (-x) :: st) h Q) : m_Z oF M pc ls (mI x :: st) h Q := z_ineg pc d (by rw [m_w_id h1 h2]; exact k)
theorem z_l2iN (pc : Nat) {x : Int} (d : decode M.2.2.1 pc = .ok (.l2i, 1)) (h1 : -2147483648 ≤ x) (h2 : x ≤ 2147483647) (k : m_Z oF M (pc + 1) ls (mI x :: st) h Q) : m_Z oF M pc ls (mJ x :: st) h Q := z_l2i pc d (by rw [m_w_id h1 h2]; exact k)
theorem z_iincN (pc : Nat) {n : Nat} {i x : Int} {ls' : List (Option m_V)} (d : decode M.2.2.1 pc = .ok (.iinc n i, 3)) (hn : n < M.2.2.2.1) (hl : ls[n]? = some (some (mI x))) (hi : m_32 i) (h1 : -2147483648 ≤ x + i) (h2 : x + i ≤ 2147483647) (e : m_st1 ls n (mI (x + i)) = ls') (k : m_Z oF M (pc + 3) ls' st h Q) : m_Z oF M pc ls st h Q := z_iinc pc d hn hl hi (by rw [m_w_id h1 h2]; exact e) k
theorem z_topI {pc : Nat} {x : Int} (k : ∀ y : Int, x = y → m_Z oF M pc ls (mI y :: st) h Q) : m_Z oF M pc ls (mI x :: st) h Q := k x rfl
theorem z_topBI {pc : Nat} {x lo hi : Int} (hb : lo ≤ x ∧ x ≤ hi) (k : ∀ y : Int, x = y → lo ≤ y → y ≤ hi → m_Z oF M pc ls (mI y :: st) h Q) : m_Z oF M pc ls (mI x :: st) h Q := k x rfl hb.1 hb.2
theorem z_topJ {pc : Nat} {x : Int} (k : ∀ y : Int, x = y → m_Z oF M pc ls (mJ y :: st) h Q) : m_Z oF M pc ls (mJ x :: st) h Q := k x rfl
theorem z_topBJ {pc : Nat} {x lo hi : Int} (hb : lo ≤ x ∧ x ≤ hi) (k : ∀ y : Int, x = y → lo ≤ y → y ≤ hi → m_Z oF M pc ls (mJ y :: st) h Q) : m_Z oF M pc ls (mJ x :: st) h Q := k x rfl hb.1 hb.2
theorem z_topm {pc : Nat} {x : Int} (k : ∀ y : Int, x = y → m_32 y → m_Z oF M pc ls (mI y :: st) h Q) : m_Z oF M pc ls (mI x :: st) h Q := z_ok (fun o _ _ => k x rfl o.1)
theorem z_ialdG (pc : Nat) {k n : Nat} {i lo hi : Int} (d : decode M.2.2.1 pc = .ok (.iaload, 1)) (hk : oF[k]? = some (0, n)) (h0 : 0 ≤ i) (h1 : i < n) (hb : lo ≤ h k i.toNat ∧ h k i.toNat ≤ hi) (kk : ∀ x : Int, h k i.toNat = x → lo ≤ x → x ≤ hi → m_Z oF M (pc + 1) ls (mI x :: st) h Q) : m_Z oF M pc ls (mI i :: mR k :: st) h Q := z_iald pc d hk h0 h1 (kk _ rfl hb.1 hb.2)
theorem z_ialdV (pc : Nat) {k n : Nat} {i : Int} (d : decode M.2.2.1 pc = .ok (.iaload, 1)) (hk : oF[k]? = some (0, n)) (h0 : 0 ≤ i) (h1 : i < n) (kk : ∀ x : Int, h k i.toNat = x → m_Z oF M (pc + 1) ls (mI x :: st) h Q) : m_Z oF M pc ls (mI i :: mR k :: st) h Q := z_iald pc d hk h0 h1 (kk _ rfl)
theorem z_zaldG (pc : Nat) {k n : Nat} {i lo hi : Int} (d : decode M.2.2.1 pc = .ok (.baload, 1)) (hk : oF[k]? = some (2, n)) (h0 : 0 ≤ i) (h1 : i < n) (hb : lo ≤ h k i.toNat ∧ h k i.toNat ≤ hi) (kk : ∀ x : Int, h k i.toNat = x → lo ≤ x → x ≤ hi → m_Z oF M (pc + 1) ls (mI x :: st) h Q) : m_Z oF M pc ls (mI i :: mR k :: st) h Q := z_zald pc d hk h0 h1 (kk _ rfl hb.1 hb.2)
theorem z_zaldV (pc : Nat) {k n : Nat} {i : Int} (d : decode M.2.2.1 pc = .ok (.baload, 1)) (hk : oF[k]? = some (2, n)) (h0 : 0 ≤ i) (h1 : i < n) (kk : ∀ x : Int, h k i.toNat = x → m_Z oF M (pc + 1) ls (mI x :: st) h Q) : m_Z oF M pc ls (mI i :: mR k :: st) h Q := z_zald pc d hk h0 h1 (kk _ rfl)
theorem z_laldG (pc : Nat) {k n : Nat} {i lo hi : Int} (d : decode M.2.2.1 pc = .ok (.laload, 1)) (hk : oF[k]? = some (1, n)) (h0 : 0 ≤ i) (h1 : i < n) (hb : lo ≤ h k i.toNat ∧ h k i.toNat ≤ hi) (kk : ∀ x : Int, h k i.toNat = x → lo ≤ x → x ≤ hi → m_Z oF M (pc + 1) ls (mJ x :: st) h Q) : m_Z oF M pc ls (mI i :: mR k :: st) h Q := z_lald pc d hk h0 h1 (kk _ rfl hb.1 hb.2)
theorem z_laldV (pc : Nat) {k n : Nat} {i : Int} (d : decode M.2.2.1 pc = .ok (.laload, 1)) (hk : oF[k]? = some (1, n)) (h0 : 0 ≤ i) (h1 : i < n) (kk : ∀ x : Int, h k i.toNat = x → m_Z oF M (pc + 1) ls (mJ x :: st) h Q) : m_Z oF M pc ls (mI i :: mR k :: st) h Q := z_lald pc d hk h0 h1 (kk _ rfl)
theorem z_getIG (pc : Nat) {index ci N j k : Nat} {lo hi : Int} (d : decode M.2.2.1 pc = .ok (.getfield index, 3)) (f : m_fl M.1 index ci N j) (hk : oF[k]? = some (ci + 5, N)) (ht : m_tk (m_ty ci j) ≠ 1 ∧ m_tk (m_ty ci j) ≠ 3) (hb : lo ≤ h k j ∧ h k j ≤ hi) (kk : ∀ x : Int, h k j = x → lo ≤ x → x ≤ hi → m_Z oF M (pc + 3) ls (mI x :: st) h Q) : m_Z oF M pc ls (mR k :: st) h Q := z_getI pc d f hk ht (kk _ rfl hb.1 hb.2)
theorem z_getIV (pc : Nat) {index ci N j k : Nat} (d : decode M.2.2.1 pc = .ok (.getfield index, 3)) (f : m_fl M.1 index ci N j) (hk : oF[k]? = some (ci + 5, N)) (ht : m_tk (m_ty ci j) ≠ 1 ∧ m_tk (m_ty ci j) ≠ 3) (kk : ∀ x : Int, h k j = x → m_Z oF M (pc + 3) ls (mI x :: st) h Q) : m_Z oF M pc ls (mR k :: st) h Q := z_getI pc d f hk ht (kk _ rfl)
theorem z_getIE (pc : Nat) {index ci N j k : Nat} {x : Int} (d : decode M.2.2.1 pc = .ok (.getfield index, 3)) (f : m_fl M.1 index ci N j) (hk : oF[k]? = some (ci + 5, N)) (ht : m_tk (m_ty ci j) ≠ 1 ∧ m_tk (m_ty ci j) ≠ 3) (e : h k j = x) (kk : m_Z oF M (pc + 3) ls (mI x :: st) h Q) : m_Z oF M pc ls (mR k :: st) h Q := z_getI pc d f hk ht (by rw [e]; exact kk)
theorem z_getJG (pc : Nat) {index ci N j k : Nat} {lo hi : Int} (d : decode M.2.2.1 pc = .ok (.getfield index, 3)) (f : m_fl M.1 index ci N j) (hk : oF[k]? = some (ci + 5, N)) (ht : m_tk (m_ty ci j) = 1) (hb : lo ≤ h k j ∧ h k j ≤ hi) (kk : ∀ x : Int, h k j = x → lo ≤ x → x ≤ hi → m_Z oF M (pc + 3) ls (mJ x :: st) h Q) : m_Z oF M pc ls (mR k :: st) h Q := z_getJ pc d f hk ht (kk _ rfl hb.1 hb.2)
theorem z_getJV (pc : Nat) {index ci N j k : Nat} (d : decode M.2.2.1 pc = .ok (.getfield index, 3)) (f : m_fl M.1 index ci N j) (hk : oF[k]? = some (ci + 5, N)) (ht : m_tk (m_ty ci j) = 1) (kk : ∀ x : Int, h k j = x → m_Z oF M (pc + 3) ls (mJ x :: st) h Q) : m_Z oF M pc ls (mR k :: st) h Q := z_getJ pc d f hk ht (kk _ rfl)
theorem z_getJE (pc : Nat) {index ci N j k : Nat} {x : Int} (d : decode M.2.2.1 pc = .ok (.getfield index, 3)) (f : m_fl M.1 index ci N j) (hk : oF[k]? = some (ci + 5, N)) (ht : m_tk (m_ty ci j) = 1) (e : h k j = x) (kk : m_Z oF M (pc + 3) ls (mJ x :: st) h Q) : m_Z oF M pc ls (mR k :: st) h Q := z_getJ pc d f hk ht (by rw [e]; exact kk)
theorem z_iastH (pc : Nat) {k n : Nat} {i x : Int} (d : decode M.2.2.1 pc = .ok (.iastore, 1)) (hk : oF[k]? = some (0, n)) (h0' : 0 ≤ i) (h1 : i < n) (hG : GI (m_up h k i.toNat x)) (hR : FR cs ss h0 (m_up h k i.toNat x)) (kk : ∀ h' : m_H, h' = m_up h k i.toNat x → GI h' → FR cs ss h0 h' → m_Z oF M (pc + 1) ls st h' Q) : m_Z oF M pc ls (mI x :: mI i :: mR k :: st) h Q := z_iast pc d hk h0' h1 (kk _ rfl hG hR)
theorem z_lastH (pc : Nat) {k n : Nat} {i x : Int} (d : decode M.2.2.1 pc = .ok (.lastore, 1)) (hk : oF[k]? = some (1, n)) (h0' : 0 ≤ i) (h1 : i < n) (hG : GI (m_up h k i.toNat x)) (hR : FR cs ss h0 (m_up h k i.toNat x)) (kk : ∀ h' : m_H, h' = m_up h k i.toNat x → GI h' → FR cs ss h0 h' → m_Z oF M (pc + 1) ls st h' Q) : m_Z oF M pc ls (mJ x :: mI i :: mR k :: st) h Q := z_last pc d hk h0' h1 (kk _ rfl hG hR)
theorem z_zastH (pc : Nat) {k n : Nat} {i x : Int} (d : decode M.2.2.1 pc = .ok (.bastore, 1)) (hk : oF[k]? = some (2, n)) (h0' : 0 ≤ i) (h1 : i < n) (hx : x = 0 ∨ x = 1) (hG : GI (m_up h k i.toNat x)) (hR : FR cs ss h0 (m_up h k i.toNat x)) (kk : ∀ h' : m_H, h' = m_up h k i.toNat x → GI h' → FR cs ss h0 h' → m_Z oF M (pc + 1) ls st h' Q) : m_Z oF M pc ls (mI x :: mI i :: mR k :: st) h Q := z_zast pc d hk h0' h1 hx (kk _ rfl hG hR)
theorem z_putIH (pc : Nat) {index ci N j k : Nat} {x : Int} (d : decode M.2.2.1 pc = .ok (.putfield index, 3)) (f : m_fp M.1 index ci N j) (hk : oF[k]? = some (ci + 5, N)) (ht : m_ty ci j = .int) (hG : GI (m_up h k j x)) (hR : FR cs ss h0 (m_up h k j x)) (kk : ∀ h' : m_H, h' = m_up h k j x → GI h' → FR cs ss h0 h' → m_Z oF M (pc + 3) ls st h' Q) : m_Z oF M pc ls (mI x :: mR k :: st) h Q := z_putI pc d f hk ht (kk _ rfl hG hR)
theorem z_putZH (pc : Nat) {index ci N j k : Nat} {x : Int} (d : decode M.2.2.1 pc = .ok (.putfield index, 3)) (f : m_fp M.1 index ci N j) (hk : oF[k]? = some (ci + 5, N)) (ht : m_ty ci j = .boolean) (hx : x = 0 ∨ x = 1) (hG : GI (m_up h k j x)) (hR : FR cs ss h0 (m_up h k j x)) (kk : ∀ h' : m_H, h' = m_up h k j x → GI h' → FR cs ss h0 h' → m_Z oF M (pc + 3) ls st h' Q) : m_Z oF M pc ls (mI x :: mR k :: st) h Q := z_putZ pc d f hk ht hx (kk _ rfl hG hR)
theorem z_putJH (pc : Nat) {index ci N j k : Nat} {x : Int} (d : decode M.2.2.1 pc = .ok (.putfield index, 3)) (f : m_fp M.1 index ci N j) (hk : oF[k]? = some (ci + 5, N)) (ht : m_ty ci j = .long) (hG : GI (m_up h k j x)) (hR : FR cs ss h0 (m_up h k j x)) (kk : ∀ h' : m_H, h' = m_up h k j x → GI h' → FR cs ss h0 h' → m_Z oF M (pc + 3) ls st h' Q) : m_Z oF M pc ls (mJ x :: mR k :: st) h Q := z_putJ pc d f hk ht (kk _ rfl hG hR)
theorem z_if_eq_T (pc : Nat) {x off : Int} (d : decode M.2.2.1 pc = .ok (.ifCond .eq off, 3)) (tgt : Nat) (ht : (pc : Int) + off = (tgt : Int)) (hc : x = 0) (k : m_Z oF M tgt ls st h Q) : m_Z oF M pc ls (mI x :: st) h Q := z_if_eq pc d tgt ht (fun _ => k) (fun q => absurd hc (q))
theorem z_if_eq_F (pc : Nat) {x off : Int} (d : decode M.2.2.1 pc = .ok (.ifCond .eq off, 3)) (tgt : Nat) (ht : (pc : Int) + off = (tgt : Int)) (hc : ¬ x = 0) (k : m_Z oF M (pc + 3) ls st h Q) : m_Z oF M pc ls (mI x :: st) h Q := z_if_eq pc d tgt ht (fun q => absurd q hc) (fun _ => k)
theorem z_icmp_eq_T (pc : Nat) {x y off : Int} (d : decode M.2.2.1 pc = .ok (.if_icmp .eq off, 3)) (tgt : Nat) (ht : (pc : Int) + off = (tgt : Int)) (hc : x = y) (k : m_Z oF M tgt ls st h Q) : m_Z oF M pc ls (mI y :: mI x :: st) h Q := z_icmp_eq pc d tgt ht (fun _ => k) (fun q => absurd hc (q))
theorem z_icmp_eq_F (pc : Nat) {x y off : Int} (d : decode M.2.2.1 pc = .ok (.if_icmp .eq off, 3)) (tgt : Nat) (ht : (pc : Int) + off = (tgt : Int)) (hc : ¬ x = y) (k : m_Z oF M (pc + 3) ls st h Q) : m_Z oF M pc ls (mI y :: mI x :: st) h Q := z_icmp_eq pc d tgt ht (fun q => absurd q hc) (fun _ => k)
theorem z_if_ne_T (pc : Nat) {x off : Int} (d : decode M.2.2.1 pc = .ok (.ifCond .ne off, 3)) (tgt : Nat) (ht : (pc : Int) + off = (tgt : Int)) (hc : ¬ x = 0) (k : m_Z oF M tgt ls st h Q) : m_Z oF M pc ls (mI x :: st) h Q := z_if_ne pc d tgt ht (fun _ => k) (fun q => absurd hc (not_not_intro q))
theorem z_if_ne_F (pc : Nat) {x off : Int} (d : decode M.2.2.1 pc = .ok (.ifCond .ne off, 3)) (tgt : Nat) (ht : (pc : Int) + off = (tgt : Int)) (hc : x = 0) (k : m_Z oF M (pc + 3) ls st h Q) : m_Z oF M pc ls (mI x :: st) h Q := z_if_ne pc d tgt ht (fun q => absurd hc q) (fun _ => k)
theorem z_icmp_ne_T (pc : Nat) {x y off : Int} (d : decode M.2.2.1 pc = .ok (.if_icmp .ne off, 3)) (tgt : Nat) (ht : (pc : Int) + off = (tgt : Int)) (hc : ¬ x = y) (k : m_Z oF M tgt ls st h Q) : m_Z oF M pc ls (mI y :: mI x :: st) h Q := z_icmp_ne pc d tgt ht (fun _ => k) (fun q => absurd hc (not_not_intro q))
theorem z_icmp_ne_F (pc : Nat) {x y off : Int} (d : decode M.2.2.1 pc = .ok (.if_icmp .ne off, 3)) (tgt : Nat) (ht : (pc : Int) + off = (tgt : Int)) (hc : x = y) (k : m_Z oF M (pc + 3) ls st h Q) : m_Z oF M pc ls (mI y :: mI x :: st) h Q := z_icmp_ne pc d tgt ht (fun q => absurd hc q) (fun _ => k)
theorem z_if_lt_T (pc : Nat) {x off : Int} (d : decode M.2.2.1 pc = .ok (.ifCond .lt off, 3)) (tgt : Nat) (ht : (pc : Int) + off = (tgt : Int)) (hc : x < 0) (k : m_Z oF M tgt ls st h Q) : m_Z oF M pc ls (mI x :: st) h Q := z_if_lt pc d tgt ht (fun _ => k) (fun q => absurd hc (q))
theorem z_if_lt_F (pc : Nat) {x off : Int} (d : decode M.2.2.1 pc = .ok (.ifCond .lt off, 3)) (tgt : Nat) (ht : (pc : Int) + off = (tgt : Int)) (hc : ¬ x < 0) (k : m_Z oF M (pc + 3) ls st h Q) : m_Z oF M pc ls (mI x :: st) h Q := z_if_lt pc d tgt ht (fun q => absurd q hc) (fun _ => k)
theorem z_icmp_lt_T (pc : Nat) {x y off : Int} (d : decode M.2.2.1 pc = .ok (.if_icmp .lt off, 3)) (tgt : Nat) (ht : (pc : Int) + off = (tgt : Int)) (hc : x < y) (k : m_Z oF M tgt ls st h Q) : m_Z oF M pc ls (mI y :: mI x :: st) h Q := z_icmp_lt pc d tgt ht (fun _ => k) (fun q => absurd hc (q))
theorem z_icmp_lt_F (pc : Nat) {x y off : Int} (d : decode M.2.2.1 pc = .ok (.if_icmp .lt off, 3)) (tgt : Nat) (ht : (pc : Int) + off = (tgt : Int)) (hc : ¬ x < y) (k : m_Z oF M (pc + 3) ls st h Q) : m_Z oF M pc ls (mI y :: mI x :: st) h Q := z_icmp_lt pc d tgt ht (fun q => absurd q hc) (fun _ => k)
theorem z_if_ge_T (pc : Nat) {x off : Int} (d : decode M.2.2.1 pc = .ok (.ifCond .ge off, 3)) (tgt : Nat) (ht : (pc : Int) + off = (tgt : Int)) (hc : 0 ≤ x) (k : m_Z oF M tgt ls st h Q) : m_Z oF M pc ls (mI x :: st) h Q := z_if_ge pc d tgt ht (fun _ => k) (fun q => absurd hc (q))
theorem z_if_ge_F (pc : Nat) {x off : Int} (d : decode M.2.2.1 pc = .ok (.ifCond .ge off, 3)) (tgt : Nat) (ht : (pc : Int) + off = (tgt : Int)) (hc : ¬ 0 ≤ x) (k : m_Z oF M (pc + 3) ls st h Q) : m_Z oF M pc ls (mI x :: st) h Q := z_if_ge pc d tgt ht (fun q => absurd q hc) (fun _ => k)
theorem z_icmp_ge_T (pc : Nat) {x y off : Int} (d : decode M.2.2.1 pc = .ok (.if_icmp .ge off, 3)) (tgt : Nat) (ht : (pc : Int) + off = (tgt : Int)) (hc : y ≤ x) (k : m_Z oF M tgt ls st h Q) : m_Z oF M pc ls (mI y :: mI x :: st) h Q := z_icmp_ge pc d tgt ht (fun _ => k) (fun q => absurd hc (q))
theorem z_icmp_ge_F (pc : Nat) {x y off : Int} (d : decode M.2.2.1 pc = .ok (.if_icmp .ge off, 3)) (tgt : Nat) (ht : (pc : Int) + off = (tgt : Int)) (hc : ¬ y ≤ x) (k : m_Z oF M (pc + 3) ls st h Q) : m_Z oF M pc ls (mI y :: mI x :: st) h Q := z_icmp_ge pc d tgt ht (fun q => absurd q hc) (fun _ => k)
theorem z_if_gt_T (pc : Nat) {x off : Int} (d : decode M.2.2.1 pc = .ok (.ifCond .gt off, 3)) (tgt : Nat) (ht : (pc : Int) + off = (tgt : Int)) (hc : 0 < x) (k : m_Z oF M tgt ls st h Q) : m_Z oF M pc ls (mI x :: st) h Q := z_if_gt pc d tgt ht (fun _ => k) (fun q => absurd hc (q))
theorem z_if_gt_F (pc : Nat) {x off : Int} (d : decode M.2.2.1 pc = .ok (.ifCond .gt off, 3)) (tgt : Nat) (ht : (pc : Int) + off = (tgt : Int)) (hc : ¬ 0 < x) (k : m_Z oF M (pc + 3) ls st h Q) : m_Z oF M pc ls (mI x :: st) h Q := z_if_gt pc d tgt ht (fun q => absurd q hc) (fun _ => k)
theorem z_icmp_gt_T (pc : Nat) {x y off : Int} (d : decode M.2.2.1 pc = .ok (.if_icmp .gt off, 3)) (tgt : Nat) (ht : (pc : Int) + off = (tgt : Int)) (hc : y < x) (k : m_Z oF M tgt ls st h Q) : m_Z oF M pc ls (mI y :: mI x :: st) h Q := z_icmp_gt pc d tgt ht (fun _ => k) (fun q => absurd hc (q))
theorem z_icmp_gt_F (pc : Nat) {x y off : Int} (d : decode M.2.2.1 pc = .ok (.if_icmp .gt off, 3)) (tgt : Nat) (ht : (pc : Int) + off = (tgt : Int)) (hc : ¬ y < x) (k : m_Z oF M (pc + 3) ls st h Q) : m_Z oF M pc ls (mI y :: mI x :: st) h Q := z_icmp_gt pc d tgt ht (fun q => absurd q hc) (fun _ => k)
theorem z_if_le_T (pc : Nat) {x off : Int} (d : decode M.2.2.1 pc = .ok (.ifCond .le off, 3)) (tgt : Nat) (ht : (pc : Int) + off = (tgt : Int)) (hc : x ≤ 0) (k : m_Z oF M tgt ls st h Q) : m_Z oF M pc ls (mI x :: st) h Q := z_if_le pc d tgt ht (fun _ => k) (fun q => absurd hc (q))
theorem z_if_le_F (pc : Nat) {x off : Int} (d : decode M.2.2.1 pc = .ok (.ifCond .le off, 3)) (tgt : Nat) (ht : (pc : Int) + off = (tgt : Int)) (hc : ¬ x ≤ 0) (k : m_Z oF M (pc + 3) ls st h Q) : m_Z oF M pc ls (mI x :: st) h Q := z_if_le pc d tgt ht (fun q => absurd q hc) (fun _ => k)
theorem z_icmp_le_T (pc : Nat) {x y off : Int} (d : decode M.2.2.1 pc = .ok (.if_icmp .le off, 3)) (tgt : Nat) (ht : (pc : Int) + off = (tgt : Int)) (hc : x ≤ y) (k : m_Z oF M tgt ls st h Q) : m_Z oF M pc ls (mI y :: mI x :: st) h Q := z_icmp_le pc d tgt ht (fun _ => k) (fun q => absurd hc (q))
theorem z_icmp_le_F (pc : Nat) {x y off : Int} (d : decode M.2.2.1 pc = .ok (.if_icmp .le off, 3)) (tgt : Nat) (ht : (pc : Int) + off = (tgt : Int)) (hc : ¬ x ≤ y) (k : m_Z oF M (pc + 3) ls st h Q) : m_Z oF M pc ls (mI y :: mI x :: st) h Q := z_icmp_le pc d tgt ht (fun q => absurd q hc) (fun _ => k)
end ZL
