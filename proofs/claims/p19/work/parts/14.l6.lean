theorem GI.cp {h : m_H} {k0 k1 n : Nat} {P : Nat → Int → Prop} (G : GI h) (hk0 : g_bt[k0]? = some (n, P)) (hk1 : ∃ P1, g_bt[k1]? = some (n, P1) ∧ ∀ j x, P j x → P1 j x) (hne : k1 ≠ 111 ∧ k1 ≠ 112) : GI (m_cp h k0 k1 n) := by
  obtain ⟨P1, hk1, hP⟩ := hk1
  refine ⟨fun a p ha b hb => ?_, fun a ha z i hi => ?_⟩
  · unfold m_cp
    by_cases hab : a = k1 ∧ b < n
    · rw [if_pos hab]
      obtain ⟨rfl, hbn⟩ := hab
      cases hk1.symm.trans ha
      exact hP b _ (G.1 k0 _ hk0 b hbn)
    · rw [if_neg hab]; exact G.1 a p ha b hb
  · rw [m_cp_row (Ne.symm hne.2)] at z
    rw [m_cp_row (Ne.symm hne.1)]
    exact G.2 a ha z i hi
theorem FR.cp {cs : List Nat} {ss : List (Nat × Nat)} {h h' : m_H} {k0 k1 n : Nat} (R : FR cs ss h h') (hF : ∀ j, fr cs ss k1 j = true) : FR cs ss h (m_cp h' k0 k1 n) := by
  intro a b q
  rw [show m_cp h' k0 k1 n a b = h' a b from congrFun (m_cp_row (fun z => by subst z; rw [hF b] at q; cases q)) b]
  exact R a b q
theorem z_copyH {M : m_M} {ls : List (Option m_V)} {rest : List m_V} {h h0 : m_H} {Q : m_W → Option m_V → m_H → Prop} {cs : List Nat} {ss : List (Nat × Nat)} (pc : Nat) {index k0 k1 n : Nat} {x : Int} (d : decode M.2.2.1 pc = .ok (.invokestatic index, 3)) (lk : Cond.methodLink M.1 index arraycopyName ∈ m_G) (hk0 : oF[k0]? = some (0, n)) (hk1 : oF[k1]? = some (0, n)) (hx : x = (n : Int)) (hn : n ≤ 1000) (hf : 1 ≤ (m_rm M).frames) (hl : m_cs rest + (nativeFrameWords "java/lang/System" "arraycopy" 5 + 11) ≤ (m_rm M).locals)
    (hG : GI (m_cp h k0 k1 n)) (hR : FR cs ss h0 (m_cp h k0 k1 n)) (k : ∀ h' : m_H, h' = m_cp h k0 k1 n → GI h' → FR cs ss h0 h' → m_Z oF M (pc + 3) ls rest h' Q) : m_Z oF M pc ls (mI x :: mI 0 :: mR k1 :: mI 0 :: mR k0 :: rest) h Q := by
  subst hx
  exact z_copy pc d lk hk0 hk1 hn hf hl (k _ rfl hG hR)
theorem isB_42 {i : Int} (h1 : 0 ≤ i) (h2 : i ≤ 15) : isB (43 + i.toNat) := by
  have h3 : ∀ k, k < 16 → isBb (43 + k) = true := by decide
  exact h3 _ (by omega)
theorem isB_59 {i : Int} (h1 : 0 ≤ i) (h2 : i ≤ 15) : isB (60 + i.toNat) := by
  have h3 : ∀ k, k < 16 → isBb (60 + k) = true := by decide
  exact h3 _ (by omega)
theorem isB_76 {i : Int} (h1 : 0 ≤ i) (h2 : i ≤ 15) : isB (77 + i.toNat) := by
  have h3 : ∀ k, k < 16 → isBb (77 + k) = true := by decide
  exact h3 _ (by omega)
theorem isL_17 {i : Int} (h1 : 0 ≤ i) (h2 : i ≤ 1) : isL (18 + 8 * i.toNat) := by
  unfold isL; omega
theorem btL_1 {L : Nat} (hL : isL L) : ∃ P, g_bt[L + 1]? = some (32, P) ∧ ∀ j x, P j x ↔ (-1 : Int) ≤ x ∧ x ≤ 3 := by rcases hL with rfl | rfl | rfl | rfl <;> exact ⟨_, rfl, fun _ _ => Iff.rfl⟩
theorem cpL_1 {h : m_H} {L K : Nat} (hL : isL L) (hK : isL K) (G : GI h) : GI (m_cp h (K + 1) (L + 1) 32) := by
  obtain ⟨P, e1, q1⟩ := btL_1 hK
  obtain ⟨P1, e2, q2⟩ := btL_1 hL
  exact G.cp e1 ⟨P1, e2, fun j x z => (q2 j x).mpr ((q1 j x).mp z)⟩ (by unfold isL at hL; omega)
theorem btL_2 {L : Nat} (hL : isL L) : ∃ P, g_bt[L + 2]? = some (6, P) ∧ ∀ j x, P j x ↔ (-1 : Int) ≤ x ∧ x ≤ 31 := by rcases hL with rfl | rfl | rfl | rfl <;> exact ⟨_, rfl, fun _ _ => Iff.rfl⟩
theorem cpL_2 {h : m_H} {L K : Nat} (hL : isL L) (hK : isL K) (G : GI h) : GI (m_cp h (K + 2) (L + 2) 6) := by
  obtain ⟨P, e1, q1⟩ := btL_2 hK
  obtain ⟨P1, e2, q2⟩ := btL_2 hL
  exact G.cp e1 ⟨P1, e2, fun j x z => (q2 j x).mpr ((q1 j x).mp z)⟩ (by unfold isL at hL; omega)
theorem btL_3 {L : Nat} (hL : isL L) : ∃ P, g_bt[L + 3]? = some (24, P) ∧ ∀ j x, P j x ↔ (0 : Int) ≤ x ∧ x ≤ 5 := by rcases hL with rfl | rfl | rfl | rfl <;> exact ⟨_, rfl, fun _ _ => Iff.rfl⟩
theorem cpL_3 {h : m_H} {L K : Nat} (hL : isL L) (hK : isL K) (G : GI h) : GI (m_cp h (K + 3) (L + 3) 24) := by
  obtain ⟨P, e1, q1⟩ := btL_3 hK
  obtain ⟨P1, e2, q2⟩ := btL_3 hL
  exact G.cp e1 ⟨P1, e2, fun j x z => (q2 j x).mpr ((q1 j x).mp z)⟩ (by unfold isL at hL; omega)
theorem btL_4 {L : Nat} (hL : isL L) : ∃ P, g_bt[L + 4]? = some (24, P) ∧ ∀ j x, P j x ↔ (0 : Int) ≤ x ∧ x ≤ 31 := by rcases hL with rfl | rfl | rfl | rfl <;> exact ⟨_, rfl, fun _ _ => Iff.rfl⟩
theorem cpL_4 {h : m_H} {L K : Nat} (hL : isL L) (hK : isL K) (G : GI h) : GI (m_cp h (K + 4) (L + 4) 24) := by
  obtain ⟨P, e1, q1⟩ := btL_4 hK
  obtain ⟨P1, e2, q2⟩ := btL_4 hL
  exact G.cp e1 ⟨P1, e2, fun j x z => (q2 j x).mpr ((q1 j x).mp z)⟩ (by unfold isL at hL; omega)
theorem btL_5 {L : Nat} (hL : isL L) : ∃ P, g_bt[L + 5]? = some (24, P) ∧ ∀ j x, P j x ↔ (0 : Int) ≤ x ∧ x ≤ 99 := by rcases hL with rfl | rfl | rfl | rfl <;> exact ⟨_, rfl, fun _ _ => Iff.rfl⟩
theorem cpL_5 {h : m_H} {L K : Nat} (hL : isL L) (hK : isL K) (G : GI h) : GI (m_cp h (K + 5) (L + 5) 24) := by
  obtain ⟨P, e1, q1⟩ := btL_5 hK
  obtain ⟨P1, e2, q2⟩ := btL_5 hL
  exact G.cp e1 ⟨P1, e2, fun j x z => (q2 j x).mpr ((q1 j x).mp z)⟩ (by unfold isL at hL; omega)
theorem btL_6 {L : Nat} (hL : isL L) : ∃ P, g_bt[L + 6]? = some (24, P) ∧ ∀ j x, P j x ↔ (0 : Int) ≤ x ∧ x ≤ 2 := by rcases hL with rfl | rfl | rfl | rfl <;> exact ⟨_, rfl, fun _ _ => Iff.rfl⟩
theorem cpL_6 {h : m_H} {L K : Nat} (hL : isL L) (hK : isL K) (G : GI h) : GI (m_cp h (K + 6) (L + 6) 24) := by
  obtain ⟨P, e1, q1⟩ := btL_6 hK
  obtain ⟨P1, e2, q2⟩ := btL_6 hL
  exact G.cp e1 ⟨P1, e2, fun j x z => (q2 j x).mpr ((q1 j x).mp z)⟩ (by unfold isL at hL; omega)
theorem btL_7 {L : Nat} (hL : isL L) : ∃ P, g_bt[L + 7]? = some (16, P) ∧ ∀ j x, P j x ↔ (1 : Int) ≤ x ∧ x ≤ 9999 := by rcases hL with rfl | rfl | rfl | rfl <;> exact ⟨_, rfl, fun _ _ => Iff.rfl⟩
theorem cpL_7 {h : m_H} {L K : Nat} (hL : isL L) (hK : isL K) (G : GI h) : GI (m_cp h (K + 7) (L + 7) 16) := by
  obtain ⟨P, e1, q1⟩ := btL_7 hK
  obtain ⟨P1, e2, q2⟩ := btL_7 hL
  exact G.cp e1 ⟨P1, e2, fun j x z => (q2 j x).mpr ((q1 j x).mp z)⟩ (by unfold isL at hL; omega)
