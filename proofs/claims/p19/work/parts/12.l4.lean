theorem im_step {h h' : m_H} {a l x : Int} (ha : 0 ≤ a) (h1 : 0 ≤ l) (h2 : l ≤ 199) (E : h' = m_up h 111 (200 * a + l).toNat x) (hx : r_lo l.toNat ≤ x ∧ x ≤ r_hi l.toNat) (I : ∀ j : Nat, (j : Int) < l → r_lo j ≤ h 111 (200 * a.toNat + j) ∧ h 111 (200 * a.toNat + j) ≤ r_hi j) : ∀ j : Nat, (j : Int) < l + 1 → r_lo j ≤ h' 111 (200 * a.toNat + j) ∧ h' 111 (200 * a.toNat + j) ≤ r_hi j := by
  intro j hj
  by_cases hjl : (j : Int) = l
  · have e1 : 200 * a.toNat + j = (200 * a + l).toNat := by omega
    have e2 : l.toNat = j := by omega
    rw [e1, E, m_up_eq]
    rw [e2] at hx
    exact hx
  · rw [E, m_up_ne (fun q => by have := q.2; omega)]
    exact I j (by omega)
theorem bk_b {h : m_H} (G : GI h) {a l : Int} (h1 : 0 ≤ a) (h2 : a ≤ 1) (h3 : 0 ≤ l) (h4 : l ≤ 199) (k : h 112 a.toNat ≠ 0) : r_lo l.toNat ≤ h 111 (200 * a + l).toNat ∧ h 111 (200 * a + l).toNat ≤ r_hi l.toNat := by
  have h5 := G.2 a.toNat (by omega) k l.toNat (by omega)
  have e1 : (200 * a + l).toNat = 200 * a.toNat + l.toNat := by omega
  rw [e1]; exact h5
theorem eq_ad {a b t c : Int} (f : a = b + c) (e : b = t) : a = t + c := by omega
theorem z_iincW {M : m_M} {ls : List (Option m_V)} {st : List m_V} {h : m_H} {Q : m_W → Option m_V → m_H → Prop} (pc : Nat) {n : Nat} {i x : Int} (d : decode M.2.2.1 pc = .ok (.iinc n i, 3)) (hn : n < M.2.2.2.1) (hl : ls[n]? = some (some (mI x))) (hi : m_32 i) (k : ∀ y : Int, m_32 y → m_Z oF M (pc + 3) (m_st1 ls n (mI y)) st h Q) : m_Z oF M pc ls st h Q := z_iinc pc d hn hl hi rfl (k _ (m_w_ok _))
theorem z_ls {M : m_M} {pc : Nat} {ls ls' : List (Option m_V)} {st : List m_V} {h : m_H} {Q : m_W → Option m_V → m_H → Prop} (e : ls = ls') (k : m_Z oF M pc ls' st h Q) : m_Z oF M pc ls st h Q := by subst e; exact k
