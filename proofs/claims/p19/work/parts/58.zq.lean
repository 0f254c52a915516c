/-! the tape's bytes -/
def byt (v k : Int) : Int := m_and (m_shr v k) 255
def tp4 (b : Nat → Int) (n v : Int) : Nat → Int := fun j => if j = n.toNat then byt v 24 else if j = (n + 1).toNat then byt v 16 else if j = (n + 2).toNat then byt v 8 else if j = (n + 3).toNat then byt v 0 else b j
theorem tp4_c {b b' : Nat → Int} {n v : Int} (h0 : 0 ≤ n) (e : ∀ j : Nat, (j : Int) < n → b' j = b j) : ∀ j : Nat, (j : Int) < n + 4 → tp4 b' n v j = tp4 b n v j := by
  intro j hj
  unfold tp4
  by_cases c0 : j = n.toNat
  · rw [if_pos c0, if_pos c0]
  by_cases c1 : j = (n + 1).toNat
  · rw [if_neg c0, if_neg c0, if_pos c1, if_pos c1]
  by_cases c2 : j = (n + 2).toNat
  · rw [if_neg c0, if_neg c0, if_neg c1, if_neg c1, if_pos c2, if_pos c2]
  by_cases c3 : j = (n + 3).toNat
  · rw [if_neg c0, if_neg c0, if_neg c1, if_neg c1, if_neg c2, if_neg c2, if_pos c3, if_pos c3]
  · rw [if_neg c0, if_neg c0, if_neg c1, if_neg c1, if_neg c2, if_neg c2, if_neg c3, if_neg c3]; exact e j (by omega)
def tp20 (b : Nat → Int) (n v1 v2 v3 v4 v5 : Int) : Nat → Int := tp4 (tp4 (tp4 (tp4 (tp4 b n v1) (n + 4) v2) (n + 8) v3) (n + 12) v4) (n + 16) v5
theorem tp20_c {b b' : Nat → Int} {n v1 v2 v3 v4 v5 : Int} (h0 : 0 ≤ n) (e : ∀ j : Nat, (j : Int) < n → b' j = b j) : ∀ j : Nat, (j : Int) < n + 20 → tp20 b' n v1 v2 v3 v4 v5 j = tp20 b n v1 v2 v3 v4 v5 j := by
  have a1 := tp4_c (v := v1) h0 e
  have a2 := tp4_c (v := v2) (n := n + 4) (by omega) a1
  have a3 := tp4_c (v := v3) (n := n + 8) (by omega) (fun j hj => a2 j (by omega))
  have a4 := tp4_c (v := v4) (n := n + 12) (by omega) (fun j hj => a3 j (by omega))
  have a5 := tp4_c (v := v5) (n := n + 16) (by omega) (fun j hj => a4 j (by omega))
  exact fun j hj => a5 j (by omega)
theorem sh24 : ∀ v : BitVec 32, v >>> 24 = (v.sshiftRight 24) &&& 255#32 := by
  intro v
  apply BitVec.eq_of_getLsbD_eq
  intro i hi
  rw [BitVec.getLsbD_ushiftRight, BitVec.getLsbD_and, BitVec.getLsbD_sshiftRight]
  by_cases g : i < 8
  · have e : (255#32).getLsbD i = true := by
      have : ∀ i : Fin 8, (255#32).getLsbD i.1 = true := by decide
      exact this ⟨i, g⟩
    rw [e, Bool.and_true]
    have h1 : ¬ 32 ≤ i := by omega
    have h2 : 24 + i < 32 := by omega
    simp [h1, h2]
  · have e : (255#32).getLsbD i = false := by
      have : ∀ i : Fin 32, 8 ≤ i.1 → (255#32).getLsbD i.1 = false := by decide
      exact this ⟨i, hi⟩ (show 8 ≤ i by omega)
    rw [e, Bool.and_false]
    exact BitVec.getLsbD_of_ge _ _ (by omega)
theorem shk {k : Nat} (hk : k ≤ 24) : ∀ v : BitVec 32, (v >>> k) &&& 255#32 = (v.sshiftRight k) &&& 255#32 := by
  intro v
  apply BitVec.eq_of_getLsbD_eq
  intro i hi
  rw [BitVec.getLsbD_and, BitVec.getLsbD_and, BitVec.getLsbD_ushiftRight, BitVec.getLsbD_sshiftRight]
  by_cases g : i < 8
  · have h1 : ¬ 32 ≤ i := by omega
    have h2 : k + i < 32 := by omega
    simp [h1, h2]
  · have e : (255#32).getLsbD i = false := by
      have : ∀ i : Fin 32, 8 ≤ i.1 → (255#32).getLsbD i.1 = false := by decide
      exact this ⟨i, hi⟩ (show 8 ≤ i by omega)
    rw [e, Bool.and_false, Bool.and_false]
theorem us_b {v : Int} {k : Nat} (hk : k < 32) : (((Int32.ofInt v).toUInt32 >>> ((Int32.ofInt (k : Int)).toUInt32 &&& Int32.toUInt32 31)).toInt32).toBitVec = (Int32.ofInt v).toBitVec >>> k := by
  show ((Int32.ofInt v).toUInt32 >>> ((Int32.ofInt (k : Int)).toUInt32 &&& Int32.toUInt32 31)).toBitVec = _
  rw [UInt32.toBitVec_shiftRight, us_am ⟨k, hk⟩]
  show (Int32.ofInt v).toBitVec >>> (BitVec.ofNat 32 k % 32#32) = _
  rw [us_mod ⟨k, hk⟩, BitVec.ushiftRight_eq', BitVec.toNat_ofNat, Nat.mod_eq_of_lt (show k < 2 ^ 32 by omega)]
theorem sr_b {v : Int} {k : Nat} (hk : k < 32) : (Int32.ofInt v >>> (Int32.ofInt (k : Int) &&& 31)).toBitVec = (Int32.ofInt v).toBitVec.sshiftRight k := by
  rw [Int32.toBitVec_shiftRight, sh_am ⟨k, hk⟩, BitVec.sshiftRight_eq', BitVec.toNat_ofNat, Nat.mod_eq_of_lt (show k < 2 ^ 32 by omega)]
theorem byt_24 {v : Int} : m_ushr v 24 = byt v 24 := by
  unfold m_ushr byt m_and m_shr
  rw [Int32.ofInt_toInt]
  show (BitVec.toInt _) = BitVec.toInt _
  congr 1
  show (((Int32.ofInt v).toUInt32 >>> ((Int32.ofInt ((24 : Nat) : Int)).toUInt32 &&& Int32.toUInt32 31)).toInt32).toBitVec = (Int32.ofInt v >>> (Int32.ofInt ((24 : Nat) : Int) &&& 31) &&& Int32.ofInt 255).toBitVec
  rw [us_b (by decide), Int32.toBitVec_and, sr_b (by decide)]
  exact sh24 _
theorem byt_k {v : Int} {k : Nat} (hk : k ≤ 24) : m_and (m_ushr v (k : Int)) 255 = byt v (k : Int) := by
  unfold m_ushr byt m_and m_shr
  rw [Int32.ofInt_toInt, Int32.ofInt_toInt]
  show (BitVec.toInt _) = BitVec.toInt _
  congr 1
  rw [Int32.toBitVec_and, Int32.toBitVec_and, us_b (by omega), sr_b (by omega)]
  exact shk hk _
theorem byt_0 {v : Int} (h1 : -2147483648 ≤ v) (h2 : v ≤ 2147483647) : m_and v 255 = byt v 0 := by
  unfold byt m_shr m_and
  rw [Int32.ofInt_toInt]
  show (BitVec.toInt _) = BitVec.toInt _
  congr 1
  show (Int32.ofInt v &&& Int32.ofInt 255).toBitVec = (Int32.ofInt v >>> (Int32.ofInt ((0 : Nat) : Int) &&& 31) &&& Int32.ofInt 255).toBitVec
  rw [Int32.toBitVec_and, Int32.toBitVec_and, sr_b (by decide)]
  congr 1
  simp
