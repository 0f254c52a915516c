/-! bits, and how many -/
def bt (c : Int) (e : Nat) : Bool := (Int32.ofInt c).toBitVec.getLsbD e
theorem sh_am : ∀ e : Fin 32, ((Int32.ofInt (e.1 : Int) &&& 31).toBitVec.smod 32) = BitVec.ofNat 32 e.1 := by decide +kernel
theorem bit_1 (x : BitVec 32) : (x &&& 1#32 = 1#32) ↔ x.getLsbD 0 = true := by
  constructor
  · intro h
    have := congrArg (fun y => BitVec.getLsbD y 0) h
    simpa using this
  · intro h
    ext i hi
    by_cases q : i = 0
    · subst q; simp [← BitVec.getLsbD_eq_getElem, h]
    · simp [q]
theorem hasBit_iff {c : Int} {e : Nat} (he : e < 32) : m_and (m_shr c e) 1 = 1 ↔ bt c e = true := by
  unfold m_and m_shr bt
  rw [Int32.ofInt_toInt]
  have k : ∀ x : Int32, x.toInt = 1 ↔ x.toBitVec = 1#32 := by
    intro x
    constructor
    · intro h
      have : x = 1 := Int32.toInt_inj.mp h
      rw [this]; rfl
    · intro h
      have : x = 1 := Int32.toBitVec_inj.mp h
      rw [this]; rfl
  rw [k]
  rw [Int32.toBitVec_and, Int32.toBitVec_shiftRight, sh_am ⟨e, he⟩]
  show (_ &&& 1#32) = 1#32 ↔ _
  rw [bit_1]
  rw [BitVec.sshiftRight_eq', BitVec.getLsbD_sshiftRight]
  have e1 : (BitVec.ofNat 32 e).toNat = e := by simp [Nat.mod_eq_of_lt (show e < 4294967296 by omega)]
  rw [e1]
  have e2 : e + 0 < 32 := by omega
  simp [he]
theorem one_sh {e j : Nat} (he : e < 32) (hj : j < 32) : BitVec.getLsbD ((1#32 : BitVec 32) <<< BitVec.ofNat 32 e) j = decide (j = e) := by
  have e1 : (BitVec.ofNat 32 e).toNat = e := by simp [Nat.mod_eq_of_lt (show e < 4294967296 by omega)]
  rw [BitVec.shiftLeft_eq', e1, BitVec.getLsbD_shiftLeft]
  by_cases q : j < e
  · simp [q, hj]; omega
  · by_cases q2 : j = e
    · subst q2; simp [hj]
    · have : j - e ≠ 0 := by omega
      simp [hj, q, q2]; omega
theorem bt_or {c : Int} {e j : Nat} (he : e < 32) (hj : j < 32) : bt (m_or c (m_shl 1 e)) j = (bt c j || decide (j = e)) := by
  unfold bt m_or m_shl
  rw [Int32.ofInt_toInt, Int32.ofInt_toInt, Int32.toBitVec_or, Int32.toBitVec_shiftLeft, sh_am ⟨e, he⟩, BitVec.getLsbD_or]
  congr 1
  exact one_sh he hj
theorem ones_b : ∀ j : Fin 32, (Int32.ofInt (-1)).toBitVec.getLsbD j.1 = true := by decide
theorem bt_an {c : Int} {e j : Nat} (he : e < 32) (hj : j < 32) : bt (m_and c (m_xor (m_shl 1 e) (-1))) j = (bt c j && !decide (j = e)) := by
  unfold bt m_and m_xor m_shl
  rw [Int32.ofInt_toInt, Int32.ofInt_toInt, Int32.ofInt_toInt, Int32.toBitVec_and, Int32.toBitVec_xor, Int32.toBitVec_shiftLeft, sh_am ⟨e, he⟩, BitVec.getLsbD_and, BitVec.getLsbD_xor, ones_b ⟨j, hj⟩]
  congr 1
  rw [Bool.xor_true]
  exact congrArg (fun x => !x) (one_sh he hj)
theorem nb {a : Nat} : (Int32.ofInt (a : Int)).toBitVec = BitVec.ofNat 32 a := by
  show BitVec.ofInt 32 (a : Int) = _
  rw [BitVec.ofInt_natCast]
theorem nbi {v : BitVec 32} {a : Nat} (h : v.toNat = a) (ha : a < 2147483648) : v.toInt = (a : Int) := by
  rw [BitVec.toInt_eq_toNat_of_lt (by omega), h]
theorem m_and_n {a b : Nat} (ha : a < 2147483648) (hb : b < 2147483648) : m_and (a : Int) (b : Int) = ((a &&& b : Nat) : Int) := by
  unfold m_and
  show ((Int32.ofInt (a : Int) &&& Int32.ofInt (b : Int)).toBitVec).toInt = _
  rw [Int32.toBitVec_and, nb, nb]
  refine nbi ?_ (Nat.lt_of_le_of_lt Nat.and_le_left ha)
  rw [BitVec.toNat_and, BitVec.toNat_ofNat, BitVec.toNat_ofNat, Nat.mod_eq_of_lt (show a < 2 ^ 32 by omega), Nat.mod_eq_of_lt (show b < 2 ^ 32 by omega)]
theorem us_am : ∀ k : Fin 32, ((Int32.ofInt (k.1 : Int)).toUInt32 &&& Int32.toUInt32 31).toBitVec = BitVec.ofNat 32 k.1 := by decide +kernel
theorem us_mod : ∀ k : Fin 32, (BitVec.ofNat 32 k.1 % 32#32) = BitVec.ofNat 32 k.1 := by decide +kernel
theorem m_ushr_n {a k : Nat} (ha : a < 2147483648) (hk : k < 32) : m_ushr (a : Int) (k : Int) = ((a >>> k : Nat) : Int) := by
  unfold m_ushr
  show (((Int32.ofInt (a : Int)).toUInt32 >>> ((Int32.ofInt (k : Int)).toUInt32 &&& Int32.toUInt32 31)).toBitVec).toInt = _
  have hs : a >>> k ≤ a := by rw [Nat.shiftRight_eq_div_pow]; exact Nat.div_le_self _ _
  refine nbi ?_ (Nat.lt_of_le_of_lt hs ha)
  rw [UInt32.toBitVec_shiftRight, us_am ⟨k, hk⟩]
  show ((Int32.ofInt (a : Int)).toBitVec >>> (BitVec.ofNat 32 k % 32#32)).toNat = _
  rw [us_mod ⟨k, hk⟩, nb, BitVec.ushiftRight_eq', BitVec.toNat_ushiftRight, BitVec.toNat_ofNat, BitVec.toNat_ofNat, Nat.mod_eq_of_lt (show a < 2 ^ 32 by omega), Nat.mod_eq_of_lt (show k < 2 ^ 32 by omega)]
def bcN (x : Nat) : Nat :=
  let a := x - ((x >>> 1) &&& 1431655765)
  let b := (a &&& 858993459) + ((a >>> 2) &&& 858993459)
  let c := (b + (b >>> 4)) &&& 252645135
  let d := c + (c >>> 8)
  let e := d + (d >>> 16)
  e &&& 63
def T8 (l : Nat) : Nat := (l % 2) + (l / 2 % 2) + (l / 4 % 2) + (l / 8 % 2) + (l / 16 % 2) + (l / 32 % 2) + (l / 64 % 2) + (l / 128 % 2)
def bAll (n : Nat) (f : Nat → Bool) : Bool := n.rec true (fun k r => f k && r)
theorem bc_all : bAll 256 (fun h => bAll 256 (fun l => Nat.beq (bcN (256 * h + l)) (T8 h + T8 l))) = true := by decide +kernel
theorem T8_all : bAll 256 (fun l => bAll 8 (fun p => l / 2 ^ p % 2 == 1 || T8 (l + 2 ^ p) == T8 l + 1)) = true := by decide +kernel
theorem bAll_s {f : Nat → Bool} : ∀ {n : Nat}, bAll n f = true → ∀ k, k < n → f k = true
  | 0, _, k, hk => absurd hk (Nat.not_lt_zero _)
  | n + 1, h, k, hk => by
    have h' : (f n && bAll n f) = true := h
    rw [Bool.and_eq_true] at h'
    by_cases q : k = n
    · rw [q]; exact h'.1
    · exact bAll_s h'.2 k (by omega)
theorem bc_split {h l : Nat} (hh : h < 256) (hl : l < 256) : bcN (256 * h + l) = T8 h + T8 l := Nat.eq_of_beq_eq_true (bAll_s (bAll_s bc_all h hh) l hl)
theorem T8_add {l p : Nat} (hl : l < 256) (hp : p < 8) (hb : l / 2 ^ p % 2 = 0) : T8 (l + 2 ^ p) = T8 l + 1 := by
  have z := bAll_s (bAll_s T8_all l hl) p hp
  rw [Bool.or_eq_true, beq_iff_eq, beq_iff_eq] at z
  omega
theorem bc_add {x p : Nat} (hx : x < 65536) (hp : p < 16) (hb : x / 2 ^ p % 2 = 0) : bcN (x + 2 ^ p) = bcN x + 1 := by
  have e0 : x = 256 * (x / 256) + x % 256 := by omega
  have l1 : x % 256 < 256 := by omega
  have l2 : x / 256 < 256 := by omega
  have s0 : bcN x = T8 (x / 256) + T8 (x % 256) := by rw [e0]; rw [bc_split (by omega) (by omega)]; congr 2 <;> omega
  have q : p = 0 ∨ p = 1 ∨ p = 2 ∨ p = 3 ∨ p = 4 ∨ p = 5 ∨ p = 6 ∨ p = 7 ∨ p = 8 ∨ p = 9 ∨ p = 10 ∨ p = 11 ∨ p = 12 ∨ p = 13 ∨ p = 14 ∨ p = 15 := by omega
  rcases q with rfl | rfl | rfl | rfl | rfl | rfl | rfl | rfl | rfl | rfl | rfl | rfl | rfl | rfl | rfl | rfl
  · have t := T8_add (l := x % 256) (p := 0) l1 (by omega) (by omega)
    have e1 : x + 2 ^ 0 = 256 * (x / 256) + (x % 256 + 2 ^ 0) := by omega
    rw [e1, bc_split l2 (by omega), t, s0]; omega
  · have t := T8_add (l := x % 256) (p := 1) l1 (by omega) (by omega)
    have e1 : x + 2 ^ 1 = 256 * (x / 256) + (x % 256 + 2 ^ 1) := by omega
    rw [e1, bc_split l2 (by omega), t, s0]; omega
  · have t := T8_add (l := x % 256) (p := 2) l1 (by omega) (by omega)
    have e1 : x + 2 ^ 2 = 256 * (x / 256) + (x % 256 + 2 ^ 2) := by omega
    rw [e1, bc_split l2 (by omega), t, s0]; omega
  · have t := T8_add (l := x % 256) (p := 3) l1 (by omega) (by omega)
    have e1 : x + 2 ^ 3 = 256 * (x / 256) + (x % 256 + 2 ^ 3) := by omega
    rw [e1, bc_split l2 (by omega), t, s0]; omega
  · have t := T8_add (l := x % 256) (p := 4) l1 (by omega) (by omega)
    have e1 : x + 2 ^ 4 = 256 * (x / 256) + (x % 256 + 2 ^ 4) := by omega
    rw [e1, bc_split l2 (by omega), t, s0]; omega
  · have t := T8_add (l := x % 256) (p := 5) l1 (by omega) (by omega)
    have e1 : x + 2 ^ 5 = 256 * (x / 256) + (x % 256 + 2 ^ 5) := by omega
    rw [e1, bc_split l2 (by omega), t, s0]; omega
  · have t := T8_add (l := x % 256) (p := 6) l1 (by omega) (by omega)
    have e1 : x + 2 ^ 6 = 256 * (x / 256) + (x % 256 + 2 ^ 6) := by omega
    rw [e1, bc_split l2 (by omega), t, s0]; omega
  · have t := T8_add (l := x % 256) (p := 7) l1 (by omega) (by omega)
    have e1 : x + 2 ^ 7 = 256 * (x / 256) + (x % 256 + 2 ^ 7) := by omega
    rw [e1, bc_split l2 (by omega), t, s0]; omega
  · have t := T8_add (l := x / 256) (p := 0) l2 (by omega) (by omega)
    have e1 : x + 2 ^ 8 = 256 * (x / 256 + 2 ^ 0) + x % 256 := by omega
    rw [e1, bc_split (by omega) l1, t, s0]; omega
  · have t := T8_add (l := x / 256) (p := 1) l2 (by omega) (by omega)
    have e1 : x + 2 ^ 9 = 256 * (x / 256 + 2 ^ 1) + x % 256 := by omega
    rw [e1, bc_split (by omega) l1, t, s0]; omega
  · have t := T8_add (l := x / 256) (p := 2) l2 (by omega) (by omega)
    have e1 : x + 2 ^ 10 = 256 * (x / 256 + 2 ^ 2) + x % 256 := by omega
    rw [e1, bc_split (by omega) l1, t, s0]; omega
  · have t := T8_add (l := x / 256) (p := 3) l2 (by omega) (by omega)
    have e1 : x + 2 ^ 11 = 256 * (x / 256 + 2 ^ 3) + x % 256 := by omega
    rw [e1, bc_split (by omega) l1, t, s0]; omega
  · have t := T8_add (l := x / 256) (p := 4) l2 (by omega) (by omega)
    have e1 : x + 2 ^ 12 = 256 * (x / 256 + 2 ^ 4) + x % 256 := by omega
    rw [e1, bc_split (by omega) l1, t, s0]; omega
  · have t := T8_add (l := x / 256) (p := 5) l2 (by omega) (by omega)
    have e1 : x + 2 ^ 13 = 256 * (x / 256 + 2 ^ 5) + x % 256 := by omega
    rw [e1, bc_split (by omega) l1, t, s0]; omega
  · have t := T8_add (l := x / 256) (p := 6) l2 (by omega) (by omega)
    have e1 : x + 2 ^ 14 = 256 * (x / 256 + 2 ^ 6) + x % 256 := by omega
    rw [e1, bc_split (by omega) l1, t, s0]; omega
  · have t := T8_add (l := x / 256) (p := 7) l2 (by omega) (by omega)
    have e1 : x + 2 ^ 15 = 256 * (x / 256 + 2 ^ 7) + x % 256 := by omega
    rw [e1, bc_split (by omega) l1, t, s0]; omega
theorem bc_run {n : Nat} (hn : n < 65536) {x1 x2 x3 x4 x5 x6 x7 x8 x9 x10 x11 x12 x13 x14 x15 : Int} (e1 : m_ushr (n : Int) 1 = x1) (e2 : m_and x1 1431655765 = x2) (e3 : m_w ((n : Int) - x2) = x3) (e4 : m_and x3 858993459 = x4) (e5 : m_ushr x3 2 = x5) (e6 : m_and x5 858993459 = x6) (e7 : m_w (x4 + x6) = x7) (e8 : m_ushr x7 4 = x8) (e9 : m_w (x7 + x8) = x9) (e10 : m_and x9 252645135 = x10) (e11 : m_ushr x10 8 = x11) (e12 : m_w (x10 + x11) = x12) (e13 : m_ushr x12 16 = x13) (e14 : m_w (x12 + x13) = x14) (e15 : m_and x14 63 = x15) : x15 = (bcN n : Int) := by
  have sh : ∀ a k : Nat, a >>> k ≤ a := fun a k => by rw [Nat.shiftRight_eq_div_pow]; exact Nat.div_le_self _ _
  have f1 : x1 = ((n >>> 1 : Nat) : Int) := e1.symm.trans (m_ushr_n (k := 1) (by omega) (by decide))
  have b1 := sh n 1
  have f2 : x2 = (((n >>> 1) &&& 1431655765 : Nat) : Int) := by rw [← e2, f1]; exact m_and_n (b := 1431655765) (by omega) (by decide)
  have b2 : (n >>> 1) &&& 1431655765 ≤ n >>> 1 := Nat.and_le_left
  generalize hA : n - ((n >>> 1) &&& 1431655765) = A
  have f3 : x3 = (A : Int) := by rw [← e3, m_w_id (by omega) (by omega)]; omega
  have f4 : x4 = ((A &&& 858993459 : Nat) : Int) := by rw [← e4, f3]; exact m_and_n (b := 858993459) (by omega) (by decide)
  have f5 : x5 = ((A >>> 2 : Nat) : Int) := by rw [← e5, f3]; exact m_ushr_n (k := 2) (by omega) (by decide)
  have b5 := sh A 2
  have f6 : x6 = (((A >>> 2) &&& 858993459 : Nat) : Int) := by rw [← e6, f5]; exact m_and_n (b := 858993459) (by omega) (by decide)
  have b4 : A &&& 858993459 ≤ A := Nat.and_le_left
  have b6 : (A >>> 2) &&& 858993459 ≤ A >>> 2 := Nat.and_le_left
  generalize hB : (A &&& 858993459) + ((A >>> 2) &&& 858993459) = B
  have f7 : x7 = (B : Int) := by rw [← e7, m_w_id (by omega) (by omega)]; omega
  have f8 : x8 = ((B >>> 4 : Nat) : Int) := by rw [← e8, f7]; exact m_ushr_n (k := 4) (by omega) (by decide)
  have b8 := sh B 4
  have f9 : x9 = ((B + (B >>> 4) : Nat) : Int) := by rw [← e9, m_w_id (by omega) (by omega)]; omega
  generalize hC : (B + (B >>> 4)) &&& 252645135 = C
  have b10 : (B + (B >>> 4)) &&& 252645135 ≤ B + (B >>> 4) := Nat.and_le_left
  have f10 : x10 = (C : Int) := by rw [← e10, f9, ← hC]; exact m_and_n (b := 252645135) (by omega) (by decide)
  have f11 : x11 = ((C >>> 8 : Nat) : Int) := by rw [← e11, f10]; exact m_ushr_n (k := 8) (by omega) (by decide)
  have b11 := sh C 8
  generalize hD : C + (C >>> 8) = D
  have f12 : x12 = (D : Int) := by rw [← e12, m_w_id (by omega) (by omega)]; omega
  have f13 : x13 = ((D >>> 16 : Nat) : Int) := by rw [← e13, f12]; exact m_ushr_n (k := 16) (by omega) (by decide)
  have b13 := sh D 16
  have f14 : x14 = ((D + (D >>> 16) : Nat) : Int) := by rw [← e14, m_w_id (by omega) (by omega)]; omega
  have f15 : x15 = (((D + (D >>> 16)) &&& 63 : Nat) : Int) := by rw [← e15, f14]; exact m_and_n (b := 63) (by omega) (by decide)
  rw [f15]
  unfold bcN
  simp only [hA, hB, hC, hD]
/-- a bit that is not set is added -/
theorem bt_div {x : Nat} (hx : x < 65536) {p : Nat} : bt (x : Int) p = decide (x / 2 ^ p % 2 = 1) := by
  unfold bt
  rw [nb]
  show (BitVec.ofNat 32 x).toNat.testBit p = _
  rw [BitVec.toNat_ofNat, Nat.mod_eq_of_lt (show x < 2 ^ 32 by omega), Nat.testBit_eq_decide_div_mod_eq]
theorem or_add {x p : Nat} (hx : x < 65536) (hp : p < 16) (hb : bt (x : Int) p = false) : m_or (x : Int) (m_shl 1 (p : Int)) = ((x + 2 ^ p : Nat) : Int) := by
  unfold m_or m_shl
  rw [Int32.ofInt_toInt]
  show ((Int32.ofInt (x : Int) ||| _).toBitVec).toInt = _
  rw [Int32.toBitVec_or, Int32.toBitVec_shiftLeft, sh_am ⟨p, by omega⟩, nb]
  have h1 : BitVec.ofNat 32 x &&& ((1#32 : BitVec 32) <<< BitVec.ofNat 32 p) = 0#32 := by
    apply BitVec.eq_of_getLsbD_eq
    intro i hi
    rw [BitVec.getLsbD_and, one_sh (by omega) hi, BitVec.getLsbD_zero]
    by_cases q : i = p
    · subst q
      have z : (BitVec.ofNat 32 x).getLsbD i = false := by unfold bt at hb; rw [nb] at hb; exact hb
      rw [z]; rfl
    · rw [decide_eq_false q, Bool.and_false]
  show (BitVec.ofNat 32 x ||| ((1#32 : BitVec 32) <<< BitVec.ofNat 32 p)).toInt = _
  rw [← BitVec.add_eq_or_of_and_eq_zero _ _ h1]
  have e1 : (BitVec.ofNat 32 p).toNat = p := by rw [BitVec.toNat_ofNat]; omega
  have h2 : ((1#32 : BitVec 32) <<< BitVec.ofNat 32 p).toNat = 2 ^ p := by
    rw [BitVec.shiftLeft_eq', e1, BitVec.toNat_shiftLeft, Nat.shiftLeft_eq]
    have : 2 ^ p < 2 ^ 32 := Nat.pow_lt_pow_right (by decide) (by omega)
    show 1 * 2 ^ p % 2 ^ 32 = _
    rw [Nat.one_mul, Nat.mod_eq_of_lt this]
  have h3 : 2 ^ p < 65536 := Nat.lt_of_lt_of_le (Nat.pow_lt_pow_right (by decide) hp) (by decide)
  refine nbi ?_ (by omega)
  rw [BitVec.toNat_add, h2, BitVec.toNat_ofNat]
  omega
