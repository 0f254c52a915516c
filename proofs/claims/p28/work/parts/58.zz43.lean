/-! Integer.bitCount of 32 bits -/
theorem land_split {i a b c d : Nat} (hb : b < 2 ^ i) (hd : d < 2 ^ i) : (2 ^ i * a + b) &&& (2 ^ i * c + d) = 2 ^ i * (a &&& c) + (b &&& d) := by
  apply Nat.eq_of_testBit_eq
  intro j
  have hbd : b &&& d < 2 ^ i := Nat.lt_of_le_of_lt Nat.and_le_left hb
  rw [Nat.testBit_and, Nat.testBit_two_pow_mul_add a hb j, Nat.testBit_two_pow_mul_add c hd j, Nat.testBit_two_pow_mul_add (a &&& c) hbd j]
  by_cases g : j < i
  · rw [if_pos g, if_pos g, if_pos g, Nat.testBit_and]
  · rw [if_neg g, if_neg g, if_neg g, Nat.testBit_and]
def A16 (x : Nat) : Nat := x - ((x >>> 1) &&& 21845)
def B16 (a : Nat) : Nat := (a &&& 13107) + ((a >>> 2) &&& 13107)
def C16 (b : Nat) : Nat := (b + (b >>> 4)) &&& 3855
def ck16 (h l : Nat) : Bool :=
  let x := 256 * h + l
  let a := A16 x
  let b := B16 a
  Nat.ble ((x >>> 1) &&& 21845) x && (Nat.ble a 65535 && (Nat.ble b 17476 && (Nat.ble (b % 16) 4 && Nat.beq (C16 b) (256 * T8 h + T8 l))))
theorem ck_all : bAll 256 (fun h => bAll 256 (fun l => ck16 h l)) = true := by decide +kernel
theorem ck_of {x : Nat} (hx : x < 65536) : (x >>> 1) &&& 21845 ≤ x ∧ A16 x ≤ 65535 ∧ B16 (A16 x) ≤ 17476 ∧ B16 (A16 x) % 16 ≤ 4 ∧ C16 (B16 (A16 x)) = 256 * T8 (x / 256) + T8 (x % 256) := by
  have z := bAll_s (bAll_s ck_all (x / 256) (by omega)) (x % 256) (by omega)
  unfold ck16 at z
  simp only [show 256 * (x / 256) + x % 256 = x by omega, Bool.and_eq_true] at z
  exact ⟨Nat.le_of_ble_eq_true z.1, Nat.le_of_ble_eq_true z.2.1, Nat.le_of_ble_eq_true z.2.2.1, Nat.le_of_ble_eq_true z.2.2.2.1, Nat.eq_of_beq_eq_true z.2.2.2.2⟩
theorem T8_le {l : Nat} : T8 l ≤ 8 := by unfold T8; omega
theorem swA {H L : Nat} (hL : L < 65536) : ((65536 * H + L) >>> 1) &&& 1431655765 = 65536 * ((H >>> 1) &&& 21845) + ((L >>> 1) &&& 21845) := by
  simp only [Nat.shiftRight_eq_div_pow]
  have e1 : (65536 * H + L) / 2 ^ 1 = 2 ^ 16 * (H / 2 ^ 1) + (2 ^ 15 * (H % 2) + L / 2 ^ 1) := by omega
  have e2 : (1431655765 : Nat) = 2 ^ 16 * 21845 + 21845 := by decide
  rw [e1, e2, land_split (by omega) (by decide)]
  have e3 : (21845 : Nat) = 2 ^ 15 * 0 + 21845 := by decide
  have k : (2 ^ 15 * (H % 2) + L / 2 ^ 1) &&& 21845 = (L / 2 ^ 1) &&& 21845 := by
    conv => lhs; rw [e3]
    rw [land_split (by omega) (by decide), Nat.and_zero]; omega
  rw [k]
theorem sB {a b : Nat} (hb : b < 65536) : (65536 * a + b) &&& 858993459 = 65536 * (a &&& 13107) + (b &&& 13107) := by
  have e2 : (858993459 : Nat) = 2 ^ 16 * 13107 + 13107 := by decide
  rw [e2]
  exact land_split (i := 16) hb (by decide)
theorem sB2 {a b : Nat} (hb : b < 65536) : ((65536 * a + b) >>> 2) &&& 858993459 = 65536 * ((a >>> 2) &&& 13107) + ((b >>> 2) &&& 13107) := by
  simp only [Nat.shiftRight_eq_div_pow]
  have e1 : (65536 * a + b) / 2 ^ 2 = 65536 * (a / 2 ^ 2) + (2 ^ 14 * (a % 4) + b / 2 ^ 2) := by omega
  rw [e1, sB (by omega)]
  have e3 : (13107 : Nat) = 2 ^ 14 * 0 + 13107 := by decide
  have k : (2 ^ 14 * (a % 4) + b / 2 ^ 2) &&& 13107 = (b / 2 ^ 2) &&& 13107 := by
    conv => lhs; rw [e3]
    rw [land_split (by omega) (by decide), Nat.and_zero]; omega
  rw [k]
theorem sC {p q : Nat} (hp : p % 16 ≤ 4) (hq : q ≤ 17476) : ((65536 * p + q) + ((65536 * p + q) >>> 4)) &&& 252645135 = 65536 * C16 p + C16 q := by
  unfold C16
  simp only [Nat.shiftRight_eq_div_pow]
  have e1 : (65536 * p + q) + (65536 * p + q) / 2 ^ 4 = 2 ^ 16 * (p + p / 2 ^ 4) + (2 ^ 12 * (p % 16) + (q + q / 2 ^ 4)) := by omega
  have e2 : (252645135 : Nat) = 2 ^ 16 * 3855 + 3855 := by decide
  rw [e1, e2, land_split (by omega) (by decide)]
  have e3 : (3855 : Nat) = 2 ^ 12 * 0 + 3855 := by decide
  have e4 : 2 ^ 12 * (p % 16) + (q + q / 2 ^ 4) = 2 ^ 12 * (p % 16 + (q + q / 2 ^ 4) / 2 ^ 12) + (q + q / 2 ^ 4) % 2 ^ 12 := by omega
  have e5 : q + q / 2 ^ 4 = 2 ^ 12 * ((q + q / 2 ^ 4) / 2 ^ 12) + (q + q / 2 ^ 4) % 2 ^ 12 := by omega
  have m : (q + q / 2 ^ 4) % 2 ^ 12 < 2 ^ 12 := Nat.mod_lt _ (by decide)
  have k : (2 ^ 12 * (p % 16) + (q + q / 2 ^ 4)) &&& 3855 = (q + q / 2 ^ 4) &&& 3855 := by
    rw [e4]
    conv => rhs; rw [e5]
    generalize (q + q / 2 ^ 4) % 2 ^ 12 = v at m
    generalize (q + q / 2 ^ 4) / 2 ^ 12 = u
    conv => lhs; rw [e3]
    conv => rhs; rw [e3]
    rw [land_split m (by decide), land_split m (by decide), Nat.and_zero, Nat.and_zero]
  rw [k]
theorem bc32 {n : Nat} (hn : n < 4294967296) : bcN n = T8 (n / 16777216) + T8 (n / 65536 % 256) + T8 (n / 256 % 256) + T8 (n % 256) := by
  have e : n = 65536 * (n / 65536) + n % 65536 := by omega
  obtain ⟨h1, h2, h3, h4, h5⟩ := ck_of (x := n / 65536) (by omega)
  obtain ⟨l1, l2, l3, l4, l5⟩ := ck_of (x := n % 65536) (by omega)
  have a1 : n - ((n >>> 1) &&& 1431655765) = 65536 * A16 (n / 65536) + A16 (n % 65536) := by
    have s := swA (H := n / 65536) (L := n % 65536) (by omega)
    rw [← e] at s
    rw [s]
    unfold A16
    omega
  have b1 : ((n - ((n >>> 1) &&& 1431655765)) &&& 858993459) + (((n - ((n >>> 1) &&& 1431655765)) >>> 2) &&& 858993459) = 65536 * B16 (A16 (n / 65536)) + B16 (A16 (n % 65536)) := by
    rw [a1, sB (by omega), sB2 (by omega)]
    unfold B16
    omega
  have c1 := sC h4 l3
  rw [← b1] at c1
  unfold bcN
  simp only [c1, h5, l5]
  rw [show n / 65536 / 256 = n / 16777216 by omega, show n % 65536 / 256 = n / 256 % 256 by omega, show n % 65536 % 256 = n % 256 by omega]
  clear c1 b1 a1 h1 h2 h3 h4 h5 l1 l2 l3 l4 l5
  have t3 := T8_le (l := n / 16777216)
  have t2 := T8_le (l := n / 65536 % 256)
  have t1 := T8_le (l := n / 256 % 256)
  have t0 := T8_le (l := n % 256)
  generalize T8 (n / 16777216) = u3 at t3 ⊢
  generalize T8 (n / 65536 % 256) = u2 at t2 ⊢
  generalize T8 (n / 256 % 256) = u1 at t1 ⊢
  generalize T8 (n % 256) = u0 at t0 ⊢
  rw [show (63 : Nat) = 2 ^ 6 - 1 by decide, Nat.and_two_pow_sub_one_eq_mod]
  simp only [Nat.shiftRight_eq_div_pow]
  have d1 : (65536 * (256 * u3 + u2) + (256 * u1 + u0)) / 2 ^ 8 = 65536 * u3 + 256 * u2 + u1 := by omega
  rw [d1]
  have d2 : (65536 * (256 * u3 + u2) + (256 * u1 + u0) + (65536 * u3 + 256 * u2 + u1)) / 2 ^ 16 = 256 * u3 + u2 + u3 := by omega
  rw [d2]
  omega
/-- the bits as a number from nought -/
def bU (c : Int) : Nat := (Int32.ofInt c).toBitVec.toNat
theorem bU_lt (c : Int) : bU c < 4294967296 := (Int32.ofInt c).toBitVec.isLt
theorem bU_e (c : Int) : ((bU c : Nat) : Int) = c % 4294967296 := by
  unfold bU
  show (((BitVec.ofInt 32 c).toNat : Nat) : Int) = _
  rw [BitVec.toNat_ofInt]
  have := Int.emod_nonneg c (show (4294967296 : Int) ≠ 0 by decide)
  omega
theorem bt_U {c : Int} {p : Nat} : bt c p = decide (bU c / 2 ^ p % 2 = 1) := by
  unfold bt bU
  show (Int32.ofInt c).toBitVec.toNat.testBit p = _
  rw [Nat.testBit_eq_decide_div_mod_eq]
theorem m_and_u {c : Int} {b : Nat} (hb : b < 2147483648) : m_and c (b : Int) = ((bU c &&& b : Nat) : Int) := by
  unfold m_and bU
  show ((Int32.ofInt c &&& Int32.ofInt (b : Int)).toBitVec).toInt = _
  rw [Int32.toBitVec_and, nb]
  refine nbi ?_ (Nat.lt_of_le_of_lt Nat.and_le_right hb)
  rw [BitVec.toNat_and, BitVec.toNat_ofNat, Nat.mod_eq_of_lt (show b < 2 ^ 32 by omega)]
theorem m_ushr_u {c : Int} {k : Nat} (hk : k < 32) (h1 : 1 ≤ k) : m_ushr c (k : Int) = ((bU c >>> k : Nat) : Int) := by
  unfold m_ushr
  show (((Int32.ofInt c).toUInt32 >>> ((Int32.ofInt (k : Int)).toUInt32 &&& Int32.toUInt32 31)).toBitVec).toInt = _
  have hs : bU c >>> k < 2147483648 := by
    rw [Nat.shiftRight_eq_div_pow]
    have u := bU_lt c
    have p : 2 ^ 1 ≤ 2 ^ k := Nat.pow_le_pow_right (by decide) h1
    exact Nat.lt_of_le_of_lt (Nat.div_le_div_left p (by decide)) (by omega)
  refine nbi ?_ hs
  rw [UInt32.toBitVec_shiftRight, us_am ⟨k, hk⟩]
  show ((Int32.ofInt c).toBitVec >>> (BitVec.ofNat 32 k % 32#32)).toNat = _
  rw [us_mod ⟨k, hk⟩, BitVec.ushiftRight_eq', BitVec.toNat_ushiftRight, BitVec.toNat_ofNat, Nat.mod_eq_of_lt (show k < 2 ^ 32 by omega)]
  rfl
theorem bc_run32 {c : Int} {x1 x2 x3 x4 x5 x6 x7 x8 x9 x10 x11 x12 x13 x14 x15 : Int} (e1 : m_ushr c 1 = x1) (e2 : m_and x1 1431655765 = x2) (e3 : m_w (c - x2) = x3) (e4 : m_and x3 858993459 = x4) (e5 : m_ushr x3 2 = x5) (e6 : m_and x5 858993459 = x6) (e7 : m_w (x4 + x6) = x7) (e8 : m_ushr x7 4 = x8) (e9 : m_w (x7 + x8) = x9) (e10 : m_and x9 252645135 = x10) (e11 : m_ushr x10 8 = x11) (e12 : m_w (x10 + x11) = x12) (e13 : m_ushr x12 16 = x13) (e14 : m_w (x12 + x13) = x14) (e15 : m_and x14 63 = x15) : x15 = (bcN (bU c) : Int) := by
  have hn := bU_lt c
  have he := bU_e c
  generalize hN : bU c = n at hn he
  have f1 : x1 = ((n >>> 1 : Nat) : Int) := by rw [← e1, ← hN]; exact m_ushr_u (k := 1) (by decide) (by decide)
  have b1 : n >>> 1 < 2147483648 := by rw [Nat.shiftRight_eq_div_pow]; omega
  have f2 : x2 = (((n >>> 1) &&& 1431655765 : Nat) : Int) := by rw [← e2, f1]; exact m_and_n (b := 1431655765) b1 (by decide)
  have b2 : (n >>> 1) &&& 1431655765 ≤ n >>> 1 := Nat.and_le_left
  have b3 : n >>> 1 ≤ n := by rw [Nat.shiftRight_eq_div_pow]; exact Nat.div_le_self _ _
  generalize hA : n - ((n >>> 1) &&& 1431655765) = A
  have f3 : bU x3 = A := by
    have z := bU_e x3
    have w : x3 % 4294967296 = (c - x2) % 4294967296 := by rw [← e3]; exact Int.bmod_emod
    rw [w, f2] at z
    omega
  have f4 : x4 = ((A &&& 858993459 : Nat) : Int) := by rw [← e4, ← f3]; exact m_and_u (b := 858993459) (by decide)
  have f5 : x5 = ((A >>> 2 : Nat) : Int) := by rw [← e5, ← f3]; exact m_ushr_u (k := 2) (by decide) (by decide)
  have b5 : A >>> 2 < 2147483648 := by rw [Nat.shiftRight_eq_div_pow]; omega
  have f6 : x6 = (((A >>> 2) &&& 858993459 : Nat) : Int) := by rw [← e6, f5]; exact m_and_n (b := 858993459) b5 (by decide)
  have b4 : A &&& 858993459 ≤ 858993459 := Nat.and_le_right
  have b6 : (A >>> 2) &&& 858993459 ≤ 858993459 := Nat.and_le_right
  generalize hB : (A &&& 858993459) + ((A >>> 2) &&& 858993459) = B
  have f7 : x7 = (B : Int) := by rw [← e7, m_w_id (by omega) (by omega)]; omega
  have f8 : x8 = ((B >>> 4 : Nat) : Int) := by rw [← e8, f7]; exact m_ushr_n (k := 4) (by omega) (by decide)
  have b8 : B >>> 4 ≤ 107374182 := by rw [Nat.shiftRight_eq_div_pow]; omega
  have f9 : x9 = ((B + (B >>> 4) : Nat) : Int) := by rw [← e9, m_w_id (by omega) (by omega)]; omega
  have b10 : (B + (B >>> 4)) &&& 252645135 ≤ 252645135 := Nat.and_le_right
  generalize hC : (B + (B >>> 4)) &&& 252645135 = C at b10
  have f10 : x10 = (C : Int) := by rw [← e10, f9, ← hC]; exact m_and_n (b := 252645135) (by omega) (by decide)
  have f11 : x11 = ((C >>> 8 : Nat) : Int) := by rw [← e11, f10]; exact m_ushr_n (k := 8) (by omega) (by decide)
  have b11 : C >>> 8 ≤ C := by rw [Nat.shiftRight_eq_div_pow]; exact Nat.div_le_self _ _
  generalize hD : C + (C >>> 8) = D
  have f12 : x12 = (D : Int) := by rw [← e12, m_w_id (by omega) (by omega)]; omega
  have f13 : x13 = ((D >>> 16 : Nat) : Int) := by rw [← e13, f12]; exact m_ushr_n (k := 16) (by omega) (by decide)
  have b13 : D >>> 16 ≤ D := by rw [Nat.shiftRight_eq_div_pow]; exact Nat.div_le_self _ _
  have f14 : x14 = ((D + (D >>> 16) : Nat) : Int) := by rw [← e14, m_w_id (by omega) (by omega)]; omega
  have f15 : x15 = (((D + (D >>> 16)) &&& 63 : Nat) : Int) := by rw [← e15, f14]; exact m_and_n (b := 63) (by omega) (by decide)
  rw [f15]
  unfold bcN
  simp only [hA, hB, hC, hD]
/-- how many of the first bits are set -/
def nB (c : Int) : Nat → Nat
  | 0 => 0
  | k + 1 => nB c k + (if bt c k = true then 1 else 0)
theorem nB_s {c : Int} {k : Nat} : nB c (k + 1) = nB c k + bU c / 2 ^ k % 2 := by
  show nB c k + (if bt c k = true then 1 else 0) = _
  rw [bt_U]
  have m := Nat.mod_two_eq_zero_or_one (bU c / 2 ^ k)
  rcases m with z | z
  · rw [z]; rfl
  · rw [z]; rfl
theorem nB_32 (c : Int) : nB c 32 = bcN (bU c) := by
  have u := bU_lt c
  rw [bc32 u]
  have e0 : nB c 8 = T8 (bU c % 256) := by
    simp only [nB_s]
    show 0 + _ + _ + _ + _ + _ + _ + _ + _ = _
    unfold T8
    omega
  have e1 : nB c 16 = nB c 8 + T8 (bU c / 256 % 256) := by
    rw [nB_s, nB_s, nB_s, nB_s, nB_s, nB_s, nB_s, nB_s]
    unfold T8
    omega
  have e2 : nB c 24 = nB c 16 + T8 (bU c / 65536 % 256) := by
    rw [nB_s, nB_s, nB_s, nB_s, nB_s, nB_s, nB_s, nB_s]
    unfold T8
    omega
  have e3 : nB c 32 = nB c 24 + T8 (bU c / 16777216) := by
    rw [nB_s, nB_s, nB_s, nB_s, nB_s, nB_s, nB_s, nB_s]
    unfold T8
    omega
  omega
