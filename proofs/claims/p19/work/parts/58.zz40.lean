/-! numbers -/
theorem nmI_ex {B C : Int × Int × Int} {k : Int} (hB : 0 < B.1) (hC : 0 < C.1) (hL : 0 ≤ C.2.1) (hk : 0 ≤ k ∧ k ≤ 2) : ∃ fo la, nmI B C k fo la := by
  obtain ⟨T, L, o⟩ := B
  obtain ⟨T', L', o'⟩ := C
  have hT' : 0 < T' := hC
  have hL' : 0 ≤ L' := hL
  have gb := gnF_b (k := k) (t := T') (l := L') (o := o') (by omega) hL'
  have e1 : ∀ v, lnF k T L o ≤ v ↔ tlU (T, L, o) v k := fun v => ln_U hB hk
  have e2 : ∀ v, (L' = 0 ∨ v ≤ gnF k T' L' o') ↔ tlO (T', L', o') v k := fun v => gn_O hT' hL' hk
  generalize lnF k T L o = p at e1
  generalize gnF k T' L' o' = q at e2 gb
  refine ⟨if p < 1 then 1 else if 100 < p then 100 else p, if L' = 0 then 99 else if 99 < q then 99 else q, ?_, ?_, ?_, ?_⟩
  · split
    · omega
    · split <;> omega
  · split
    · omega
    · split <;> omega
  · intro v v1 v2
    rw [← e1]
    split
    · omega
    · split <;> omega
  · intro v v1 v2
    rw [← e2]
    split
    · omega
    · split <;> omega
theorem eLo_f {h0 h : m_H} (R : FR [135, 136] [] h0 h) : eLo h = eLo h0 := by
  unfold eLo
  rw [(R 108 44 rfl : h 108 44 = h0 108 44), (R 108 46 rfl : h 108 46 = h0 108 46), (FR.row R (fun _ => rfl) : h 138 = h0 138)]
theorem eHi_f {h0 h : m_H} (R : FR [135, 136] [] h0 h) : eHi h = eHi h0 := by
  unfold eHi
  rw [(R 108 45 rfl : h 108 45 = h0 108 45), (R 108 47 rfl : h 108 47 = h0 108 47), (FR.row R (fun _ => rfl) : h 138 = h0 138)]
theorem eOk_f {h0 h : m_H} (R : FR [135, 136] [] h0 h) (E : eOk h0) : eOk h := by
  unfold eOk
  rw [(R 108 44 rfl : h 108 44 = h0 108 44), (R 108 46 rfl : h 108 46 = h0 108 46), (R 108 45 rfl : h 108 45 = h0 108 45), (R 108 47 rfl : h 108 47 = h0 108 47)]
  exact E
theorem tl_pos {B C : Int × Int × Int} {n k fo la x : Int} (I : nmI B C k fo la) (hn : 1 ≤ n ∧ n ≤ 99) (t : tlF B C n k x) : 0 < x ↔ (fo ≤ n ∧ n ≤ la) := by
  have u := I.2.2.1 n hn.1 hn.2
  have o := I.2.2.2 n hn.1 hn.2
  rw [u, o]
  rcases t with ⟨p, q⟩ | ⟨p, ⟨_, q⟩ | ⟨_, q⟩⟩
  · exact ⟨fun z => by omega, fun z => absurd z p⟩
  · exact ⟨fun _ => p, fun _ => by omega⟩
  · exact ⟨fun _ => p, fun _ => by omega⟩
def nmC (fo la m : Int) : Int := nmN fo (if la < m then la else m)
theorem nmC_b {B C : Int × Int × Int} {k fo la : Int} (I : nmI B C k fo la) (m : Int) : 0 ≤ nmC fo la m ∧ nmC fo la m ≤ 99 := by
  have i1 := I.1
  have i2 := I.2.1
  unfold nmC nmN
  split <;> split <;> omega
theorem nmC_y {fo la m : Int} (h : fo ≤ m ∧ m ≤ la) : nmC fo la m = nmC fo la (m - 1) + 1 := by
  unfold nmC nmN
  split <;> split <;> split <;> (try split) <;> omega
theorem nmC_n {fo la m : Int} (h : ¬ (fo ≤ m ∧ m ≤ la)) : nmC fo la m = nmC fo la (m - 1) := by
  unfold nmC nmN
  split <;> split <;> split <;> (try split) <;> omega
theorem nmC_0 {B C : Int × Int × Int} {k fo la : Int} (I : nmI B C k fo la) : nmC fo la (1 - 1) = 0 := by
  have i1 := I.1
  unfold nmC nmN
  split <;> split <;> omega
theorem nmC_e {B C : Int × Int × Int} {k fo la m : Int} (I : nmI B C k fo la) (hm : 100 ≤ m) : nmC fo la (m - 1) = nmN fo la := by
  have i2 := I.2.1
  unfold nmC
  by_cases g : la < m - 1
  · rw [if_pos g]
  · rw [if_neg g, show m - 1 = la by omega]
def nmW (fo la w k y : Int) : Prop := (w = 1 → ((fo ≤ la ∧ 101 - k ≤ la) → (y = fo ∨ y = 101 - k) ∧ fo ≤ y ∧ 101 - k ≤ y) ∧ (¬ (fo ≤ la ∧ 101 - k ≤ la) → y = -1)) ∧ (w = 2 → ((fo ≤ la ∧ fo ≤ k - 1) → (y = la ∨ y = k - 1) ∧ y ≤ la ∧ y ≤ k - 1) ∧ (¬ (fo ≤ la ∧ fo ≤ k - 1) → y = -1))
def nmV (fo la w x : Int) : Prop := (w = 0 → x = nmN fo la) ∧ (w = 1 → (fo ≤ la → x = fo) ∧ (¬ fo ≤ la → x = -1)) ∧ (w = 2 → (fo ≤ la → x = la) ∧ (¬ fo ≤ la → x = -1))
def nmK (r : Nat → Int) (a f k w : Int) : Prop := (0 ≤ k ∧ k ≤ 2) ∧ (0 ≤ w ∧ w ≤ 2) ∧ ftK r a f
def nmE (r : Nat → Int) (a f k : Int) (B C : Int × Int × Int) (fo la : Int) : Prop := BX (bR r) (12 + f).toNat a.toNat B ∧ BX (bR r) a.toNat (12 + f).toNat C ∧ nmI B C k fo la
def nbQ (r : Nat → Int) (a f k w x : Int) : Prop := (¬ nmK r a f k w ∧ x = -2) ∨ (nmK r a f k w ∧ ∃ B C fo la, nmE r a f k B C fo la ∧ nmV fo la w x)
theorem nmE_eq {r : Nat → Int} (hE : ∀ e ∈ bR r, gEo e) {a f k : Int} {B C B' C' : Int × Int × Int} {fo la fo' la' : Int} (h : nmE r a f k B C fo la) (h' : nmE r a f k B' C' fo' la') : fo = fo' ∧ (la = la' ∨ (la ≤ 0 ∧ la' ≤ 0)) := by
  obtain ⟨b, c, ⟨f1, f2⟩, ⟨l1, l2⟩, u, o⟩ := h
  obtain ⟨b', c', ⟨g1, g2⟩, ⟨m1, m2⟩, u', o'⟩ := h'
  have uu : ∀ v, 1 ≤ v → v ≤ 99 → (fo ≤ v ↔ fo' ≤ v) := fun v v1 v2 => (u v v1 v2).trans ((U_eq hE b b' v k).trans (u' v v1 v2).symm)
  have oo : ∀ v, 1 ≤ v → v ≤ 99 → (v ≤ la ↔ v ≤ la') := fun v v1 v2 => (o v v1 v2).trans ((O_eq hE c c' v k).trans (o' v v1 v2).symm)
  constructor
  · rcases Int.lt_trichotomy fo fo' with z | z | z
    · have := uu fo f1 (by omega); omega
    · exact z
    · have := uu fo' g1 (by omega); omega
  · rcases Int.lt_trichotomy la la' with z | z | z
    · by_cases q : 1 ≤ la'
      · have := oo la' q m2; omega
      · omega
    · exact Or.inl z
    · by_cases q : 1 ≤ la
      · have := oo la q l2; omega
      · omega
theorem nm_eq {r : Nat → Int} (hE : ∀ e ∈ bR r, gEo e) {a f k w x y : Int} (h : nbQ r a f k w x) (h' : nbQ r a f k w y) : x = y := by
  rcases h with ⟨n, e⟩ | ⟨K, B, C, fo, la, i, v⟩
  · rcases h' with ⟨_, e'⟩ | ⟨K', _⟩
    · omega
    · exact absurd K' n
  · rcases h' with ⟨n', _⟩ | ⟨_, B', C', fo', la', i', v'⟩
    · exact absurd K n'
    · obtain ⟨e1, e2⟩ := nmE_eq hE i i'
      have f1 := i.2.2.1
      have ww := K.2.1
      unfold nmV at v v'
      subst e1
      have en : nmN fo la = nmN fo la' := by
        rcases e2 with z | z
        · rw [z]
        · unfold nmN; rw [if_neg (by omega), if_neg (by omega)]
      rw [en] at v
      obtain ⟨a1, a2, a3⟩ := v
      obtain ⟨b1, b2, b3⟩ := v'
      have w3 : w = 0 ∨ w = 1 ∨ w = 2 := by omega
      rcases w3 with z | z | z
      · rw [a1 z, b1 z]
      · have p := a2 z
        have q := b2 z
        omega
      · have p := a3 z
        have q := b3 z
        omega
theorem LX.numbers {h h1 : m_H} {a b k w x y : Int} {cs : List Nat} {ss : List (Nat × Nat)} (G : GI h) (N : NP h) (S1 : FR cs ss h h1) (A : nbQ (h 110) a b k w x) (B : nbQ (h1 110) a b k w y) (o : out 110 110 cs ss = true) : x = y := by
  rw [rowz S1 (fr_out o (by decide) (by decide))] at B
  exact nm_eq (bR_ok G N) A B
abbrev P_X12_numbersOf4 (h0 : m_H) (a1 : Int) (fo : Int) (la : Int) : Int → m_H → Prop := fun x h' => GI h' ∧ FR [135, 136] [] h0 h' ∧ (0 ≤ x ∧ x ≤ 99) ∧ nmN fo la = x
def q_X12_numbersOf4 (h0 : m_H) (a1 : Int) (fo : Int) (la : Int) (n : Nat) : Prop := (∀ (l2 l3 : Int) (h : m_H), GI h → FR [135, 136] [] h0 h → 1 ≤ l3 → l3 ≤ 100 → (nmC fo la (l3 - 1) = l2) → 2 * (100 - l3) + (1) ≤ (n : Int) → m_Z oF M_X12_numbersOf 4 [some (mR 108), some (mI a1), some (mI l2), some (mI l3)] [] h (m_QI (P_X12_numbersOf4 h0 a1 fo la)))
set_option maxHeartbeats 4000000 in
set_option maxRecDepth 100000 in
theorem s_X12_numbersOf4_4 (h0 : m_H) (a1 : Int) (fo : Int) (la : Int) (G0 : GI h0) (pa1 : 0 ≤ a1 ∧ a1 ≤ 2) (hE : eOk h0) (hI : nmI (eLo h0) (eHi h0) a1 fo la) (n : Nat) (ih : q_X12_numbersOf4 h0 a1 fo la n) : ∀ (l2 l3 : Int) (h : m_H), GI h → FR [135, 136] [] h0 h → 1 ≤ l3 → l3 ≤ 100 → (nmC fo la (l3 - 1) = l2) → 2 * (100 - l3) + (1) ≤ ((n + 1 : Nat) : Int) → m_Z oF M_X12_numbersOf 4 [some (mR 108), some (mI a1), some (mI l2), some (mI l3)] [] h (m_QI (P_X12_numbersOf4 h0 a1 fo la)) := by
  intro l2 l3 h G R v0 v1 i0 hr
  have lb_ := nmC_b hI (l3 - 1)
  rw [i0] at lb_
  refine z_ok (fun ostk _ olocs => ?_)
  have ol2 : m_32 l2 := olocs 2 _ rfl
  unfold m_32 at ol2
  refine z_iload_n (M := M_X12_numbersOf) 4 dX12_numbersOf_4 rfl ?_
  refine z_bipush (M := M_X12_numbersOf) 5 dX12_numbersOf_5 ?_
  refine z_icmp_ge (M := M_X12_numbersOf) 7 dX12_numbersOf_7 33 rfl (fun c1 => ?_) (fun c1 => ?_)
  · refine z_iload_n (M := M_X12_numbersOf) 33 dX12_numbersOf_33 rfl ?_
    exact z_retI (M := M_X12_numbersOf) 34 dX12_numbersOf_34 rfl ⟨G, R, ⟨by omega, by omega⟩, (nmC_e hI (by omega)).symm.trans i0⟩
  · refine z_iload_n (M := M_X12_numbersOf) 10 dX12_numbersOf_10 rfl ?_
    refine z_aload_n (M := M_X12_numbersOf) 11 dX12_numbersOf_11 rfl ?_
    refine z_iload_n (M := M_X12_numbersOf) 12 dX12_numbersOf_12 rfl ?_
    refine z_iload_n (M := M_X12_numbersOf) 13 dX12_numbersOf_13 rfl ?_
    refine z_vI (M := M_X12_numbersOf) 14 dX12_numbersOf_14 t_X12_tells l_X12_431 (m_rr_of rfl) (rest := [mI l2]) (c_X12_tells4 h l3 a1 G ⟨by omega, by omega⟩ ⟨by omega, by omega⟩ (eOk_f R hE)) o_108 rfl rfl rfl (Nat.le_of_ble_eq_true rfl) ⟨rfl, rfl⟩ (fun x2 h1 qx2 => ?_)
    obtain ⟨G1, S1, ax2, bx2, fx2⟩ := qx2
    rw [eLo_f R, eHi_f R] at fx2
    have t_ := tl_pos hI ⟨by omega, by omega⟩ fx2
    have R1 := R.call S1 (by decide +kernel)
    refine z_if_le (M := M_X12_numbersOf) 17 dX12_numbersOf_17 24 rfl (fun c3 => ?_) (fun c3 => ?_)
    · refine z_iconst (M := M_X12_numbersOf) 24 dX12_numbersOf_24 ?_
      refine z_iaddN (M := M_X12_numbersOf) 25 dX12_numbersOf_25 (by omega) (by omega) ?_
      refine z_istore_n (M := M_X12_numbersOf) 26 dX12_numbersOf_26 (ls' := [some (mR 108), some (mI a1), some (mI (l2 + 0)), some (mI l3)]) (by decide) rfl ?_
      refine z_iincN (M := M_X12_numbersOf) 27 dX12_numbersOf_27 (ls' := [some (mR 108), some (mI a1), some (mI (l2 + 0)), some (mI (l3 + 1))]) (by decide) rfl (by (unfold m_32; decide)) (by omega) (by omega) rfl ?_
      refine z_goto (M := M_X12_numbersOf) 30 dX12_numbersOf_30 4 rfl ?_
      exact z_mask [true, true, true, true] rfl (ih (l2 + 0) (l3 + 1) h1 G1 R1 (by omega) (by omega) (by rw [show l3 + 1 - 1 = l3 by omega, nmC_n (fun z => absurd (t_.mpr z) (by omega)), i0]; omega) (by omega))
    · refine z_iconst (M := M_X12_numbersOf) 20 dX12_numbersOf_20 ?_
      refine z_goto (M := M_X12_numbersOf) 21 dX12_numbersOf_21 25 rfl ?_
      refine z_iaddN (M := M_X12_numbersOf) 25 dX12_numbersOf_25 (by omega) (by omega) ?_
      refine z_istore_n (M := M_X12_numbersOf) 26 dX12_numbersOf_26 (ls' := [some (mR 108), some (mI a1), some (mI (l2 + 1)), some (mI l3)]) (by decide) rfl ?_
      refine z_iincN (M := M_X12_numbersOf) 27 dX12_numbersOf_27 (ls' := [some (mR 108), some (mI a1), some (mI (l2 + 1)), some (mI (l3 + 1))]) (by decide) rfl (by (unfold m_32; decide)) (by omega) (by omega) rfl ?_
      refine z_goto (M := M_X12_numbersOf) 30 dX12_numbersOf_30 4 rfl ?_
      exact z_mask [true, true, true, true] rfl (ih (l2 + 1) (l3 + 1) h1 G1 R1 (by omega) (by omega) (by rw [show l3 + 1 - 1 = l3 by omega, nmC_y (t_.mp (by omega)), i0]) (by omega))
theorem a_X12_numbersOf4 (h0 : m_H) (a1 : Int) (fo : Int) (la : Int) (G0 : GI h0) (pa1 : 0 ≤ a1 ∧ a1 ≤ 2) (hE : eOk h0) (hI : nmI (eLo h0) (eHi h0) a1 fo la) : ∀ n, q_X12_numbersOf4 h0 a1 fo la n := by
  intro n
  induction n with
  | zero => unfold q_X12_numbersOf4; intros; omega
  | succ n ih => exact s_X12_numbersOf4_4 h0 a1 fo la G0 pa1 hE hI n ih
set_option maxHeartbeats 4000000 in
set_option maxRecDepth 100000 in
theorem c_X12_numbersOf4 (h0 : m_H) (a1 : Int) (fo : Int) (la : Int) (G0 : GI h0) (pa1 : 0 ≤ a1 ∧ a1 ≤ 2) (hE : eOk h0) (hI : nmI (eLo h0) (eHi h0) a1 fo la) : m_CI M_X12_numbersOf [mR 108, mI a1] h0 (P_X12_numbersOf4 h0 a1 fo la) := by
  refine m_CI_of ⟨by decide, rfl, by simp [m_arg, m_isL, M_X12_numbersOf], ⟨rfl, rfl⟩, rfl, rfl⟩ (ls := [some (mR 108), some (mI a1), none, none]) rfl ?_
  have ih := a_X12_numbersOf4 h0 a1 fo la G0 pa1 hE hI 206
  refine z_iconst (M := M_X12_numbersOf) 0 dX12_numbersOf_0 ?_
  refine z_istore_n (M := M_X12_numbersOf) 1 dX12_numbersOf_1 (ls' := [some (mR 108), some (mI a1), some (mI 0), none]) (by decide) rfl ?_
  refine z_iconst (M := M_X12_numbersOf) 2 dX12_numbersOf_2 ?_
  refine z_istore_n (M := M_X12_numbersOf) 3 dX12_numbersOf_3 (ls' := [some (mR 108), some (mI a1), some (mI 0), some (mI 1)]) (by decide) rfl ?_
  exact z_mask [true, true, true, true] rfl (ih 0 1 h0 G0 (FR.rf (cs := [135, 136]) (ss := []) (h := h0)) (by omega) (by omega) (nmC_0 hI) (by omega))
def nmX (h0 h : m_H) (a f k w y j : Int) : Prop := (eOk h ∧ nmK (h0 110) a f k w) ∧ ∃ fo la, nmE (h0 110) a f k (eLo h) (eHi h) fo la ∧ nmW fo la w j y
theorem nmX_s {h0 h h' : m_H} {a f k w y y' j n x : Int} (S : FR [135, 136] [] h h') (I : nmX h0 h a f k w y j) (hj : 1 ≤ j ∧ j ≤ 99) (hw : w = 1 ∨ w = 2) (hn : (w = 1 ∧ n = 100 - j) ∨ (w = 2 ∧ n = j)) (t : tlF (eLo h) (eHi h) n k x) (hy : (0 < x ∧ y' = n) ∨ (¬ 0 < x ∧ y' = y)) : nmX h0 h' a f k w y' (j + 1) := by
  obtain ⟨⟨E, K⟩, fo, la, e, W⟩ := I
  have p := tl_pos e.2.2 (by omega) t
  have i1 := e.2.2.1
  have i2 := e.2.2.2.1
  refine ⟨⟨eOk_f S E, K⟩, fo, la, by rw [eLo_f S, eHi_f S]; exact e, ?_⟩
  unfold nmW at W ⊢
  rcases hw with w1 | w1
  · have W' := W.1 w1
    refine ⟨fun _ => ?_, fun z => by omega⟩
    rcases hy with ⟨y1, y2⟩ | ⟨y1, y2⟩
    · have q := p.mp y1; constructor <;> omega
    · have q : ¬ (fo ≤ n ∧ n ≤ la) := fun z => y1 (p.mpr z); constructor <;> omega
  · have W' := W.2 w1
    refine ⟨fun z => by omega, fun _ => ?_⟩
    rcases hy with ⟨y1, y2⟩ | ⟨y1, y2⟩
    · have q := p.mp y1; constructor <;> omega
    · have q : ¬ (fo ≤ n ∧ n ≤ la) := fun z => y1 (p.mpr z); constructor <;> omega
theorem nmX_e {h0 h : m_H} {a f k w y j : Int} (I : nmX h0 h a f k w y j) (hj : j = 100) (hw : w = 1 ∨ w = 2) : nbQ (h0 110) a f k w y := by
  obtain ⟨⟨E, K⟩, fo, la, e, W⟩ := I
  have i1 := e.2.2.1
  have i2 := e.2.2.2.1
  refine Or.inr ⟨K, _, _, fo, la, e, ?_⟩
  unfold nmW at W
  refine ⟨fun z => by omega, fun z => ?_, fun z => ?_⟩
  · have W' := W.1 z; constructor <;> omega
  · have W' := W.2 z; constructor <;> omega
theorem nmX_0 {h0 h : m_H} {a f k w fo la : Int} (E : eOk h) (K : nmK (h0 110) a f k w) (e : nmE (h0 110) a f k (eLo h) (eHi h) fo la) : nmX h0 h a f k w (-1) 1 := by
  have i1 := e.2.2.1
  have i2 := e.2.2.2.1
  refine ⟨⟨E, K⟩, fo, la, e, ?_⟩
  unfold nmW
  refine ⟨fun z => ?_, fun z => ?_⟩ <;> constructor <;> omega
abbrev P_X12_numbers3 (h0 : m_H) (a1 a2 a3 a4 : Int) : Int → m_H → Prop := fun x h' => GI h' ∧ FR [115, 116, 117, 118, 119, 120, 121, 122, 123, 124, 125, 126, 127, 128, 129, 130, 131, 132, 133, 134, 135, 136, 138] [(108, 0), (108, 21), (108, 44), (108, 45), (108, 46), (108, 47)] h0 h' ∧ nbQ (h0 110) a1 a2 a3 a4 x
def q_X12_numbers3 (h0 : m_H) (a1 a2 a3 a4 : Int) (n : Nat) : Prop := (∀ (l5 l6 : Int) (h : m_H), GI h → FR [115, 116, 117, 118, 119, 120, 121, 122, 123, 124, 125, 126, 127, 128, 129, 130, 131, 132, 133, 134, 135, 136, 138] [(108, 0), (108, 21), (108, 44), (108, 45), (108, 46), (108, 47)] h0 h → (-1) ≤ l5 → l5 ≤ 99 → 1 ≤ l6 → l6 ≤ 100 → 0 ≤ a1 → a1 ≤ 11 → 0 ≤ a2 → a2 ≤ 3 → 0 ≤ a3 → a3 ≤ 2 → 1 ≤ a4 → a4 ≤ 2 → (nmX h0 h a1 a2 a3 a4 l5 l6) → 2 * (100 - l6) + (1) ≤ (n : Int) → m_Z oF M_X12_numbers 65 [some (mR 108), none, none, some (mI a3), some (mI a4), some (mI l5), some (mI l6), none] [] h (m_QI (P_X12_numbers3 h0 a1 a2 a3 a4)))
set_option maxHeartbeats 4000000 in
set_option maxRecDepth 100000 in
theorem s_X12_numbers3_65 (h0 : m_H) (a1 a2 a3 a4 : Int) (G0 : GI h0) (hN : NP h0) (n : Nat) (ih : q_X12_numbers3 h0 a1 a2 a3 a4 n) : ∀ (l5 l6 : Int) (h : m_H), GI h → FR [115, 116, 117, 118, 119, 120, 121, 122, 123, 124, 125, 126, 127, 128, 129, 130, 131, 132, 133, 134, 135, 136, 138] [(108, 0), (108, 21), (108, 44), (108, 45), (108, 46), (108, 47)] h0 h → (-1) ≤ l5 → l5 ≤ 99 → 1 ≤ l6 → l6 ≤ 100 → 0 ≤ a1 → a1 ≤ 11 → 0 ≤ a2 → a2 ≤ 3 → 0 ≤ a3 → a3 ≤ 2 → 1 ≤ a4 → a4 ≤ 2 → (nmX h0 h a1 a2 a3 a4 l5 l6) → 2 * (100 - l6) + (1) ≤ ((n + 1 : Nat) : Int) → m_Z oF M_X12_numbers 65 [some (mR 108), none, none, some (mI a3), some (mI a4), some (mI l5), some (mI l6), none] [] h (m_QI (P_X12_numbers3 h0 a1 a2 a3 a4)) := by
  intro l5 l6 h G R v0 v1 v2 v3 v4 v5 v6 v7 v8 v9 v10 v11 i0 hr
  have ok_ := i0.1.1
  refine z_iload (M := M_X12_numbers) 65 dX12_numbers_65 rfl ?_
  refine z_bipush (M := M_X12_numbers) 67 dX12_numbers_67 ?_
  refine z_icmp_ge (M := M_X12_numbers) 69 dX12_numbers_69 115 rfl (fun c1 => ?_) (fun c1 => ?_)
  · refine z_iload (M := M_X12_numbers) 115 dX12_numbers_115 rfl ?_
    exact z_retI (M := M_X12_numbers) 117 dX12_numbers_117 rfl ⟨G, R, nmX_e i0 (by omega) (by omega)⟩
  · refine z_iload (M := M_X12_numbers) 72 dX12_numbers_72 rfl ?_
    refine z_iconst (M := M_X12_numbers) 74 dX12_numbers_74 ?_
    refine z_icmp_ne (M := M_X12_numbers) 75 dX12_numbers_75 86 rfl (fun c2 => ?_) (fun c2 => ?_)
    · refine z_iload (M := M_X12_numbers) 86 dX12_numbers_86 rfl ?_
      refine z_istore (M := M_X12_numbers) 88 dX12_numbers_88 (ls' := [some (mR 108), none, none, some (mI a3), some (mI a4), some (mI l5), some (mI l6), some (mI l6)]) (by decide) rfl ?_
      refine z_aload_n (M := M_X12_numbers) 90 dX12_numbers_90 rfl ?_
      refine z_iload (M := M_X12_numbers) 91 dX12_numbers_91 rfl ?_
      refine z_iload_n (M := M_X12_numbers) 93 dX12_numbers_93 rfl ?_
      refine z_vI (M := M_X12_numbers) 94 dX12_numbers_94 t_X12_tells l_X12_431 (m_rr_of rfl) (rest := []) (c_X12_tells4 h l6 a3 G ⟨by omega, by omega⟩ ⟨by omega, by omega⟩ ok_) o_108 rfl rfl rfl (Nat.le_of_ble_eq_true rfl) ⟨rfl, rfl⟩ (fun x3 h1 qx3 => ?_)
      obtain ⟨G1, S1, ax3, bx3, fx3⟩ := qx3
      have R1 := R.call S1 (by decide +kernel)
      refine z_if_le (M := M_X12_numbers) 97 dX12_numbers_97 105 rfl (fun c4 => ?_) (fun c4 => ?_)
      · refine z_iload (M := M_X12_numbers) 105 dX12_numbers_105 rfl ?_
        refine z_istore (M := M_X12_numbers) 107 dX12_numbers_107 (ls' := [some (mR 108), none, none, some (mI a3), some (mI a4), some (mI l5), some (mI l6), some (mI l6)]) (by decide) rfl ?_
        refine z_iincN (M := M_X12_numbers) 109 dX12_numbers_109 (ls' := [some (mR 108), none, none, some (mI a3), some (mI a4), some (mI l5), some (mI (l6 + 1)), some (mI l6)]) (by decide) rfl (by (unfold m_32; decide)) (by omega) (by omega) rfl ?_
        refine z_goto (M := M_X12_numbers) 112 dX12_numbers_112 65 rfl ?_
        exact z_mask [true, false, false, true, true, true, true, false] rfl (ih l5 (l6 + 1) h1 G1 R1 (by omega) (by omega) (by omega) (by omega) (by omega) (by omega) (by omega) (by omega) (by omega) (by omega) (by omega) (by omega) (nmX_s S1 i0 ⟨by omega, by omega⟩ (by omega) (Or.inr ⟨by omega, rfl⟩) fx3 (Or.inr ⟨by omega, rfl⟩)) (by omega))
      · refine z_iload (M := M_X12_numbers) 100 dX12_numbers_100 rfl ?_
        refine z_goto (M := M_X12_numbers) 102 dX12_numbers_102 107 rfl ?_
        refine z_istore (M := M_X12_numbers) 107 dX12_numbers_107 (ls' := [some (mR 108), none, none, some (mI a3), some (mI a4), some (mI l6), some (mI l6), some (mI l6)]) (by decide) rfl ?_
        refine z_iincN (M := M_X12_numbers) 109 dX12_numbers_109 (ls' := [some (mR 108), none, none, some (mI a3), some (mI a4), some (mI l6), some (mI (l6 + 1)), some (mI l6)]) (by decide) rfl (by (unfold m_32; decide)) (by omega) (by omega) rfl ?_
        refine z_goto (M := M_X12_numbers) 112 dX12_numbers_112 65 rfl ?_
        exact z_mask [true, false, false, true, true, true, true, false] rfl (ih l6 (l6 + 1) h1 G1 R1 (by omega) (by omega) (by omega) (by omega) (by omega) (by omega) (by omega) (by omega) (by omega) (by omega) (by omega) (by omega) (nmX_s S1 i0 ⟨by omega, by omega⟩ (by omega) (Or.inr ⟨by omega, rfl⟩) fx3 (Or.inl ⟨by omega, rfl⟩)) (by omega))
    · refine z_bipush (M := M_X12_numbers) 78 dX12_numbers_78 ?_
      refine z_iload (M := M_X12_numbers) 80 dX12_numbers_80 rfl ?_
      refine z_isubN (M := M_X12_numbers) 82 dX12_numbers_82 (by omega) (by omega) ?_
      refine z_goto (M := M_X12_numbers) 83 dX12_numbers_83 88 rfl ?_
      refine z_istore (M := M_X12_numbers) 88 dX12_numbers_88 (ls' := [some (mR 108), none, none, some (mI a3), some (mI a4), some (mI l5), some (mI l6), some (mI (100 - l6))]) (by decide) rfl ?_
      refine z_aload_n (M := M_X12_numbers) 90 dX12_numbers_90 rfl ?_
      refine z_iload (M := M_X12_numbers) 91 dX12_numbers_91 rfl ?_
      refine z_iload_n (M := M_X12_numbers) 93 dX12_numbers_93 rfl ?_
      refine z_vI (M := M_X12_numbers) 94 dX12_numbers_94 t_X12_tells l_X12_431 (m_rr_of rfl) (rest := []) (c_X12_tells4 h (100 - l6) a3 G ⟨by omega, by omega⟩ ⟨by omega, by omega⟩ ok_) o_108 rfl rfl rfl (Nat.le_of_ble_eq_true rfl) ⟨rfl, rfl⟩ (fun x5 h2 qx5 => ?_)
      obtain ⟨G2, S2, ax5, bx5, fx5⟩ := qx5
      have R2 := R.call S2 (by decide +kernel)
      refine z_if_le (M := M_X12_numbers) 97 dX12_numbers_97 105 rfl (fun c6 => ?_) (fun c6 => ?_)
      · refine z_iload (M := M_X12_numbers) 105 dX12_numbers_105 rfl ?_
        refine z_istore (M := M_X12_numbers) 107 dX12_numbers_107 (ls' := [some (mR 108), none, none, some (mI a3), some (mI a4), some (mI l5), some (mI l6), some (mI (100 - l6))]) (by decide) rfl ?_
        refine z_iincN (M := M_X12_numbers) 109 dX12_numbers_109 (ls' := [some (mR 108), none, none, some (mI a3), some (mI a4), some (mI l5), some (mI (l6 + 1)), some (mI (100 - l6))]) (by decide) rfl (by (unfold m_32; decide)) (by omega) (by omega) rfl ?_
        refine z_goto (M := M_X12_numbers) 112 dX12_numbers_112 65 rfl ?_
        exact z_mask [true, false, false, true, true, true, true, false] rfl (ih l5 (l6 + 1) h2 G2 R2 (by omega) (by omega) (by omega) (by omega) (by omega) (by omega) (by omega) (by omega) (by omega) (by omega) (by omega) (by omega) (nmX_s S2 i0 ⟨by omega, by omega⟩ (by omega) (Or.inl ⟨by omega, rfl⟩) fx5 (Or.inr ⟨by omega, rfl⟩)) (by omega))
      · refine z_iload (M := M_X12_numbers) 100 dX12_numbers_100 rfl ?_
        refine z_goto (M := M_X12_numbers) 102 dX12_numbers_102 107 rfl ?_
        refine z_istore (M := M_X12_numbers) 107 dX12_numbers_107 (ls' := [some (mR 108), none, none, some (mI a3), some (mI a4), some (mI (100 - l6)), some (mI l6), some (mI (100 - l6))]) (by decide) rfl ?_
        refine z_iincN (M := M_X12_numbers) 109 dX12_numbers_109 (ls' := [some (mR 108), none, none, some (mI a3), some (mI a4), some (mI (100 - l6)), some (mI (l6 + 1)), some (mI (100 - l6))]) (by decide) rfl (by (unfold m_32; decide)) (by omega) (by omega) rfl ?_
        refine z_goto (M := M_X12_numbers) 112 dX12_numbers_112 65 rfl ?_
        exact z_mask [true, false, false, true, true, true, true, false] rfl (ih (100 - l6) (l6 + 1) h2 G2 R2 (by omega) (by omega) (by omega) (by omega) (by omega) (by omega) (by omega) (by omega) (by omega) (by omega) (by omega) (by omega) (nmX_s S2 i0 ⟨by omega, by omega⟩ (by omega) (Or.inl ⟨by omega, rfl⟩) fx5 (Or.inl ⟨by omega, rfl⟩)) (by omega))
theorem a_X12_numbers3 (h0 : m_H) (a1 a2 a3 a4 : Int) (G0 : GI h0) (hN : NP h0) : ∀ n, q_X12_numbers3 h0 a1 a2 a3 a4 n := by
  intro n
  induction n with
  | zero => unfold q_X12_numbers3; intros; omega
  | succ n ih => exact s_X12_numbers3_65 h0 a1 a2 a3 a4 G0 hN n ih
set_option maxHeartbeats 4000000 in
set_option maxRecDepth 100000 in
theorem c_X12_numbers3 (h0 : m_H) (a1 a2 a3 a4 : Int) (G0 : GI h0) (hN : NP h0) : m_CI M_X12_numbers [mR 108, mI a1, mI a2, mI a3, mI a4] h0 (P_X12_numbers3 h0 a1 a2 a3 a4) := by
  refine m_CI_of ⟨by decide, rfl, by simp [m_arg, m_isL, M_X12_numbers], ⟨rfl, rfl⟩, rfl, rfl⟩ (ls := [some (mR 108), some (mI a1), some (mI a2), some (mI a3), some (mI a4), none, none, none]) rfl ?_
  have ih := a_X12_numbers3 h0 a1 a2 a3 a4 G0 hN 206
  refine z_ok (fun _ _ ok => ?_)
  have oa1 : m_32 a1 := ok 1 _ rfl
  unfold m_32 at oa1
  have oa2 : m_32 a2 := ok 2 _ rfl
  unfold m_32 at oa2
  have oa3 : m_32 a3 := ok 3 _ rfl
  unfold m_32 at oa3
  have oa4 : m_32 a4 := ok 4 _ rfl
  unfold m_32 at oa4
  refine z_aload_n (M := M_X12_numbers) 0 dX12_numbers_0 rfl ?_
  refine z_iconst (M := M_X12_numbers) 1 dX12_numbers_1 ?_
  refine z_putIH (M := M_X12_numbers) 2 dX12_numbers_2 p_X12_133 o_108 rfl (u_108_0 G0) ((FR.rf (cs := [115, 116, 117, 118, 119, 120, 121, 122, 123, 124, 125, 126, 127, 128, 129, 130, 131, 132, 133, 134, 135, 136, 138]) (ss := [(108, 0), (108, 21), (108, 44), (108, 45), (108, 46), (108, 47)]) (h := h0)).up rfl) (fun h1 E1 G1 R1 => ?_)
  refine z_iload_n (M := M_X12_numbers) 5 dX12_numbers_5 rfl ?_
  refine z_i2l (M := M_X12_numbers) 6 dX12_numbers_6 ?_
  refine z_lconst (M := M_X12_numbers) 7 dX12_numbers_7 (v := 0) ?_
  refine z_ldc2 (M := M_X12_numbers) 8 dX12_numbers_8 k_X12_182 ?_
  refine z_sI (M := M_X12_numbers) 11 dX12_numbers_11 t_X12_in l_X12_143 (m_rr_of rfl) (rest := []) (c_X12_in h1 a3 0 2 G1) rfl rfl (Nat.le_of_ble_eq_true rfl) ⟨rfl, rfl⟩ (fun x1 h2 qx1 => ?_)
  obtain ⟨rfl, ⟨rfl, cx1⟩ | ⟨rfl, cx1⟩⟩ := qx1
  · refine z_if_eq_F (M := M_X12_numbers) 14 dX12_numbers_14 39 rfl (by omega) ?_
    refine z_iload (M := M_X12_numbers) 17 dX12_numbers_17 rfl ?_
    refine z_i2l (M := M_X12_numbers) 19 dX12_numbers_19 ?_
    refine z_lconst (M := M_X12_numbers) 20 dX12_numbers_20 (v := 0) ?_
    refine z_ldc2 (M := M_X12_numbers) 21 dX12_numbers_21 k_X12_182 ?_
    refine z_sI (M := M_X12_numbers) 24 dX12_numbers_24 t_X12_in l_X12_143 (m_rr_of rfl) (rest := []) (c_X12_in h1 a4 0 2 G1) rfl rfl (Nat.le_of_ble_eq_true rfl) ⟨rfl, rfl⟩ (fun x2 h3 qx2 => ?_)
    obtain ⟨rfl, ⟨rfl, cx2⟩ | ⟨rfl, cx2⟩⟩ := qx2
    · refine z_if_eq_F (M := M_X12_numbers) 27 dX12_numbers_27 39 rfl (by omega) ?_
      refine z_aload_n (M := M_X12_numbers) 30 dX12_numbers_30 rfl ?_
      refine z_iload_n (M := M_X12_numbers) 31 dX12_numbers_31 rfl ?_
      refine z_iload_n (M := M_X12_numbers) 32 dX12_numbers_32 rfl ?_
      refine z_vI (M := M_X12_numbers) 33 dX12_numbers_33 t_X12_isAsked l_X12_425 (m_rr_of rfl) (rest := []) (c_X12_isAsked4 h1 a1 a2 G1 (NP.call hN R1 (fun _ => rfl) (fun _ => rfl) (fun _ => rfl))) o_108 rfl rfl rfl (Nat.le_of_ble_eq_true rfl) ⟨rfl, rfl⟩ (fun x3 h4 qx3 => ?_)
      obtain ⟨G4, S4, ax3, bx3, fx3_0, fx3_1⟩ := qx3
      rw [(FR.row R1 (fun _ => rfl) : h1 110 = h0 110)] at fx3_1
      have R4 := R1.call S4 (by decide +kernel)
      refine z_if_ne (M := M_X12_numbers) 36 dX12_numbers_36 42 rfl (fun c4 => ?_) (fun c4 => ?_)
      · have an := fx3_0 (by omega)
        have an1 := an.1
        have an2 := an.2.1
        refine z_aload_n (M := M_X12_numbers) 42 dX12_numbers_42 rfl ?_
        refine z_iload_n (M := M_X12_numbers) 43 dX12_numbers_43 rfl ?_
        refine z_iload_n (M := M_X12_numbers) 44 dX12_numbers_44 rfl ?_
        refine z_vV (M := M_X12_numbers) 45 dX12_numbers_45 t_X12_findEnds l_X12_428 (m_rr_of rfl) (rest := []) (c_X12_findEnds4 h4 a1 a2 G4 ⟨by omega, by omega⟩ ⟨by omega, by omega⟩ (NP.call hN R4 (fun _ => rfl) (fun _ => rfl) (fun _ => rfl)) (gG_f (gG_b an.2.2 R1 (fun _ => rfl)) R4 (fun _ => rfl))) o_108 rfl rfl rfl (Nat.le_of_ble_eq_true rfl) ⟨rfl, rfl⟩ (fun h5 qx5 => ?_)
        obtain ⟨G5, S5, fx5_0, fx5_1, fx5_2⟩ := qx5
        unfold lP at fx5_1
        unfold hP at fx5_2
        rw [(FR.row R4 (fun _ => rfl) : h4 110 = h0 110)] at fx5_1 fx5_2
        have k_ : nmK (h0 110) a1 a2 a3 a4 := ⟨cx1, cx2, fx3_1.mp (by omega)⟩
        obtain ⟨fo, la, nm_⟩ := nmI_ex (k := a3) fx5_1.1.1.1.1 fx5_2.1.1.1.1 fx5_2.1.1.1.2 cx1
        have R5 := R4.call S5 (by decide +kernel)
        refine z_iload (M := M_X12_numbers) 48 dX12_numbers_48 rfl ?_
        refine z_if_ne (M := M_X12_numbers) 50 dX12_numbers_50 59 rfl (fun c6 => ?_) (fun c6 => ?_)
        · refine z_iconst (M := M_X12_numbers) 59 dX12_numbers_59 ?_
          refine z_istore (M := M_X12_numbers) 60 dX12_numbers_60 (ls' := [some (mR 108), some (mI a1), some (mI a2), some (mI a3), some (mI a4), some (mI (-1)), none, none]) (by decide) rfl ?_
          refine z_iconst (M := M_X12_numbers) 62 dX12_numbers_62 ?_
          refine z_istore (M := M_X12_numbers) 63 dX12_numbers_63 (ls' := [some (mR 108), some (mI a1), some (mI a2), some (mI a3), some (mI a4), some (mI (-1)), some (mI 1), none]) (by decide) rfl ?_
          exact z_mask [true, false, false, true, true, true, true, false] rfl (ih (-1) 1 h5 G5 R5 (by omega) (by omega) (by omega) (by omega) (by omega) (by omega) (by omega) (by omega) (by omega) (by omega) (by omega) (by omega) (nmX_0 ⟨fx5_1.2, fx5_2.2⟩ k_ ⟨fx5_1.1, fx5_2.1, nm_⟩) (by omega))
        · refine z_aload_n (M := M_X12_numbers) 53 dX12_numbers_53 rfl ?_
          refine z_iload_n (M := M_X12_numbers) 54 dX12_numbers_54 rfl ?_
          refine z_vI (M := M_X12_numbers) 55 dX12_numbers_55 t_X12_numbersOf l_X12_434 (m_rr_of rfl) (rest := []) (c_X12_numbersOf4 h5 a3 fo la G5 ⟨by omega, by omega⟩ ⟨fx5_1.2, fx5_2.2⟩ nm_) o_108 rfl rfl rfl (Nat.le_of_ble_eq_true rfl) ⟨rfl, rfl⟩ (fun x7 h6 qx7 => ?_)
          obtain ⟨G6, S6, _, fx7⟩ := qx7
          have R6 := R5.call S6 (by decide +kernel)
          refine z_ok (fun ox7 _ _ => ?_)
          have ox7 := ox7.1; unfold m_ok m_32 at ox7
          exact z_retI (M := M_X12_numbers) 58 dX12_numbers_58 rfl ⟨G6, R6, Or.inr ⟨k_, _, _, fo, la, ⟨fx5_1.1, fx5_2.1, nm_⟩, fun _ => fx7.symm, fun z => by omega, fun z => by omega⟩⟩
      · refine z_bipush (M := M_X12_numbers) 39 dX12_numbers_39 ?_
        exact z_retI (M := M_X12_numbers) 41 dX12_numbers_41 rfl ⟨G4, R4, Or.inl ⟨fun z => absurd (fx3_1.mpr z.2.2) (by omega), rfl⟩⟩
    · refine z_if_eq_T (M := M_X12_numbers) 27 dX12_numbers_27 39 rfl (by omega) ?_
      refine z_bipush (M := M_X12_numbers) 39 dX12_numbers_39 ?_
      exact z_retI (M := M_X12_numbers) 41 dX12_numbers_41 rfl ⟨G1, R1, Or.inl ⟨fun z => cx2 z.2.1, rfl⟩⟩
  · refine z_if_eq_T (M := M_X12_numbers) 14 dX12_numbers_14 39 rfl (by omega) ?_
    refine z_bipush (M := M_X12_numbers) 39 dX12_numbers_39 ?_
    exact z_retI (M := M_X12_numbers) 41 dX12_numbers_41 rfl ⟨G1, R1, Or.inl ⟨fun z => cx1 z.1, rfl⟩⟩
abbrev P_X11_numbers3 (h0 : m_H) (a1 a2 a3 a4 : Int) : Int → m_H → Prop := fun x h' => GI h' ∧ FR (csB ++ [39, 40, 41]) [] h0 h' ∧ nbQ (h0 110) a1 a2 a3 a4 x
set_option maxHeartbeats 4000000 in
set_option maxRecDepth 100000 in
theorem c_X11_numbers3 (h0 : m_H) (a1 a2 a3 a4 : Int) (G0 : GI h0) (hR : LR 1 h0 (h0 110)) (hN : NP h0) : m_CI M_X11_numbers [mR 0, mI a1, mI a2, mI a3, mI a4] h0 (P_X11_numbers3 h0 a1 a2 a3 a4) := by
  refine m_CI_of ⟨by decide, rfl, by simp [m_arg, m_isL, M_X11_numbers], ⟨rfl, rfl⟩, rfl, rfl⟩ (ls := [some (mR 0), some (mI a1), some (mI a2), some (mI a3), some (mI a4), none]) rfl ?_
  refine z_ok (fun _ _ ok => ?_)
  have oa1 : m_32 a1 := ok 1 _ rfl
  unfold m_32 at oa1
  have oa2 : m_32 a2 := ok 2 _ rfl
  unfold m_32 at oa2
  have oa3 : m_32 a3 := ok 3 _ rfl
  unfold m_32 at oa3
  have oa4 : m_32 a4 := ok 4 _ rfl
  unfold m_32 at oa4
  refine z_iload_n (M := M_X11_numbers) 0 dX11_numbers_0 rfl ?_
  refine z_sI (M := M_X11_numbers) 1 dX11_numbers_1 t_X11_isKind l_X11_301 (m_rr_of rfl) (rest := []) (c_X11_isKind h0 a3 G0) rfl rfl (Nat.le_of_ble_eq_true rfl) ⟨rfl, rfl⟩ (fun x1 h1 qx1 => ?_)
  obtain ⟨rfl, ⟨rfl, cx1⟩ | ⟨rfl, cx1⟩⟩ := qx1
  · refine z_if_eq_F (M := M_X11_numbers) 4 dX11_numbers_4 26 rfl (by omega) ?_
    refine z_iload (M := M_X11_numbers) 7 dX11_numbers_7 rfl ?_
    refine z_iconst (M := M_X11_numbers) 9 dX11_numbers_9 ?_
    refine z_iconst (M := M_X11_numbers) 10 dX11_numbers_10 ?_
    refine z_sI (M := M_X11_numbers) 11 dX11_numbers_11 t_X11_within l_X11_112 (m_rr_of rfl) (rest := []) (c_X11_within h0 a4 0 2 G0) rfl rfl (Nat.le_of_ble_eq_true rfl) ⟨rfl, rfl⟩ (fun x2 h2 qx2 => ?_)
    obtain ⟨rfl, ⟨rfl, cx2⟩ | ⟨rfl, cx2⟩⟩ := qx2
    · refine z_if_eq_F (M := M_X11_numbers) 14 dX11_numbers_14 26 rfl (by omega) ?_
      refine z_aload_n (M := M_X11_numbers) 17 dX11_numbers_17 rfl ?_
      refine z_iload_n (M := M_X11_numbers) 18 dX11_numbers_18 rfl ?_
      refine z_iload_n (M := M_X11_numbers) 19 dX11_numbers_19 rfl ?_
      refine z_vI (M := M_X11_numbers) 20 dX11_numbers_20 t_X11_compareToFoot l_X11_247 (m_rr_of rfl) (rest := []) (c_X11_compareToFoot2 h0 a1 a2 G0 hR hN) o_0 rfl rfl rfl (Nat.le_of_ble_eq_true rfl) ⟨rfl, rfl⟩ (fun x3 h3 qx3 => ?_)
      obtain ⟨G3, S3, ax3, bx3, fx3⟩ := qx3
      have R3 := (FR.rf (cs := (csB ++ [39, 40, 41])) (ss := []) (h := h0)).call S3 (by decide +kernel)
      refine z_if_ne (M := M_X11_numbers) 23 dX11_numbers_23 29 rfl (fun c4 => ?_) (fun c4 => ?_)
      · have k_ := fx3.1.mp (by omega)
        have p_ := fx3.2 (by omega)
        have pb1_ : (1 ≤ h3 95 0 ∧ h3 95 0 ≤ 1600000000) ∧ (0 ≤ h3 95 1 ∧ h3 95 1 ≤ 1600000000) := by have z := p_.1.2.1; unfold pBb bd at z; simp only at z; omega
        have pb2_ : (1 ≤ h3 94 0 ∧ h3 94 0 ≤ 1600000000) ∧ (0 ≤ h3 94 1 ∧ h3 94 1 ≤ 1600000000) := by have z := p_.2.2.1; unfold pBb bd at z; simp only at z; omega
        refine z_aload_n (M := M_X11_numbers) 29 dX11_numbers_29 rfl ?_
        refine z_getR (M := M_X11_numbers) 30 dX11_numbers_30 f_X11_53 o_0 rfl (g_0_7 G3) ?_
        refine z_iload_n (M := M_X11_numbers) 33 dX11_numbers_33 rfl ?_
        refine z_vI (M := M_X11_numbers) 34 dX11_numbers_34 t_X7_manyNumbers l_X11_310 (m_rr_of rfl) (rest := []) (c_X7_manyNumbers4 h3 a3 G3 cx1 pb2_ pb1_) o_93 rfl rfl rfl (Nat.le_of_ble_eq_true rfl) ⟨rfl, rfl⟩ (fun x5 h4 qx5 => ?_)
        obtain ⟨G4, S4, ax5, bx5, fo, la, nm_, nx_⟩ := qx5
        have ne_ : nmE (h0 110) a1 a2 a3 (bd h3 94) (bd h3 95) fo la := ⟨⟨p_.2.1, p_.2.2.2.1⟩, ⟨p_.1.1, p_.1.2.2.1⟩, nm_⟩
        have n1_ := nm_.1
        have n2_ := nm_.2.1
        have fl_ : x5 = 0 ↔ ¬ fo ≤ la := by rw [← nx_]; unfold nmN; split <;> omega
        have R4 := R3.call S4 (by decide +kernel)
        refine z_istore (M := M_X11_numbers) 37 dX11_numbers_37 (ls' := [some (mR 0), some (mI a1), some (mI a2), some (mI a3), some (mI a4), some (mI x5)]) (by decide) rfl ?_
        refine z_iload (M := M_X11_numbers) 39 dX11_numbers_39 rfl ?_
        refine z_if_ne (M := M_X11_numbers) 41 dX11_numbers_41 47 rfl (fun c6 => ?_) (fun c6 => ?_)
        · refine z_iload (M := M_X11_numbers) 47 dX11_numbers_47 rfl ?_
          refine z_if_ne (M := M_X11_numbers) 49 dX11_numbers_49 54 rfl (fun c7 => ?_) (fun c7 => ?_)
          · refine z_iload (M := M_X11_numbers) 54 dX11_numbers_54 rfl ?_
            refine z_iconst (M := M_X11_numbers) 56 dX11_numbers_56 ?_
            refine z_icmp_ne (M := M_X11_numbers) 57 dX11_numbers_57 71 rfl (fun c8 => ?_) (fun c8 => ?_)
            · refine z_aload_n (M := M_X11_numbers) 71 dX11_numbers_71 rfl ?_
              refine z_getR (M := M_X11_numbers) 72 dX11_numbers_72 f_X11_53 o_0 rfl (g_0_7 G4) ?_
              refine z_iload_n (M := M_X11_numbers) 75 dX11_numbers_75 rfl ?_
              refine z_vI (M := M_X11_numbers) 76 dX11_numbers_76 t_X7_lastNumber l_X11_316 (m_rr_of rfl) (rest := []) (c_X7_lastNumber4 h4 a3 G4 cx1 (by rw [frE S4]; exact pb1_)) o_93 rfl rfl rfl (Nat.le_of_ble_eq_true rfl) ⟨rfl, rfl⟩ (fun x9 h5 qx9 => ?_)
              obtain ⟨G5, S5, l1_, l2_, l3_⟩ := qx9
              rw [frE S4] at l3_
              have el_ : x9 = la := by
                have y1 := (l3_ la (by omega) (by omega)).trans (nm_.2.2.2 la (by omega) (by omega)).symm
                by_cases g : 1 ≤ x9
                · have y2 := (l3_ x9 (by omega) (by omega)).trans (nm_.2.2.2 x9 (by omega) (by omega)).symm
                  omega
                · omega
              have R5 := R4.call S5 (by decide +kernel)
              refine z_ok (fun ox9 _ _ => ?_)
              have ox9 := ox9.1; unfold m_ok m_32 at ox9
              exact z_retI (M := M_X11_numbers) 79 dX11_numbers_79 rfl ⟨G5, R5, Or.inr ⟨⟨cx1, cx2, k_⟩, _, _, fo, la, ne_, fun z => by omega, fun z => by omega, fun _ => ⟨fun _ => el_, fun z => absurd (fl_.mpr z) c7⟩⟩⟩
            · refine z_aload_n (M := M_X11_numbers) 60 dX11_numbers_60 rfl ?_
              refine z_getR (M := M_X11_numbers) 61 dX11_numbers_61 f_X11_53 o_0 rfl (g_0_7 G4) ?_
              refine z_iload_n (M := M_X11_numbers) 64 dX11_numbers_64 rfl ?_
              refine z_vI (M := M_X11_numbers) 65 dX11_numbers_65 t_X7_firstNumber l_X11_313 (m_rr_of rfl) (rest := []) (c_X7_firstNumber4 h4 a3 G4 cx1 (by rw [frE S4]; exact pb2_)) o_93 rfl rfl rfl (Nat.le_of_ble_eq_true rfl) ⟨rfl, rfl⟩ (fun x10 h6 qx10 => ?_)
              obtain ⟨G6, S6, f1_, f2_, f3_⟩ := qx10
              rw [frE S4] at f3_
              have ef_ : x10 = fo := by
                have y1 := (f3_ fo (by omega) (by omega)).trans (nm_.2.2.1 fo (by omega) (by omega)).symm
                have y2 := (f3_ x10 (by omega) (by omega)).trans (nm_.2.2.1 x10 (by omega) (by omega)).symm
                omega
              have R6 := R4.call S6 (by decide +kernel)
              refine z_ok (fun ox10 _ _ => ?_)
              have ox10 := ox10.1; unfold m_ok m_32 at ox10
              refine z_goto (M := M_X11_numbers) 68 dX11_numbers_68 79 rfl ?_
              exact z_retI (M := M_X11_numbers) 79 dX11_numbers_79 rfl ⟨G6, R6, Or.inr ⟨⟨cx1, cx2, k_⟩, _, _, fo, la, ne_, fun z => by omega, fun _ => ⟨fun _ => ef_, fun z => absurd (fl_.mpr z) c7⟩, fun z => by omega⟩⟩
          · refine z_iconst (M := M_X11_numbers) 52 dX11_numbers_52 ?_
            exact z_retI (M := M_X11_numbers) 53 dX11_numbers_53 rfl ⟨G4, R4, Or.inr ⟨⟨cx1, cx2, k_⟩, _, _, fo, la, ne_, fun z => by omega, fun _ => ⟨fun z => absurd z (fl_.mp (by omega)), fun _ => rfl⟩, fun _ => ⟨fun z => absurd z (fl_.mp (by omega)), fun _ => rfl⟩⟩⟩
        · refine z_iload (M := M_X11_numbers) 44 dX11_numbers_44 rfl ?_
          exact z_retI (M := M_X11_numbers) 46 dX11_numbers_46 rfl ⟨G4, R4, Or.inr ⟨⟨cx1, cx2, k_⟩, _, _, fo, la, ne_, fun _ => nx_.symm, fun z => by omega, fun z => by omega⟩⟩
      · refine z_bipush (M := M_X11_numbers) 26 dX11_numbers_26 ?_
        exact z_retI (M := M_X11_numbers) 28 dX11_numbers_28 rfl ⟨G3, R3, Or.inl ⟨fun z => absurd (fx3.1.mpr z.2.2) (by omega), rfl⟩⟩
    · refine z_if_eq_T (M := M_X11_numbers) 14 dX11_numbers_14 26 rfl (by omega) ?_
      refine z_bipush (M := M_X11_numbers) 26 dX11_numbers_26 ?_
      exact z_retI (M := M_X11_numbers) 28 dX11_numbers_28 rfl ⟨G0, (FR.rf (cs := (csB ++ [39, 40, 41])) (ss := []) (h := h0)), Or.inl ⟨fun z => cx2 z.2.1, rfl⟩⟩
  · refine z_if_eq_T (M := M_X11_numbers) 4 dX11_numbers_4 26 rfl (by omega) ?_
    refine z_bipush (M := M_X11_numbers) 26 dX11_numbers_26 ?_
    exact z_retI (M := M_X11_numbers) 28 dX11_numbers_28 rfl ⟨G0, (FR.rf (cs := (csB ++ [39, 40, 41])) (ss := []) (h := h0)), Or.inl ⟨fun z => cx1 z.1, rfl⟩⟩
