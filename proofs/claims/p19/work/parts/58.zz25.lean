/-! the class's ledger against the reference's row, keepers and cuts -/
def LK (L : Nat) (h : m_H) (r K C : Nat → Int) : Prop := RB r ∧ (∀ j, j < 32 → h (L + 1) j = K j) ∧ (∀ j, j < 6 → h (L + 2) j = C j) ∧ h L 7 = r 0 ∧ LE L h r ∧ SB (h L 9) r
theorem LK_of {L : Nat} {h : m_H} {r : Nat → Int} (R : LR L h r) : LK L h r (fun j => r (10 + j)) (fun j => r (42 + j)) := by
  obtain ⟨b, k, c, w, n, q, cb, sb⟩ := R
  exact ⟨b, k, c, n, q, sb⟩
theorem csB_led : ∀ k, k < 34 → (csB ++ [39, 40, 41]).any (fun c => c == k) = false := by decide +kernel
theorem led_same {L : Nat} {h0 h : m_H} (hL : isL L) (R : FR (csB ++ [39, 40, 41]) [] h0 h) : ∀ i, i < 8 → h (L + i) = h0 (L + i) := fun i hi => by
  funext j
  refine R _ _ ?_
  unfold fr
  rw [csB_led (L + i) (by unfold isL at hL; omega)]
  rfl
theorem LK.same {L : Nat} {h0 h : m_H} {r K C : Nat → Int} (l : LK L h0 r K C) (e : ∀ i, i < 8 → h (L + i) = h0 (L + i)) : LK L h r K C := by
  obtain ⟨b, k, c, n, q, sb⟩ := l
  have e0 : h L = h0 L := e 0 (by decide)
  refine ⟨b, fun j hj => ?_, fun j hj => ?_, by rw [e0]; exact n, fun x hx => ?_, by rw [e0]; exact sb⟩
  · rw [e 1 (by decide)]; exact k j hj
  · rw [e 2 (by decide)]; exact c j hj
  · rw [e 3 (by decide), e 4 (by decide), e 5 (by decide), e 6 (by decide)]; exact q x hx
/-- entries as they can be -/
def EN (r K : Nat → Int) : Prop := ∀ e : Nat, (e : Int) < r 0 → (-1 ≤ K (r (5 * e + 81)).toNat ∧ K (r (5 * e + 81)).toNat ≤ 3) ∧ (0 ≤ r (5 * e + 80) ∧ r (5 * e + 80) ≤ 5) ∧ (1 ≤ r (5 * e + 82) ∧ r (5 * e + 82) ≤ 99) ∧ (0 ≤ r (5 * e + 83) ∧ r (5 * e + 83) ≤ 2) ∧ 0 ≤ r (5 * e + 81) ∧ r (5 * e + 81) ≤ 31
theorem eA_in {r K C : Nat → Int} {en : Int} : ∀ {n m : Nat}, n ≤ m → ∀ q ∈ eA r K C en n, q ∈ eA r K C en m := fun {n m} h => by
  induction h with
  | refl => exact fun q hq => hq
  | step _ ih => exact fun q hq => List.mem_append.mpr (Or.inl (ih q hq))
theorem eA_bL {r K C : Nat → Int} {en : Int} {n : Nat} (h : n ≤ (r 0).toNat) : ∀ q ∈ eA r K C en n, q ∈ bL r K C en := fun q hq => List.mem_append.mpr (Or.inl (List.mem_append.mpr (Or.inl (eA_in h q hq))))
def stZ (h : m_H) : Prop := ∀ p : Nat, p < 16 → bd h (43 + p) = (1, 0, 1)
theorem stZ_c {h h' : m_H} (z : stZ h) (e : ∀ c, c ≠ 39 → c ≠ 40 → c ≠ 41 → h' c = h c) : stZ h' := fun p hp => by
  have y := z p hp
  unfold bd at y ⊢
  rw [e (43 + p) (by omega) (by omega) (by omega)]; exact y
theorem eg_pos {Ls : List gE} (hE : ∀ q ∈ Ls, gEo q) : ∀ q ∈ Ls, 0 < q.2.1 ∧ 0 < q.2.2.1 := fun q hq => by
  have g := hE q hq
  unfold gEo at g
  omega
/-- an entry more -/
theorem TI_ent {r K C : Nat → Int} {a2 l : Int} {L : Nat} {h h' : m_H} (k_ : LK L h r K C) (en : EN r K) (hE : ∀ q ∈ bL r K C a2, gEo q) (l0 : 0 ≤ l) (l1 : l < r 0) (T : TI (bL r K C a2) (eA r K C a2 l.toNat) h) (Z : stZ h) (cx : m_and (m_shr a2 l) 1 = 1) (Q : tyQ L l h h') : TI (bL r K C a2) (eA r K C a2 (l + 1).toNat) h' ∧ stZ h' := by
  obtain ⟨b, k, c, n, q, sb⟩ := k_
  obtain ⟨q1, q2, q3, q4⟩ := q l.toNat (by omega)
  obtain ⟨n1, n2, n3, n4, n5⟩ := en l.toNat (by omega)
  have kk := k (r (5 * l.toNat + 81)).toNat (by omega)
  have cc := c (r (5 * l.toNat + 80)).toNat (by omega)
  have es : eA r K C a2 (l + 1).toNat = eA r K C a2 l.toNat ++ eR r K C a2 l.toNat := by
    rw [show (l + 1).toNat = l.toNat + 1 by omega]; rfl
  have ln : ((l.toNat : Nat) : Int) = l := by omega
  unfold tyQ at Q
  rw [q1, q2, q3, q4, kk, cc] at Q
  by_cases g : K (r (5 * l.toNat + 81)).toNat = -1
  · have e := Q.1 g
    have er : eR r K C a2 l.toNat = [] := if_neg (fun z => z.2 g)
    rw [es, er, List.append_nil, e]; exact ⟨T, Z⟩
  · have V := Q.2 g
    refine ⟨?_, stZ_c Z V.1⟩
    have er : eR r K C a2 l.toNat = [(((12 + K (r (5 * l.toNat + 81)).toNat).toNat, (if C (r (5 * l.toNat + 80)).toNat ≠ -1 ∧ C (r (5 * l.toNat + 80)).toNat ≤ r (5 * l.toNat + 81) then 6 + r (5 * l.toNat + 80) else r (5 * l.toNat + 80)).toNat), (if r (5 * l.toNat + 83) = 2 then 2 * r (5 * l.toNat + 82) - 1 else r (5 * l.toNat + 82), if r (5 * l.toNat + 83) = 2 then 2 else 1, 0)), (((if C (r (5 * l.toNat + 80)).toNat ≠ -1 ∧ C (r (5 * l.toNat + 80)).toNat ≤ r (5 * l.toNat + 81) then 6 + r (5 * l.toNat + 80) else r (5 * l.toNat + 80)).toNat, (12 + K (r (5 * l.toNat + 81)).toNat).toNat), (if r (5 * l.toNat + 83) = 2 then 2 else 1, if r (5 * l.toNat + 83) = 0 then r (5 * l.toNat + 82) else if r (5 * l.toNat + 83) = 1 then r (5 * l.toNat + 82) + 1 else 2 * r (5 * l.toNat + 82) + 1, if 0 < r (5 * l.toNat + 83) then 1 else 0))] := if_pos ⟨by rw [ln]; exact cx, g⟩
    have sub : ∀ q ∈ eR r K C a2 l.toNat, q ∈ bL r K C a2 := fun q hq => eA_bL (n := l.toNat + 1) (by omega) q (List.mem_append.mpr (Or.inr hq))
    rw [es, er]
    rw [er] at sub
    generalize K (r (5 * l.toNat + 81)).toNat = kp at *
    generalize C (r (5 * l.toNat + 80)).toNat = ct at *
    generalize r (5 * l.toNat + 80) = t at *
    generalize r (5 * l.toNat + 81) = w at *
    generalize r (5 * l.toNat + 82) = nu at *
    generalize r (5 * l.toNat + 83) = kd at *
    have ei : (if ct ≠ -1 ∧ ct ≤ w then 6 + t else t) = lnV ct t w := by
      unfold lnV
      by_cases y : ct = -1 ∨ w < ct
      · rw [if_pos y, if_neg (by omega)]
      · rw [if_neg y, if_pos (by omega), Int.add_comm]
    rw [ei] at sub ⊢
    have bi : 0 ≤ lnV ct t w ∧ lnV ct t w ≤ 11 := by unfold lnV; split <;> omega
    have ep : (lnV ct t w * 4 + kp).toNat = 4 * (lnV ct t w).toNat + kp.toNat := by omega
    rw [ep] at V
    have e12 : (12 + kp).toNat = 12 + kp.toNat := by omega
    rw [e12] at sub ⊢
    refine TI_tie T (fun q hq => eg_pos hE q (eA_bL (by omega) q hq)) (by omega) (by omega) V (sub _ List.mem_cons_self) (sub _ (List.mem_cons_of_mem _ List.mem_cons_self)) ?_ ?_ ⟨⟨?_, ?_⟩, ?_, ?_⟩ ?_ ?_ ?_
    · unfold hvE hvL; split <;> (try split) <;> omega
    · unfold hvL; split <;> omega
    · split <;> omega
    · split <;> omega
    · split <;> omega
    · split <;> (try split) <;> omega
    · unfold hvL
      by_cases y : kd = 2
      · rw [if_pos y, if_pos y, if_pos y]; omega
      · rw [if_neg y, if_neg y, if_neg y]; omega
    · unfold hvE hvL
      by_cases y : kd = 2
      · rw [if_neg (by omega), if_pos y, if_pos y, if_neg (by omega), if_neg (by omega)]; omega
      · by_cases y0 : kd = 0
        · rw [if_pos y0, if_neg y, if_pos y0]; omega
        · rw [if_neg y0, if_neg y, if_neg y, if_neg y0, if_pos (by omega)]; omega
    · by_cases y0 : kd = 0
      · rw [if_pos y0, if_neg (by omega)]
      · rw [if_neg y0, if_pos (by omega)]
theorem TI_no {r K C : Nat → Int} {a2 l : Int} {h : m_H} (l0 : 0 ≤ l) (T : TI (bL r K C a2) (eA r K C a2 l.toNat) h) (cx : ¬ m_and (m_shr a2 l) 1 = 1) : TI (bL r K C a2) (eA r K C a2 (l + 1).toNat) h := by
  have es : eA r K C a2 (l + 1).toNat = eA r K C a2 l.toNat ++ eR r K C a2 l.toNat := by
    rw [show (l + 1).toNat = l.toNat + 1 by omega]; rfl
  have ln : ((l.toNat : Nat) : Int) = l := by omega
  have er : eR r K C a2 l.toNat = [] := if_neg (fun z => cx (by have y := z.1; rw [ln] at y; exact y))
  rw [es, er, List.append_nil]; exact T
/-- what the reference's edges are -/
theorem cA_at {C : Nat → Int} : ∀ (n t : Nat), t < n → C t ≠ -1 → ((6 + t, t), ((1 : Int), (1 : Int), (0 : Int))) ∈ cA C n
  | n + 1, t, h, hc => by
    refine List.mem_append.mpr ?_
    by_cases g : t = n
    · subst g; right; rw [if_neg hc]; exact List.mem_cons_self
    · exact Or.inl (cA_at n t (by omega) hc)
theorem cA_is {C : Nat → Int} : ∀ (n : Nat) (q : gE), q ∈ cA C n → ∃ t : Nat, t < n ∧ C t ≠ -1 ∧ q = ((6 + t, t), (1, 1, 0))
  | n + 1, q, h => by
    rcases List.mem_append.mp h with h | h
    · obtain ⟨t, a, b, c⟩ := cA_is n q h
      exact ⟨t, by omega, b, c⟩
    · by_cases g : C n = -1
      · rw [if_pos g] at h; cases h
      · rw [if_neg g] at h
        rcases List.mem_cons.mp h with h | h
        · exact ⟨n, by omega, g, h⟩
        · cases h
theorem sA_is {r : Nat → Int} : ∀ (n : Nat) (q : gE), q ∈ sA r n → ∃ k : Nat, k < n ∧ q = (((12 + r (2 * k + 48)).toNat, (12 + r (2 * k + 49)).toNat), (1, 1, 1))
  | n + 1, q, h => by
    rcases List.mem_append.mp h with h | h
    · obtain ⟨t, a, b⟩ := sA_is n q h
      exact ⟨t, by omega, b⟩
    · rcases List.mem_cons.mp h with h | h
      · exact ⟨n, by omega, h⟩
      · cases h
theorem sA_at {r : Nat → Int} : ∀ (n k : Nat), k < n → (((12 + r (2 * k + 48)).toNat, (12 + r (2 * k + 49)).toNat), ((1 : Int), (1 : Int), (1 : Int))) ∈ sA r n
  | n + 1, k, h => by
    refine List.mem_append.mpr ?_
    by_cases g : k = n
    · subst g; right; exact List.mem_cons_self
    · exact Or.inl (sA_at n k (by omega))
theorem eA_is {r K C : Nat → Int} {en : Int} (H : EN r K) : ∀ (n : Nat), (n : Int) ≤ r 0 → ∀ q ∈ eA r K C en n, (12 ≤ q.1.1 ∧ q.1.2 < 12 ∧ q.2.2.2 = 0) ∨ (q.1.1 < 12 ∧ 12 ≤ q.1.2)
  | 0, _, q, h => by cases h
  | n + 1, hn, q, h => by
    rcases List.mem_append.mp h with h | h
    · exact eA_is H n (by omega) q h
    · obtain ⟨n1, n2, n3, n4, n5⟩ := H n (by omega)
      unfold eR eOf at h
      split at h
      · rename_i y
        have b1 : ((if C (r (5 * n + 80)).toNat ≠ -1 ∧ C (r (5 * n + 80)).toNat ≤ r (5 * n + 81) then 6 + r (5 * n + 80) else r (5 * n + 80)).toNat) < 12 := by split <;> omega
        have b2 : 12 ≤ (12 + K (r (5 * n + 81)).toNat).toNat := by omega
        rcases List.mem_cons.mp h with h | h
        · subst h; exact Or.inl ⟨b2, b1, rfl⟩
        · rcases List.mem_cons.mp h with h | h
          · subst h; exact Or.inr ⟨b1, b2⟩
          · cases h
      · cases h
/-- told ones among the shorter -/
def SH (r : Nat → Int) : Prop := ∀ k : Nat, (k : Int) < r 1 → (0 ≤ r (2 * k + 48) ∧ r (2 * k + 48) ≤ 3) ∧ 0 ≤ r (2 * k + 49) ∧ r (2 * k + 49) ≤ 3
theorem bL_cl {L : Nat} {h : m_H} {r K C : Nat → Int} {en : Int} (k_ : LK L h r K C) (H : EN r K) (sh : SH r) : eCl (eA r K C en (r 0).toNat) (bL r K C en) C (h L 9) := fun q hq => by
  obtain ⟨⟨b1, b2, b3, b4⟩, k, c, n, qq, sb⟩ := k_
  rcases List.mem_append.mp hq with hq | hq
  · rcases List.mem_append.mp hq with hq | hq
    · have z := eA_is H (r 0).toNat (by omega) q hq
      exact ⟨fun x y => by omega, fun x y => ⟨hq, by omega⟩, fun x y => hq, fun x y => by omega⟩
    · obtain ⟨j, hj, e⟩ := sA_is _ q hq
      obtain ⟨s1, s2⟩ := sh j (by omega)
      subst e
      refine ⟨fun x y => ⟨⟨rfl, rfl, rfl⟩, ?_⟩, fun x y => by simp only at y; omega, fun x y => by simp only at x; omega, fun x y => by simp only at x; omega⟩
      refine (sb.2.2.2 _ (by show 4 * ((12 + r (2 * j + 48)).toNat - 12) + ((12 + r (2 * j + 49)).toNat - 12) < 16; omega)).mpr ⟨j, by omega, ?_, ?_⟩
      · show r (2 * j + 48) = (((4 * ((12 + r (2 * j + 48)).toNat - 12) + ((12 + r (2 * j + 49)).toNat - 12)) / 4 : Nat) : Int); omega
      · show r (2 * j + 49) = (((4 * ((12 + r (2 * j + 48)).toNat - 12) + ((12 + r (2 * j + 49)).toNat - 12)) % 4 : Nat) : Int); omega
  · obtain ⟨t, ht, hc, e⟩ := cA_is _ q hq
    subst e
    exact ⟨fun x y => by simp only at x y; omega, fun x y => by simp only at x; omega, fun x y => by simp only at y; omega, fun x y => ⟨⟨rfl, hc⟩, rfl, rfl, by show (0 : Int) ≠ 1; decide⟩⟩
/-- a bit of the shorter ones is an edge -/
theorem sh_in {L : Nat} {h : m_H} {r K C : Nat → Int} {en : Int} {p : Nat} (k_ : LK L h r K C) (hp : p < 16) (hb : bt (h L 9) p = true) : ((12 + p / 4, 12 + p % 4), ((1 : Int), (1 : Int), (1 : Int))) ∈ bL r K C en := by
  obtain ⟨⟨b1, b2, b3, b4⟩, k, c, n, qq, sb⟩ := k_
  obtain ⟨j, hj, e1, e2⟩ := (sb.2.2.2 p hp).mp hb
  have m := sA_at (r := r) (r 1).toNat j (by omega)
  rw [e1, e2, show (12 + ((p / 4 : Nat) : Int)).toNat = 12 + p / 4 by omega, show (12 + ((p % 4 : Nat) : Int)).toNat = 12 + p % 4 by omega] at m
  exact List.mem_append.mpr (Or.inl (List.mem_append.mpr (Or.inr m)))
/-- nothing stepped yet -/
theorem st_0 {Ls : List gE} {s : Int} {h : m_H} (Z : stZ h) : bkS h ∧ sF1 Ls h ∧ sF2 0 h ∧ sF3 s 0 h :=
  ⟨fun p hp => by rw [Z p hp]; exact ⟨⟨by decide, by decide⟩, by decide, by decide⟩, fun a b ha hb => by rw [Z _ (by omega)]; exact fun n => absurd rfl n, fun i a b hi => absurd hi (by omega), fun p hp => absurd hp (by omega)⟩
/-- what stands when it can be -/
def TX (Ls D : List gE) (C : Nat → Int) (s : Int) (h : m_H) : Prop := TI Ls D h ∧ cI C 6 h ∧ bkS h ∧ sF1 Ls h ∧ sF2 12 h ∧ sF3 s 16 h ∧ ∀ p : Nat, p < 16 → bd h (77 + p) = goW (goW (wyH 43 h) (wyH 43 h)) (wyH 43 h) (12 + p / 4) (12 + p % 4)
/-- the loops' states -/
def c65 (Ls D : List gE) (C : Nat → Int) (n : Nat) (h : m_H) : Prop := TI Ls D h ∧ cI C 6 h ∧ bkS h ∧ sF1 Ls h ∧ sF2 n h
def c84 (Ls D : List gE) (C : Nat → Int) (s : Int) (n : Nat) (h : m_H) : Prop := TI Ls D h ∧ cI C 6 h ∧ bkS h ∧ sF1 Ls h ∧ sF2 12 h ∧ sF3 s n h
theorem c65_s {Ls D : List gE} {C : Nat → Int} {l : Int} {h h' : m_H} (I : c65 Ls D C l.toNat h) (l0 : 0 ≤ l) (l1 : l ≤ 11) (V : soQ l 16 h h') (B : bkS h') : c65 Ls D C (l + 1).toNat h' := by
  obtain ⟨i1, i2, i3, i4, i5⟩ := I
  have e39 := V.1 39 (by omega)
  have e40 := V.1 40 (by omega)
  have e41 := V.1 41 (by omega)
  have V' : soQ ((l.toNat : Nat) : Int) 16 h h' := by rw [show ((l.toNat : Nat) : Int) = l by omega]; exact V
  rw [show (l + 1).toNat = l.toNat + 1 by omega]
  exact ⟨TI_c i1 e39 e40 e41, cI_c i2 e39 e40 e41, B, sF1_so i1 i4 (by omega) V', sF2_so i1.1 i3 i5 (by omega) V'⟩
theorem c84_s {r K C : Nat → Int} {en : Int} {L : Nat} {D : List gE} {l x : Int} {h h' : m_H} (k_ : LK L h r K C) (I : c84 (bL r K C en) D C (h L 9) l.toNat h) (l0 : 0 ≤ l) (l1 : l ≤ 15) (ex : h L 9 = x) (cx : m_and (m_shr x l) 1 = 1) (B : bN (43 + l.toNat) (lsB (bd h (43 + l.toNat)) (1, 1, 1)) h h') : c84 (bL r K C en) D C (h L 9) (l + 1).toNat h' := by
  obtain ⟨i1, i2, i3, i4, i5, i6⟩ := I
  have e39 := B.1 39 (by omega)
  have e40 := B.1 40 (by omega)
  have e41 := B.1 41 (by omega)
  have hb : bt (h L 9) l.toNat = true := by
    rw [ex]; refine (hasBit_iff (by omega)).mp ?_
    rw [show ((l.toNat : Nat) : Int) = l by omega]; exact cx
  obtain ⟨j1, j2, j3, j4⟩ := sF_sh (D := D) i3 i4 i5 i6 (by omega) (sh_in k_ (by omega) hb) B
  rw [show (l + 1).toNat = l.toNat + 1 by omega]
  exact ⟨TI_c i1 e39 e40 e41, cI_c i2 e39 e40 e41, j1, j2, j3, j4⟩
theorem c84_n {Ls D : List gE} {C : Nat → Int} {s l x : Int} {h : m_H} (I : c84 Ls D C s l.toNat h) (l0 : 0 ≤ l) (l1 : l ≤ 15) (ex : s = x) (cx : ¬ m_and (m_shr x l) 1 = 1) : c84 Ls D C s (l + 1).toNat h := by
  obtain ⟨i1, i2, i3, i4, i5, i6⟩ := I
  refine ⟨i1, i2, i3, i4, i5, fun p hp hb => ?_⟩
  by_cases g : p = l.toNat
  · exfalso
    subst g
    rw [ex] at hb
    have z := (hasBit_iff (by omega)).mpr hb
    rw [show ((l.toNat : Nat) : Int) = l by omega] at z
    exact cx z
  · exact i6 p (by omega) hb
/-- the ways of up to three steps -/
theorem re_at {h h2 h3 : m_H} (A : goI 43 60 16 h h2) (B : goI 60 77 16 h2 h3) : (∀ a b : Nat, wyH 43 h3 a b = wyH 43 h a b) ∧ ∀ p : Nat, p < 16 → bd h3 (77 + p) = goW (goW (wyH 43 h) (wyH 43 h)) (wyH 43 h) (12 + p / 4) (12 + p % 4) := by
  have e2 : ∀ a b : Nat, wyH 43 h2 a b = wyH 43 h a b := fun a b => by
    unfold wyH bd
    rw [A.1 _ (by omega)]
  have e3 : ∀ a b : Nat, wyH 43 h3 a b = wyH 43 h a b := fun a b => by
    rw [← e2 a b]
    unfold wyH bd
    rw [B.1 _ (by omega)]
  have e2' : wyH 43 h2 = wyH 43 h := funext fun a => funext fun b => e2 a b
  refine ⟨e3, fun p hp => ?_⟩
  rw [B.2 p (by omega), e2']
  have w : ∀ a b : Nat, a < 4 → b < 4 → wyH 60 h2 (12 + a) (12 + b) = goW (wyH 43 h) (wyH 43 h) (12 + a) (12 + b) := fun a b ha hb => by
    have z := A.2 (4 * a + b) (by omega)
    have e : (4 * (12 + a - 12) + (12 + b - 12)) % 16 = 4 * a + b := by omega
    unfold wyH
    rw [e, z, show (4 * a + b) / 4 = a by omega, show (4 * a + b) % 4 = b by omega]
    rfl
  unfold goW
  by_cases g : 12 + p / 4 = 12 + p % 4
  · rw [if_pos g, if_pos g]
  · rw [if_neg g, if_neg g, w (p / 4) (p % 4) (by omega) (by omega)]
    refine goL_c _ _ (fun k hk => ?_)
    simp only [List.mem_cons, List.not_mem_nil, or_false] at hk
    obtain ⟨j, hj, rfl⟩ : ∃ j : Nat, j < 4 ∧ k = 12 + j := ⟨k - 12, by omega, by omega⟩
    exact w (p / 4) j (by omega) hj
theorem TX_of {Ls D : List gE} {C : Nat → Int} {s : Int} {h h2 h3 : m_H} (I : c84 Ls D C s 16 h) (A : goI 43 60 16 h h2) (B : goI 60 77 16 h2 h3) : TX Ls D C s h3 := by
  obtain ⟨i1, i2, i3, i4, i5, i6⟩ := I
  have e : ∀ c, c < 60 → h3 c = h c := fun c hc => (B.1 c (by omega)).trans (A.1 c (by omega))
  have eb : ∀ p : Nat, p < 16 → bd h3 (43 + p) = bd h (43 + p) := fun p hp => by unfold bd; rw [e (43 + p) (by omega)]
  have e39 := e 39 (by decide)
  have e40 := e 40 (by decide)
  have e41 := e 41 (by decide)
  obtain ⟨r1, r2⟩ := re_at A B
  have r1' : wyH 43 h3 = wyH 43 h := funext fun a => funext fun b => r1 a b
  refine ⟨TI_c i1 e39 e40 e41, cI_c i2 e39 e40 e41, fun p hp => by rw [eb p hp]; exact i3 p hp, fun a b ha hb => by rw [eb _ (by omega)]; exact i4 a b ha hb, fun i a b hi ha hb n1 n2 => ?_, fun p hp hb => by rw [eb p hp]; exact i6 p hp hb, fun p hp => by rw [r1']; exact r2 p hp⟩
  rw [e41] at n1 ⊢
  rw [e39] at n2 ⊢
  rw [e40, eb _ (by omega)]
  exact i5 i a b hi ha hb n1 n2
theorem bkR_of {h h2 h3 : m_H} (k : bkS h) (A : goI 43 60 16 h h2) (B : goI 60 77 16 h2 h3) : bkR h3 := fun p hp => by
  rw [(re_at A B).2 p hp]
  have b1 : ∀ i j, pBb 200 (wyH 43 h i j) := wyH_b k
  exact goW_b (fun i j => goW_b (B := 40000) b1 b1 (by decide) (by decide) (by decide)) b1 (by decide) (by decide) (by decide)
theorem bkT_of {h h2 : m_H} (k : bkS h) (A : goI 43 60 16 h h2) : (∀ p : Nat, p < 16 → pBb 200 (bd h2 (43 + p))) ∧ ∀ p : Nat, p < 16 → pBb 40000 (bd h2 (60 + p)) := by
  have b1 : ∀ i j, pBb 200 (wyH 43 h i j) := wyH_b k
  refine ⟨fun p hp => ?_, fun p hp => ?_⟩
  · have e : bd h2 (43 + p) = bd h (43 + p) := by unfold bd; rw [A.1 (43 + p) (by omega)]
    rw [e]; exact k p hp
  · rw [A.2 p (by omega)]; exact goW_b b1 b1 (by decide) (by decide) (by decide)
/-- the class's two answers -/
theorem cb_no {Ls D : List gE} {C : Nat → Int} {s : Int} {h : m_H} (hE : ∀ e ∈ Ls, gEo e) (cl : eCl D Ls C s) (I : c84 Ls D C s 16 h) (z : ¬ ∀ k : Nat, k < 4 → ¬ bl1 (bd h (43 + (k * 4 + k)))) : gain Ls := by
  obtain ⟨i1, i2, i3, i4, i5, i6⟩ := I
  refine (cls_both hE cl i1 i2 i3 i4 i5 i6).1 ?_
  refine Classical.byContradiction fun y => z (fun k hk b => y ⟨k, hk, b⟩)
theorem cb_end3 {Ls D : List gE} {C : Nat → Int} {s : Int} {h h2 h3 : m_H} (hE : ∀ e ∈ Ls, gEo e) (cl : eCl D Ls C s) (I : c84 Ls D C s 16 h) (z : ∀ k : Nat, k < 4 → ¬ bl1 (bd h (43 + (k * 4 + k)))) (A : goI 43 60 16 h h2) (B : goI 60 77 16 h2 h3) : fhN h3 4 0 ↔ ¬ gain Ls := by
  obtain ⟨i1, i2, i3, i4, i5, i6⟩ := I
  have c := cls_both hE cl i1 i2 i3 i4 i5 i6
  have re : ∀ x y : Nat, x < 4 → y < 4 → bd h3 (77 + (x * 4 + y)) = goW (goW (wyH 43 h) (wyH 43 h)) (wyH 43 h) (12 + x) (12 + y) := fun x y hx hy => by
    rw [(re_at A B).2 (x * 4 + y) (by omega), show (x * 4 + y) / 4 = x by omega, show (x * 4 + y) % 4 = y by omega]
  constructor
  · intro f
    refine c.2.2 z (fun x y h1 h2' => ?_)
    have q := f x y h1 h2' (by omega)
    rw [re x y h2' (by omega), re y x (by omega) h2'] at q
    exact q
  · intro g x y h1 h2' _ q
    rw [re x y h2' (by omega), re y x (by omega) h2'] at q
    exact g (c.2.1 ⟨x, y, h1, h2', q⟩)
abbrev P_X9_canBe2 (h0 : m_H) (L : Nat) (a2 : Int) (r : Nat → Int) (K : Nat → Int) (C : Nat → Int) : Int → m_H → Prop := fun x h' => GI h' ∧ FR (csB ++ [39, 40, 41]) [] h0 h' ∧ 0 ≤ x ∧ x ≤ 1 ∧ (x = 1 ↔ ¬ gain (bL r K C a2)) ∧ (x = 1 → TX (bL r K C a2) (eA r K C a2 (r 0).toNat) C (h0 L 9) h')
def q_X9_canBe2 (h0 : m_H) (L : Nat) (a2 : Int) (r : Nat → Int) (K : Nat → Int) (C : Nat → Int) (n : Nat) : Prop := (∀ (l3 : Int) (h : m_H), GI h → FR (csB ++ [39, 40, 41]) [] h0 h → 0 ≤ l3 → l3 ≤ 24 → (-2147483648) ≤ a2 → a2 ≤ 2147483647 → (TI (bL r K C a2) (eA r K C a2 l3.toNat) h) → (stZ h) → (l3 ≤ r 0) → 2 * (24 - l3) + (78) ≤ (n : Int) → m_Z oF M_X9_canBe 6 [some (mR 38), some (mR L), some (mI a2), some (mI l3)] [] h (m_QI (P_X9_canBe2 h0 L a2 r K C))) ∧ (∀ (l3 : Int) (h : m_H), GI h → FR (csB ++ [39, 40, 41]) [] h0 h → 0 ≤ l3 → l3 ≤ 6 → (-2147483648) ≤ a2 → a2 ≤ 2147483647 → (TI (bL r K C a2) (eA r K C a2 (r 0).toNat) h) → (stZ h) → (cI C l3.toNat h) → 2 * (6 - l3) + (63) ≤ (n : Int) → m_Z oF M_X9_canBe 36 [some (mR 38), some (mR L), none, some (mI l3)] [] h (m_QI (P_X9_canBe2 h0 L a2 r K C))) ∧ (∀ (l3 : Int) (h : m_H), GI h → FR (csB ++ [39, 40, 41]) [] h0 h → 0 ≤ l3 → l3 ≤ 12 → (-2147483648) ≤ a2 → a2 ≤ 2147483647 → (c65 (bL r K C a2) (eA r K C a2 (r 0).toNat) C l3.toNat h) → 2 * (12 - l3) + (36) ≤ (n : Int) → m_Z oF M_X9_canBe 65 [some (mR 38), some (mR L), none, some (mI l3)] [] h (m_QI (P_X9_canBe2 h0 L a2 r K C))) ∧ (∀ (l3 : Int) (h : m_H), GI h → FR (csB ++ [39, 40, 41]) [] h0 h → 0 ≤ l3 → l3 ≤ 16 → (-2147483648) ≤ a2 → a2 ≤ 2147483647 → (c84 (bL r K C a2) (eA r K C a2 (r 0).toNat) C (h0 L 9) l3.toNat h) → 2 * (16 - l3) + (1) ≤ (n : Int) → m_Z oF M_X9_canBe 84 [some (mR 38), some (mR L), none, some (mI l3)] [] h (m_QI (P_X9_canBe2 h0 L a2 r K C)))
set_option maxHeartbeats 4000000 in
set_option maxRecDepth 100000 in
theorem s_X9_canBe2_6 (h0 : m_H) (L : Nat) (a2 : Int) (r : Nat → Int) (K : Nat → Int) (C : Nat → Int) (hL : isL L) (G0 : GI h0) (hK : LK L h0 r K C) (hn : EN r K) (hsh : SH r) (hE : ∀ q ∈ bL r K C a2, gEo q) (n : Nat) (ih : q_X9_canBe2 h0 L a2 r K C n) : ∀ (l3 : Int) (h : m_H), GI h → FR (csB ++ [39, 40, 41]) [] h0 h → 0 ≤ l3 → l3 ≤ 24 → (-2147483648) ≤ a2 → a2 ≤ 2147483647 → (TI (bL r K C a2) (eA r K C a2 l3.toNat) h) → (stZ h) → (l3 ≤ r 0) → 2 * (24 - l3) + (78) ≤ ((n + 1 : Nat) : Int) → m_Z oF M_X9_canBe 6 [some (mR 38), some (mR L), some (mI a2), some (mI l3)] [] h (m_QI (P_X9_canBe2 h0 L a2 r K C)) := by
  intro l3 h G R v0 v1 v2 v3 i0 i1 i2 hr
  have ls_ := led_same hL R
  have k_ := hK.same ls_
  have n_ := k_.2.2.2.1
  refine z_iload_n (M := M_X9_canBe) 6 dX9_canBe_6 rfl ?_
  refine z_aload_n (M := M_X9_canBe) 7 dX9_canBe_7 rfl ?_
  refine z_getIG (M := M_X9_canBe) 8 dX9_canBe_8 f_X9_39 (oL hL) (by decide) (gL7 hL G) (fun x1 ex1 ax1 bx1 => ?_)
  refine z_icmp_ge (M := M_X9_canBe) 11 dX9_canBe_11 34 rfl (fun c2 => ?_) (fun c2 => ?_)
  · refine z_iconst (M := M_X9_canBe) 34 dX9_canBe_34 ?_
    refine z_istore_n (M := M_X9_canBe) 35 dX9_canBe_35 (ls' := [some (mR 38), some (mR L), some (mI a2), some (mI 0)]) (by decide) rfl ?_
    exact z_mask [true, true, false, true] rfl (ih.2.1 0 h G R (by omega) (by omega) (by omega) (by omega) ((show l3.toNat = (r 0).toNat by omega) ▸ i0) i1 (fun t k ht => absurd ht (by omega)) (by omega))
  · refine z_iload_n (M := M_X9_canBe) 14 dX9_canBe_14 rfl ?_
    refine z_iload_n (M := M_X9_canBe) 15 dX9_canBe_15 rfl ?_
    refine z_nI (M := M_X9_canBe) 16 dX9_canBe_16 t_X11_hasBit l_X9_45 (m_rr_of rfl) (rest := []) (c_X11_hasBit h a2 l3 G) rfl rfl (Nat.le_of_ble_eq_true rfl) ⟨rfl, rfl⟩ (fun x3 h1 qx3 => ?_)
    obtain ⟨rfl, ⟨rfl, cx3⟩ | ⟨rfl, cx3⟩⟩ := qx3
    · refine z_if_eq_F (M := M_X9_canBe) 19 dX9_canBe_19 28 rfl (by omega) ?_
      refine z_aload_n (M := M_X9_canBe) 22 dX9_canBe_22 rfl ?_
      refine z_aload_n (M := M_X9_canBe) 23 dX9_canBe_23 rfl ?_
      refine z_iload_n (M := M_X9_canBe) 24 dX9_canBe_24 rfl ?_
      refine z_vV (M := M_X9_canBe) 25 dX9_canBe_25 t_X9_tie l_X9_49 (m_rr_of rfl) (rest := []) (c_X9_tie2 h L l3 hL G ⟨by omega, by omega⟩) o_38 rfl rfl rfl (Nat.le_of_ble_eq_true rfl) ⟨rfl, rfl⟩ (fun h2 qx4 => ?_)
      obtain ⟨G2, S2, Q2⟩ := qx4
      have ti_ := TI_ent k_ hn hE (by omega) (by omega) i0 i1 cx3 Q2
      have R2 := R.call S2 (by decide +kernel)
      refine z_iincN (M := M_X9_canBe) 28 dX9_canBe_28 (ls' := [some (mR 38), some (mR L), some (mI a2), some (mI (l3 + 1))]) (by decide) rfl (by (unfold m_32; decide)) (by omega) (by omega) rfl ?_
      refine z_goto (M := M_X9_canBe) 31 dX9_canBe_31 6 rfl ?_
      exact z_mask [true, true, true, true] rfl (ih.1 (l3 + 1) h2 G2 R2 (by omega) (by omega) (by omega) (by omega) ti_.1 ti_.2 (by omega) (by omega))
    · refine z_if_eq_T (M := M_X9_canBe) 19 dX9_canBe_19 28 rfl (by omega) ?_
      refine z_iincN (M := M_X9_canBe) 28 dX9_canBe_28 (ls' := [some (mR 38), some (mR L), some (mI a2), some (mI (l3 + 1))]) (by decide) rfl (by (unfold m_32; decide)) (by omega) (by omega) rfl ?_
      refine z_goto (M := M_X9_canBe) 31 dX9_canBe_31 6 rfl ?_
      exact z_mask [true, true, true, true] rfl (ih.1 (l3 + 1) h G R (by omega) (by omega) (by omega) (by omega) (TI_no (by omega) i0 cx3) i1 (by omega) (by omega))
set_option maxHeartbeats 4000000 in
set_option maxRecDepth 100000 in
theorem s_X9_canBe2_36 (h0 : m_H) (L : Nat) (a2 : Int) (r : Nat → Int) (K : Nat → Int) (C : Nat → Int) (hL : isL L) (G0 : GI h0) (hK : LK L h0 r K C) (hn : EN r K) (hsh : SH r) (hE : ∀ q ∈ bL r K C a2, gEo q) (n : Nat) (ih : q_X9_canBe2 h0 L a2 r K C n) : ∀ (l3 : Int) (h : m_H), GI h → FR (csB ++ [39, 40, 41]) [] h0 h → 0 ≤ l3 → l3 ≤ 6 → (-2147483648) ≤ a2 → a2 ≤ 2147483647 → (TI (bL r K C a2) (eA r K C a2 (r 0).toNat) h) → (stZ h) → (cI C l3.toNat h) → 2 * (6 - l3) + (63) ≤ ((n + 1 : Nat) : Int) → m_Z oF M_X9_canBe 36 [some (mR 38), some (mR L), none, some (mI l3)] [] h (m_QI (P_X9_canBe2 h0 L a2 r K C)) := by
  intro l3 h G R v0 v1 v2 v3 i0 i1 i2 hr
  have ls_ := led_same hL R
  have k_ := hK.same ls_
  refine z_iload_n (M := M_X9_canBe) 36 dX9_canBe_36 rfl ?_
  refine z_bipush (M := M_X9_canBe) 37 dX9_canBe_37 ?_
  refine z_icmp_ge (M := M_X9_canBe) 39 dX9_canBe_39 63 rfl (fun c1 => ?_) (fun c1 => ?_)
  · refine z_iconst (M := M_X9_canBe) 63 dX9_canBe_63 ?_
    refine z_istore_n (M := M_X9_canBe) 64 dX9_canBe_64 (ls' := [some (mR 38), some (mR L), none, some (mI 0)]) (by decide) rfl ?_
    exact z_mask [true, true, false, true] rfl (ih.2.2.1 0 h G R (by omega) (by omega) (by omega) (by omega) ⟨i0, (show l3.toNat = 6 by omega) ▸ i2, (st_0 (Ls := bL r K C a2) (s := 0) i1).1, (st_0 (Ls := bL r K C a2) (s := 0) i1).2.1, (st_0 (Ls := bL r K C a2) (s := 0) i1).2.2.1⟩ (by omega))
  · refine z_aload_n (M := M_X9_canBe) 42 dX9_canBe_42 rfl ?_
    refine z_getR (M := M_X9_canBe) 43 dX9_canBe_43 f_X9_53 (oL hL) rfl (rL_1 hL G) ?_
    refine z_iload_n (M := M_X9_canBe) 46 dX9_canBe_46 rfl ?_
    refine z_ialdG (M := M_X9_canBe) 47 dX9_canBe_47 (oL_2 hL) (by omega) (by omega) (gL_2 hL G (by omega)) (fun x2 ex2 ax2 bx2 => ?_)
    refine z_iconst (M := M_X9_canBe) 48 dX9_canBe_48 ?_
    refine z_icmp_eq (M := M_X9_canBe) 49 dX9_canBe_49 57 rfl (fun c3 => ?_) (fun c3 => ?_)
    · refine z_iincN (M := M_X9_canBe) 57 dX9_canBe_57 (ls' := [some (mR 38), some (mR L), none, some (mI (l3 + 1))]) (by decide) rfl (by (unfold m_32; decide)) (by omega) (by omega) rfl ?_
      refine z_goto (M := M_X9_canBe) 60 dX9_canBe_60 36 rfl ?_
      exact z_mask [true, true, false, true] rfl (ih.2.1 (l3 + 1) h G R (by omega) (by omega) (by omega) (by omega) i0 i1 (fun t k ht hC hk => by
        by_cases g : t = l3.toNat
        · exact absurd (by rw [g, ← k_.2.2.1 l3.toNat (by omega), ex2]; omega) hC
        · exact i2 t k (by omega) hC hk) (by omega))
    · refine z_aload_n (M := M_X9_canBe) 52 dX9_canBe_52 rfl ?_
      refine z_iload_n (M := M_X9_canBe) 53 dX9_canBe_53 rfl ?_
      refine z_vV (M := M_X9_canBe) 54 dX9_canBe_54 t_X9_tieCut l_X9_56 (m_rr_of rfl) (rest := []) (c_X9_tieCut2 h l3 G ⟨by omega, by omega⟩) o_38 rfl rfl rfl (Nat.le_of_ble_eq_true rfl) ⟨rfl, rfl⟩ (fun h1 qx4 => ?_)
      obtain ⟨G1, S1, Q1⟩ := qx4
      have Q1' : cuI ((l3.toNat : Nat) : Int) 4 h h1 := by rw [show ((l3.toNat : Nat) : Int) = l3 by omega]; exact Q1
      have R1 := R.call S1 (by decide +kernel)
      refine z_iincN (M := M_X9_canBe) 57 dX9_canBe_57 (ls' := [some (mR 38), some (mR L), none, some (mI (l3 + 1))]) (by decide) rfl (by (unfold m_32; decide)) (by omega) (by omega) rfl ?_
      refine z_goto (M := M_X9_canBe) 60 dX9_canBe_60 36 rfl ?_
      exact z_mask [true, true, false, true] rfl (ih.2.1 (l3 + 1) h1 G1 R1 (by omega) (by omega) (by omega) (by omega) (TI_cut i0 (fun q hq => eg_pos hE q (eA_bL (Nat.le_refl _) q hq)) (by omega) (List.mem_append.mpr (Or.inr (cA_at 6 l3.toNat (by omega) (by rw [← k_.2.2.1 l3.toNat (by omega), ex2]; omega)))) Q1') (stZ_c i1 Q1.1) (by rw [show (l3 + 1).toNat = l3.toNat + 1 by omega]; exact cI_cut i2 i0.1 (by omega) Q1') (by omega))
set_option maxHeartbeats 4000000 in
set_option maxRecDepth 100000 in
theorem s_X9_canBe2_65 (h0 : m_H) (L : Nat) (a2 : Int) (r : Nat → Int) (K : Nat → Int) (C : Nat → Int) (hL : isL L) (G0 : GI h0) (hK : LK L h0 r K C) (hn : EN r K) (hsh : SH r) (hE : ∀ q ∈ bL r K C a2, gEo q) (n : Nat) (ih : q_X9_canBe2 h0 L a2 r K C n) : ∀ (l3 : Int) (h : m_H), GI h → FR (csB ++ [39, 40, 41]) [] h0 h → 0 ≤ l3 → l3 ≤ 12 → (-2147483648) ≤ a2 → a2 ≤ 2147483647 → (c65 (bL r K C a2) (eA r K C a2 (r 0).toNat) C l3.toNat h) → 2 * (12 - l3) + (36) ≤ ((n + 1 : Nat) : Int) → m_Z oF M_X9_canBe 65 [some (mR 38), some (mR L), none, some (mI l3)] [] h (m_QI (P_X9_canBe2 h0 L a2 r K C)) := by
  intro l3 h G R v0 v1 v2 v3 i0 hr
  refine z_iload_n (M := M_X9_canBe) 65 dX9_canBe_65 rfl ?_
  refine z_bipush (M := M_X9_canBe) 66 dX9_canBe_66 ?_
  refine z_icmp_ge (M := M_X9_canBe) 68 dX9_canBe_68 82 rfl (fun c1 => ?_) (fun c1 => ?_)
  · refine z_iconst (M := M_X9_canBe) 82 dX9_canBe_82 ?_
    refine z_istore_n (M := M_X9_canBe) 83 dX9_canBe_83 (ls' := [some (mR 38), some (mR L), none, some (mI 0)]) (by decide) rfl ?_
    exact z_mask [true, true, false, true] rfl (ih.2.2.2 0 h G R (by omega) (by omega) (by omega) (by omega) ⟨i0.1, i0.2.1, i0.2.2.1, i0.2.2.2.1, (show l3.toNat = 12 by omega) ▸ i0.2.2.2.2, fun p hp => absurd hp (by omega)⟩ (by omega))
  · refine z_aload_n (M := M_X9_canBe) 71 dX9_canBe_71 rfl ?_
    refine z_iload_n (M := M_X9_canBe) 72 dX9_canBe_72 rfl ?_
    refine z_vV (M := M_X9_canBe) 73 dX9_canBe_73 t_X9_stepOver l_X9_60 (m_rr_of rfl) (rest := []) (c_X9_stepOver2 h l3 G ⟨by omega, by omega⟩ i0.1.1 i0.2.2.1) o_38 rfl rfl rfl (Nat.le_of_ble_eq_true rfl) ⟨rfl, rfl⟩ (fun h1 qx2 => ?_)
    obtain ⟨G1, S1, V1, B1⟩ := qx2
    have R1 := R.call S1 (by decide +kernel)
    refine z_iincN (M := M_X9_canBe) 76 dX9_canBe_76 (ls' := [some (mR 38), some (mR L), none, some (mI (l3 + 1))]) (by decide) rfl (by (unfold m_32; decide)) (by omega) (by omega) rfl ?_
    refine z_goto (M := M_X9_canBe) 79 dX9_canBe_79 65 rfl ?_
    exact z_mask [true, true, false, true] rfl (ih.2.2.1 (l3 + 1) h1 G1 R1 (by omega) (by omega) (by omega) (by omega) (c65_s i0 (by omega) (by omega) V1 B1) (by omega))
set_option maxHeartbeats 4000000 in
set_option maxRecDepth 100000 in
theorem s_X9_canBe2_84 (h0 : m_H) (L : Nat) (a2 : Int) (r : Nat → Int) (K : Nat → Int) (C : Nat → Int) (hL : isL L) (G0 : GI h0) (hK : LK L h0 r K C) (hn : EN r K) (hsh : SH r) (hE : ∀ q ∈ bL r K C a2, gEo q) (n : Nat) (ih : q_X9_canBe2 h0 L a2 r K C n) : ∀ (l3 : Int) (h : m_H), GI h → FR (csB ++ [39, 40, 41]) [] h0 h → 0 ≤ l3 → l3 ≤ 16 → (-2147483648) ≤ a2 → a2 ≤ 2147483647 → (c84 (bL r K C a2) (eA r K C a2 (r 0).toNat) C (h0 L 9) l3.toNat h) → 2 * (16 - l3) + (1) ≤ ((n + 1 : Nat) : Int) → m_Z oF M_X9_canBe 84 [some (mR 38), some (mR L), none, some (mI l3)] [] h (m_QI (P_X9_canBe2 h0 L a2 r K C)) := by
  intro l3 h G R v0 v1 v2 v3 i0 hr
  have ls_ := led_same hL R
  have k_ := hK.same ls_
  have e9_ : h L 9 = h0 L 9 := congrFun (ls_ 0 (by decide)) 9
  have cl_ := bL_cl (en := a2) hK hn hsh
  refine z_iload_n (M := M_X9_canBe) 84 dX9_canBe_84 rfl ?_
  refine z_bipush (M := M_X9_canBe) 85 dX9_canBe_85 ?_
  refine z_icmp_ge (M := M_X9_canBe) 87 dX9_canBe_87 119 rfl (fun c1 => ?_) (fun c1 => ?_)
  · refine z_aload_n (M := M_X9_canBe) 119 dX9_canBe_119 rfl ?_
    refine z_vI (M := M_X9_canBe) 120 dX9_canBe_120 t_X9_eachFootHolds l_X9_72 (m_rr_of rfl) (rest := []) (c_X9_eachFootHolds2 h G) o_38 rfl rfl rfl (Nat.le_of_ble_eq_true rfl) ⟨rfl, rfl⟩ (fun x2 h1 qx2 => ?_)
    obtain ⟨G1, S1, ax2, bx2, fx2⟩ := qx2
    have i0 : c84 (bL r K C a2) (eA r K C a2 (r 0).toNat) C (h0 L 9) 16 h := (show l3.toNat = 16 by omega) ▸ i0
    obtain rfl : h1 = h := frE S1
    have R1 := R.call S1 (by decide +kernel)
    refine z_if_ne (M := M_X9_canBe) 123 dX9_canBe_123 128 rfl (fun c3 => ?_) (fun c3 => ?_)
    · refine z_aload_n (M := M_X9_canBe) 128 dX9_canBe_128 rfl ?_
      refine z_aload_n (M := M_X9_canBe) 129 dX9_canBe_129 rfl ?_
      refine z_getR (M := M_X9_canBe) 130 dX9_canBe_130 f_X9_26 o_38 rfl (g_38_3 G1) ?_
      refine z_aload_n (M := M_X9_canBe) 133 dX9_canBe_133 rfl ?_
      refine z_getR (M := M_X9_canBe) 134 dX9_canBe_134 f_X9_30 o_38 rfl (g_38_4 G1) ?_
      refine z_vV (M := M_X9_canBe) 137 dX9_canBe_137 t_X9_goOn l_X9_76 (m_rr_of rfl) (rest := []) (c_X9_goOn_42x h1 G1 i0.2.2.1 i0.2.2.1) o_38 rfl rfl rfl (Nat.le_of_ble_eq_true rfl) ⟨rfl, rfl⟩ (fun h2 qx4 => ?_)
      obtain ⟨G2, S2, A2⟩ := qx4
      have R2 := R1.call S2 (by decide +kernel)
      refine z_aload_n (M := M_X9_canBe) 140 dX9_canBe_140 rfl ?_
      refine z_aload_n (M := M_X9_canBe) 141 dX9_canBe_141 rfl ?_
      refine z_getR (M := M_X9_canBe) 142 dX9_canBe_142 f_X9_30 o_38 rfl (g_38_4 G2) ?_
      refine z_aload_n (M := M_X9_canBe) 145 dX9_canBe_145 rfl ?_
      refine z_getR (M := M_X9_canBe) 146 dX9_canBe_146 f_X9_33 o_38 rfl (g_38_5 G2) ?_
      refine z_vV (M := M_X9_canBe) 149 dX9_canBe_149 t_X9_goOn l_X9_76 (m_rr_of rfl) (rest := []) (c_X9_goOn_59x h2 G2 (bkT_of i0.2.2.1 A2).1 (bkT_of i0.2.2.1 A2).2) o_38 rfl rfl rfl (Nat.le_of_ble_eq_true rfl) ⟨rfl, rfl⟩ (fun h3 qx5 => ?_)
      obtain ⟨G3, S3, A3⟩ := qx5
      have R3 := R2.call S3 (by decide +kernel)
      refine z_aload_n (M := M_X9_canBe) 152 dX9_canBe_152 rfl ?_
      refine z_vI (M := M_X9_canBe) 153 dX9_canBe_153 t_X9_feetHoldTogether l_X9_80 (m_rr_of rfl) (rest := []) (c_X9_feetHoldTogether2 h3 G3 (bkR_of i0.2.2.1 A2 A3)) o_38 rfl rfl rfl (Nat.le_of_ble_eq_true rfl) ⟨rfl, rfl⟩ (fun x6 h4 qx6 => ?_)
      obtain ⟨G4, S4, ax6, bx6, fx6⟩ := qx6
      have R4 := R3.call S4 (by decide +kernel)
      exact z_retZ (M := M_X9_canBe) 156 dX9_canBe_156 rfl (by omega) ⟨G4, R4, by omega, by omega, ⟨fun z => (cb_end3 hE cl_ i0 (fx2.mp (by omega)) A2 A3).mp (fx6.mp z), fun z => fx6.mpr ((cb_end3 hE cl_ i0 (fx2.mp (by omega)) A2 A3).mpr z)⟩, fun _ => by rw [frE S4]; exact TX_of i0 A2 A3⟩
    · refine z_iconst (M := M_X9_canBe) 126 dX9_canBe_126 ?_
      exact z_retZ (M := M_X9_canBe) 127 dX9_canBe_127 rfl (by omega) ⟨G1, R1, by omega, by omega, ⟨fun z => absurd z (by decide), fun z => absurd (cb_no hE cl_ i0 (fun y => absurd (fx2.mpr y) (by omega))) z⟩, fun z => absurd z (by decide)⟩
  · refine z_aload_n (M := M_X9_canBe) 90 dX9_canBe_90 rfl ?_
    refine z_getIV (M := M_X9_canBe) 91 dX9_canBe_91 f_X9_63 (oL hL) (by decide) (fun x7 ex7 => ?_)
    refine z_ok (fun ox7 _ _ => ?_)
    have ox7 := ox7.1; unfold m_ok m_32 at ox7
    refine z_iload_n (M := M_X9_canBe) 94 dX9_canBe_94 rfl ?_
    refine z_nI (M := M_X9_canBe) 95 dX9_canBe_95 t_X11_hasBit l_X9_45 (m_rr_of rfl) (rest := []) (c_X11_hasBit h x7 l3 G) rfl rfl (Nat.le_of_ble_eq_true rfl) ⟨rfl, rfl⟩ (fun x8 h5 qx8 => ?_)
    obtain ⟨rfl, ⟨rfl, cx8⟩ | ⟨rfl, cx8⟩⟩ := qx8
    · refine z_if_eq_F (M := M_X9_canBe) 98 dX9_canBe_98 113 rfl (by omega) ?_
      refine z_aload_n (M := M_X9_canBe) 101 dX9_canBe_101 rfl ?_
      refine z_getR (M := M_X9_canBe) 102 dX9_canBe_102 f_X9_26 o_38 rfl (g_38_3 G) ?_
      refine z_iload_n (M := M_X9_canBe) 105 dX9_canBe_105 rfl ?_
      have hb9 := isB_42 (i := l3) (by omega) (by omega)
      refine z_aaldB (M := M_X9_canBe) 106 dX9_canBe_106 o_42 (by omega) (by omega) (g_42 G (by omega)) ?_
      refine z_lconst (M := M_X9_canBe) 107 dX9_canBe_107 (v := 1) ?_
      refine z_lconst (M := M_X9_canBe) 108 dX9_canBe_108 (v := 1) ?_
      refine z_iconst (M := M_X9_canBe) 109 dX9_canBe_109 ?_
      refine z_vV (M := M_X9_canBe) 110 dX9_canBe_110 t_X2_lessen l_X9_66 (m_rr_of rfl) (rest := []) (c_X2_lessen2 h (43 + (l3).toNat) 1 1 1 hb9 G ⟨by omega, by omega⟩ (bkS_at i0.2.2.1 (by omega) (by omega)).1 (bkS_at i0.2.2.1 (by omega) (by omega)).2 ⟨by omega, by omega⟩ ⟨by omega, by omega⟩) (oB hb9) rfl rfl rfl (Nat.le_of_ble_eq_true rfl) ⟨rfl, rfl⟩ (fun h6 qx10 => ?_)
      obtain ⟨G6, S6, B6⟩ := qx10
      have R6 := R.call S6 (by decide +kernel)
      refine z_iincN (M := M_X9_canBe) 113 dX9_canBe_113 (ls' := [some (mR 38), some (mR L), none, some (mI (l3 + 1))]) (by decide) rfl (by (unfold m_32; decide)) (by omega) (by omega) rfl ?_
      refine z_goto (M := M_X9_canBe) 116 dX9_canBe_116 84 rfl ?_
      exact z_mask [true, true, false, true] rfl (ih.2.2.2 (l3 + 1) h6 G6 R6 (by omega) (by omega) (by omega) (by omega) (by have z := c84_s k_ (e9_ ▸ i0) (by omega) (by omega) ex7 cx8 B6; rw [e9_] at z; exact z) (by omega))
    · refine z_if_eq_T (M := M_X9_canBe) 98 dX9_canBe_98 113 rfl (by omega) ?_
      refine z_iincN (M := M_X9_canBe) 113 dX9_canBe_113 (ls' := [some (mR 38), some (mR L), none, some (mI (l3 + 1))]) (by decide) rfl (by (unfold m_32; decide)) (by omega) (by omega) rfl ?_
      refine z_goto (M := M_X9_canBe) 116 dX9_canBe_116 84 rfl ?_
      exact z_mask [true, true, false, true] rfl (ih.2.2.2 (l3 + 1) h G R (by omega) (by omega) (by omega) (by omega) (c84_n i0 (by omega) (by omega) (e9_.symm.trans ex7) cx8) (by omega))
theorem a_X9_canBe2 (h0 : m_H) (L : Nat) (a2 : Int) (r : Nat → Int) (K : Nat → Int) (C : Nat → Int) (hL : isL L) (G0 : GI h0) (hK : LK L h0 r K C) (hn : EN r K) (hsh : SH r) (hE : ∀ q ∈ bL r K C a2, gEo q) : ∀ n, q_X9_canBe2 h0 L a2 r K C n := by
  intro n
  induction n with
  | zero => unfold q_X9_canBe2; refine ⟨?_, ?_, ?_, ?_⟩ <;> (intros; omega)
  | succ n ih => exact ⟨s_X9_canBe2_6 h0 L a2 r K C hL G0 hK hn hsh hE n ih, s_X9_canBe2_36 h0 L a2 r K C hL G0 hK hn hsh hE n ih, s_X9_canBe2_65 h0 L a2 r K C hL G0 hK hn hsh hE n ih, s_X9_canBe2_84 h0 L a2 r K C hL G0 hK hn hsh hE n ih⟩
set_option maxHeartbeats 4000000 in
set_option maxRecDepth 100000 in
theorem c_X9_canBe2 (h0 : m_H) (L : Nat) (a2 : Int) (r : Nat → Int) (K : Nat → Int) (C : Nat → Int) (hL : isL L) (G0 : GI h0) (hK : LK L h0 r K C) (hn : EN r K) (hsh : SH r) (hE : ∀ q ∈ bL r K C a2, gEo q) : m_CI M_X9_canBe [mR 38, mR L, mI a2] h0 (P_X9_canBe2 h0 L a2 r K C) := by
  refine m_CI_of ⟨by decide, rfl, by simp [m_arg, m_isL, M_X9_canBe], ⟨rfl, rfl⟩, rfl, rfl⟩ (ls := [some (mR 38), some (mR L), some (mI a2), none]) rfl ?_
  have ih := a_X9_canBe2 h0 L a2 r K C hL G0 hK hn hsh hE 133
  refine z_ok (fun _ _ ok => ?_)
  have oa2 : m_32 a2 := ok 2 _ rfl
  unfold m_32 at oa2
  refine z_aload_n (M := M_X9_canBe) 0 dX9_canBe_0 rfl ?_
  refine z_vV (M := M_X9_canBe) 1 dX9_canBe_1 t_X9_forget l_X9_36 (m_rr_of rfl) (rest := []) (c_X9_forget2 h0 G0) o_38 rfl rfl rfl (Nat.le_of_ble_eq_true rfl) ⟨rfl, rfl⟩ (fun h1 qx1 => ?_)
  obtain ⟨G1, S1, F1⟩ := qx1
  have R1 := (FR.rf (cs := (csB ++ [39, 40, 41])) (ss := []) (h := h0)).call S1 (by decide +kernel)
  refine z_iconst (M := M_X9_canBe) 4 dX9_canBe_4 ?_
  refine z_istore_n (M := M_X9_canBe) 5 dX9_canBe_5 (ls' := [some (mR 38), some (mR L), some (mI a2), some (mI 0)]) (by decide) rfl ?_
  exact z_mask [true, true, true, true] rfl (ih.1 0 h1 G1 R1 (by omega) (by omega) (by omega) (by omega) (TI_0 F1.1 F1.2.1) (fun p hp => F1.2.2 p (by omega)) hK.1.1 (by omega))
