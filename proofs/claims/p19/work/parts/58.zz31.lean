/-! the reference's rounds from one length on: the best of all walks -/
def grI (L : List gE) (a : Nat) (S : gS) (m : Int) : Prop := (∀ l, l < 16 → (S l).2.2 = 1 → ∃ w, wk L w a l ∧ (S l).1.1 = wp w ∧ (S l).1.2 = wq w ∧ ((S l).2.1 = 1 ↔ ws w)) ∧ ((S a).2.2 = 1 ∧ (S a).1.2 ≤ (S a).1.1) ∧ (m = 0 → ∀ e ∈ L, (S e.1.1).2.2 = 1 → ¬ gb (gc 1 S e) (S e.1.2))
theorem gr_cg {L : List gE} {a : Nat} {S S' : gS} {m : Int} (hE : ∀ q ∈ L, gEo q) (ha : a < 16) (e : ∀ l, l < 16 → S' l = S l) (I : grI L a S m) : grI L a S' m := by
  obtain ⟨A, B, C⟩ := I
  refine ⟨fun l hl t => ?_, by rw [e a ha]; exact B, fun hm q hq t => ?_⟩
  · rw [e l hl] at t ⊢; exact A l hl t
  · have o := (hE q hq).1
    rw [e _ o.1] at t
    have g : gc 1 S' q = gc 1 S q := by unfold gc; rw [e _ o.1]
    rw [g, e _ o.2]; exact C hm q hq t
theorem grI_0 {L : List gE} {a : Int} {S : gS} (ha : 0 ≤ a) (ha15 : a ≤ 15) (s : ∀ l, l < 16 → S l = ((1, 1), (0, if a = -1 ∨ (l : Int) = a then 1 else 0))) : grI L a.toNat S 1 := by
  refine ⟨fun l hl t => ?_, ?_, fun z => absurd z (by decide)⟩
  · rw [s l hl] at t ⊢
    have e : (l : Int) = a := by
      by_cases g : a = -1 ∨ (l : Int) = a
      · omega
      · exfalso
        have t' : (if a = -1 ∨ (l : Int) = a then (1 : Int) else 0) = 1 := t
        rw [if_neg g] at t'; exact absurd t' (by decide)
    exact ⟨[], ⟨by omega, by omega⟩, rfl, rfl, ⟨fun z => absurd (show (0 : Int) = 1 from z) (by decide), fun z => z.elim⟩⟩
  · rw [s a.toNat (by omega)]
    refine ⟨?_, Int.le_refl _⟩
    show (if a = -1 ∨ ((a.toNat : Nat) : Int) = a then (1 : Int) else 0) = 1
    rw [if_pos (by omega)]
theorem gr_step {L : List gE} {a : Nat} {S : gS} {m : Int} (hE : ∀ q ∈ L, gEo q) (ha : a < 16) (hg : ∀ l, l < 16 → ga (S l)) (I : grI L a S m) : grI L a (gi 1 S L L.length).1 (gi 1 S L L.length).2 := by
  obtain ⟨A, B, C⟩ := I
  have hcx := fun (e : gE) (he : e ∈ L) (t : (S e.1.1).2.2 = 1) => gc_ex (S := S) (z := 1) (M := 25091827216) (by decide) (hE e he) ((hg _ (hE e he).1.1).2.2 t).1 ((hg _ (hE e he).1.1).2.2 t).2
  have hR := gi_ok (z := 1) (S := S) (L := L) (fun e he => (hE e he).1) (fun e he t => by have := (hcx e he t).2.2.1; omega) (fun l hl t => by have := ((hg l hl).2.2 t).2.1; omega) L.length
  generalize gi 1 S L L.length = p at hR ⊢
  obtain ⟨r1, r2, r3⟩ := hR
  refine ⟨fun l hl t => ?_, ?_, fun hm e he t => ?_⟩
  · rcases r1 l with q | ⟨⟨e, he, x1, x2, q⟩, _⟩
    · rw [q] at t ⊢; exact A l hl t
    · obtain ⟨w, w1, w2, w3, w4⟩ := A e.1.1 (hE e he).1.1 x2
      have cx := hcx e he x2
      refine ⟨w ++ [e], wk_app w [e] a _ l w1 ⟨⟨he, rfl⟩, x1, x1 ▸ (hE e he).1.2⟩, ?_, ?_, ?_⟩
      · rw [q, wp_app, ← w2, cx.1.1]; show _ = _ * (e.2.1 * 1); rw [Int.mul_one]
      · rw [q, wq_app, ← w3, cx.1.2]; show _ = _ * (e.2.2.1 * 1); rw [Int.mul_one]
      · rw [q, ws_app, ← w4]
        show (if (1 : Int) = 1 ∧ ((S e.1.1).2.1 = 1 ∨ e.2.2.2 = 1) then (1 : Int) else 0) = 1 ↔ ((S e.1.1).2.1 = 1 ∨ (e.2.2.2 = 1 ∨ False))
        by_cases g : (S e.1.1).2.1 = 1 ∨ e.2.2.2 = 1
        · rw [if_pos ⟨rfl, g⟩]
          exact ⟨fun _ => g.elim Or.inl (fun y => Or.inr (Or.inl y)), fun _ => rfl⟩
        · rw [if_neg (fun z => g z.2)]
          exact ⟨fun z => absurd z (by decide), fun z => absurd (z.elim Or.inl (fun y => y.elim Or.inr (fun w => w.elim))) g⟩
  · rcases r1 a with q | ⟨⟨e, he, x1, x2, q⟩, g⟩
    · rw [q]; exact B
    · have cx := hcx e he x2
      rw [q] at g ⊢
      refine ⟨rfl, ?_⟩
      have ga_ := (hg a ha).2.2 B.1
      have le : (S a).1.1 * (gc 1 S e).1.2 ≤ (gc 1 S e).1.1 * (S a).1.2 := by
        rcases g with g | g | g
        · exact absurd B.1 g
        · exact Int.le_of_lt g
        · exact Int.le_of_eq g.1.symm
      have m1 := Int.mul_le_mul_of_nonneg_left B.2 (show 0 ≤ (gc 1 S e).1.1 by omega)
      have k : (gc 1 S e).1.1 * (S a).1.1 = (S a).1.1 * (gc 1 S e).1.1 := Int.mul_comm _ _
      exact Int.le_of_mul_le_mul_left (show (S a).1.1 * (gc 1 S e).1.2 ≤ (S a).1.1 * (gc 1 S e).1.1 by omega) (by omega)
  · rcases r3 with ⟨_, z⟩ | ⟨z, _⟩
    · have ep : p.1 = S := funext z
      rw [ep] at r2 t ⊢
      obtain ⟨j, hj⟩ := List.getElem?_of_mem he
      exact r2 j e (List.getElem?_eq_some_iff.mp hj).1 hj t
    · omega
def bOf (n : gN) : Int × Int × Int := if n.2.2 = 1 then (n.1.2, n.1.1, n.2.1) else (1, 0, 1)
/-- nothing is left to better: no walk is better -/
theorem gr_walk {L : List gE} {S : gS} (hE : ∀ q ∈ L, gEo q) (hg : ∀ l, l < 16 → ga (S l)) (C : ∀ e ∈ L, (S e.1.1).2.2 = 1 → ¬ gb (gc 1 S e) (S e.1.2)) : ∀ (w : List gE) (c l : Nat), wk L w c l → (S c).2.2 = 1 → (S l).2.2 = 1 ∧ (S c).1.1 * wp w * (S l).1.2 ≤ (S l).1.1 * ((S c).1.2 * wq w) ∧ ((S c).1.1 * wp w * (S l).1.2 = (S l).1.1 * ((S c).1.2 * wq w) → ((S c).2.1 = 1 ∨ ws w) → (S l).2.1 = 1)
  | [], c, l, h, t => by
    obtain ⟨rfl, _⟩ := h
    refine ⟨t, ?_, fun _ z => z.elim id (fun y => y.elim)⟩
    show (S c).1.1 * 1 * (S c).1.2 ≤ (S c).1.1 * ((S c).1.2 * 1)
    rw [Int.mul_one, Int.mul_one]; exact Int.le_refl _
  | e :: w, c, l, h, t => by
    obtain ⟨⟨he, ec⟩, h2⟩ := h
    subst ec
    have o := hE e he
    have cx := gc_ex (S := S) (z := 1) (M := 25091827216) (by decide) o ((hg _ o.1.1).2.2 t).1 ((hg _ o.1.1).2.2 t).2
    have nb := C e he t
    have t2 : (S e.1.2).2.2 = 1 := Classical.byContradiction fun z => nb (Or.inl z)
    have le : (gc 1 S e).1.1 * (S e.1.2).1.2 ≤ (S e.1.2).1.1 * (gc 1 S e).1.2 := by
      rcases Int.lt_or_le ((S e.1.2).1.1 * (gc 1 S e).1.2) ((gc 1 S e).1.1 * (S e.1.2).1.2) with g | g
      · exact absurd (Or.inr (Or.inl g)) nb
      · exact g
    have eqo : (gc 1 S e).1.1 * (S e.1.2).1.2 = (S e.1.2).1.1 * (gc 1 S e).1.2 → ((S e.1.1).2.1 = 1 ∨ e.2.2.2 = 1) → (S e.1.2).2.1 = 1 := fun q z => Classical.byContradiction fun y => nb (Or.inr (Or.inr ⟨q, if_pos ⟨rfl, z⟩, y⟩))
    rw [cx.1.1, cx.1.2] at le eqo
    obtain ⟨t3, i1, i2⟩ := gr_walk hE hg C w _ l h2 t2
    have pw := wp_pos hE w _ l h2
    have gd := (hg _ o.1.2).2.2 t2
    have gc_ := (hg _ o.1.1).2.2 t
    have gl := (hg l pw.2.2).2.2 t3
    unfold gEo at o
    have m1 : (S e.1.1).1.1 * e.2.1 * wp w * (S e.1.2).1.2 ≤ (S e.1.2).1.1 * wp w * ((S e.1.1).1.2 * e.2.2.1) := by
      have z := Int.mul_le_mul_of_nonneg_left le (Int.le_of_lt pw.1.1)
      have a1 : wp w * ((S e.1.1).1.1 * e.2.1 * (S e.1.2).1.2) = (S e.1.1).1.1 * e.2.1 * wp w * (S e.1.2).1.2 := by ac_rfl
      have a2 : wp w * ((S e.1.2).1.1 * ((S e.1.1).1.2 * e.2.2.1)) = (S e.1.2).1.1 * wp w * ((S e.1.1).1.2 * e.2.2.1) := by ac_rfl
      omega
    have px : 0 < (S e.1.1).1.2 * e.2.2.1 := Int.mul_pos (by omega) (by omega)
    have i1' : (S e.1.2).1.1 * wp w * (S l).1.2 ≤ (S l).1.1 * wq w * (S e.1.2).1.2 := by
      have a1 : (S l).1.1 * ((S e.1.2).1.2 * wq w) = (S l).1.1 * wq w * (S e.1.2).1.2 := by ac_rfl
      omega
    have g1 : (S e.1.1).1.1 * (e.2.1 * wp w) * (S l).1.2 = (S e.1.1).1.1 * e.2.1 * wp w * (S l).1.2 := by ac_rfl
    have g2 : (S l).1.1 * ((S e.1.1).1.2 * (e.2.2.1 * wq w)) = (S l).1.1 * wq w * ((S e.1.1).1.2 * e.2.2.1) := by ac_rfl
    refine ⟨t3, ?_, ?_⟩
    · show (S e.1.1).1.1 * (e.2.1 * wp w) * (S l).1.2 ≤ (S l).1.1 * ((S e.1.1).1.2 * (e.2.2.1 * wq w))
      rw [g1, g2]
      exact fr_tr (Int.le_of_lt px) (show 0 < (S e.1.2).1.2 by omega) (by omega) m1 i1'
    · show (S e.1.1).1.1 * (e.2.1 * wp w) * (S l).1.2 = (S l).1.1 * ((S e.1.1).1.2 * (e.2.2.1 * wq w)) → ((S e.1.1).2.1 = 1 ∨ (e.2.2.2 = 1 ∨ ws w)) → (S l).2.1 = 1
      rw [g1, g2]
      intro eq st
      have q1 : (S e.1.1).1.1 * e.2.1 * wp w * (S e.1.2).1.2 = (S e.1.2).1.1 * wp w * ((S e.1.1).1.2 * e.2.2.1) := by
        rcases Int.lt_or_eq_of_le m1 with z | z
        · exact absurd eq (Int.ne_of_lt (fr_trl (Int.le_of_lt px) (show 0 < (S e.1.2).1.2 by omega) (by omega) z i1'))
        · exact z
      have q2 : (S e.1.2).1.1 * wp w * (S l).1.2 = (S l).1.1 * wq w * (S e.1.2).1.2 := by
        rcases Int.lt_or_eq_of_le i1' with z | z
        · exact absurd eq (Int.ne_of_lt (fr_ltr px (show 0 < (S e.1.2).1.2 by omega) (by omega) m1 z))
        · exact z
      have q3 : (S e.1.1).1.1 * e.2.1 * (S e.1.2).1.2 = (S e.1.2).1.1 * ((S e.1.1).1.2 * e.2.2.1) := by
        have a1 : wp w * ((S e.1.1).1.1 * e.2.1 * (S e.1.2).1.2) = (S e.1.1).1.1 * e.2.1 * wp w * (S e.1.2).1.2 := by ac_rfl
        have a2 : wp w * ((S e.1.2).1.1 * ((S e.1.1).1.2 * e.2.2.1)) = (S e.1.2).1.1 * wp w * ((S e.1.1).1.2 * e.2.2.1) := by ac_rfl
        exact Int.eq_of_mul_eq_mul_left (Int.ne_of_gt pw.1.1) (by omega)
      have a3 : (S l).1.1 * ((S e.1.2).1.2 * wq w) = (S l).1.1 * wq w * (S e.1.2).1.2 := by ac_rfl
      refine i2 (by omega) ?_
      rcases st with st | st | st
      · exact Or.inl (eqo q3 (Or.inl st))
      · exact Or.inl (eqo q3 (Or.inr st))
      · exact Or.inr st
theorem gr_end {L : List gE} {a : Nat} {S : gS} (hE : ∀ q ∈ L, gEo q) (ha : a < 16) (hg : ∀ l, l < 16 → ga (S l)) (I : grI L a S 0) : ∀ l, l < 16 → BW L a l (bOf (S l)) := fun l hl => by
  obtain ⟨A, B, C⟩ := I
  have W := fun w (hw : wk L w a l) => gr_walk hE hg (C rfl) w a l hw B.1
  have gA := (hg a ha).2.2 B.1
  unfold bOf
  by_cases t : (S l).2.2 = 1
  · rw [if_pos t]
    have gl := (hg l hl).2.2 t
    refine ⟨⟨by show 0 < (S l).1.2; omega, by show 0 ≤ (S l).1.1; omega⟩, fun _ => ?_, fun w hw => ?_⟩
    · obtain ⟨w, w1, w2, w3, w4⟩ := A l hl t
      refine ⟨w, w1, ?_, fun o => w4.mp o⟩
      show (S l).1.2 * wp w = (S l).1.1 * wq w
      rw [w2, w3, Int.mul_comm]
    · obtain ⟨_, i1, i2⟩ := W w hw
      have pw := wp_pos hE w a l hw
      refine ⟨⟨by show 0 < (S l).1.2; omega, by show 0 < (S l).1.1; omega⟩, ?_⟩
      show (S l).1.2 * wp w < (S l).1.1 * wq w ∨ ((S l).1.2 * wp w = (S l).1.1 * wq w ∧ (ws w → (S l).2.1 = 1))
      have qp : 0 < (S l).1.1 * wq w := Int.mul_pos (by omega) pw.1.2
      have k1 : (S a).1.1 * wp w * (S l).1.2 = (S a).1.1 * ((S l).1.2 * wp w) := by ac_rfl
      have k2 : (S l).1.1 * ((S a).1.2 * wq w) = (S a).1.2 * ((S l).1.1 * wq w) := by ac_rfl
      rw [k1, k2] at i1 i2
      have m := Int.mul_le_mul_of_nonneg_right B.2 (Int.le_of_lt qp)
      have le : (S l).1.2 * wp w ≤ (S l).1.1 * wq w := Int.le_of_mul_le_mul_left (show (S a).1.1 * ((S l).1.2 * wp w) ≤ (S a).1.1 * ((S l).1.1 * wq w) by omega) (by omega)
      rcases Int.lt_or_eq_of_le le with z | z
      · exact Or.inl z
      · refine Or.inr ⟨z, fun st => i2 ?_ (Or.inr st)⟩
        rw [z] at i1 ⊢
        omega
  · rw [if_neg t]
    exact ⟨⟨by decide, by decide⟩, fun n => absurd rfl n, fun w hw => absurd (W w hw).1 t⟩
abbrev P_X12_goFrom2 (h0 : m_H) (a1 : Int) : m_H → Prop := fun h' => GI h' ∧ FR [115, 116, 117, 118, 119, 120, 121, 122, 123, 124, 125, 126, 127, 128, 129, 130, 131, 132, 133] [(108, 21)] h0 h' ∧ goQ h' ∧ (∀ l, l < 16 → BW (bR (h0 110)) a1.toNat l (bOf (aS h' l)))
def q_X12_goFrom2 (h0 : m_H) (a1 : Int) (n : Nat) : Prop := (∀ (l2 kk : Int) (h : m_H), GI h → FR [115, 116, 117, 118, 119, 120, 121, 122, 123, 124, 125, 126, 127, 128, 129, 130, 131, 132, 133] [(108, 21)] h0 h → 0 ≤ l2 → l2 ≤ 1 → (gfI h (bR (h0 110)) kk l2) → (0 ≤ kk ∧ kk ≤ 16) → (grI (bR (h0 110)) a1.toNat (aS h) l2) → 2 * (16 - kk) + (1) ≤ (n : Int) → m_Z oF M_X12_goFrom 19 [some (mR 108), none, some (mI l2)] [] h (m_QV (P_X12_goFrom2 h0 a1)))
set_option maxHeartbeats 4000000 in
set_option maxRecDepth 100000 in
theorem s_X12_goFrom2_19 (h0 : m_H) (a1 : Int) (G0 : GI h0) (pa1 : 0 ≤ a1 ∧ a1 ≤ 15) (hN : NP h0) (hG : gG (bR (h0 110))) (n : Nat) (ih : q_X12_goFrom2 h0 a1 n) : ∀ (l2 kk : Int) (h : m_H), GI h → FR [115, 116, 117, 118, 119, 120, 121, 122, 123, 124, 125, 126, 127, 128, 129, 130, 131, 132, 133] [(108, 21)] h0 h → 0 ≤ l2 → l2 ≤ 1 → (gfI h (bR (h0 110)) kk l2) → (0 ≤ kk ∧ kk ≤ 16) → (grI (bR (h0 110)) a1.toNat (aS h) l2) → 2 * (16 - kk) + (1) ≤ ((n + 1 : Nat) : Int) → m_Z oF M_X12_goFrom 19 [some (mR 108), none, some (mI l2)] [] h (m_QV (P_X12_goFrom2 h0 a1)) := by
  intro l2 kk h G R v0 v1 i0 i1 i2 hr
  refine z_iload_n (M := M_X12_goFrom) 19 dX12_goFrom_19 rfl ?_
  refine z_if_eq (M := M_X12_goFrom) 20 dX12_goFrom_20 32 rfl (fun c1 => ?_) (fun c1 => ?_)
  · exact z_retV (M := M_X12_goFrom) 32 dX12_goFrom_32 rfl ⟨G, R, gf_end i0, gr_end (bR_ok G0 hN) (by omega) (gf_end i0) ((show l2 = 0 by omega) ▸ i2)⟩
  · have k15 := gf_k i0 (by omega)
    refine z_aload_n (M := M_X12_goFrom) 23 dX12_goFrom_23 rfl ?_
    refine z_iconst (M := M_X12_goFrom) 24 dX12_goFrom_24 ?_
    refine z_vI (M := M_X12_goFrom) 25 dX12_goFrom_25 t_X12_round l_X12_360 (m_rr_of rfl) (rest := []) (c_X12_round h 1 (bR (h0 110)) G ⟨by omega, by omega⟩ i0.1 (bR_ok G0 hN)) o_108 rfl rfl rfl (Nat.le_of_ble_eq_true rfl) ⟨rfl, rfl⟩ (fun x2 h1 qx2 => ?_)
    obtain ⟨G1, S1, ax2, bx2, fx2_0, fx2_1⟩ := qx2
    have R1 := R.call S1 (by decide +kernel)
    refine z_istore_n (M := M_X12_goFrom) 28 dX12_goFrom_28 (ls' := [some (mR 108), none, some (mI x2)]) (by decide) rfl ?_
    refine z_goto (M := M_X12_goFrom) 29 dX12_goFrom_29 19 rfl ?_
    exact z_mask [true, false, true] rfl (ih x2 (kk + 1) h1 G1 R1 (by omega) (by omega) (gf_step (bR_ok G0 hN) (by omega) i0 (AR.call i0.1 S1 rfl (fun _ => rfl) (fun _ => rfl) (fun _ => rfl) (fun _ => rfl) (fun _ => rfl)) fx2_0 fx2_1) (by omega) (by rw [fx2_1]; exact gr_cg (bR_ok G0 hN) (by omega) fx2_0 (gr_step (bR_ok G0 hN) (by omega) (gf_end i0) i2)) (by omega))
theorem a_X12_goFrom2 (h0 : m_H) (a1 : Int) (G0 : GI h0) (pa1 : 0 ≤ a1 ∧ a1 ≤ 15) (hN : NP h0) (hG : gG (bR (h0 110))) : ∀ n, q_X12_goFrom2 h0 a1 n := by
  intro n
  induction n with
  | zero => unfold q_X12_goFrom2; intros; omega
  | succ n ih => exact s_X12_goFrom2_19 h0 a1 G0 pa1 hN hG n ih
set_option maxHeartbeats 4000000 in
set_option maxRecDepth 100000 in
theorem c_X12_goFrom2 (h0 : m_H) (a1 : Int) (G0 : GI h0) (pa1 : 0 ≤ a1 ∧ a1 ≤ 15) (hN : NP h0) (hG : gG (bR (h0 110))) : m_CV M_X12_goFrom [mR 108, mI a1] h0 (P_X12_goFrom2 h0 a1) := by
  refine m_CV_of ⟨by decide, rfl, by simp [m_arg, m_isL, M_X12_goFrom], ⟨rfl, rfl⟩, rfl, rfl⟩ (ls := [some (mR 108), some (mI a1), none]) rfl ?_
  have ih := a_X12_goFrom2 h0 a1 G0 pa1 hN hG 40
  refine z_aload_n (M := M_X12_goFrom) 0 dX12_goFrom_0 rfl ?_
  refine z_vV (M := M_X12_goFrom) 1 dX12_goFrom_1 t_X12_asIs l_X12_367 (m_rr_of rfl) (rest := []) (c_X12_asIsX h0 G0) o_108 rfl rfl rfl (Nat.le_of_ble_eq_true rfl) ⟨rfl, rfl⟩ (fun h1 qx1 => ?_)
  obtain ⟨G1, S1, fx1_0⟩ := qx1
  have R1 := (FR.rf (cs := [115, 116, 117, 118, 119, 120, 121, 122, 123, 124, 125, 126, 127, 128, 129, 130, 131, 132, 133]) (ss := [(108, 21)]) (h := h0)).call S1 (by decide +kernel)
  refine z_aload_n (M := M_X12_goFrom) 4 dX12_goFrom_4 rfl ?_
  refine z_aload_n (M := M_X12_goFrom) 5 dX12_goFrom_5 rfl ?_
  refine z_vI (M := M_X12_goFrom) 6 dX12_goFrom_6 t_X12_counting l_X12_370 (m_rr_of rfl) (rest := [mR 108]) (c_X12_countingX h1 G1) o_108 rfl rfl rfl (Nat.le_of_ble_eq_true rfl) ⟨rfl, rfl⟩ (fun x2 h2 qx2 => ?_)
  obtain ⟨G2, S2, fx2_0⟩ := qx2
  have R2 := R1.call S2 (by decide +kernel)
  refine z_ok (fun ox2 _ _ => ?_)
  have ox2 := ox2.1; unfold m_ok m_32 at ox2
  refine z_vV (M := M_X12_goFrom) 9 dX12_goFrom_9 t_X12_build l_X12_354 (m_rr_of rfl) (rest := []) (c_X12_build h2 x2 G2 (NP.call hN R2 (fun _ => rfl) (fun _ => rfl) (fun _ => rfl))) o_108 rfl rfl rfl (Nat.le_of_ble_eq_true rfl) ⟨rfl, rfl⟩ (fun h3 qx3 => ?_)
  obtain ⟨G3, S3, fx3_0⟩ := qx3
  have R3 := R2.call S3 (by decide +kernel)
  refine z_aload_n (M := M_X12_goFrom) 12 dX12_goFrom_12 rfl ?_
  refine z_iload_n (M := M_X12_goFrom) 13 dX12_goFrom_13 rfl ?_
  refine z_vV (M := M_X12_goFrom) 14 dX12_goFrom_14 t_X12_startAt l_X12_357 (m_rr_of rfl) (rest := []) (c_X12_startAtX h3 a1 G3) o_108 rfl rfl rfl (Nat.le_of_ble_eq_true rfl) ⟨rfl, rfl⟩ (fun h4 qx4 => ?_)
  obtain ⟨G4, S4, fx4_0⟩ := qx4
  have R4 := R3.call S4 (by decide +kernel)
  refine z_iconst (M := M_X12_goFrom) 17 dX12_goFrom_17 ?_
  refine z_istore_n (M := M_X12_goFrom) 18 dX12_goFrom_18 (ls' := [some (mR 108), some (mI a1), some (mI 1)]) (by decide) rfl ?_
  exact z_mask [true, false, true] rfl (ih 1 0 h4 G4 R4 (by omega) (by omega) (gf_0 (bR_ok G0 hN) hG (AR.call (bR_of G0 (fun j => (S2 110 j rfl).trans (S1 110 j rfl)) ⟨fun j hj => (S2 122 j rfl).trans (fx1_0.1 j hj), fun j hj => (S2 123 j rfl).trans (fx1_0.2 j hj)⟩ (fx2_0.trans (congrArg cF (FR.row S1 (fun _ => rfl)))) fx3_0) S4 rfl (fun _ => rfl) (fun _ => rfl) (fun _ => rfl) (fun _ => rfl) (fun _ => rfl)) (by omega) (by omega) fx4_0) (by omega) (grI_0 (by omega) (by omega) fx4_0) (by omega))
