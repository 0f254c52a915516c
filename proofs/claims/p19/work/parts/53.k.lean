/-! ===== the world in the making ===== -/
theorem tk_s {n : Nat} {q : Nat × Nat} (o : oF[n]? = some q) : oF.take (n + 1) = oF.take n ++ [q] := by rw [List.take_succ, o]; rfl
theorem tk_l {n : Nat} (hn : n ≤ 148) : (oF.take n).length = n := by rw [List.length_take, oF_len]; omega
theorem tk_g {n k : Nat} {q : Nat × Nat} (hk : k < n) (o : oF[k]? = some q) : (oF.take n)[k]? = some q := by rw [List.getElem?_take_of_lt hk]; exact o
theorem tk_m {a b : Nat} (h : a ≤ b) : m_sz (oF.take a) ≤ m_sz (oF.take b) := by
  have e : oF.take b = oF.take a ++ (oF.drop a).take (b - a) := by rw [← List.take_add]; congr 1; omega
  unfold m_sz
  rw [e, List.map_append, List.sum_append]
  omega
abbrev mkM (R : String) (y : MethodName) (c : ByteArray) (mx f l n0 n1 : Nat) (ret : Option FieldType) : m_M := (R, y, c, mx, ret, { frames := f, cells := n1 - n0, slots := m_sz (oF.take n1) - m_sz (oF.take n0), locals := l }, n0, m_sz (oF.take n0))
theorem tk_b {R : String} {y : MethodName} {c : ByteArray} {mx f l n0 n1 n : Nat} {ret : Option FieldType} (h0 : n0 ≤ n) (h1 : n ≤ n1) (h2 : n1 ≤ 148) : m_b (oF.take n) (mkM R y c mx f l n0 n1 ret) := by
  have a1 := tk_m h0
  have a2 := tk_m h1
  refine ⟨⟨?_, a1⟩, ?_, ?_⟩
  · show n0 ≤ (oF.take n).length; rw [tk_l (by omega)]; exact h0
  · show (oF.take n).length - n0 ≤ n1 - n0; rw [tk_l (by omega)]; omega
  · show m_sz (oF.take n) - m_sz (oF.take n0) ≤ m_sz (oF.take n1) - m_sz (oF.take n0); omega
theorem tk_c {R R' : String} {y y' : MethodName} {c c' : ByteArray} {mx f l n0 n1 mx' f' l' a b : Nat} {ret ret' : Option FieldType} (h0 : n0 ≤ a) (hab : a ≤ b) (h1 : b ≤ n1) (h2 : n1 ≤ 148) : m_cr (oF.take a) (oF.take b) (mkM R y c mx f l n0 n1 ret) (mkM R' y' c' mx' f' l' a b ret') := by
  refine ⟨⟨?_, rfl⟩, ⟨?_, tk_m hab⟩, tk_b (by omega) h1 h2⟩
  · show b - a = _; rw [tk_l (by omega), tk_l (by omega)]
  · rw [tk_l (by omega), tk_l (by omega)]; exact hab
theorem tk_k {R : String} {y : MethodName} {c : ByteArray} {mx f l n0 n1 : Nat} {ret : Option FieldType} (h0 : n0 ≤ n1) (h2 : n1 ≤ 148) : (m_k0 (mkM R y c mx f l n0 n1 ret) = (oF.take n0).length ∧ m_s0 (mkM R y c mx f l n0 n1 ret) = m_sz (oF.take n0)) ∧ ((oF.take n1).length - (oF.take n0).length = (m_rm (mkM R y c mx f l n0 n1 ret)).cells ∧ m_sz (oF.take n1) - m_sz (oF.take n0) = (m_rm (mkM R y c mx f l n0 n1 ret)).slots) := by
  refine ⟨⟨?_, rfl⟩, ⟨?_, rfl⟩⟩
  · rw [tk_l (by omega)]
  · rw [tk_l (by omega), tk_l (by omega)]
theorem tk_D {R : String} {y : MethodName} {c : ByteArray} {mx f l n0 n1 : Nat} {ret : Option FieldType} {as : List m_V} {h : m_H} {Q : Option m_V → m_H → Prop} (h0 : n0 ≤ n1) (h2 : n1 ≤ 148) (hy : plainName y.cls = true) (hown : R = y.cls) (hl : (m_arg as).length ≤ mx) {ls : List (Option m_V)} (hls : m_loc as mx = ls) (z : m_Y (xI y.name) (oF.take n0) (mkM R y c mx f l n0 n1 ret) 0 ls [] h (fun w r h' => w = oF.take n1 ∧ Q r h')) : m_D (mkM R y c mx f l n0 n1 ret) (oF.take n0) (oF.take n1) as h Q :=
  m_D_of hy hown hl (tk_b (Nat.le_refl _) h0 h2) (tk_k h0 h2).1 (tk_k h0 h2).2 hls z
/-! cells that are as they must be -/
def gC (k : Nat) (f : Nat → Int) : Prop := ∀ q : Nat × (Nat → Int → Prop), g_bt[k]? = some q → ∀ j, j < q.1 → q.2 j (f j)
def gR (a b : Nat) (h : m_H) : Prop := ∀ k, a ≤ k → k < b → gC k (h k)
theorem gC_of {k n : Nat} {f : Nat → Int} {P : Nat → Int → Prop} (o : g_bt[k]? = some (n, P)) (H : ∀ j, j < n → P j (f j)) : gC k f := by
  intro q hq
  rw [o] at hq
  cases hq
  exact H
theorem gR.put {a b c j : Nat} {v : Int} {h h' : m_H} (g : gR a b h) (E : h' = m_up h c j v) (hc : c < a ∨ b ≤ c) : gR a b h' := fun k h1 h2 => by rw [upo E (by omega)]; exact g k h1 h2
theorem gR.nw {a b n : Nat} {q : Nat × Nat} {h h' : m_H} (g : gR a b h) (E : h' = m_nw h n q) (hn : b ≤ n) : gR a b h' := fun k h1 h2 => by rw [m_nw_ne E (by omega)]; exact g k h1 h2
theorem gR.fr {a b n : Nat} {h h' : m_H} (g : gR a b h) (E : ∀ k, k < n → h' k = h k) (hn : b ≤ n) : gR a b h' := fun k h1 h2 => by rw [E k (by omega)]; exact g k h1 h2
theorem gR.cell {a b c : Nat} {h h' : m_H} (g : gR a b h) (E : ∀ k, k ≠ c → h' k = h k) (hc : c < a ∨ b ≤ c) : gR a b h' := fun k h1 h2 => by rw [E k (by omega)]; exact g k h1 h2
theorem gR.join {a b c : Nat} {h : m_H} (g : gR a b h) (g2 : gR b c h) : gR a c h := fun k h1 h2 => by
  by_cases q : k < b
  · exact g k h1 q
  · exact g2 k (by omega) h2
theorem gR_1 {k : Nat} {h : m_H} (g : gC k (h k)) : gR k (k + 1) h := fun a h1 h2 => by
  have e : a = k := by omega
  rw [e]; exact g
theorem gR_0 {k : Nat} {h : m_H} : gR k k h := fun a h1 h2 => by omega
theorem nw_u {h h' : m_H} {n k j : Nat} {q : Nat × Nat} {v : Int} (E : h' = m_nw h n q) (hk : k ≠ n) (e : h k j = v) : h' k j = v := by rw [m_nw_ne E hk]; exact e
theorem fr_u {h h' : m_H} {n k j : Nat} {v : Int} (E : ∀ k, k < n → h' k = h k) (hk : k < n) (e : h k j = v) : h' k j = v := by rw [E k hk]; exact e
theorem ce_u {h h' : m_H} {c k j : Nat} {v : Int} (E : ∀ k, k ≠ c → h' k = h k) (hk : k ≠ c) (e : h k j = v) : h' k j = v := by rw [E k hk]; exact e
theorem frn_nw {h0 h h' : m_H} {n m : Nat} {q : Nat × Nat} (F : ∀ k, k < n → h k = h0 k) (E : h' = m_nw h m q) (hm : n ≤ m) : ∀ k, k < n → h' k = h0 k := fun k hk => (m_nw_ne E (by omega)).trans (F k hk)
theorem frn_up {h0 h h' : m_H} {n c j : Nat} {v : Int} (F : ∀ k, k < n → h k = h0 k) (E : h' = m_up h c j v) (hm : n ≤ c) : ∀ k, k < n → h' k = h0 k := fun k hk => (upo E (by omega)).trans (F k hk)
theorem frn_fr {h0 h h' : m_H} {n m : Nat} (F : ∀ k, k < n → h k = h0 k) (E : ∀ k, k < m → h' k = h k) (hm : n ≤ m) : ∀ k, k < n → h' k = h0 k := fun k hk => (E k (by omega)).trans (F k hk)
theorem frn_ce {h0 h h' : m_H} {n c : Nat} (F : ∀ k, k < n → h k = h0 k) (E : ∀ k, k ≠ c → h' k = h k) (hm : n ≤ c) : ∀ k, k < n → h' k = h0 k := fun k hk => (E k (by omega)).trans (F k hk)
/-! Arrays.fill -/
def M_fill (Ω : m_W) : m_M := (RJ7, yJ7_fill_53178, cJ7_fill_53178, 4, none, { frames := 0, cells := 0, slots := 0, locals := 0 }, Ω.length, m_sz Ω)
theorem t_fill (Ω : m_W) : m_mS (M_fill Ω) 2 := t_J7_fill_53178
def fiQ (h0 : m_H) (c N : Nat) (v : Int) (r : Option m_V) (h' : m_H) : Prop := r = none ∧ (∀ j, j < N → h' c j = v) ∧ ∀ k, k ≠ c → h' k = h0 k
theorem s_fill {Ω : m_W} {c N : Nat} {v : Int} {h0 : m_H} (hk : Ω[c]? = some (0, N)) (hN : N ≤ 1000) : ∀ (n : Nat) (i : Int) (h : m_H), 0 ≤ i → i ≤ N → (N : Int) - i ≤ n → (∀ j : Nat, (j : Int) < i → h c j = v) → (∀ k, k ≠ c → h k = h0 k) → m_Z Ω (M_fill Ω) 5 [some (mR c), some (mI v), some (mI i), some (mI (N : Int))] [] h (fun w r h' => w = Ω ∧ fiQ h0 c N v r h')
  | n, i, h, h1, h2, hn, I, F => by
    refine z_iload_n (M := M_fill Ω) 5 dJ7_fill_53178_5 rfl ?_
    refine z_iload_n (M := M_fill Ω) 6 dJ7_fill_53178_6 rfl ?_
    refine z_icmp_ge (M := M_fill Ω) 7 dJ7_fill_53178_7 20 rfl (fun q => ?_) (fun q => ?_)
    · exact z_vret (M := M_fill Ω) 20 dJ7_fill_53178_20 rfl ⟨rfl, rfl, fun j hj => I j (by omega), F⟩
    · match n, hn with
      | 0, hn => omega
      | n + 1, hn =>
        refine z_aload_n (M := M_fill Ω) 10 dJ7_fill_53178_10 rfl ?_
        refine z_iload_n (M := M_fill Ω) 11 dJ7_fill_53178_11 rfl ?_
        refine z_iload_n (M := M_fill Ω) 12 dJ7_fill_53178_12 rfl ?_
        refine z_iast (M := M_fill Ω) 13 dJ7_fill_53178_13 hk h1 (by omega) ?_
        refine z_iinc (M := M_fill Ω) 14 dJ7_fill_53178_14 (ls' := [some (mR c), some (mI v), some (mI (i + 1)), some (mI (N : Int))]) (show 2 < 4 by decide) rfl (by (unfold m_32; decide)) (by rw [m_w_id (by omega) (by omega)]; rfl) ?_
        refine z_goto (M := M_fill Ω) 17 dJ7_fill_53178_17 5 rfl ?_
        refine s_fill hk hN n (i + 1) _ (by omega) (by omega) (by omega) (fun j hj => ?_) (fun k hk2 => (m_up_row hk2).trans (F k hk2))
        by_cases e : j = i.toNat
        · rw [e, m_up_eq]
        · rw [m_up_ne (fun z => e z.2)]; exact I j (by omega)
theorem c_fill {Ω : m_W} (c N : Nat) (v : Int) (h : m_H) (hk : Ω[c]? = some (0, N)) (hN : N ≤ 1000) : m_C (M_fill Ω) Ω Ω [mR c, mI v] h (fiQ h c N v) := by
  refine m_C_of (show plainName RJ7 = true by decide) rfl (by show 2 ≤ 4; decide) ⟨⟨Nat.le_refl _, Nat.le_refl _⟩, by show Ω.length - Ω.length ≤ 0; omega, by show m_sz Ω - m_sz Ω ≤ 0; omega⟩ ⟨rfl, rfl⟩ ⟨Nat.sub_self _, Nat.sub_self _⟩ ?_
  show m_Z Ω (M_fill Ω) 0 [some (mR c), some (mI v), none, none] [] h _
  refine z_iconst (M := M_fill Ω) 0 dJ7_fill_53178_0 ?_
  refine z_istore_n (M := M_fill Ω) 1 dJ7_fill_53178_1 (ls' := [some (mR c), some (mI v), some (mI 0), none]) (show 2 < 4 by decide) rfl ?_
  refine z_aload_n (M := M_fill Ω) 2 dJ7_fill_53178_2 rfl ?_
  refine z_alen (M := M_fill Ω) 3 dJ7_fill_53178_3 hk (by decide) (by omega) ?_
  refine z_istore_n (M := M_fill Ω) 4 dJ7_fill_53178_4 (ls' := [some (mR c), some (mI v), some (mI 0), some (mI (N : Int))]) (show 3 < 4 by decide) rfl ?_
  exact s_fill hk hN N 0 h (by omega) (by omega) (by omega) (fun j hj => by omega) (fun _ _ => rfl)
/-! a bound's constructor: nothing is written -/
abbrev M_X2i (n : Nat) : m_M := mkM RX2 yX2_init cX2_init 1 1 20 n n none
