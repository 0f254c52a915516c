/-! decode through a window of the bytes -/
def dLw (c w : ByteArray) (a : Nat) : Prop := ∀ i (h : i < w.size), ∃ h' : a + i < c.size, c[a + i] = w[i]
def dLr {α : Type} (c w : ByteArray) (a : Nat) (r' r : Decoder α) : Prop := ∀ p x q, Reader.runAt r w p = .ok (x, q) → Reader.runAt r' c (a + p) = .ok (x, a + q)
theorem dLr_pure {α : Type} {c w : ByteArray} {a : Nat} (x : α) : dLr c w a (pure x) (pure x) := by
  intro p y q h
  have h' : (Except.ok (x, p) : Except DecodeError (α × Nat)) = .ok (y, q) := h
  cases h'
  rfl
theorem dLr_at {α β : Type} {c w : ByteArray} {a : Nat} {R : α → Prop} {r' r : Decoder α} {f' f : α → Decoder β} (h1 : dLr c w a r' r) (h2 : ∀ x, R x → dLr c w a (f' x) (f x)) {p q : Nat} {y : β} (hR : ∀ x m, Reader.runAt r w p = .ok (x, m) → R x) (h : Reader.runAt (r >>= f) w p = .ok (y, q)) : Reader.runAt (r' >>= f') c (a + p) = .ok (y, a + q) := by
  have e : Reader.runAt (r >>= f) w p = Except.bind (Reader.runAt r w p) (fun s => Reader.runAt (f s.1) w s.2) := rfl
  have e' : Reader.runAt (r' >>= f') c (a + p) = Except.bind (Reader.runAt r' c (a + p)) (fun s => Reader.runAt (f' s.1) c s.2) := rfl
  rw [e] at h
  rw [e']
  cases k : Reader.runAt r w p with
  | error z => rw [k] at h; cases h
  | ok s =>
    obtain ⟨x, m⟩ := s
    rw [k] at h
    rw [h1 p x m k]
    exact h2 x (hR x m k) m y q h
theorem dLr_bind {α β : Type} {c w : ByteArray} {a : Nat} {r' r : Decoder α} {f' f : α → Decoder β} (h1 : dLr c w a r' r) (h2 : ∀ x, dLr c w a (f' x) (f x)) : dLr c w a (r' >>= f') (r >>= f) := fun _ _ _ h => dLr_at (R := fun _ => True) h1 (fun x _ => h2 x) (fun _ _ _ => trivial) h
theorem dLr_map {α β : Type} {c w : ByteArray} {a : Nat} {g : α → β} {r' r : Decoder α} (h1 : dLr c w a r' r) : dLr c w a (g <$> r') (g <$> r) := by
  intro p y q h
  have e : Reader.runAt (g <$> r) w p = Except.bind (Reader.runAt r w p) (fun s => .ok (g s.1, s.2)) := rfl
  have e' : Reader.runAt (g <$> r') c (a + p) = Except.bind (Reader.runAt r' c (a + p)) (fun s => .ok (g s.1, s.2)) := rfl
  rw [e] at h
  rw [e']
  cases k : Reader.runAt r w p with
  | error z => rw [k] at h; cases h
  | ok s =>
    obtain ⟨x, m⟩ := s
    rw [k] at h
    rw [h1 p x m k]
    cases h
    rfl
theorem du1_y {b : ByteArray} {t : Nat} (h : t < b.size) : Reader.runAt (Reader.u1 : Decoder Nat) b t = .ok ((b[t]'h).toNat, t + 1) := by
  have k : Reader.runAt (Reader.u1 : Decoder Nat) b t = (dite (t < b.size) (fun h => (do set (t + 1); pure (b[t]'h).toNat : Decoder Nat)) (fun _ => (throw (HasTruncated.truncated t) : Decoder Nat))) b t := rfl
  rw [k, dif_pos h]
  rfl
theorem du1_n {b : ByteArray} {t : Nat} (h : ¬ t < b.size) : Reader.runAt (Reader.u1 : Decoder Nat) b t = .error (HasTruncated.truncated t) := by
  have k : Reader.runAt (Reader.u1 : Decoder Nat) b t = (dite (t < b.size) (fun h => (do set (t + 1); pure (b[t]'h).toNat : Decoder Nat)) (fun _ => (throw (HasTruncated.truncated t) : Decoder Nat))) b t := rfl
  rw [k, dif_neg h]
  rfl
theorem dLr_u1 {c w : ByteArray} {a : Nat} (W : dLw c w a) : dLr c w a (Reader.u1 : Decoder Nat) Reader.u1 := by
  intro p x q h
  by_cases g : p < w.size
  · rw [du1_y g] at h
    obtain ⟨g', e⟩ := W p g
    rw [du1_y g', e]
    cases h
    rfl
  · rw [du1_n g] at h
    cases h
theorem dLr_u2 {c w : ByteArray} {a : Nat} (W : dLw c w a) : dLr c w a (Reader.u2 : Decoder Nat) Reader.u2 := by
  unfold Reader.u2
  exact dLr_bind (dLr_u1 W) (fun _ => dLr_bind (dLr_u1 W) (fun _ => dLr_pure _))
theorem dLr_s1 {c w : ByteArray} {a : Nat} (W : dLw c w a) : dLr c w a (Reader.s1 : Decoder Int) Reader.s1 := by
  unfold Reader.s1
  exact dLr_map (dLr_u1 W)
theorem dLr_s2 {c w : ByteArray} {a : Nat} (W : dLw c w a) : dLr c w a (Reader.s2 : Decoder Int) Reader.s2 := by
  unfold Reader.s2
  exact dLr_map (dLr_u2 W)
def dkO (op : Nat) : Bool := [2, 3, 4, 5, 6, 7, 8, 9, 10, 16, 17, 18, 19, 20, 21, 22, 25, 26, 27, 28, 29, 30, 31, 32, 33, 42, 43, 44, 45, 46, 47, 50, 51, 54, 55, 58, 59, 60, 61, 62, 63, 64, 65, 66, 75, 76, 77, 78, 79, 80, 83, 84, 87, 89, 92, 96, 97, 100, 101, 104, 105, 108, 109, 112, 113, 116, 120, 122, 124, 126, 128, 130, 132, 133, 136, 148, 153, 154, 155, 156, 157, 158, 159, 160, 161, 162, 163, 164, 167, 172, 173, 176, 177, 178, 180, 181, 182, 183, 184, 187, 189, 190].contains op
theorem dkO_c {op : Nat} (h : dkO op = true) : op = 2 ∨ op = 3 ∨ op = 4 ∨ op = 5 ∨ op = 6 ∨ op = 7 ∨ op = 8 ∨ op = 9 ∨ op = 10 ∨ op = 16 ∨ op = 17 ∨ op = 18 ∨ op = 19 ∨ op = 20 ∨ op = 21 ∨ op = 22 ∨ op = 25 ∨ op = 26 ∨ op = 27 ∨ op = 28 ∨ op = 29 ∨ op = 30 ∨ op = 31 ∨ op = 32 ∨ op = 33 ∨ op = 42 ∨ op = 43 ∨ op = 44 ∨ op = 45 ∨ op = 46 ∨ op = 47 ∨ op = 50 ∨ op = 51 ∨ op = 54 ∨ op = 55 ∨ op = 58 ∨ op = 59 ∨ op = 60 ∨ op = 61 ∨ op = 62 ∨ op = 63 ∨ op = 64 ∨ op = 65 ∨ op = 66 ∨ op = 75 ∨ op = 76 ∨ op = 77 ∨ op = 78 ∨ op = 79 ∨ op = 80 ∨ op = 83 ∨ op = 84 ∨ op = 87 ∨ op = 89 ∨ op = 92 ∨ op = 96 ∨ op = 97 ∨ op = 100 ∨ op = 101 ∨ op = 104 ∨ op = 105 ∨ op = 108 ∨ op = 109 ∨ op = 112 ∨ op = 113 ∨ op = 116 ∨ op = 120 ∨ op = 122 ∨ op = 124 ∨ op = 126 ∨ op = 128 ∨ op = 130 ∨ op = 132 ∨ op = 133 ∨ op = 136 ∨ op = 148 ∨ op = 153 ∨ op = 154 ∨ op = 155 ∨ op = 156 ∨ op = 157 ∨ op = 158 ∨ op = 159 ∨ op = 160 ∨ op = 161 ∨ op = 162 ∨ op = 163 ∨ op = 164 ∨ op = 167 ∨ op = 172 ∨ op = 173 ∨ op = 176 ∨ op = 177 ∨ op = 178 ∨ op = 180 ∨ op = 181 ∨ op = 182 ∨ op = 183 ∨ op = 184 ∨ op = 187 ∨ op = 189 ∨ op = 190 := by
  unfold dkO at h
  simpa using h
def dkb (w : ByteArray) (j : Nat) : Bool := if h : j < w.size then dkO (w[j]'h).toNat else false
set_option maxHeartbeats 4000000 in
set_option maxRecDepth 100000 in
theorem dinstr_w {c w : ByteArray} {a j q : Nat} {i : Instr} (W : dLw c w a) (o : dkb w j = true) (k : Reader.runAt (Decoder.instr j) w j = .ok (i, q)) : Reader.runAt (Decoder.instr (a + j)) c (a + j) = .ok (i, a + q) := by
  unfold Decoder.instr at k ⊢
  refine dLr_at (R := fun op => dkO op = true) (dLr_u1 W) (fun op ho => ?_) (fun x m e => ?_) k
  · rcases dkO_c ho with rfl | rfl | rfl | rfl | rfl | rfl | rfl | rfl | rfl | rfl | rfl | rfl | rfl | rfl | rfl | rfl | rfl | rfl | rfl | rfl | rfl | rfl | rfl | rfl | rfl | rfl | rfl | rfl | rfl | rfl | rfl | rfl | rfl | rfl | rfl | rfl | rfl | rfl | rfl | rfl | rfl | rfl | rfl | rfl | rfl | rfl | rfl | rfl | rfl | rfl | rfl | rfl | rfl | rfl | rfl | rfl | rfl | rfl | rfl | rfl | rfl | rfl | rfl | rfl | rfl | rfl | rfl | rfl | rfl | rfl | rfl | rfl | rfl | rfl | rfl | rfl | rfl | rfl | rfl | rfl | rfl | rfl | rfl | rfl | rfl | rfl | rfl | rfl | rfl | rfl | rfl | rfl | rfl | rfl | rfl | rfl | rfl | rfl | rfl | rfl | rfl | rfl
    · exact dLr_pure _
    · exact dLr_pure _
    · exact dLr_pure _
    · exact dLr_pure _
    · exact dLr_pure _
    · exact dLr_pure _
    · exact dLr_pure _
    · exact dLr_pure _
    · exact dLr_pure _
    · exact dLr_bind (dLr_s1 W) (fun _ => dLr_pure _)
    · exact dLr_bind (dLr_s2 W) (fun _ => dLr_pure _)
    · exact dLr_bind (dLr_u1 W) (fun _ => dLr_pure _)
    · exact dLr_bind (dLr_u2 W) (fun _ => dLr_pure _)
    · exact dLr_bind (dLr_u2 W) (fun _ => dLr_pure _)
    · exact dLr_bind (dLr_u1 W) (fun _ => dLr_pure _)
    · exact dLr_bind (dLr_u1 W) (fun _ => dLr_pure _)
    · exact dLr_bind (dLr_u1 W) (fun _ => dLr_pure _)
    · exact dLr_pure _
    · exact dLr_pure _
    · exact dLr_pure _
    · exact dLr_pure _
    · exact dLr_pure _
    · exact dLr_pure _
    · exact dLr_pure _
    · exact dLr_pure _
    · exact dLr_pure _
    · exact dLr_pure _
    · exact dLr_pure _
    · exact dLr_pure _
    · exact dLr_pure _
    · exact dLr_pure _
    · exact dLr_pure _
    · exact dLr_pure _
    · exact dLr_bind (dLr_u1 W) (fun _ => dLr_pure _)
    · exact dLr_bind (dLr_u1 W) (fun _ => dLr_pure _)
    · exact dLr_bind (dLr_u1 W) (fun _ => dLr_pure _)
    · exact dLr_pure _
    · exact dLr_pure _
    · exact dLr_pure _
    · exact dLr_pure _
    · exact dLr_pure _
    · exact dLr_pure _
    · exact dLr_pure _
    · exact dLr_pure _
    · exact dLr_pure _
    · exact dLr_pure _
    · exact dLr_pure _
    · exact dLr_pure _
    · exact dLr_pure _
    · exact dLr_pure _
    · exact dLr_pure _
    · exact dLr_pure _
    · exact dLr_pure _
    · exact dLr_pure _
    · exact dLr_pure _
    · exact dLr_pure _
    · exact dLr_pure _
    · exact dLr_pure _
    · exact dLr_pure _
    · exact dLr_pure _
    · exact dLr_pure _
    · exact dLr_pure _
    · exact dLr_pure _
    · exact dLr_pure _
    · exact dLr_pure _
    · exact dLr_pure _
    · exact dLr_pure _
    · exact dLr_pure _
    · exact dLr_pure _
    · exact dLr_pure _
    · exact dLr_pure _
    · exact dLr_pure _
    · exact dLr_bind (dLr_u1 W) (fun _ => dLr_bind (dLr_s1 W) (fun _ => dLr_pure _))
    · exact dLr_pure _
    · exact dLr_pure _
    · exact dLr_pure _
    · exact dLr_bind (dLr_s2 W) (fun _ => dLr_pure _)
    · exact dLr_bind (dLr_s2 W) (fun _ => dLr_pure _)
    · exact dLr_bind (dLr_s2 W) (fun _ => dLr_pure _)
    · exact dLr_bind (dLr_s2 W) (fun _ => dLr_pure _)
    · exact dLr_bind (dLr_s2 W) (fun _ => dLr_pure _)
    · exact dLr_bind (dLr_s2 W) (fun _ => dLr_pure _)
    · exact dLr_bind (dLr_s2 W) (fun _ => dLr_pure _)
    · exact dLr_bind (dLr_s2 W) (fun _ => dLr_pure _)
    · exact dLr_bind (dLr_s2 W) (fun _ => dLr_pure _)
    · exact dLr_bind (dLr_s2 W) (fun _ => dLr_pure _)
    · exact dLr_bind (dLr_s2 W) (fun _ => dLr_pure _)
    · exact dLr_bind (dLr_s2 W) (fun _ => dLr_pure _)
    · exact dLr_bind (dLr_s2 W) (fun _ => dLr_pure _)
    · exact dLr_pure _
    · exact dLr_pure _
    · exact dLr_pure _
    · exact dLr_pure _
    · exact dLr_bind (dLr_u2 W) (fun _ => dLr_pure _)
    · exact dLr_bind (dLr_u2 W) (fun _ => dLr_pure _)
    · exact dLr_bind (dLr_u2 W) (fun _ => dLr_pure _)
    · exact dLr_bind (dLr_u2 W) (fun _ => dLr_pure _)
    · exact dLr_bind (dLr_u2 W) (fun _ => dLr_pure _)
    · exact dLr_bind (dLr_u2 W) (fun _ => dLr_pure _)
    · exact dLr_bind (dLr_u2 W) (fun _ => dLr_pure _)
    · exact dLr_bind (dLr_u2 W) (fun _ => dLr_pure _)
    · exact dLr_pure _
  · unfold dkb at o
    by_cases g : j < w.size
    · rw [dif_pos g] at o
      rw [du1_y g] at e
      cases e
      exact o
    · rw [dif_neg g] at o
      exact absurd o (by decide)
theorem dec_w {c w : ByteArray} {a j n : Nat} {i : Instr} (W : dLw c w a) (k : (dkb w j && decide (decode w j = .ok (i, n))) = true) : decode c (a + j) = .ok (i, n) := by
  rw [Bool.and_eq_true] at k
  obtain ⟨o, d⟩ := k
  have d' := of_decide_eq_true d
  have e : decode w j = Except.bind (Reader.runAt (Decoder.instr j) w j) (fun s => .ok (s.1, s.2 - j)) := rfl
  have e' : decode c (a + j) = Except.bind (Reader.runAt (Decoder.instr (a + j)) c (a + j)) (fun s => .ok (s.1, s.2 - (a + j))) := rfl
  rw [e] at d'
  rw [e']
  cases z : Reader.runAt (Decoder.instr j) w j with
  | error y => rw [z] at d'; cases d'
  | ok s =>
    obtain ⟨x, m⟩ := s
    rw [z] at d'
    rw [dinstr_w W o z]
    cases d'
    show Except.ok (x, a + m - (a + j)) = Except.ok (x, m - j)
    rw [Nat.add_sub_add_left]
def dchk (w : ByteArray) (l : List (Nat × Instr × Nat)) : Bool := l.all (fun q => dkb w q.1 && decide (decode w q.1 = .ok (q.2.1, q.2.2)))
theorem dec_r {c w : ByteArray} {a j n : Nat} {i : Instr} {l : List (Nat × Instr × Nat)} (W : dLw c w a) (S : dchk w l = true) (k : Nat) (e : l[k]? = some (j, i, n)) : decode c (a + j) = .ok (i, n) := by
  unfold dchk at S
  rw [List.all_eq_true] at S
  exact dec_w W (S _ (List.mem_of_getElem? e))
theorem dLw_of {c : ByteArray} {wl t : List UInt8} {a : Nat} (h : c.data.toList.drop a = wl ++ t) : dLw c ⟨⟨wl⟩⟩ a := by
  intro i hi
  have hi' : i < wl.length := hi
  have g : (c.data.toList.drop a)[i]? = some wl[i] := by rw [h, List.getElem?_append_left hi', List.getElem?_eq_getElem hi']
  rw [List.getElem?_drop] at g
  obtain ⟨h', e⟩ := List.getElem?_eq_some_iff.mp g
  exact ⟨h', e⟩
theorem ddr_n {c : ByteArray} {wl t : List UInt8} {a b : Nat} (h : c.data.toList.drop a = wl ++ t) (e : a + wl.length = b) : c.data.toList.drop b = t := by
  rw [← e, ← List.drop_drop, h]
  exact List.drop_left
theorem dJ0_length_8abf5_0 : decode cJ0_length_8abf5 0 = .ok (.aload_n 0, 1) := by decide +kernel
theorem dJ0_length_8abf5_1 : decode cJ0_length_8abf5 1 = .ok (.getfield 9, 3) := by decide +kernel
theorem dJ0_length_8abf5_4 : decode cJ0_length_8abf5 4 = .ok (.arraylength, 1) := by decide +kernel
theorem dJ0_length_8abf5_5 : decode cJ0_length_8abf5 5 = .ok (.aload_n 0, 1) := by decide +kernel
theorem dJ0_length_8abf5_6 : decode cJ0_length_8abf5 6 = .ok (.invokevirtual 335, 3) := by decide +kernel
theorem dJ0_length_8abf5_9 : decode cJ0_length_8abf5 9 = .ok (.ishr, 1) := by decide +kernel
theorem dJ0_length_8abf5_10 : decode cJ0_length_8abf5 10 = .ok (.ireturn, 1) := by decide +kernel
theorem dJ0_charAt_5068e_0 : decode cJ0_charAt_5068e 0 = .ok (.aload_n 0, 1) := by decide +kernel
theorem dJ0_charAt_5068e_1 : decode cJ0_charAt_5068e 1 = .ok (.invokevirtual 492, 3) := by decide +kernel
theorem dJ0_charAt_5068e_4 : decode cJ0_charAt_5068e 4 = .ok (.ifCond .eq 12, 3) := by decide +kernel
theorem dJ0_charAt_5068e_7 : decode cJ0_charAt_5068e 7 = .ok (.aload_n 0, 1) := by decide +kernel
theorem dJ0_charAt_5068e_8 : decode cJ0_charAt_5068e 8 = .ok (.getfield 9, 3) := by decide +kernel
theorem dJ0_charAt_5068e_11 : decode cJ0_charAt_5068e 11 = .ok (.iload_n 1, 1) := by decide +kernel
theorem dJ0_charAt_5068e_12 : decode cJ0_charAt_5068e 12 = .ok (.invokestatic 495, 3) := by decide +kernel
theorem dJ0_charAt_5068e_15 : decode cJ0_charAt_5068e 15 = .ok (.ireturn, 1) := by decide +kernel
theorem dJ0_charAt_5068e_16 : decode cJ0_charAt_5068e 16 = .ok (.aload_n 0, 1) := by decide +kernel
theorem dJ0_charAt_5068e_17 : decode cJ0_charAt_5068e 17 = .ok (.getfield 9, 3) := by decide +kernel
theorem dJ0_charAt_5068e_20 : decode cJ0_charAt_5068e 20 = .ok (.iload_n 1, 1) := by decide +kernel
theorem dJ0_charAt_5068e_21 : decode cJ0_charAt_5068e 21 = .ok (.invokestatic 498, 3) := by decide +kernel
theorem dJ0_charAt_5068e_24 : decode cJ0_charAt_5068e 24 = .ok (.ireturn, 1) := by decide +kernel
theorem dJ0_coder_7d493_0 : decode cJ0_coder_7d493 0 = .ok (.getstatic 38, 3) := by decide +kernel
theorem dJ0_coder_7d493_3 : decode cJ0_coder_7d493 3 = .ok (.ifCond .eq 10, 3) := by decide +kernel
theorem dJ0_coder_7d493_6 : decode cJ0_coder_7d493 6 = .ok (.aload_n 0, 1) := by decide +kernel
theorem dJ0_coder_7d493_7 : decode cJ0_coder_7d493 7 = .ok (.getfield 15, 3) := by decide +kernel
theorem dJ0_coder_7d493_10 : decode cJ0_coder_7d493 10 = .ok (.goto 4, 3) := by decide +kernel
theorem dJ0_coder_7d493_13 : decode cJ0_coder_7d493 13 = .ok (.iconst 1, 1) := by decide +kernel
theorem dJ0_coder_7d493_14 : decode cJ0_coder_7d493 14 = .ok (.ireturn, 1) := by decide +kernel
theorem dJ0_isLatin1_aae02_0 : decode cJ0_isLatin1_aae02 0 = .ok (.getstatic 38, 3) := by decide +kernel
theorem dJ0_isLatin1_aae02_3 : decode cJ0_isLatin1_aae02 3 = .ok (.ifCond .eq 14, 3) := by decide +kernel
theorem dJ0_isLatin1_aae02_6 : decode cJ0_isLatin1_aae02 6 = .ok (.aload_n 0, 1) := by decide +kernel
theorem dJ0_isLatin1_aae02_7 : decode cJ0_isLatin1_aae02 7 = .ok (.getfield 15, 3) := by decide +kernel
theorem dJ0_isLatin1_aae02_10 : decode cJ0_isLatin1_aae02 10 = .ok (.ifCond .ne 7, 3) := by decide +kernel
theorem dJ0_isLatin1_aae02_13 : decode cJ0_isLatin1_aae02 13 = .ok (.iconst 1, 1) := by decide +kernel
theorem dJ0_isLatin1_aae02_14 : decode cJ0_isLatin1_aae02 14 = .ok (.goto 4, 3) := by decide +kernel
theorem dJ0_isLatin1_aae02_17 : decode cJ0_isLatin1_aae02 17 = .ok (.iconst 0, 1) := by decide +kernel
theorem dJ0_isLatin1_aae02_18 : decode cJ0_isLatin1_aae02 18 = .ok (.ireturn, 1) := by decide +kernel
theorem dJ0_checkIndex_df160_0 : decode cJ0_checkIndex_df160 0 = .ok (.iload_n 0, 1) := by decide +kernel
theorem dJ0_checkIndex_df160_1 : decode cJ0_checkIndex_df160 1 = .ok (.iload_n 1, 1) := by decide +kernel
theorem dJ0_checkIndex_df160_2 : decode cJ0_checkIndex_df160 2 = .ok (.getstatic 1053, 3) := by decide +kernel
theorem dJ0_checkIndex_df160_5 : decode cJ0_checkIndex_df160 5 = .ok (.invokestatic 1059, 3) := by decide +kernel
theorem dJ0_checkIndex_df160_8 : decode cJ0_checkIndex_df160 8 = .ok (.pop, 1) := by decide +kernel
theorem dJ0_checkIndex_df160_9 : decode cJ0_checkIndex_df160 9 = .ok (.return_, 1) := by decide +kernel
theorem dJ1_charAt_3b067_0 : decode cJ1_charAt_3b067 0 = .ok (.iload_n 1, 1) := by decide +kernel
theorem dJ1_charAt_3b067_1 : decode cJ1_charAt_3b067 1 = .ok (.aload_n 0, 1) := by decide +kernel
theorem dJ1_charAt_3b067_2 : decode cJ1_charAt_3b067 2 = .ok (.arraylength, 1) := by decide +kernel
theorem dJ1_charAt_3b067_3 : decode cJ1_charAt_3b067 3 = .ok (.invokestatic 9, 3) := by decide +kernel
theorem dJ1_charAt_3b067_6 : decode cJ1_charAt_3b067 6 = .ok (.aload_n 0, 1) := by decide +kernel
theorem dJ1_charAt_3b067_7 : decode cJ1_charAt_3b067 7 = .ok (.iload_n 1, 1) := by decide +kernel
theorem dJ1_charAt_3b067_8 : decode cJ1_charAt_3b067 8 = .ok (.baload, 1) := by decide +kernel
theorem dJ1_charAt_3b067_9 : decode cJ1_charAt_3b067 9 = .ok (.sipush 255, 3) := by decide +kernel
theorem dJ1_charAt_3b067_12 : decode cJ1_charAt_3b067 12 = .ok (.iand, 1) := by decide +kernel
theorem dJ1_charAt_3b067_13 : decode cJ1_charAt_3b067 13 = .ok (.i2c, 1) := by decide +kernel
theorem dJ1_charAt_3b067_14 : decode cJ1_charAt_3b067 14 = .ok (.ireturn, 1) := by decide +kernel
theorem dJ2_getChar_3b067_0 : decode cJ2_getChar_3b067 0 = .ok (.getstatic 44, 3) := by decide +kernel
theorem dJ2_getChar_3b067_3 : decode cJ2_getChar_3b067 3 = .ok (.ifCond .ne 25, 3) := by decide +kernel
theorem dJ2_getChar_3b067_6 : decode cJ2_getChar_3b067 6 = .ok (.iload_n 1, 1) := by decide +kernel
theorem dJ2_getChar_3b067_7 : decode cJ2_getChar_3b067 7 = .ok (.ifCond .lt 11, 3) := by decide +kernel
theorem dJ2_getChar_3b067_10 : decode cJ2_getChar_3b067 10 = .ok (.iload_n 1, 1) := by decide +kernel
theorem dJ2_getChar_3b067_11 : decode cJ2_getChar_3b067 11 = .ok (.aload_n 0, 1) := by decide +kernel
theorem dJ2_getChar_3b067_12 : decode cJ2_getChar_3b067 12 = .ok (.invokestatic 48, 3) := by decide +kernel
theorem dJ2_getChar_3b067_15 : decode cJ2_getChar_3b067 15 = .ok (.if_icmp .lt 13, 3) := by decide +kernel
theorem dJ2_getChar_3b067_18 : decode cJ2_getChar_3b067 18 = .ok (.new 52, 3) := by decide +kernel
theorem dJ2_getChar_3b067_21 : decode cJ2_getChar_3b067 21 = .ok (.dup, 1) := by decide +kernel
theorem dJ2_getChar_3b067_22 : decode cJ2_getChar_3b067 22 = .ok (.ldc 54, 2) := by decide +kernel
theorem dJ2_getChar_3b067_24 : decode cJ2_getChar_3b067 24 = .ok (.invokespecial 56, 3) := by decide +kernel
theorem dJ2_getChar_3b067_27 : decode cJ2_getChar_3b067 27 = .ok (.athrow, 1) := by decide +kernel
theorem dJ2_getChar_3b067_28 : decode cJ2_getChar_3b067 28 = .ok (.iload_n 1, 1) := by decide +kernel
theorem dJ2_getChar_3b067_29 : decode cJ2_getChar_3b067 29 = .ok (.iconst 1, 1) := by decide +kernel
theorem dJ2_getChar_3b067_30 : decode cJ2_getChar_3b067 30 = .ok (.ishl, 1) := by decide +kernel
theorem dJ2_getChar_3b067_31 : decode cJ2_getChar_3b067 31 = .ok (.istore_n 1, 1) := by decide +kernel
theorem dJ2_getChar_3b067_32 : decode cJ2_getChar_3b067 32 = .ok (.aload_n 0, 1) := by decide +kernel
theorem dJ2_getChar_3b067_33 : decode cJ2_getChar_3b067 33 = .ok (.iload_n 1, 1) := by decide +kernel
theorem dJ2_getChar_3b067_34 : decode cJ2_getChar_3b067 34 = .ok (.iinc 1 1, 3) := by decide +kernel
theorem dJ2_getChar_3b067_37 : decode cJ2_getChar_3b067 37 = .ok (.baload, 1) := by decide +kernel
theorem dJ2_getChar_3b067_38 : decode cJ2_getChar_3b067 38 = .ok (.sipush 255, 3) := by decide +kernel
theorem dJ2_getChar_3b067_41 : decode cJ2_getChar_3b067 41 = .ok (.iand, 1) := by decide +kernel
theorem dJ2_getChar_3b067_42 : decode cJ2_getChar_3b067 42 = .ok (.getstatic 59, 3) := by decide +kernel
theorem dJ2_getChar_3b067_45 : decode cJ2_getChar_3b067 45 = .ok (.ishl, 1) := by decide +kernel
theorem dJ2_getChar_3b067_46 : decode cJ2_getChar_3b067 46 = .ok (.aload_n 0, 1) := by decide +kernel
theorem dJ2_getChar_3b067_47 : decode cJ2_getChar_3b067 47 = .ok (.iload_n 1, 1) := by decide +kernel
theorem dJ2_getChar_3b067_48 : decode cJ2_getChar_3b067 48 = .ok (.baload, 1) := by decide +kernel
theorem dJ2_getChar_3b067_49 : decode cJ2_getChar_3b067 49 = .ok (.sipush 255, 3) := by decide +kernel
theorem dJ2_getChar_3b067_52 : decode cJ2_getChar_3b067 52 = .ok (.iand, 1) := by decide +kernel
theorem dJ2_getChar_3b067_53 : decode cJ2_getChar_3b067 53 = .ok (.getstatic 63, 3) := by decide +kernel
theorem dJ2_getChar_3b067_56 : decode cJ2_getChar_3b067 56 = .ok (.ishl, 1) := by decide +kernel
theorem dJ2_getChar_3b067_57 : decode cJ2_getChar_3b067 57 = .ok (.ior, 1) := by decide +kernel
theorem dJ2_getChar_3b067_58 : decode cJ2_getChar_3b067 58 = .ok (.i2c, 1) := by decide +kernel
theorem dJ2_getChar_3b067_59 : decode cJ2_getChar_3b067 59 = .ok (.ireturn, 1) := by decide +kernel
theorem dJ2_length_9d52b_0 : decode cJ2_length_9d52b 0 = .ok (.aload_n 0, 1) := by decide +kernel
theorem dJ2_length_9d52b_1 : decode cJ2_length_9d52b 1 = .ok (.arraylength, 1) := by decide +kernel
theorem dJ2_length_9d52b_2 : decode cJ2_length_9d52b 2 = .ok (.iconst 1, 1) := by decide +kernel
theorem dJ2_length_9d52b_3 : decode cJ2_length_9d52b 3 = .ok (.ishr, 1) := by decide +kernel
theorem dJ2_length_9d52b_4 : decode cJ2_length_9d52b 4 = .ok (.ireturn, 1) := by decide +kernel
theorem dJ2_charAt_3b067_0 : decode cJ2_charAt_3b067 0 = .ok (.iload_n 1, 1) := by decide +kernel
theorem dJ2_charAt_3b067_1 : decode cJ2_charAt_3b067 1 = .ok (.aload_n 0, 1) := by decide +kernel
theorem dJ2_charAt_3b067_2 : decode cJ2_charAt_3b067 2 = .ok (.invokestatic 67, 3) := by decide +kernel
theorem dJ2_charAt_3b067_5 : decode cJ2_charAt_3b067 5 = .ok (.aload_n 0, 1) := by decide +kernel
theorem dJ2_charAt_3b067_6 : decode cJ2_charAt_3b067 6 = .ok (.iload_n 1, 1) := by decide +kernel
theorem dJ2_charAt_3b067_7 : decode cJ2_charAt_3b067 7 = .ok (.invokestatic 71, 3) := by decide +kernel
theorem dJ2_charAt_3b067_10 : decode cJ2_charAt_3b067 10 = .ok (.ireturn, 1) := by decide +kernel
theorem dJ2_checkIndex_2214a_0 : decode cJ2_checkIndex_2214a 0 = .ok (.iload_n 0, 1) := by decide +kernel
theorem dJ2_checkIndex_2214a_1 : decode cJ2_checkIndex_2214a 1 = .ok (.aload_n 1, 1) := by decide +kernel
theorem dJ2_checkIndex_2214a_2 : decode cJ2_checkIndex_2214a 2 = .ok (.invokestatic 48, 3) := by decide +kernel
theorem dJ2_checkIndex_2214a_5 : decode cJ2_checkIndex_2214a 5 = .ok (.invokestatic 414, 3) := by decide +kernel
theorem dJ2_checkIndex_2214a_8 : decode cJ2_checkIndex_2214a 8 = .ok (.return_, 1) := by decide +kernel
theorem dJ3_checkIndex_8e157_0 : decode cJ3_checkIndex_8e157 0 = .ok (.iload_n 0, 1) := by decide +kernel
theorem dJ3_checkIndex_8e157_1 : decode cJ3_checkIndex_8e157 1 = .ok (.ifCond .lt 8, 3) := by decide +kernel
theorem dJ3_checkIndex_8e157_4 : decode cJ3_checkIndex_8e157 4 = .ok (.iload_n 0, 1) := by decide +kernel
theorem dJ3_checkIndex_8e157_5 : decode cJ3_checkIndex_8e157 5 = .ok (.iload_n 1, 1) := by decide +kernel
theorem dJ3_checkIndex_8e157_6 : decode cJ3_checkIndex_8e157 6 = .ok (.if_icmp .lt 10, 3) := by decide +kernel
theorem dJ3_checkIndex_8e157_9 : decode cJ3_checkIndex_8e157 9 = .ok (.aload_n 2, 1) := by decide +kernel
theorem dJ3_checkIndex_8e157_10 : decode cJ3_checkIndex_8e157 10 = .ok (.iload_n 0, 1) := by decide +kernel
theorem dJ3_checkIndex_8e157_11 : decode cJ3_checkIndex_8e157 11 = .ok (.iload_n 1, 1) := by decide +kernel
theorem dJ3_checkIndex_8e157_12 : decode cJ3_checkIndex_8e157 12 = .ok (.invokestatic 95, 3) := by decide +kernel
theorem dJ3_checkIndex_8e157_15 : decode cJ3_checkIndex_8e157 15 = .ok (.athrow, 1) := by decide +kernel
theorem dJ3_checkIndex_8e157_16 : decode cJ3_checkIndex_8e157 16 = .ok (.iload_n 0, 1) := by decide +kernel
theorem dJ3_checkIndex_8e157_17 : decode cJ3_checkIndex_8e157 17 = .ok (.ireturn, 1) := by decide +kernel
theorem dJ6_bitCount_0f7a4_0 : decode cJ6_bitCount_0f7a4 0 = .ok (.iload_n 0, 1) := by decide +kernel
theorem dJ6_bitCount_0f7a4_1 : decode cJ6_bitCount_0f7a4 1 = .ok (.iload_n 0, 1) := by decide +kernel
theorem dJ6_bitCount_0f7a4_2 : decode cJ6_bitCount_0f7a4 2 = .ok (.iconst 1, 1) := by decide +kernel
theorem dJ6_bitCount_0f7a4_3 : decode cJ6_bitCount_0f7a4 3 = .ok (.iushr, 1) := by decide +kernel
theorem dJ6_bitCount_0f7a4_4 : decode cJ6_bitCount_0f7a4 4 = .ok (.ldc_w 265, 3) := by decide +kernel
theorem dJ6_bitCount_0f7a4_7 : decode cJ6_bitCount_0f7a4 7 = .ok (.iand, 1) := by decide +kernel
theorem dJ6_bitCount_0f7a4_8 : decode cJ6_bitCount_0f7a4 8 = .ok (.isub, 1) := by decide +kernel
theorem dJ6_bitCount_0f7a4_9 : decode cJ6_bitCount_0f7a4 9 = .ok (.istore_n 0, 1) := by decide +kernel
theorem dJ6_bitCount_0f7a4_10 : decode cJ6_bitCount_0f7a4 10 = .ok (.iload_n 0, 1) := by decide +kernel
theorem dJ6_bitCount_0f7a4_11 : decode cJ6_bitCount_0f7a4 11 = .ok (.ldc_w 266, 3) := by decide +kernel
theorem dJ6_bitCount_0f7a4_14 : decode cJ6_bitCount_0f7a4 14 = .ok (.iand, 1) := by decide +kernel
theorem dJ6_bitCount_0f7a4_15 : decode cJ6_bitCount_0f7a4 15 = .ok (.iload_n 0, 1) := by decide +kernel
theorem dJ6_bitCount_0f7a4_16 : decode cJ6_bitCount_0f7a4 16 = .ok (.iconst 2, 1) := by decide +kernel
theorem dJ6_bitCount_0f7a4_17 : decode cJ6_bitCount_0f7a4 17 = .ok (.iushr, 1) := by decide +kernel
theorem dJ6_bitCount_0f7a4_18 : decode cJ6_bitCount_0f7a4 18 = .ok (.ldc_w 266, 3) := by decide +kernel
theorem dJ6_bitCount_0f7a4_21 : decode cJ6_bitCount_0f7a4 21 = .ok (.iand, 1) := by decide +kernel
theorem dJ6_bitCount_0f7a4_22 : decode cJ6_bitCount_0f7a4 22 = .ok (.iadd, 1) := by decide +kernel
theorem dJ6_bitCount_0f7a4_23 : decode cJ6_bitCount_0f7a4 23 = .ok (.istore_n 0, 1) := by decide +kernel
theorem dJ6_bitCount_0f7a4_24 : decode cJ6_bitCount_0f7a4 24 = .ok (.iload_n 0, 1) := by decide +kernel
theorem dJ6_bitCount_0f7a4_25 : decode cJ6_bitCount_0f7a4 25 = .ok (.iload_n 0, 1) := by decide +kernel
theorem dJ6_bitCount_0f7a4_26 : decode cJ6_bitCount_0f7a4 26 = .ok (.iconst 4, 1) := by decide +kernel
theorem dJ6_bitCount_0f7a4_27 : decode cJ6_bitCount_0f7a4 27 = .ok (.iushr, 1) := by decide +kernel
theorem dJ6_bitCount_0f7a4_28 : decode cJ6_bitCount_0f7a4 28 = .ok (.iadd, 1) := by decide +kernel
theorem dJ6_bitCount_0f7a4_29 : decode cJ6_bitCount_0f7a4 29 = .ok (.ldc_w 267, 3) := by decide +kernel
theorem dJ6_bitCount_0f7a4_32 : decode cJ6_bitCount_0f7a4 32 = .ok (.iand, 1) := by decide +kernel
theorem dJ6_bitCount_0f7a4_33 : decode cJ6_bitCount_0f7a4 33 = .ok (.istore_n 0, 1) := by decide +kernel
theorem dJ6_bitCount_0f7a4_34 : decode cJ6_bitCount_0f7a4 34 = .ok (.iload_n 0, 1) := by decide +kernel
theorem dJ6_bitCount_0f7a4_35 : decode cJ6_bitCount_0f7a4 35 = .ok (.iload_n 0, 1) := by decide +kernel
theorem dJ6_bitCount_0f7a4_36 : decode cJ6_bitCount_0f7a4 36 = .ok (.bipush 8, 2) := by decide +kernel
theorem dJ6_bitCount_0f7a4_38 : decode cJ6_bitCount_0f7a4 38 = .ok (.iushr, 1) := by decide +kernel
theorem dJ6_bitCount_0f7a4_39 : decode cJ6_bitCount_0f7a4 39 = .ok (.iadd, 1) := by decide +kernel
theorem dJ6_bitCount_0f7a4_40 : decode cJ6_bitCount_0f7a4 40 = .ok (.istore_n 0, 1) := by decide +kernel
theorem dJ6_bitCount_0f7a4_41 : decode cJ6_bitCount_0f7a4 41 = .ok (.iload_n 0, 1) := by decide +kernel
theorem dJ6_bitCount_0f7a4_42 : decode cJ6_bitCount_0f7a4 42 = .ok (.iload_n 0, 1) := by decide +kernel
theorem dJ6_bitCount_0f7a4_43 : decode cJ6_bitCount_0f7a4 43 = .ok (.bipush 16, 2) := by decide +kernel
theorem dJ6_bitCount_0f7a4_45 : decode cJ6_bitCount_0f7a4 45 = .ok (.iushr, 1) := by decide +kernel
theorem dJ6_bitCount_0f7a4_46 : decode cJ6_bitCount_0f7a4 46 = .ok (.iadd, 1) := by decide +kernel
theorem dJ6_bitCount_0f7a4_47 : decode cJ6_bitCount_0f7a4 47 = .ok (.istore_n 0, 1) := by decide +kernel
theorem dJ6_bitCount_0f7a4_48 : decode cJ6_bitCount_0f7a4 48 = .ok (.iload_n 0, 1) := by decide +kernel
theorem dJ6_bitCount_0f7a4_49 : decode cJ6_bitCount_0f7a4 49 = .ok (.bipush 63, 2) := by decide +kernel
theorem dJ6_bitCount_0f7a4_51 : decode cJ6_bitCount_0f7a4 51 = .ok (.iand, 1) := by decide +kernel
theorem dJ6_bitCount_0f7a4_52 : decode cJ6_bitCount_0f7a4 52 = .ok (.ireturn, 1) := by decide +kernel
theorem dJ7_fill_53178_0 : decode cJ7_fill_53178 0 = .ok (.iconst 0, 1) := by decide +kernel
theorem dJ7_fill_53178_1 : decode cJ7_fill_53178 1 = .ok (.istore_n 2, 1) := by decide +kernel
theorem dJ7_fill_53178_2 : decode cJ7_fill_53178 2 = .ok (.aload_n 0, 1) := by decide +kernel
theorem dJ7_fill_53178_3 : decode cJ7_fill_53178 3 = .ok (.arraylength, 1) := by decide +kernel
theorem dJ7_fill_53178_4 : decode cJ7_fill_53178 4 = .ok (.istore_n 3, 1) := by decide +kernel
theorem dJ7_fill_53178_5 : decode cJ7_fill_53178 5 = .ok (.iload_n 2, 1) := by decide +kernel
theorem dJ7_fill_53178_6 : decode cJ7_fill_53178 6 = .ok (.iload_n 3, 1) := by decide +kernel
theorem dJ7_fill_53178_7 : decode cJ7_fill_53178 7 = .ok (.if_icmp .ge 13, 3) := by decide +kernel
theorem dJ7_fill_53178_10 : decode cJ7_fill_53178 10 = .ok (.aload_n 0, 1) := by decide +kernel
theorem dJ7_fill_53178_11 : decode cJ7_fill_53178 11 = .ok (.iload_n 2, 1) := by decide +kernel
theorem dJ7_fill_53178_12 : decode cJ7_fill_53178 12 = .ok (.iload_n 1, 1) := by decide +kernel
theorem dJ7_fill_53178_13 : decode cJ7_fill_53178 13 = .ok (.iastore, 1) := by decide +kernel
theorem dJ7_fill_53178_14 : decode cJ7_fill_53178 14 = .ok (.iinc 2 1, 3) := by decide +kernel
theorem dJ7_fill_53178_17 : decode cJ7_fill_53178 17 = .ok (.goto (-12), 3) := by decide +kernel
theorem dJ7_fill_53178_20 : decode cJ7_fill_53178 20 = .ok (.return_, 1) := by decide +kernel
theorem dJ9_max_7cf53_0 : decode cJ9_max_7cf53 0 = .ok (.iload_n 0, 1) := by decide +kernel
theorem dJ9_max_7cf53_1 : decode cJ9_max_7cf53 1 = .ok (.iload_n 1, 1) := by decide +kernel
theorem dJ9_max_7cf53_2 : decode cJ9_max_7cf53 2 = .ok (.if_icmp .lt 7, 3) := by decide +kernel
theorem dJ9_max_7cf53_5 : decode cJ9_max_7cf53 5 = .ok (.iload_n 0, 1) := by decide +kernel
theorem dJ9_max_7cf53_6 : decode cJ9_max_7cf53 6 = .ok (.goto 4, 3) := by decide +kernel
theorem dJ9_max_7cf53_9 : decode cJ9_max_7cf53 9 = .ok (.iload_n 1, 1) := by decide +kernel
theorem dJ9_max_7cf53_10 : decode cJ9_max_7cf53 10 = .ok (.ireturn, 1) := by decide +kernel
theorem dJ9_max_f86c9_0 : decode cJ9_max_f86c9 0 = .ok (.lload_n 0, 1) := by decide +kernel
theorem dJ9_max_f86c9_1 : decode cJ9_max_f86c9 1 = .ok (.lload_n 2, 1) := by decide +kernel
theorem dJ9_max_f86c9_2 : decode cJ9_max_f86c9 2 = .ok (.lcmp, 1) := by decide +kernel
theorem dJ9_max_f86c9_3 : decode cJ9_max_f86c9 3 = .ok (.ifCond .lt 7, 3) := by decide +kernel
theorem dJ9_max_f86c9_6 : decode cJ9_max_f86c9 6 = .ok (.lload_n 0, 1) := by decide +kernel
theorem dJ9_max_f86c9_7 : decode cJ9_max_f86c9 7 = .ok (.goto 4, 3) := by decide +kernel
theorem dJ9_max_f86c9_10 : decode cJ9_max_f86c9 10 = .ok (.lload_n 2, 1) := by decide +kernel
theorem dJ9_max_f86c9_11 : decode cJ9_max_f86c9 11 = .ok (.lreturn, 1) := by decide +kernel
theorem dJ9_min_7cf53_0 : decode cJ9_min_7cf53 0 = .ok (.iload_n 0, 1) := by decide +kernel
theorem dJ9_min_7cf53_1 : decode cJ9_min_7cf53 1 = .ok (.iload_n 1, 1) := by decide +kernel
theorem dJ9_min_7cf53_2 : decode cJ9_min_7cf53 2 = .ok (.if_icmp .gt 7, 3) := by decide +kernel
theorem dJ9_min_7cf53_5 : decode cJ9_min_7cf53 5 = .ok (.iload_n 0, 1) := by decide +kernel
theorem dJ9_min_7cf53_6 : decode cJ9_min_7cf53 6 = .ok (.goto 4, 3) := by decide +kernel
theorem dJ9_min_7cf53_9 : decode cJ9_min_7cf53 9 = .ok (.iload_n 1, 1) := by decide +kernel
theorem dJ9_min_7cf53_10 : decode cJ9_min_7cf53 10 = .ok (.ireturn, 1) := by decide +kernel
theorem dJ9_min_f86c9_0 : decode cJ9_min_f86c9 0 = .ok (.lload_n 0, 1) := by decide +kernel
theorem dJ9_min_f86c9_1 : decode cJ9_min_f86c9 1 = .ok (.lload_n 2, 1) := by decide +kernel
theorem dJ9_min_f86c9_2 : decode cJ9_min_f86c9 2 = .ok (.lcmp, 1) := by decide +kernel
theorem dJ9_min_f86c9_3 : decode cJ9_min_f86c9 3 = .ok (.ifCond .gt 7, 3) := by decide +kernel
theorem dJ9_min_f86c9_6 : decode cJ9_min_f86c9 6 = .ok (.lload_n 0, 1) := by decide +kernel
theorem dJ9_min_f86c9_7 : decode cJ9_min_f86c9 7 = .ok (.goto 4, 3) := by decide +kernel
theorem dJ9_min_f86c9_10 : decode cJ9_min_f86c9 10 = .ok (.lload_n 2, 1) := by decide +kernel
theorem dJ9_min_f86c9_11 : decode cJ9_min_f86c9 11 = .ok (.lreturn, 1) := by decide +kernel
theorem dJ13_compare_74951_0 : decode cJ13_compare_74951 0 = .ok (.lload_n 0, 1) := by decide +kernel
theorem dJ13_compare_74951_1 : decode cJ13_compare_74951 1 = .ok (.lload_n 2, 1) := by decide +kernel
theorem dJ13_compare_74951_2 : decode cJ13_compare_74951 2 = .ok (.lcmp, 1) := by decide +kernel
theorem dJ13_compare_74951_3 : decode cJ13_compare_74951 3 = .ok (.ifCond .ge 7, 3) := by decide +kernel
theorem dJ13_compare_74951_6 : decode cJ13_compare_74951 6 = .ok (.iconst (-1), 1) := by decide +kernel
theorem dJ13_compare_74951_7 : decode cJ13_compare_74951 7 = .ok (.goto 14, 3) := by decide +kernel
theorem dJ13_compare_74951_10 : decode cJ13_compare_74951 10 = .ok (.lload_n 0, 1) := by decide +kernel
theorem dJ13_compare_74951_11 : decode cJ13_compare_74951 11 = .ok (.lload_n 2, 1) := by decide +kernel
theorem dJ13_compare_74951_12 : decode cJ13_compare_74951 12 = .ok (.lcmp, 1) := by decide +kernel
theorem dJ13_compare_74951_13 : decode cJ13_compare_74951 13 = .ok (.ifCond .ne 7, 3) := by decide +kernel
theorem dJ13_compare_74951_16 : decode cJ13_compare_74951 16 = .ok (.iconst 0, 1) := by decide +kernel
theorem dJ13_compare_74951_17 : decode cJ13_compare_74951 17 = .ok (.goto 4, 3) := by decide +kernel
theorem dJ13_compare_74951_20 : decode cJ13_compare_74951 20 = .ok (.iconst 1, 1) := by decide +kernel
theorem dJ13_compare_74951_21 : decode cJ13_compare_74951 21 = .ok (.ireturn, 1) := by decide +kernel
theorem dX0_init_0 : decode cX0_init 0 = .ok (.aload_n 0, 1) := by decide +kernel
theorem dX0_init_1 : decode cX0_init 1 = .ok (.invokespecial 3, 3) := by decide +kernel
theorem dX0_init_4 : decode cX0_init 4 = .ok (.aload_n 0, 1) := by decide +kernel
theorem dX0_init_5 : decode cX0_init 5 = .ok (.bipush 16, 2) := by decide +kernel
theorem dX0_init_7 : decode cX0_init 7 = .ok (.newarray .int, 2) := by decide +kernel
theorem dX0_init_9 : decode cX0_init 9 = .ok (.putfield 9, 3) := by decide +kernel
theorem dX0_init_12 : decode cX0_init 12 = .ok (.return_, 1) := by decide +kernel
theorem dX0_bind_0 : decode cX0_bind 0 = .ok (.iconst 0, 1) := by decide +kernel
theorem dX0_bind_1 : decode cX0_bind 1 = .ok (.istore_n 2, 1) := by decide +kernel
theorem dX0_bind_2 : decode cX0_bind 2 = .ok (.iload_n 2, 1) := by decide +kernel
theorem dX0_bind_3 : decode cX0_bind 3 = .ok (.bipush 16, 2) := by decide +kernel
theorem dX0_bind_5 : decode cX0_bind 5 = .ok (.if_icmp .ge 16, 3) := by decide +kernel
theorem dX0_bind_8 : decode cX0_bind 8 = .ok (.aload_n 0, 1) := by decide +kernel
theorem dX0_bind_9 : decode cX0_bind 9 = .ok (.getfield 9, 3) := by decide +kernel
theorem dX0_bind_12 : decode cX0_bind 12 = .ok (.iload_n 2, 1) := by decide +kernel
theorem dX0_bind_13 : decode cX0_bind 13 = .ok (.iload_n 2, 1) := by decide +kernel
theorem dX0_bind_14 : decode cX0_bind 14 = .ok (.iastore, 1) := by decide +kernel
theorem dX0_bind_15 : decode cX0_bind 15 = .ok (.iinc 2 1, 3) := by decide +kernel
theorem dX0_bind_18 : decode cX0_bind 18 = .ok (.goto (-16), 3) := by decide +kernel
theorem dX0_bind_21 : decode cX0_bind 21 = .ok (.iconst 0, 1) := by decide +kernel
theorem dX0_bind_22 : decode cX0_bind 22 = .ok (.istore_n 2, 1) := by decide +kernel
theorem dX0_bind_23 : decode cX0_bind 23 = .ok (.iload_n 2, 1) := by decide +kernel
theorem dX0_bind_24 : decode cX0_bind 24 = .ok (.aload_n 1, 1) := by decide +kernel
theorem dX0_bind_25 : decode cX0_bind 25 = .ok (.getfield 15, 3) := by decide +kernel
theorem dX0_bind_28 : decode cX0_bind 28 = .ok (.if_icmp .ge 33, 3) := by decide +kernel
theorem dX0_bind_31 : decode cX0_bind 31 = .ok (.aload_n 1, 1) := by decide +kernel
theorem dX0_bind_32 : decode cX0_bind 32 = .ok (.iload_n 2, 1) := by decide +kernel
theorem dX0_bind_33 : decode cX0_bind 33 = .ok (.invokevirtual 21, 3) := by decide +kernel
theorem dX0_bind_36 : decode cX0_bind 36 = .ok (.istore_n 3, 1) := by decide +kernel
theorem dX0_bind_37 : decode cX0_bind 37 = .ok (.iload_n 3, 1) := by decide +kernel
theorem dX0_bind_38 : decode cX0_bind 38 = .ok (.iconst (-1), 1) := by decide +kernel
theorem dX0_bind_39 : decode cX0_bind 39 = .ok (.if_icmp .eq 16, 3) := by decide +kernel
theorem dX0_bind_42 : decode cX0_bind 42 = .ok (.aload_n 0, 1) := by decide +kernel
theorem dX0_bind_43 : decode cX0_bind 43 = .ok (.aload_n 1, 1) := by decide +kernel
theorem dX0_bind_44 : decode cX0_bind 44 = .ok (.iload_n 2, 1) := by decide +kernel
theorem dX0_bind_45 : decode cX0_bind 45 = .ok (.invokevirtual 25, 3) := by decide +kernel
theorem dX0_bind_48 : decode cX0_bind 48 = .ok (.bipush 12, 2) := by decide +kernel
theorem dX0_bind_50 : decode cX0_bind 50 = .ok (.iload_n 3, 1) := by decide +kernel
theorem dX0_bind_51 : decode cX0_bind 51 = .ok (.iadd, 1) := by decide +kernel
theorem dX0_bind_52 : decode cX0_bind 52 = .ok (.invokevirtual 28, 3) := by decide +kernel
theorem dX0_bind_55 : decode cX0_bind 55 = .ok (.iinc 2 1, 3) := by decide +kernel
theorem dX0_bind_58 : decode cX0_bind 58 = .ok (.goto (-35), 3) := by decide +kernel
theorem dX0_bind_61 : decode cX0_bind 61 = .ok (.iconst 0, 1) := by decide +kernel
theorem dX0_bind_62 : decode cX0_bind 62 = .ok (.istore_n 2, 1) := by decide +kernel
theorem dX0_bind_63 : decode cX0_bind 63 = .ok (.iload_n 2, 1) := by decide +kernel
theorem dX0_bind_64 : decode cX0_bind 64 = .ok (.bipush 16, 2) := by decide +kernel
theorem dX0_bind_66 : decode cX0_bind 66 = .ok (.if_icmp .ge 36, 3) := by decide +kernel
theorem dX0_bind_69 : decode cX0_bind 69 = .ok (.aload_n 1, 1) := by decide +kernel
theorem dX0_bind_70 : decode cX0_bind 70 = .ok (.getfield 32, 3) := by decide +kernel
theorem dX0_bind_73 : decode cX0_bind 73 = .ok (.iload_n 2, 1) := by decide +kernel
theorem dX0_bind_74 : decode cX0_bind 74 = .ok (.invokestatic 35, 3) := by decide +kernel
theorem dX0_bind_77 : decode cX0_bind 77 = .ok (.ifCond .eq 19, 3) := by decide +kernel
theorem dX0_bind_80 : decode cX0_bind 80 = .ok (.aload_n 0, 1) := by decide +kernel
theorem dX0_bind_81 : decode cX0_bind 81 = .ok (.bipush 12, 2) := by decide +kernel
theorem dX0_bind_83 : decode cX0_bind 83 = .ok (.iload_n 2, 1) := by decide +kernel
theorem dX0_bind_84 : decode cX0_bind 84 = .ok (.iconst 4, 1) := by decide +kernel
theorem dX0_bind_85 : decode cX0_bind 85 = .ok (.idiv, 1) := by decide +kernel
theorem dX0_bind_86 : decode cX0_bind 86 = .ok (.iadd, 1) := by decide +kernel
theorem dX0_bind_87 : decode cX0_bind 87 = .ok (.bipush 12, 2) := by decide +kernel
theorem dX0_bind_89 : decode cX0_bind 89 = .ok (.iload_n 2, 1) := by decide +kernel
theorem dX0_bind_90 : decode cX0_bind 90 = .ok (.iconst 4, 1) := by decide +kernel
theorem dX0_bind_91 : decode cX0_bind 91 = .ok (.irem, 1) := by decide +kernel
theorem dX0_bind_92 : decode cX0_bind 92 = .ok (.iadd, 1) := by decide +kernel
theorem dX0_bind_93 : decode cX0_bind 93 = .ok (.invokevirtual 28, 3) := by decide +kernel
theorem dX0_bind_96 : decode cX0_bind 96 = .ok (.iinc 2 1, 3) := by decide +kernel
theorem dX0_bind_99 : decode cX0_bind 99 = .ok (.goto (-36), 3) := by decide +kernel
theorem dX0_bind_102 : decode cX0_bind 102 = .ok (.iconst 0, 1) := by decide +kernel
theorem dX0_bind_103 : decode cX0_bind 103 = .ok (.istore_n 2, 1) := by decide +kernel
theorem dX0_bind_104 : decode cX0_bind 104 = .ok (.iload_n 2, 1) := by decide +kernel
theorem dX0_bind_105 : decode cX0_bind 105 = .ok (.bipush 6, 2) := by decide +kernel
theorem dX0_bind_107 : decode cX0_bind 107 = .ok (.if_icmp .ge 28, 3) := by decide +kernel
theorem dX0_bind_110 : decode cX0_bind 110 = .ok (.aload_n 1, 1) := by decide +kernel
theorem dX0_bind_111 : decode cX0_bind 111 = .ok (.getfield 39, 3) := by decide +kernel
theorem dX0_bind_114 : decode cX0_bind 114 = .ok (.iload_n 2, 1) := by decide +kernel
theorem dX0_bind_115 : decode cX0_bind 115 = .ok (.iaload, 1) := by decide +kernel
theorem dX0_bind_116 : decode cX0_bind 116 = .ok (.iconst (-1), 1) := by decide +kernel
theorem dX0_bind_117 : decode cX0_bind 117 = .ok (.if_icmp .eq 12, 3) := by decide +kernel
theorem dX0_bind_120 : decode cX0_bind 120 = .ok (.aload_n 0, 1) := by decide +kernel
theorem dX0_bind_121 : decode cX0_bind 121 = .ok (.iload_n 2, 1) := by decide +kernel
theorem dX0_bind_122 : decode cX0_bind 122 = .ok (.iload_n 2, 1) := by decide +kernel
theorem dX0_bind_123 : decode cX0_bind 123 = .ok (.bipush 6, 2) := by decide +kernel
theorem dX0_bind_125 : decode cX0_bind 125 = .ok (.iadd, 1) := by decide +kernel
theorem dX0_bind_126 : decode cX0_bind 126 = .ok (.invokevirtual 28, 3) := by decide +kernel
theorem dX0_bind_129 : decode cX0_bind 129 = .ok (.iinc 2 1, 3) := by decide +kernel
theorem dX0_bind_132 : decode cX0_bind 132 = .ok (.goto (-28), 3) := by decide +kernel
theorem dX0_bind_135 : decode cX0_bind 135 = .ok (.return_, 1) := by decide +kernel
theorem dX0_unite_0 : decode cX0_unite 0 = .ok (.aload_n 0, 1) := by decide +kernel
theorem dX0_unite_1 : decode cX0_unite 1 = .ok (.getfield 9, 3) := by decide +kernel
theorem dX0_unite_4 : decode cX0_unite 4 = .ok (.iload_n 1, 1) := by decide +kernel
theorem dX0_unite_5 : decode cX0_unite 5 = .ok (.iaload, 1) := by decide +kernel
theorem dX0_unite_6 : decode cX0_unite 6 = .ok (.aload_n 0, 1) := by decide +kernel
theorem dX0_unite_7 : decode cX0_unite 7 = .ok (.getfield 9, 3) := by decide +kernel
theorem dX0_unite_10 : decode cX0_unite 10 = .ok (.iload_n 2, 1) := by decide +kernel
theorem dX0_unite_11 : decode cX0_unite 11 = .ok (.iaload, 1) := by decide +kernel
theorem dX0_unite_12 : decode cX0_unite 12 = .ok (.invokestatic 42, 3) := by decide +kernel
theorem dX0_unite_15 : decode cX0_unite 15 = .ok (.istore_n 3, 1) := by decide +kernel
theorem dX0_unite_16 : decode cX0_unite 16 = .ok (.aload_n 0, 1) := by decide +kernel
theorem dX0_unite_17 : decode cX0_unite 17 = .ok (.getfield 9, 3) := by decide +kernel
theorem dX0_unite_20 : decode cX0_unite 20 = .ok (.iload_n 1, 1) := by decide +kernel
theorem dX0_unite_21 : decode cX0_unite 21 = .ok (.iaload, 1) := by decide +kernel
theorem dX0_unite_22 : decode cX0_unite 22 = .ok (.aload_n 0, 1) := by decide +kernel
theorem dX0_unite_23 : decode cX0_unite 23 = .ok (.getfield 9, 3) := by decide +kernel
theorem dX0_unite_26 : decode cX0_unite 26 = .ok (.iload_n 2, 1) := by decide +kernel
theorem dX0_unite_27 : decode cX0_unite 27 = .ok (.iaload, 1) := by decide +kernel
theorem dX0_unite_28 : decode cX0_unite 28 = .ok (.invokestatic 48, 3) := by decide +kernel
theorem dX0_unite_31 : decode cX0_unite 31 = .ok (.istore 4, 2) := by decide +kernel
theorem dX0_unite_33 : decode cX0_unite 33 = .ok (.iconst 0, 1) := by decide +kernel
theorem dX0_unite_34 : decode cX0_unite 34 = .ok (.istore 5, 2) := by decide +kernel
theorem dX0_unite_36 : decode cX0_unite 36 = .ok (.iload 5, 2) := by decide +kernel
theorem dX0_unite_38 : decode cX0_unite 38 = .ok (.bipush 16, 2) := by decide +kernel
theorem dX0_unite_40 : decode cX0_unite 40 = .ok (.if_icmp .ge 29, 3) := by decide +kernel
theorem dX0_unite_43 : decode cX0_unite 43 = .ok (.aload_n 0, 1) := by decide +kernel
theorem dX0_unite_44 : decode cX0_unite 44 = .ok (.getfield 9, 3) := by decide +kernel
theorem dX0_unite_47 : decode cX0_unite 47 = .ok (.iload 5, 2) := by decide +kernel
theorem dX0_unite_49 : decode cX0_unite 49 = .ok (.iaload, 1) := by decide +kernel
theorem dX0_unite_50 : decode cX0_unite 50 = .ok (.iload 4, 2) := by decide +kernel
theorem dX0_unite_52 : decode cX0_unite 52 = .ok (.if_icmp .ne 11, 3) := by decide +kernel
theorem dX0_unite_55 : decode cX0_unite 55 = .ok (.aload_n 0, 1) := by decide +kernel
theorem dX0_unite_56 : decode cX0_unite 56 = .ok (.getfield 9, 3) := by decide +kernel
theorem dX0_unite_59 : decode cX0_unite 59 = .ok (.iload 5, 2) := by decide +kernel
theorem dX0_unite_61 : decode cX0_unite 61 = .ok (.iload_n 3, 1) := by decide +kernel
theorem dX0_unite_62 : decode cX0_unite 62 = .ok (.iastore, 1) := by decide +kernel
theorem dX0_unite_63 : decode cX0_unite 63 = .ok (.iinc 5 1, 3) := by decide +kernel
theorem dX0_unite_66 : decode cX0_unite 66 = .ok (.goto (-30), 3) := by decide +kernel
theorem dX0_unite_69 : decode cX0_unite 69 = .ok (.return_, 1) := by decide +kernel
theorem dX0_areTogether_0 : decode cX0_areTogether 0 = .ok (.aload_n 0, 1) := by decide +kernel
theorem dX0_areTogether_1 : decode cX0_areTogether 1 = .ok (.getfield 9, 3) := by decide +kernel
theorem dX0_areTogether_4 : decode cX0_areTogether 4 = .ok (.iload_n 1, 1) := by decide +kernel
theorem dX0_areTogether_5 : decode cX0_areTogether 5 = .ok (.iaload, 1) := by decide +kernel
theorem dX0_areTogether_6 : decode cX0_areTogether 6 = .ok (.aload_n 0, 1) := by decide +kernel
theorem dX0_areTogether_7 : decode cX0_areTogether 7 = .ok (.getfield 9, 3) := by decide +kernel
theorem dX0_areTogether_10 : decode cX0_areTogether 10 = .ok (.iload_n 2, 1) := by decide +kernel
theorem dX0_areTogether_11 : decode cX0_areTogether 11 = .ok (.iaload, 1) := by decide +kernel
theorem dX0_areTogether_12 : decode cX0_areTogether 12 = .ok (.if_icmp .ne 7, 3) := by decide +kernel
theorem dX0_areTogether_15 : decode cX0_areTogether 15 = .ok (.iconst 1, 1) := by decide +kernel
theorem dX0_areTogether_16 : decode cX0_areTogether 16 = .ok (.goto 4, 3) := by decide +kernel
theorem dX0_areTogether_19 : decode cX0_areTogether 19 = .ok (.iconst 0, 1) := by decide +kernel
theorem dX0_areTogether_20 : decode cX0_areTogether 20 = .ok (.ireturn, 1) := by decide +kernel
theorem dX0_many_0 : decode cX0_many 0 = .ok (.iconst 0, 1) := by decide +kernel
theorem dX0_many_1 : decode cX0_many 1 = .ok (.istore_n 2, 1) := by decide +kernel
theorem dX0_many_2 : decode cX0_many 2 = .ok (.iconst 0, 1) := by decide +kernel
theorem dX0_many_3 : decode cX0_many 3 = .ok (.istore_n 3, 1) := by decide +kernel
theorem dX0_many_4 : decode cX0_many 4 = .ok (.iload_n 3, 1) := by decide +kernel
theorem dX0_many_5 : decode cX0_many 5 = .ok (.bipush 16, 2) := by decide +kernel
theorem dX0_many_7 : decode cX0_many 7 = .ok (.if_icmp .ge 30, 3) := by decide +kernel
theorem dX0_many_10 : decode cX0_many 10 = .ok (.aload_n 0, 1) := by decide +kernel
theorem dX0_many_11 : decode cX0_many 11 = .ok (.getfield 9, 3) := by decide +kernel
theorem dX0_many_14 : decode cX0_many 14 = .ok (.iload_n 3, 1) := by decide +kernel
theorem dX0_many_15 : decode cX0_many 15 = .ok (.iaload, 1) := by decide +kernel
theorem dX0_many_16 : decode cX0_many 16 = .ok (.iload_n 3, 1) := by decide +kernel
theorem dX0_many_17 : decode cX0_many 17 = .ok (.if_icmp .ne 14, 3) := by decide +kernel
theorem dX0_many_20 : decode cX0_many 20 = .ok (.aload_n 1, 1) := by decide +kernel
theorem dX0_many_21 : decode cX0_many 21 = .ok (.iload_n 3, 1) := by decide +kernel
theorem dX0_many_22 : decode cX0_many 22 = .ok (.invokevirtual 51, 3) := by decide +kernel
theorem dX0_many_25 : decode cX0_many 25 = .ok (.ifCond .eq 6, 3) := by decide +kernel
theorem dX0_many_28 : decode cX0_many 28 = .ok (.iinc 2 1, 3) := by decide +kernel
theorem dX0_many_31 : decode cX0_many 31 = .ok (.iinc 3 1, 3) := by decide +kernel
theorem dX0_many_34 : decode cX0_many 34 = .ok (.goto (-30), 3) := by decide +kernel
theorem dX0_many_37 : decode cX0_many 37 = .ok (.iload_n 2, 1) := by decide +kernel
theorem dX0_many_38 : decode cX0_many 38 = .ok (.ireturn, 1) := by decide +kernel
theorem dX0_greatest_0 : decode cX0_greatest 0 = .ok (.iconst 0, 1) := by decide +kernel
theorem dX0_greatest_1 : decode cX0_greatest 1 = .ok (.istore_n 2, 1) := by decide +kernel
theorem dX0_greatest_2 : decode cX0_greatest 2 = .ok (.iconst 0, 1) := by decide +kernel
theorem dX0_greatest_3 : decode cX0_greatest 3 = .ok (.istore_n 3, 1) := by decide +kernel
theorem dX0_greatest_4 : decode cX0_greatest 4 = .ok (.iload_n 3, 1) := by decide +kernel
theorem dX0_greatest_5 : decode cX0_greatest 5 = .ok (.bipush 16, 2) := by decide +kernel
theorem dX0_greatest_7 : decode cX0_greatest 7 = .ok (.if_icmp .ge 20, 3) := by decide +kernel
theorem dX0_greatest_10 : decode cX0_greatest 10 = .ok (.iload_n 2, 1) := by decide +kernel
theorem dX0_greatest_11 : decode cX0_greatest 11 = .ok (.aload_n 0, 1) := by decide +kernel
theorem dX0_greatest_12 : decode cX0_greatest 12 = .ok (.iload_n 3, 1) := by decide +kernel
theorem dX0_greatest_13 : decode cX0_greatest 13 = .ok (.aload_n 1, 1) := by decide +kernel
theorem dX0_greatest_14 : decode cX0_greatest 14 = .ok (.invokevirtual 55, 3) := by decide +kernel
theorem dX0_greatest_17 : decode cX0_greatest 17 = .ok (.invokestatic 48, 3) := by decide +kernel
theorem dX0_greatest_20 : decode cX0_greatest 20 = .ok (.istore_n 2, 1) := by decide +kernel
theorem dX0_greatest_21 : decode cX0_greatest 21 = .ok (.iinc 3 1, 3) := by decide +kernel
theorem dX0_greatest_24 : decode cX0_greatest 24 = .ok (.goto (-20), 3) := by decide +kernel
theorem dX0_greatest_27 : decode cX0_greatest 27 = .ok (.iload_n 2, 1) := by decide +kernel
theorem dX0_greatest_28 : decode cX0_greatest 28 = .ok (.ireturn, 1) := by decide +kernel
theorem dX0_sizeOf_0 : decode cX0_sizeOf 0 = .ok (.iconst 0, 1) := by decide +kernel
theorem dX0_sizeOf_1 : decode cX0_sizeOf 1 = .ok (.istore_n 3, 1) := by decide +kernel
theorem dX0_sizeOf_2 : decode cX0_sizeOf 2 = .ok (.iconst 0, 1) := by decide +kernel
theorem dX0_sizeOf_3 : decode cX0_sizeOf 3 = .ok (.istore 4, 2) := by decide +kernel
theorem dX0_sizeOf_5 : decode cX0_sizeOf 5 = .ok (.iload 4, 2) := by decide +kernel
theorem dX0_sizeOf_7 : decode cX0_sizeOf 7 = .ok (.bipush 16, 2) := by decide +kernel
theorem dX0_sizeOf_9 : decode cX0_sizeOf 9 = .ok (.if_icmp .ge 32, 3) := by decide +kernel
theorem dX0_sizeOf_12 : decode cX0_sizeOf 12 = .ok (.aload_n 0, 1) := by decide +kernel
theorem dX0_sizeOf_13 : decode cX0_sizeOf 13 = .ok (.getfield 9, 3) := by decide +kernel
theorem dX0_sizeOf_16 : decode cX0_sizeOf 16 = .ok (.iload 4, 2) := by decide +kernel
theorem dX0_sizeOf_18 : decode cX0_sizeOf 18 = .ok (.iaload, 1) := by decide +kernel
theorem dX0_sizeOf_19 : decode cX0_sizeOf 19 = .ok (.iload_n 1, 1) := by decide +kernel
theorem dX0_sizeOf_20 : decode cX0_sizeOf 20 = .ok (.if_icmp .ne 15, 3) := by decide +kernel
theorem dX0_sizeOf_23 : decode cX0_sizeOf 23 = .ok (.aload_n 2, 1) := by decide +kernel
theorem dX0_sizeOf_24 : decode cX0_sizeOf 24 = .ok (.iload 4, 2) := by decide +kernel
theorem dX0_sizeOf_26 : decode cX0_sizeOf 26 = .ok (.invokevirtual 51, 3) := by decide +kernel
theorem dX0_sizeOf_29 : decode cX0_sizeOf 29 = .ok (.ifCond .eq 6, 3) := by decide +kernel
theorem dX0_sizeOf_32 : decode cX0_sizeOf 32 = .ok (.iinc 3 1, 3) := by decide +kernel
theorem dX0_sizeOf_35 : decode cX0_sizeOf 35 = .ok (.iinc 4 1, 3) := by decide +kernel
theorem dX0_sizeOf_38 : decode cX0_sizeOf 38 = .ok (.goto (-33), 3) := by decide +kernel
theorem dX0_sizeOf_41 : decode cX0_sizeOf 41 = .ok (.iload_n 3, 1) := by decide +kernel
theorem dX0_sizeOf_42 : decode cX0_sizeOf 42 = .ok (.ireturn, 1) := by decide +kernel
theorem dX1_init_0 : decode cX1_init 0 = .ok (.aload_n 0, 1) := by decide +kernel
theorem dX1_init_1 : decode cX1_init 1 = .ok (.invokespecial 3, 3) := by decide +kernel
theorem dX1_init_4 : decode cX1_init 4 = .ok (.aload_n 0, 1) := by decide +kernel
theorem dX1_init_5 : decode cX1_init 5 = .ok (.aload_n 1, 1) := by decide +kernel
theorem dX1_init_6 : decode cX1_init 6 = .ok (.putfield 9, 3) := by decide +kernel
theorem dX1_init_9 : decode cX1_init 9 = .ok (.aload_n 0, 1) := by decide +kernel
theorem dX1_init_10 : decode cX1_init 10 = .ok (.iconst (-1), 1) := by decide +kernel
theorem dX1_init_11 : decode cX1_init 11 = .ok (.putfield 15, 3) := by decide +kernel
theorem dX1_init_14 : decode cX1_init 14 = .ok (.return_, 1) := by decide +kernel
theorem dX1_readOnto_0 : decode cX1_readOnto 0 = .ok (.aload_n 0, 1) := by decide +kernel
theorem dX1_readOnto_1 : decode cX1_readOnto 1 = .ok (.iconst (-1), 1) := by decide +kernel
theorem dX1_readOnto_2 : decode cX1_readOnto 2 = .ok (.putfield 15, 3) := by decide +kernel
theorem dX1_readOnto_5 : decode cX1_readOnto 5 = .ok (.aload_n 0, 1) := by decide +kernel
theorem dX1_readOnto_6 : decode cX1_readOnto 6 = .ok (.iconst 0, 1) := by decide +kernel
theorem dX1_readOnto_7 : decode cX1_readOnto 7 = .ok (.putfield 19, 3) := by decide +kernel
theorem dX1_readOnto_10 : decode cX1_readOnto 10 = .ok (.aload_n 0, 1) := by decide +kernel
theorem dX1_readOnto_11 : decode cX1_readOnto 11 = .ok (.invokevirtual 22, 3) := by decide +kernel
theorem dX1_readOnto_14 : decode cX1_readOnto 14 = .ok (.iconst 1, 1) := by decide +kernel
theorem dX1_readOnto_15 : decode cX1_readOnto 15 = .ok (.istore_n 2, 1) := by decide +kernel
theorem dX1_readOnto_16 : decode cX1_readOnto 16 = .ok (.iload_n 2, 1) := by decide +kernel
theorem dX1_readOnto_17 : decode cX1_readOnto 17 = .ok (.sipush 400, 3) := by decide +kernel
theorem dX1_readOnto_20 : decode cX1_readOnto 20 = .ok (.if_icmp .gt 87, 3) := by decide +kernel
theorem dX1_readOnto_23 : decode cX1_readOnto 23 = .ok (.aload_n 0, 1) := by decide +kernel
theorem dX1_readOnto_24 : decode cX1_readOnto 24 = .ok (.ldc 25, 2) := by decide +kernel
theorem dX1_readOnto_26 : decode cX1_readOnto 26 = .ok (.invokevirtual 27, 3) := by decide +kernel
theorem dX1_readOnto_29 : decode cX1_readOnto 29 = .ok (.ifCond .eq 12, 3) := by decide +kernel
theorem dX1_readOnto_32 : decode cX1_readOnto 32 = .ok (.aload_n 0, 1) := by decide +kernel
theorem dX1_readOnto_33 : decode cX1_readOnto 33 = .ok (.aload_n 1, 1) := by decide +kernel
theorem dX1_readOnto_34 : decode cX1_readOnto 34 = .ok (.invokevirtual 31, 3) := by decide +kernel
theorem dX1_readOnto_37 : decode cX1_readOnto 37 = .ok (.istore_n 3, 1) := by decide +kernel
theorem dX1_readOnto_38 : decode cX1_readOnto 38 = .ok (.goto 27, 3) := by decide +kernel
theorem dX1_readOnto_41 : decode cX1_readOnto 41 = .ok (.aload_n 0, 1) := by decide +kernel
theorem dX1_readOnto_42 : decode cX1_readOnto 42 = .ok (.ldc 35, 2) := by decide +kernel
theorem dX1_readOnto_44 : decode cX1_readOnto 44 = .ok (.invokevirtual 27, 3) := by decide +kernel
theorem dX1_readOnto_47 : decode cX1_readOnto 47 = .ok (.ifCond .eq 12, 3) := by decide +kernel
theorem dX1_readOnto_50 : decode cX1_readOnto 50 = .ok (.aload_n 0, 1) := by decide +kernel
theorem dX1_readOnto_51 : decode cX1_readOnto 51 = .ok (.aload_n 1, 1) := by decide +kernel
theorem dX1_readOnto_52 : decode cX1_readOnto 52 = .ok (.invokevirtual 37, 3) := by decide +kernel
theorem dX1_readOnto_55 : decode cX1_readOnto 55 = .ok (.istore_n 3, 1) := by decide +kernel
theorem dX1_readOnto_56 : decode cX1_readOnto 56 = .ok (.goto 9, 3) := by decide +kernel
theorem dX1_readOnto_59 : decode cX1_readOnto 59 = .ok (.aload_n 0, 1) := by decide +kernel
theorem dX1_readOnto_60 : decode cX1_readOnto 60 = .ok (.aload_n 1, 1) := by decide +kernel
theorem dX1_readOnto_61 : decode cX1_readOnto 61 = .ok (.invokevirtual 40, 3) := by decide +kernel
theorem dX1_readOnto_64 : decode cX1_readOnto 64 = .ok (.istore_n 3, 1) := by decide +kernel
theorem dX1_readOnto_65 : decode cX1_readOnto 65 = .ok (.iload_n 3, 1) := by decide +kernel
theorem dX1_readOnto_66 : decode cX1_readOnto 66 = .ok (.ifCond .eq 19, 3) := by decide +kernel
theorem dX1_readOnto_69 : decode cX1_readOnto 69 = .ok (.aload_n 0, 1) := by decide +kernel
theorem dX1_readOnto_70 : decode cX1_readOnto 70 = .ok (.getfield 43, 3) := by decide +kernel
theorem dX1_readOnto_73 : decode cX1_readOnto 73 = .ok (.aload_n 0, 1) := by decide +kernel
theorem dX1_readOnto_74 : decode cX1_readOnto 74 = .ok (.getfield 9, 3) := by decide +kernel
theorem dX1_readOnto_77 : decode cX1_readOnto 77 = .ok (.getfield 46, 3) := by decide +kernel
theorem dX1_readOnto_80 : decode cX1_readOnto 80 = .ok (.if_icmp .lt 5, 3) := by decide +kernel
theorem dX1_readOnto_83 : decode cX1_readOnto 83 = .ok (.iload_n 2, 1) := by decide +kernel
theorem dX1_readOnto_84 : decode cX1_readOnto 84 = .ok (.ireturn, 1) := by decide +kernel
theorem dX1_readOnto_85 : decode cX1_readOnto 85 = .ok (.iload_n 3, 1) := by decide +kernel
theorem dX1_readOnto_86 : decode cX1_readOnto 86 = .ok (.ifCond .eq 21, 3) := by decide +kernel
theorem dX1_readOnto_89 : decode cX1_readOnto 89 = .ok (.aload_n 0, 1) := by decide +kernel
theorem dX1_readOnto_90 : decode cX1_readOnto 90 = .ok (.ldc 51, 2) := by decide +kernel
theorem dX1_readOnto_92 : decode cX1_readOnto 92 = .ok (.invokevirtual 27, 3) := by decide +kernel
theorem dX1_readOnto_95 : decode cX1_readOnto 95 = .ok (.ifCond .ne 6, 3) := by decide +kernel
theorem dX1_readOnto_98 : decode cX1_readOnto 98 = .ok (.goto 9, 3) := by decide +kernel
theorem dX1_readOnto_101 : decode cX1_readOnto 101 = .ok (.iinc 2 1, 3) := by decide +kernel
theorem dX1_readOnto_104 : decode cX1_readOnto 104 = .ok (.goto (-88), 3) := by decide +kernel
theorem dX1_readOnto_107 : decode cX1_readOnto 107 = .ok (.aload_n 0, 1) := by decide +kernel
theorem dX1_readOnto_108 : decode cX1_readOnto 108 = .ok (.getfield 15, 3) := by decide +kernel
theorem dX1_readOnto_111 : decode cX1_readOnto 111 = .ok (.iconst (-1), 1) := by decide +kernel
theorem dX1_readOnto_112 : decode cX1_readOnto 112 = .ok (.if_icmp .ne 11, 3) := by decide +kernel
theorem dX1_readOnto_115 : decode cX1_readOnto 115 = .ok (.aload_n 0, 1) := by decide +kernel
theorem dX1_readOnto_116 : decode cX1_readOnto 116 = .ok (.aload_n 0, 1) := by decide +kernel
theorem dX1_readOnto_117 : decode cX1_readOnto 117 = .ok (.getfield 43, 3) := by decide +kernel
theorem dX1_readOnto_120 : decode cX1_readOnto 120 = .ok (.putfield 15, 3) := by decide +kernel
theorem dX1_readOnto_123 : decode cX1_readOnto 123 = .ok (.iconst (-1), 1) := by decide +kernel
theorem dX1_readOnto_124 : decode cX1_readOnto 124 = .ok (.ireturn, 1) := by decide +kernel
theorem dX1_readWeeks_0 : decode cX1_readWeeks 0 = .ok (.aload_n 0, 1) := by decide +kernel
theorem dX1_readWeeks_1 : decode cX1_readWeeks 1 = .ok (.iconst 0, 1) := by decide +kernel
theorem dX1_readWeeks_2 : decode cX1_readWeeks 2 = .ok (.bipush 31, 2) := by decide +kernel
theorem dX1_readWeeks_4 : decode cX1_readWeeks 4 = .ok (.invokevirtual 53, 3) := by decide +kernel
theorem dX1_readWeeks_7 : decode cX1_readWeeks 7 = .ok (.istore_n 2, 1) := by decide +kernel
theorem dX1_readWeeks_8 : decode cX1_readWeeks 8 = .ok (.iload_n 2, 1) := by decide +kernel
theorem dX1_readWeeks_9 : decode cX1_readWeeks 9 = .ok (.iconst (-1), 1) := by decide +kernel
theorem dX1_readWeeks_10 : decode cX1_readWeeks 10 = .ok (.if_icmp .ne 5, 3) := by decide +kernel
theorem dX1_readWeeks_13 : decode cX1_readWeeks 13 = .ok (.iconst 0, 1) := by decide +kernel
theorem dX1_readWeeks_14 : decode cX1_readWeeks 14 = .ok (.ireturn, 1) := by decide +kernel
theorem dX1_readWeeks_15 : decode cX1_readWeeks 15 = .ok (.aload_n 0, 1) := by decide +kernel
theorem dX1_readWeeks_16 : decode cX1_readWeeks 16 = .ok (.ldc 57, 2) := by decide +kernel
theorem dX1_readWeeks_18 : decode cX1_readWeeks 18 = .ok (.invokevirtual 27, 3) := by decide +kernel
theorem dX1_readWeeks_21 : decode cX1_readWeeks 21 = .ok (.ifCond .eq 13, 3) := by decide +kernel
theorem dX1_readWeeks_24 : decode cX1_readWeeks 24 = .ok (.aload_n 0, 1) := by decide +kernel
theorem dX1_readWeeks_25 : decode cX1_readWeeks 25 = .ok (.iload_n 2, 1) := by decide +kernel
theorem dX1_readWeeks_26 : decode cX1_readWeeks 26 = .ok (.bipush 31, 2) := by decide +kernel
theorem dX1_readWeeks_28 : decode cX1_readWeeks 28 = .ok (.invokevirtual 53, 3) := by decide +kernel
theorem dX1_readWeeks_31 : decode cX1_readWeeks 31 = .ok (.goto 4, 3) := by decide +kernel
theorem dX1_readWeeks_34 : decode cX1_readWeeks 34 = .ok (.iload_n 2, 1) := by decide +kernel
theorem dX1_readWeeks_35 : decode cX1_readWeeks 35 = .ok (.istore_n 3, 1) := by decide +kernel
theorem dX1_readWeeks_36 : decode cX1_readWeeks 36 = .ok (.iload_n 3, 1) := by decide +kernel
theorem dX1_readWeeks_37 : decode cX1_readWeeks 37 = .ok (.iconst (-1), 1) := by decide +kernel
theorem dX1_readWeeks_38 : decode cX1_readWeeks 38 = .ok (.if_icmp .eq 12, 3) := by decide +kernel
theorem dX1_readWeeks_41 : decode cX1_readWeeks 41 = .ok (.aload_n 0, 1) := by decide +kernel
theorem dX1_readWeeks_42 : decode cX1_readWeeks 42 = .ok (.ldc 59, 2) := by decide +kernel
theorem dX1_readWeeks_44 : decode cX1_readWeeks 44 = .ok (.invokevirtual 27, 3) := by decide +kernel
theorem dX1_readWeeks_47 : decode cX1_readWeeks 47 = .ok (.ifCond .ne 5, 3) := by decide +kernel
theorem dX1_readWeeks_50 : decode cX1_readWeeks 50 = .ok (.iconst 0, 1) := by decide +kernel
theorem dX1_readWeeks_51 : decode cX1_readWeeks 51 = .ok (.ireturn, 1) := by decide +kernel
theorem dX1_readWeeks_52 : decode cX1_readWeeks 52 = .ok (.aload_n 0, 1) := by decide +kernel
theorem dX1_readWeeks_53 : decode cX1_readWeeks 53 = .ok (.ldc 61, 2) := by decide +kernel
theorem dX1_readWeeks_55 : decode cX1_readWeeks 55 = .ok (.invokevirtual 27, 3) := by decide +kernel
theorem dX1_readWeeks_58 : decode cX1_readWeeks 58 = .ok (.istore 4, 2) := by decide +kernel
theorem dX1_readWeeks_60 : decode cX1_readWeeks 60 = .ok (.iload 4, 2) := by decide +kernel
theorem dX1_readWeeks_62 : decode cX1_readWeeks 62 = .ok (.ifCond .eq 7, 3) := by decide +kernel
theorem dX1_readWeeks_65 : decode cX1_readWeeks 65 = .ok (.iconst (-1), 1) := by decide +kernel
theorem dX1_readWeeks_66 : decode cX1_readWeeks 66 = .ok (.goto 9, 3) := by decide +kernel
theorem dX1_readWeeks_69 : decode cX1_readWeeks 69 = .ok (.aload_n 0, 1) := by decide +kernel
theorem dX1_readWeeks_70 : decode cX1_readWeeks 70 = .ok (.iconst 0, 1) := by decide +kernel
theorem dX1_readWeeks_71 : decode cX1_readWeeks 71 = .ok (.iconst 3, 1) := by decide +kernel
theorem dX1_readWeeks_72 : decode cX1_readWeeks 72 = .ok (.invokevirtual 53, 3) := by decide +kernel
theorem dX1_readWeeks_75 : decode cX1_readWeeks 75 = .ok (.istore 5, 2) := by decide +kernel
theorem dX1_readWeeks_77 : decode cX1_readWeeks 77 = .ok (.iload 5, 2) := by decide +kernel
theorem dX1_readWeeks_79 : decode cX1_readWeeks 79 = .ok (.iconst (-1), 1) := by decide +kernel
theorem dX1_readWeeks_80 : decode cX1_readWeeks 80 = .ok (.if_icmp .ne 10, 3) := by decide +kernel
theorem dX1_readWeeks_83 : decode cX1_readWeeks 83 = .ok (.iload 4, 2) := by decide +kernel
theorem dX1_readWeeks_85 : decode cX1_readWeeks 85 = .ok (.ifCond .ne 5, 3) := by decide +kernel
theorem dX1_readWeeks_88 : decode cX1_readWeeks 88 = .ok (.iconst 0, 1) := by decide +kernel
theorem dX1_readWeeks_89 : decode cX1_readWeeks 89 = .ok (.ireturn, 1) := by decide +kernel
theorem dX1_readWeeks_90 : decode cX1_readWeeks 90 = .ok (.iload_n 2, 1) := by decide +kernel
theorem dX1_readWeeks_91 : decode cX1_readWeeks 91 = .ok (.istore 6, 2) := by decide +kernel
theorem dX1_readWeeks_93 : decode cX1_readWeeks 93 = .ok (.iload 6, 2) := by decide +kernel
theorem dX1_readWeeks_95 : decode cX1_readWeeks 95 = .ok (.iload_n 3, 1) := by decide +kernel
theorem dX1_readWeeks_96 : decode cX1_readWeeks 96 = .ok (.if_icmp .gt 18, 3) := by decide +kernel
theorem dX1_readWeeks_99 : decode cX1_readWeeks 99 = .ok (.aload_n 1, 1) := by decide +kernel
theorem dX1_readWeeks_100 : decode cX1_readWeeks 100 = .ok (.getfield 63, 3) := by decide +kernel
theorem dX1_readWeeks_103 : decode cX1_readWeeks 103 = .ok (.iload 6, 2) := by decide +kernel
theorem dX1_readWeeks_105 : decode cX1_readWeeks 105 = .ok (.iload 5, 2) := by decide +kernel
theorem dX1_readWeeks_107 : decode cX1_readWeeks 107 = .ok (.iastore, 1) := by decide +kernel
theorem dX1_readWeeks_108 : decode cX1_readWeeks 108 = .ok (.iinc 6 1, 3) := by decide +kernel
theorem dX1_readWeeks_111 : decode cX1_readWeeks 111 = .ok (.goto (-18), 3) := by decide +kernel
theorem dX1_readWeeks_114 : decode cX1_readWeeks 114 = .ok (.iconst 1, 1) := by decide +kernel
theorem dX1_readWeeks_115 : decode cX1_readWeeks 115 = .ok (.ireturn, 1) := by decide +kernel
theorem dX1_readShorter_0 : decode cX1_readShorter 0 = .ok (.aload_n 0, 1) := by decide +kernel
theorem dX1_readShorter_1 : decode cX1_readShorter 1 = .ok (.getfield 43, 3) := by decide +kernel
theorem dX1_readShorter_4 : decode cX1_readShorter 4 = .ok (.istore_n 2, 1) := by decide +kernel
theorem dX1_readShorter_5 : decode cX1_readShorter 5 = .ok (.aload_n 0, 1) := by decide +kernel
theorem dX1_readShorter_6 : decode cX1_readShorter 6 = .ok (.ldc 69, 2) := by decide +kernel
theorem dX1_readShorter_8 : decode cX1_readShorter 8 = .ok (.invokevirtual 27, 3) := by decide +kernel
theorem dX1_readShorter_11 : decode cX1_readShorter 11 = .ok (.ifCond .eq 12, 3) := by decide +kernel
theorem dX1_readShorter_14 : decode cX1_readShorter 14 = .ok (.aload_n 0, 1) := by decide +kernel
theorem dX1_readShorter_15 : decode cX1_readShorter 15 = .ok (.iconst 0, 1) := by decide +kernel
theorem dX1_readShorter_16 : decode cX1_readShorter 16 = .ok (.iconst 3, 1) := by decide +kernel
theorem dX1_readShorter_17 : decode cX1_readShorter 17 = .ok (.invokevirtual 53, 3) := by decide +kernel
theorem dX1_readShorter_20 : decode cX1_readShorter 20 = .ok (.goto 4, 3) := by decide +kernel
theorem dX1_readShorter_23 : decode cX1_readShorter 23 = .ok (.iconst (-1), 1) := by decide +kernel
theorem dX1_readShorter_24 : decode cX1_readShorter 24 = .ok (.istore_n 3, 1) := by decide +kernel
theorem dX1_readShorter_25 : decode cX1_readShorter 25 = .ok (.iload_n 3, 1) := by decide +kernel
theorem dX1_readShorter_26 : decode cX1_readShorter 26 = .ok (.iconst (-1), 1) := by decide +kernel
theorem dX1_readShorter_27 : decode cX1_readShorter 27 = .ok (.if_icmp .eq 20, 3) := by decide +kernel
theorem dX1_readShorter_30 : decode cX1_readShorter 30 = .ok (.aload_n 0, 1) := by decide +kernel
theorem dX1_readShorter_31 : decode cX1_readShorter 31 = .ok (.ldc 70, 2) := by decide +kernel
theorem dX1_readShorter_33 : decode cX1_readShorter 33 = .ok (.invokevirtual 27, 3) := by decide +kernel
theorem dX1_readShorter_36 : decode cX1_readShorter 36 = .ok (.ifCond .eq 11, 3) := by decide +kernel
theorem dX1_readShorter_39 : decode cX1_readShorter 39 = .ok (.aload_n 0, 1) := by decide +kernel
theorem dX1_readShorter_40 : decode cX1_readShorter 40 = .ok (.invokevirtual 72, 3) := by decide +kernel
theorem dX1_readShorter_43 : decode cX1_readShorter 43 = .ok (.iload_n 3, 1) := by decide +kernel
theorem dX1_readShorter_44 : decode cX1_readShorter 44 = .ok (.if_icmp .ne 5, 3) := by decide +kernel
theorem dX1_readShorter_47 : decode cX1_readShorter 47 = .ok (.iconst 0, 1) := by decide +kernel
theorem dX1_readShorter_48 : decode cX1_readShorter 48 = .ok (.ireturn, 1) := by decide +kernel
theorem dX1_readShorter_49 : decode cX1_readShorter 49 = .ok (.aload_n 0, 1) := by decide +kernel
theorem dX1_readShorter_50 : decode cX1_readShorter 50 = .ok (.iconst 0, 1) := by decide +kernel
theorem dX1_readShorter_51 : decode cX1_readShorter 51 = .ok (.iconst 3, 1) := by decide +kernel
theorem dX1_readShorter_52 : decode cX1_readShorter 52 = .ok (.invokevirtual 53, 3) := by decide +kernel
theorem dX1_readShorter_55 : decode cX1_readShorter 55 = .ok (.istore 4, 2) := by decide +kernel
theorem dX1_readShorter_57 : decode cX1_readShorter 57 = .ok (.iload 4, 2) := by decide +kernel
theorem dX1_readShorter_59 : decode cX1_readShorter 59 = .ok (.iconst (-1), 1) := by decide +kernel
theorem dX1_readShorter_60 : decode cX1_readShorter 60 = .ok (.if_icmp .ne 5, 3) := by decide +kernel
theorem dX1_readShorter_63 : decode cX1_readShorter 63 = .ok (.iconst 0, 1) := by decide +kernel
theorem dX1_readShorter_64 : decode cX1_readShorter 64 = .ok (.ireturn, 1) := by decide +kernel
theorem dX1_readShorter_65 : decode cX1_readShorter 65 = .ok (.aload_n 1, 1) := by decide +kernel
theorem dX1_readShorter_66 : decode cX1_readShorter 66 = .ok (.iload_n 3, 1) := by decide +kernel
theorem dX1_readShorter_67 : decode cX1_readShorter 67 = .ok (.iload 4, 2) := by decide +kernel
theorem dX1_readShorter_69 : decode cX1_readShorter 69 = .ok (.invokevirtual 76, 3) := by decide +kernel
theorem dX1_readShorter_72 : decode cX1_readShorter 72 = .ok (.ifCond .eq 5, 3) := by decide +kernel
theorem dX1_readShorter_75 : decode cX1_readShorter 75 = .ok (.iconst 1, 1) := by decide +kernel
theorem dX1_readShorter_76 : decode cX1_readShorter 76 = .ok (.ireturn, 1) := by decide +kernel
theorem dX1_readShorter_77 : decode cX1_readShorter 77 = .ok (.aload_n 1, 1) := by decide +kernel
theorem dX1_readShorter_78 : decode cX1_readShorter 78 = .ok (.invokevirtual 80, 3) := by decide +kernel
theorem dX1_readShorter_81 : decode cX1_readShorter 81 = .ok (.ifCond .ne 10, 3) := by decide +kernel
theorem dX1_readShorter_84 : decode cX1_readShorter 84 = .ok (.aload_n 0, 1) := by decide +kernel
theorem dX1_readShorter_85 : decode cX1_readShorter 85 = .ok (.iload_n 2, 1) := by decide +kernel
theorem dX1_readShorter_86 : decode cX1_readShorter 86 = .ok (.putfield 15, 3) := by decide +kernel
theorem dX1_readShorter_89 : decode cX1_readShorter 89 = .ok (.iconst 0, 1) := by decide +kernel
theorem dX1_readShorter_90 : decode cX1_readShorter 90 = .ok (.ireturn, 1) := by decide +kernel
theorem dX1_readShorter_91 : decode cX1_readShorter 91 = .ok (.aload_n 1, 1) := by decide +kernel
theorem dX1_readShorter_92 : decode cX1_readShorter 92 = .ok (.iload_n 3, 1) := by decide +kernel
theorem dX1_readShorter_93 : decode cX1_readShorter 93 = .ok (.iload 4, 2) := by decide +kernel
theorem dX1_readShorter_95 : decode cX1_readShorter 95 = .ok (.invokevirtual 84, 3) := by decide +kernel
theorem dX1_readShorter_98 : decode cX1_readShorter 98 = .ok (.iconst 1, 1) := by decide +kernel
theorem dX1_readShorter_99 : decode cX1_readShorter 99 = .ok (.ireturn, 1) := by decide +kernel
theorem dX1_readThing_0 : decode cX1_readThing 0 = .ok (.aload_n 0, 1) := by decide +kernel
theorem dX1_readThing_1 : decode cX1_readThing 1 = .ok (.iconst 0, 1) := by decide +kernel
theorem dX1_readThing_2 : decode cX1_readThing 2 = .ok (.iconst 5, 1) := by decide +kernel
theorem dX1_readThing_3 : decode cX1_readThing 3 = .ok (.invokevirtual 53, 3) := by decide +kernel
theorem dX1_readThing_6 : decode cX1_readThing 6 = .ok (.istore_n 2, 1) := by decide +kernel
theorem dX1_readThing_7 : decode cX1_readThing 7 = .ok (.iload_n 2, 1) := by decide +kernel
theorem dX1_readThing_8 : decode cX1_readThing 8 = .ok (.iconst (-1), 1) := by decide +kernel
theorem dX1_readThing_9 : decode cX1_readThing 9 = .ok (.if_icmp .ne 5, 3) := by decide +kernel
theorem dX1_readThing_12 : decode cX1_readThing 12 = .ok (.iconst 0, 1) := by decide +kernel
theorem dX1_readThing_13 : decode cX1_readThing 13 = .ok (.ireturn, 1) := by decide +kernel
theorem dX1_readThing_14 : decode cX1_readThing 14 = .ok (.aload_n 0, 1) := by decide +kernel
theorem dX1_readThing_15 : decode cX1_readThing 15 = .ok (.ldc 88, 2) := by decide +kernel
theorem dX1_readThing_17 : decode cX1_readThing 17 = .ok (.invokevirtual 27, 3) := by decide +kernel
theorem dX1_readThing_20 : decode cX1_readThing 20 = .ok (.ifCond .eq 10, 3) := by decide +kernel
theorem dX1_readThing_23 : decode cX1_readThing 23 = .ok (.aload_n 0, 1) := by decide +kernel
theorem dX1_readThing_24 : decode cX1_readThing 24 = .ok (.aload_n 1, 1) := by decide +kernel
theorem dX1_readThing_25 : decode cX1_readThing 25 = .ok (.iload_n 2, 1) := by decide +kernel
theorem dX1_readThing_26 : decode cX1_readThing 26 = .ok (.invokevirtual 90, 3) := by decide +kernel
theorem dX1_readThing_29 : decode cX1_readThing 29 = .ok (.ireturn, 1) := by decide +kernel
theorem dX1_readThing_30 : decode cX1_readThing 30 = .ok (.iconst 0, 1) := by decide +kernel
theorem dX1_readThing_31 : decode cX1_readThing 31 = .ok (.istore_n 3, 1) := by decide +kernel
theorem dX1_readThing_32 : decode cX1_readThing 32 = .ok (.iload_n 3, 1) := by decide +kernel
theorem dX1_readThing_33 : decode cX1_readThing 33 = .ok (.bipush 24, 2) := by decide +kernel
theorem dX1_readThing_35 : decode cX1_readThing 35 = .ok (.if_icmp .gt 31, 3) := by decide +kernel
theorem dX1_readThing_38 : decode cX1_readThing 38 = .ok (.aload_n 0, 1) := by decide +kernel
theorem dX1_readThing_39 : decode cX1_readThing 39 = .ok (.aload_n 1, 1) := by decide +kernel
theorem dX1_readThing_40 : decode cX1_readThing 40 = .ok (.iload_n 2, 1) := by decide +kernel
theorem dX1_readThing_41 : decode cX1_readThing 41 = .ok (.invokevirtual 94, 3) := by decide +kernel
theorem dX1_readThing_44 : decode cX1_readThing 44 = .ok (.ifCond .ne 5, 3) := by decide +kernel
theorem dX1_readThing_47 : decode cX1_readThing 47 = .ok (.iconst 0, 1) := by decide +kernel
theorem dX1_readThing_48 : decode cX1_readThing 48 = .ok (.ireturn, 1) := by decide +kernel
theorem dX1_readThing_49 : decode cX1_readThing 49 = .ok (.aload_n 0, 1) := by decide +kernel
theorem dX1_readThing_50 : decode cX1_readThing 50 = .ok (.ldc 97, 2) := by decide +kernel
theorem dX1_readThing_52 : decode cX1_readThing 52 = .ok (.invokevirtual 27, 3) := by decide +kernel
theorem dX1_readThing_55 : decode cX1_readThing 55 = .ok (.ifCond .ne 5, 3) := by decide +kernel
theorem dX1_readThing_58 : decode cX1_readThing 58 = .ok (.iconst 1, 1) := by decide +kernel
theorem dX1_readThing_59 : decode cX1_readThing 59 = .ok (.ireturn, 1) := by decide +kernel
theorem dX1_readThing_60 : decode cX1_readThing 60 = .ok (.iinc 3 1, 3) := by decide +kernel
theorem dX1_readThing_63 : decode cX1_readThing 63 = .ok (.goto (-31), 3) := by decide +kernel
theorem dX1_readThing_66 : decode cX1_readThing 66 = .ok (.iconst 0, 1) := by decide +kernel
theorem dX1_readThing_67 : decode cX1_readThing 67 = .ok (.ireturn, 1) := by decide +kernel
theorem dX1_readCut_0 : decode cX1_readCut 0 = .ok (.aload_n 0, 1) := by decide +kernel
theorem dX1_readCut_1 : decode cX1_readCut 1 = .ok (.ldc 99, 2) := by decide +kernel
theorem dX1_readCut_3 : decode cX1_readCut 3 = .ok (.invokevirtual 27, 3) := by decide +kernel
theorem dX1_readCut_6 : decode cX1_readCut 6 = .ok (.ifCond .eq 12, 3) := by decide +kernel
theorem dX1_readCut_9 : decode cX1_readCut 9 = .ok (.aload_n 1, 1) := by decide +kernel
theorem dX1_readCut_10 : decode cX1_readCut 10 = .ok (.getfield 101, 3) := by decide +kernel
theorem dX1_readCut_13 : decode cX1_readCut 13 = .ok (.iload_n 2, 1) := by decide +kernel
theorem dX1_readCut_14 : decode cX1_readCut 14 = .ok (.iconst (-1), 1) := by decide +kernel
theorem dX1_readCut_15 : decode cX1_readCut 15 = .ok (.iastore, 1) := by decide +kernel
theorem dX1_readCut_16 : decode cX1_readCut 16 = .ok (.iconst 1, 1) := by decide +kernel
theorem dX1_readCut_17 : decode cX1_readCut 17 = .ok (.ireturn, 1) := by decide +kernel
theorem dX1_readCut_18 : decode cX1_readCut 18 = .ok (.aload_n 0, 1) := by decide +kernel
theorem dX1_readCut_19 : decode cX1_readCut 19 = .ok (.ldc 104, 2) := by decide +kernel
theorem dX1_readCut_21 : decode cX1_readCut 21 = .ok (.invokevirtual 27, 3) := by decide +kernel
theorem dX1_readCut_24 : decode cX1_readCut 24 = .ok (.ifCond .eq 13, 3) := by decide +kernel
theorem dX1_readCut_27 : decode cX1_readCut 27 = .ok (.aload_n 0, 1) := by decide +kernel
theorem dX1_readCut_28 : decode cX1_readCut 28 = .ok (.iconst 1, 1) := by decide +kernel
theorem dX1_readCut_29 : decode cX1_readCut 29 = .ok (.bipush 31, 2) := by decide +kernel
theorem dX1_readCut_31 : decode cX1_readCut 31 = .ok (.invokevirtual 53, 3) := by decide +kernel
theorem dX1_readCut_34 : decode cX1_readCut 34 = .ok (.goto 4, 3) := by decide +kernel
theorem dX1_readCut_37 : decode cX1_readCut 37 = .ok (.iconst (-1), 1) := by decide +kernel
theorem dX1_readCut_38 : decode cX1_readCut 38 = .ok (.istore_n 3, 1) := by decide +kernel
theorem dX1_readCut_39 : decode cX1_readCut 39 = .ok (.iload_n 3, 1) := by decide +kernel
theorem dX1_readCut_40 : decode cX1_readCut 40 = .ok (.iconst (-1), 1) := by decide +kernel
theorem dX1_readCut_41 : decode cX1_readCut 41 = .ok (.if_icmp .ne 5, 3) := by decide +kernel
theorem dX1_readCut_44 : decode cX1_readCut 44 = .ok (.iconst 0, 1) := by decide +kernel
theorem dX1_readCut_45 : decode cX1_readCut 45 = .ok (.ireturn, 1) := by decide +kernel
theorem dX1_readCut_46 : decode cX1_readCut 46 = .ok (.aload_n 1, 1) := by decide +kernel
theorem dX1_readCut_47 : decode cX1_readCut 47 = .ok (.getfield 101, 3) := by decide +kernel
theorem dX1_readCut_50 : decode cX1_readCut 50 = .ok (.iload_n 2, 1) := by decide +kernel
theorem dX1_readCut_51 : decode cX1_readCut 51 = .ok (.iload_n 3, 1) := by decide +kernel
theorem dX1_readCut_52 : decode cX1_readCut 52 = .ok (.iastore, 1) := by decide +kernel
theorem dX1_readCut_53 : decode cX1_readCut 53 = .ok (.iconst 1, 1) := by decide +kernel
theorem dX1_readCut_54 : decode cX1_readCut 54 = .ok (.ireturn, 1) := by decide +kernel
theorem dX1_readMeasure_0 : decode cX1_readMeasure 0 = .ok (.aload_n 1, 1) := by decide +kernel
theorem dX1_readMeasure_1 : decode cX1_readMeasure 1 = .ok (.invokevirtual 106, 3) := by decide +kernel
theorem dX1_readMeasure_4 : decode cX1_readMeasure 4 = .ok (.ifCond .eq 12, 3) := by decide +kernel
theorem dX1_readMeasure_7 : decode cX1_readMeasure 7 = .ok (.aload_n 0, 1) := by decide +kernel
theorem dX1_readMeasure_8 : decode cX1_readMeasure 8 = .ok (.ldc 104, 2) := by decide +kernel
theorem dX1_readMeasure_10 : decode cX1_readMeasure 10 = .ok (.invokevirtual 27, 3) := by decide +kernel
theorem dX1_readMeasure_13 : decode cX1_readMeasure 13 = .ok (.ifCond .ne 5, 3) := by decide +kernel
theorem dX1_readMeasure_16 : decode cX1_readMeasure 16 = .ok (.iconst 0, 1) := by decide +kernel
theorem dX1_readMeasure_17 : decode cX1_readMeasure 17 = .ok (.ireturn, 1) := by decide +kernel
theorem dX1_readMeasure_18 : decode cX1_readMeasure 18 = .ok (.aload_n 0, 1) := by decide +kernel
theorem dX1_readMeasure_19 : decode cX1_readMeasure 19 = .ok (.iconst 0, 1) := by decide +kernel
theorem dX1_readMeasure_20 : decode cX1_readMeasure 20 = .ok (.bipush 31, 2) := by decide +kernel
theorem dX1_readMeasure_22 : decode cX1_readMeasure 22 = .ok (.invokevirtual 53, 3) := by decide +kernel
theorem dX1_readMeasure_25 : decode cX1_readMeasure 25 = .ok (.istore_n 3, 1) := by decide +kernel
theorem dX1_readMeasure_26 : decode cX1_readMeasure 26 = .ok (.iload_n 3, 1) := by decide +kernel
theorem dX1_readMeasure_27 : decode cX1_readMeasure 27 = .ok (.iconst (-1), 1) := by decide +kernel
theorem dX1_readMeasure_28 : decode cX1_readMeasure 28 = .ok (.if_icmp .eq 12, 3) := by decide +kernel
theorem dX1_readMeasure_31 : decode cX1_readMeasure 31 = .ok (.aload_n 0, 1) := by decide +kernel
theorem dX1_readMeasure_32 : decode cX1_readMeasure 32 = .ok (.ldc 109, 2) := by decide +kernel
theorem dX1_readMeasure_34 : decode cX1_readMeasure 34 = .ok (.invokevirtual 27, 3) := by decide +kernel
theorem dX1_readMeasure_37 : decode cX1_readMeasure 37 = .ok (.ifCond .ne 5, 3) := by decide +kernel
theorem dX1_readMeasure_40 : decode cX1_readMeasure 40 = .ok (.iconst 0, 1) := by decide +kernel
theorem dX1_readMeasure_41 : decode cX1_readMeasure 41 = .ok (.ireturn, 1) := by decide +kernel
theorem dX1_readMeasure_42 : decode cX1_readMeasure 42 = .ok (.aload_n 0, 1) := by decide +kernel
theorem dX1_readMeasure_43 : decode cX1_readMeasure 43 = .ok (.iconst 1, 1) := by decide +kernel
theorem dX1_readMeasure_44 : decode cX1_readMeasure 44 = .ok (.bipush 99, 2) := by decide +kernel
theorem dX1_readMeasure_46 : decode cX1_readMeasure 46 = .ok (.invokevirtual 53, 3) := by decide +kernel
theorem dX1_readMeasure_49 : decode cX1_readMeasure 49 = .ok (.istore 4, 2) := by decide +kernel
theorem dX1_readMeasure_51 : decode cX1_readMeasure 51 = .ok (.iload 4, 2) := by decide +kernel
theorem dX1_readMeasure_53 : decode cX1_readMeasure 53 = .ok (.iconst (-1), 1) := by decide +kernel
theorem dX1_readMeasure_54 : decode cX1_readMeasure 54 = .ok (.if_icmp .ne 5, 3) := by decide +kernel
theorem dX1_readMeasure_57 : decode cX1_readMeasure 57 = .ok (.iconst 0, 1) := by decide +kernel
theorem dX1_readMeasure_58 : decode cX1_readMeasure 58 = .ok (.ireturn, 1) := by decide +kernel
theorem dX1_readMeasure_59 : decode cX1_readMeasure 59 = .ok (.iconst 0, 1) := by decide +kernel
theorem dX1_readMeasure_60 : decode cX1_readMeasure 60 = .ok (.istore 5, 2) := by decide +kernel
theorem dX1_readMeasure_62 : decode cX1_readMeasure 62 = .ok (.aload_n 0, 1) := by decide +kernel
theorem dX1_readMeasure_63 : decode cX1_readMeasure 63 = .ok (.ldc 111, 2) := by decide +kernel
theorem dX1_readMeasure_65 : decode cX1_readMeasure 65 = .ok (.invokevirtual 27, 3) := by decide +kernel
theorem dX1_readMeasure_68 : decode cX1_readMeasure 68 = .ok (.ifCond .eq 9, 3) := by decide +kernel
theorem dX1_readMeasure_71 : decode cX1_readMeasure 71 = .ok (.iconst 1, 1) := by decide +kernel
theorem dX1_readMeasure_72 : decode cX1_readMeasure 72 = .ok (.istore 5, 2) := by decide +kernel
theorem dX1_readMeasure_74 : decode cX1_readMeasure 74 = .ok (.goto 25, 3) := by decide +kernel
theorem dX1_readMeasure_77 : decode cX1_readMeasure 77 = .ok (.aload_n 0, 1) := by decide +kernel
theorem dX1_readMeasure_78 : decode cX1_readMeasure 78 = .ok (.ldc 113, 2) := by decide +kernel
theorem dX1_readMeasure_80 : decode cX1_readMeasure 80 = .ok (.invokevirtual 27, 3) := by decide +kernel
theorem dX1_readMeasure_83 : decode cX1_readMeasure 83 = .ok (.ifCond .eq 9, 3) := by decide +kernel
theorem dX1_readMeasure_86 : decode cX1_readMeasure 86 = .ok (.iconst 2, 1) := by decide +kernel
theorem dX1_readMeasure_87 : decode cX1_readMeasure 87 = .ok (.istore 5, 2) := by decide +kernel
theorem dX1_readMeasure_89 : decode cX1_readMeasure 89 = .ok (.goto 10, 3) := by decide +kernel
theorem dX1_readMeasure_92 : decode cX1_readMeasure 92 = .ok (.aload_n 0, 1) := by decide +kernel
theorem dX1_readMeasure_93 : decode cX1_readMeasure 93 = .ok (.ldc 115, 2) := by decide +kernel
theorem dX1_readMeasure_95 : decode cX1_readMeasure 95 = .ok (.invokevirtual 27, 3) := by decide +kernel
theorem dX1_readMeasure_98 : decode cX1_readMeasure 98 = .ok (.pop, 1) := by decide +kernel
theorem dX1_readMeasure_99 : decode cX1_readMeasure 99 = .ok (.aload_n 1, 1) := by decide +kernel
theorem dX1_readMeasure_100 : decode cX1_readMeasure 100 = .ok (.iload_n 2, 1) := by decide +kernel
theorem dX1_readMeasure_101 : decode cX1_readMeasure 101 = .ok (.iload_n 3, 1) := by decide +kernel
theorem dX1_readMeasure_102 : decode cX1_readMeasure 102 = .ok (.iload 4, 2) := by decide +kernel
theorem dX1_readMeasure_104 : decode cX1_readMeasure 104 = .ok (.iload 5, 2) := by decide +kernel
theorem dX1_readMeasure_106 : decode cX1_readMeasure 106 = .ok (.invokevirtual 117, 3) := by decide +kernel
theorem dX1_readMeasure_109 : decode cX1_readMeasure 109 = .ok (.iconst 1, 1) := by decide +kernel
theorem dX1_readMeasure_110 : decode cX1_readMeasure 110 = .ok (.ireturn, 1) := by decide +kernel
theorem dX1_take_0 : decode cX1_take 0 = .ok (.aload_n 0, 1) := by decide +kernel
theorem dX1_take_1 : decode cX1_take 1 = .ok (.aload_n 1, 1) := by decide +kernel
theorem dX1_take_2 : decode cX1_take 2 = .ok (.invokevirtual 121, 3) := by decide +kernel
theorem dX1_take_5 : decode cX1_take 5 = .ok (.ifCond .ne 5, 3) := by decide +kernel
theorem dX1_take_8 : decode cX1_take 8 = .ok (.iconst 0, 1) := by decide +kernel
theorem dX1_take_9 : decode cX1_take 9 = .ok (.ireturn, 1) := by decide +kernel
theorem dX1_take_10 : decode cX1_take 10 = .ok (.aload_n 0, 1) := by decide +kernel
theorem dX1_take_11 : decode cX1_take 11 = .ok (.invokevirtual 22, 3) := by decide +kernel
theorem dX1_take_14 : decode cX1_take 14 = .ok (.iconst 1, 1) := by decide +kernel
theorem dX1_take_15 : decode cX1_take 15 = .ok (.ireturn, 1) := by decide +kernel
theorem dX1_stands_0 : decode cX1_stands 0 = .ok (.aload_n 0, 1) := by decide +kernel
theorem dX1_stands_1 : decode cX1_stands 1 = .ok (.getfield 19, 3) := by decide +kernel
theorem dX1_stands_4 : decode cX1_stands 4 = .ok (.aload_n 0, 1) := by decide +kernel
theorem dX1_stands_5 : decode cX1_stands 5 = .ok (.getfield 43, 3) := by decide +kernel
theorem dX1_stands_8 : decode cX1_stands 8 = .ok (.isub, 1) := by decide +kernel
theorem dX1_stands_9 : decode cX1_stands 9 = .ok (.aload_n 1, 1) := by decide +kernel
theorem dX1_stands_10 : decode cX1_stands 10 = .ok (.invokevirtual 124, 3) := by decide +kernel
theorem dX1_stands_13 : decode cX1_stands 13 = .ok (.if_icmp .eq 5, 3) := by decide +kernel
theorem dX1_stands_16 : decode cX1_stands 16 = .ok (.iconst 0, 1) := by decide +kernel
theorem dX1_stands_17 : decode cX1_stands 17 = .ok (.ireturn, 1) := by decide +kernel
theorem dX1_stands_18 : decode cX1_stands 18 = .ok (.iconst 0, 1) := by decide +kernel
theorem dX1_stands_19 : decode cX1_stands 19 = .ok (.istore_n 2, 1) := by decide +kernel
theorem dX1_stands_20 : decode cX1_stands 20 = .ok (.iload_n 2, 1) := by decide +kernel
theorem dX1_stands_21 : decode cX1_stands 21 = .ok (.aload_n 1, 1) := by decide +kernel
theorem dX1_stands_22 : decode cX1_stands 22 = .ok (.invokevirtual 124, 3) := by decide +kernel
theorem dX1_stands_25 : decode cX1_stands 25 = .ok (.if_icmp .ge 33, 3) := by decide +kernel
theorem dX1_stands_28 : decode cX1_stands 28 = .ok (.aload_n 0, 1) := by decide +kernel
theorem dX1_stands_29 : decode cX1_stands 29 = .ok (.getfield 9, 3) := by decide +kernel
theorem dX1_stands_32 : decode cX1_stands 32 = .ok (.getfield 128, 3) := by decide +kernel
theorem dX1_stands_35 : decode cX1_stands 35 = .ok (.aload_n 0, 1) := by decide +kernel
theorem dX1_stands_36 : decode cX1_stands 36 = .ok (.getfield 43, 3) := by decide +kernel
theorem dX1_stands_39 : decode cX1_stands 39 = .ok (.iload_n 2, 1) := by decide +kernel
theorem dX1_stands_40 : decode cX1_stands 40 = .ok (.iadd, 1) := by decide +kernel
theorem dX1_stands_41 : decode cX1_stands 41 = .ok (.iaload, 1) := by decide +kernel
theorem dX1_stands_42 : decode cX1_stands 42 = .ok (.aload_n 1, 1) := by decide +kernel
theorem dX1_stands_43 : decode cX1_stands 43 = .ok (.iload_n 2, 1) := by decide +kernel
theorem dX1_stands_44 : decode cX1_stands 44 = .ok (.invokevirtual 131, 3) := by decide +kernel
theorem dX1_stands_47 : decode cX1_stands 47 = .ok (.if_icmp .eq 5, 3) := by decide +kernel
theorem dX1_stands_50 : decode cX1_stands 50 = .ok (.iconst 0, 1) := by decide +kernel
theorem dX1_stands_51 : decode cX1_stands 51 = .ok (.ireturn, 1) := by decide +kernel
theorem dX1_stands_52 : decode cX1_stands 52 = .ok (.iinc 2 1, 3) := by decide +kernel
theorem dX1_stands_55 : decode cX1_stands 55 = .ok (.goto (-35), 3) := by decide +kernel
theorem dX1_stands_58 : decode cX1_stands 58 = .ok (.iconst 1, 1) := by decide +kernel
theorem dX1_stands_59 : decode cX1_stands 59 = .ok (.ireturn, 1) := by decide +kernel
theorem dX1_takeNumber_0 : decode cX1_takeNumber 0 = .ok (.aload_n 0, 1) := by decide +kernel
theorem dX1_takeNumber_1 : decode cX1_takeNumber 1 = .ok (.invokevirtual 72, 3) := by decide +kernel
theorem dX1_takeNumber_4 : decode cX1_takeNumber 4 = .ok (.istore_n 3, 1) := by decide +kernel
theorem dX1_takeNumber_5 : decode cX1_takeNumber 5 = .ok (.iload_n 3, 1) := by decide +kernel
theorem dX1_takeNumber_6 : decode cX1_takeNumber 6 = .ok (.iload_n 1, 1) := by decide +kernel
theorem dX1_takeNumber_7 : decode cX1_takeNumber 7 = .ok (.iload_n 2, 1) := by decide +kernel
theorem dX1_takeNumber_8 : decode cX1_takeNumber 8 = .ok (.invokestatic 135, 3) := by decide +kernel
theorem dX1_takeNumber_11 : decode cX1_takeNumber 11 = .ok (.ifCond .ne 5, 3) := by decide +kernel
theorem dX1_takeNumber_14 : decode cX1_takeNumber 14 = .ok (.iconst (-1), 1) := by decide +kernel
theorem dX1_takeNumber_15 : decode cX1_takeNumber 15 = .ok (.ireturn, 1) := by decide +kernel
theorem dX1_takeNumber_16 : decode cX1_takeNumber 16 = .ok (.aload_n 0, 1) := by decide +kernel
theorem dX1_takeNumber_17 : decode cX1_takeNumber 17 = .ok (.invokevirtual 22, 3) := by decide +kernel
theorem dX1_takeNumber_20 : decode cX1_takeNumber 20 = .ok (.iload_n 3, 1) := by decide +kernel
theorem dX1_takeNumber_21 : decode cX1_takeNumber 21 = .ok (.ireturn, 1) := by decide +kernel
theorem dX1_value_0 : decode cX1_value 0 = .ok (.aload_n 0, 1) := by decide +kernel
theorem dX1_value_1 : decode cX1_value 1 = .ok (.getfield 43, 3) := by decide +kernel
theorem dX1_value_4 : decode cX1_value 4 = .ok (.aload_n 0, 1) := by decide +kernel
theorem dX1_value_5 : decode cX1_value 5 = .ok (.getfield 9, 3) := by decide +kernel
theorem dX1_value_8 : decode cX1_value 8 = .ok (.getfield 46, 3) := by decide +kernel
theorem dX1_value_11 : decode cX1_value 11 = .ok (.if_icmp .ge 22, 3) := by decide +kernel
theorem dX1_value_14 : decode cX1_value 14 = .ok (.aload_n 0, 1) := by decide +kernel
theorem dX1_value_15 : decode cX1_value 15 = .ok (.getfield 9, 3) := by decide +kernel
theorem dX1_value_18 : decode cX1_value 18 = .ok (.getfield 128, 3) := by decide +kernel
theorem dX1_value_21 : decode cX1_value 21 = .ok (.aload_n 0, 1) := by decide +kernel
theorem dX1_value_22 : decode cX1_value 22 = .ok (.getfield 43, 3) := by decide +kernel
theorem dX1_value_25 : decode cX1_value 25 = .ok (.iaload, 1) := by decide +kernel
theorem dX1_value_26 : decode cX1_value 26 = .ok (.invokestatic 139, 3) := by decide +kernel
theorem dX1_value_29 : decode cX1_value 29 = .ok (.iconst 2, 1) := by decide +kernel
theorem dX1_value_30 : decode cX1_value 30 = .ok (.if_icmp .eq 5, 3) := by decide +kernel
theorem dX1_value_33 : decode cX1_value 33 = .ok (.iconst (-1), 1) := by decide +kernel
theorem dX1_value_34 : decode cX1_value 34 = .ok (.ireturn, 1) := by decide +kernel
theorem dX1_value_35 : decode cX1_value 35 = .ok (.iconst 0, 1) := by decide +kernel
theorem dX1_value_36 : decode cX1_value 36 = .ok (.istore_n 1, 1) := by decide +kernel
theorem dX1_value_37 : decode cX1_value 37 = .ok (.aload_n 0, 1) := by decide +kernel
theorem dX1_value_38 : decode cX1_value 38 = .ok (.getfield 43, 3) := by decide +kernel
theorem dX1_value_41 : decode cX1_value 41 = .ok (.istore_n 2, 1) := by decide +kernel
theorem dX1_value_42 : decode cX1_value 42 = .ok (.iload_n 2, 1) := by decide +kernel
theorem dX1_value_43 : decode cX1_value 43 = .ok (.aload_n 0, 1) := by decide +kernel
theorem dX1_value_44 : decode cX1_value 44 = .ok (.getfield 19, 3) := by decide +kernel
theorem dX1_value_47 : decode cX1_value 47 = .ok (.if_icmp .ge 33, 3) := by decide +kernel
theorem dX1_value_50 : decode cX1_value 50 = .ok (.sipush 1000, 3) := by decide +kernel
theorem dX1_value_53 : decode cX1_value 53 = .ok (.bipush 10, 2) := by decide +kernel
theorem dX1_value_55 : decode cX1_value 55 = .ok (.iload_n 1, 1) := by decide +kernel
theorem dX1_value_56 : decode cX1_value 56 = .ok (.imul, 1) := by decide +kernel
theorem dX1_value_57 : decode cX1_value 57 = .ok (.aload_n 0, 1) := by decide +kernel
theorem dX1_value_58 : decode cX1_value 58 = .ok (.getfield 9, 3) := by decide +kernel
theorem dX1_value_61 : decode cX1_value 61 = .ok (.getfield 128, 3) := by decide +kernel
theorem dX1_value_64 : decode cX1_value 64 = .ok (.iload_n 2, 1) := by decide +kernel
theorem dX1_value_65 : decode cX1_value 65 = .ok (.iaload, 1) := by decide +kernel
theorem dX1_value_66 : decode cX1_value 66 = .ok (.iadd, 1) := by decide +kernel
theorem dX1_value_67 : decode cX1_value 67 = .ok (.bipush 48, 2) := by decide +kernel
theorem dX1_value_69 : decode cX1_value 69 = .ok (.isub, 1) := by decide +kernel
theorem dX1_value_70 : decode cX1_value 70 = .ok (.invokestatic 143, 3) := by decide +kernel
theorem dX1_value_73 : decode cX1_value 73 = .ok (.istore_n 1, 1) := by decide +kernel
theorem dX1_value_74 : decode cX1_value 74 = .ok (.iinc 2 1, 3) := by decide +kernel
theorem dX1_value_77 : decode cX1_value 77 = .ok (.goto (-35), 3) := by decide +kernel
theorem dX1_value_80 : decode cX1_value 80 = .ok (.iload_n 1, 1) := by decide +kernel
theorem dX1_value_81 : decode cX1_value 81 = .ok (.ireturn, 1) := by decide +kernel
theorem dX1_advance_0 : decode cX1_advance 0 = .ok (.aload_n 0, 1) := by decide +kernel
theorem dX1_advance_1 : decode cX1_advance 1 = .ok (.aload_n 0, 1) := by decide +kernel
theorem dX1_advance_2 : decode cX1_advance 2 = .ok (.getfield 19, 3) := by decide +kernel
theorem dX1_advance_5 : decode cX1_advance 5 = .ok (.putfield 43, 3) := by decide +kernel
theorem dX1_advance_8 : decode cX1_advance 8 = .ok (.aload_n 0, 1) := by decide +kernel
theorem dX1_advance_9 : decode cX1_advance 9 = .ok (.getfield 43, 3) := by decide +kernel
theorem dX1_advance_12 : decode cX1_advance 12 = .ok (.aload_n 0, 1) := by decide +kernel
theorem dX1_advance_13 : decode cX1_advance 13 = .ok (.getfield 9, 3) := by decide +kernel
theorem dX1_advance_16 : decode cX1_advance 16 = .ok (.getfield 46, 3) := by decide +kernel
theorem dX1_advance_19 : decode cX1_advance 19 = .ok (.if_icmp .ge 33, 3) := by decide +kernel
theorem dX1_advance_22 : decode cX1_advance 22 = .ok (.aload_n 0, 1) := by decide +kernel
theorem dX1_advance_23 : decode cX1_advance 23 = .ok (.getfield 9, 3) := by decide +kernel
theorem dX1_advance_26 : decode cX1_advance 26 = .ok (.getfield 128, 3) := by decide +kernel
theorem dX1_advance_29 : decode cX1_advance 29 = .ok (.aload_n 0, 1) := by decide +kernel
theorem dX1_advance_30 : decode cX1_advance 30 = .ok (.getfield 43, 3) := by decide +kernel
theorem dX1_advance_33 : decode cX1_advance 33 = .ok (.iaload, 1) := by decide +kernel
theorem dX1_advance_34 : decode cX1_advance 34 = .ok (.bipush 32, 2) := by decide +kernel
theorem dX1_advance_36 : decode cX1_advance 36 = .ok (.if_icmp .ne 16, 3) := by decide +kernel
theorem dX1_advance_39 : decode cX1_advance 39 = .ok (.aload_n 0, 1) := by decide +kernel
theorem dX1_advance_40 : decode cX1_advance 40 = .ok (.dup, 1) := by decide +kernel
theorem dX1_advance_41 : decode cX1_advance 41 = .ok (.getfield 43, 3) := by decide +kernel
theorem dX1_advance_44 : decode cX1_advance 44 = .ok (.iconst 1, 1) := by decide +kernel
theorem dX1_advance_45 : decode cX1_advance 45 = .ok (.iadd, 1) := by decide +kernel
theorem dX1_advance_46 : decode cX1_advance 46 = .ok (.putfield 43, 3) := by decide +kernel
theorem dX1_advance_49 : decode cX1_advance 49 = .ok (.goto (-41), 3) := by decide +kernel
theorem dX1_advance_52 : decode cX1_advance 52 = .ok (.aload_n 0, 1) := by decide +kernel
theorem dX1_advance_53 : decode cX1_advance 53 = .ok (.aload_n 0, 1) := by decide +kernel
theorem dX1_advance_54 : decode cX1_advance 54 = .ok (.getfield 43, 3) := by decide +kernel
theorem dX1_advance_57 : decode cX1_advance 57 = .ok (.putfield 19, 3) := by decide +kernel
theorem dX1_advance_60 : decode cX1_advance 60 = .ok (.aload_n 0, 1) := by decide +kernel
theorem dX1_advance_61 : decode cX1_advance 61 = .ok (.getfield 43, 3) := by decide +kernel
theorem dX1_advance_64 : decode cX1_advance 64 = .ok (.aload_n 0, 1) := by decide +kernel
theorem dX1_advance_65 : decode cX1_advance 65 = .ok (.getfield 9, 3) := by decide +kernel
theorem dX1_advance_68 : decode cX1_advance 68 = .ok (.getfield 46, 3) := by decide +kernel
theorem dX1_advance_71 : decode cX1_advance 71 = .ok (.if_icmp .lt 4, 3) := by decide +kernel
theorem dX1_advance_74 : decode cX1_advance 74 = .ok (.return_, 1) := by decide +kernel
theorem dX1_advance_75 : decode cX1_advance 75 = .ok (.aload_n 0, 1) := by decide +kernel
theorem dX1_advance_76 : decode cX1_advance 76 = .ok (.getfield 9, 3) := by decide +kernel
theorem dX1_advance_79 : decode cX1_advance 79 = .ok (.getfield 128, 3) := by decide +kernel
theorem dX1_advance_82 : decode cX1_advance 82 = .ok (.aload_n 0, 1) := by decide +kernel
theorem dX1_advance_83 : decode cX1_advance 83 = .ok (.getfield 43, 3) := by decide +kernel
theorem dX1_advance_86 : decode cX1_advance 86 = .ok (.iaload, 1) := by decide +kernel
theorem dX1_advance_87 : decode cX1_advance 87 = .ok (.invokestatic 139, 3) := by decide +kernel
theorem dX1_advance_90 : decode cX1_advance 90 = .ok (.istore_n 1, 1) := by decide +kernel
theorem dX1_advance_91 : decode cX1_advance 91 = .ok (.aload_n 0, 1) := by decide +kernel
theorem dX1_advance_92 : decode cX1_advance 92 = .ok (.dup, 1) := by decide +kernel
theorem dX1_advance_93 : decode cX1_advance 93 = .ok (.getfield 19, 3) := by decide +kernel
theorem dX1_advance_96 : decode cX1_advance 96 = .ok (.iconst 1, 1) := by decide +kernel
theorem dX1_advance_97 : decode cX1_advance 97 = .ok (.iadd, 1) := by decide +kernel
theorem dX1_advance_98 : decode cX1_advance 98 = .ok (.putfield 19, 3) := by decide +kernel
theorem dX1_advance_101 : decode cX1_advance 101 = .ok (.iload_n 1, 1) := by decide +kernel
theorem dX1_advance_102 : decode cX1_advance 102 = .ok (.ifCond .eq 49, 3) := by decide +kernel
theorem dX1_advance_105 : decode cX1_advance 105 = .ok (.aload_n 0, 1) := by decide +kernel
theorem dX1_advance_106 : decode cX1_advance 106 = .ok (.getfield 19, 3) := by decide +kernel
theorem dX1_advance_109 : decode cX1_advance 109 = .ok (.aload_n 0, 1) := by decide +kernel
theorem dX1_advance_110 : decode cX1_advance 110 = .ok (.getfield 9, 3) := by decide +kernel
theorem dX1_advance_113 : decode cX1_advance 113 = .ok (.getfield 46, 3) := by decide +kernel
theorem dX1_advance_116 : decode cX1_advance 116 = .ok (.if_icmp .ge 35, 3) := by decide +kernel
theorem dX1_advance_119 : decode cX1_advance 119 = .ok (.aload_n 0, 1) := by decide +kernel
theorem dX1_advance_120 : decode cX1_advance 120 = .ok (.getfield 9, 3) := by decide +kernel
theorem dX1_advance_123 : decode cX1_advance 123 = .ok (.getfield 128, 3) := by decide +kernel
theorem dX1_advance_126 : decode cX1_advance 126 = .ok (.aload_n 0, 1) := by decide +kernel
theorem dX1_advance_127 : decode cX1_advance 127 = .ok (.getfield 19, 3) := by decide +kernel
theorem dX1_advance_130 : decode cX1_advance 130 = .ok (.iaload, 1) := by decide +kernel
theorem dX1_advance_131 : decode cX1_advance 131 = .ok (.invokestatic 139, 3) := by decide +kernel
theorem dX1_advance_134 : decode cX1_advance 134 = .ok (.iload_n 1, 1) := by decide +kernel
theorem dX1_advance_135 : decode cX1_advance 135 = .ok (.if_icmp .ne 16, 3) := by decide +kernel
theorem dX1_advance_138 : decode cX1_advance 138 = .ok (.aload_n 0, 1) := by decide +kernel
theorem dX1_advance_139 : decode cX1_advance 139 = .ok (.dup, 1) := by decide +kernel
theorem dX1_advance_140 : decode cX1_advance 140 = .ok (.getfield 19, 3) := by decide +kernel
theorem dX1_advance_143 : decode cX1_advance 143 = .ok (.iconst 1, 1) := by decide +kernel
theorem dX1_advance_144 : decode cX1_advance 144 = .ok (.iadd, 1) := by decide +kernel
theorem dX1_advance_145 : decode cX1_advance 145 = .ok (.putfield 19, 3) := by decide +kernel
theorem dX1_advance_148 : decode cX1_advance 148 = .ok (.goto (-47), 3) := by decide +kernel
theorem dX1_advance_151 : decode cX1_advance 151 = .ok (.return_, 1) := by decide +kernel
theorem dX1_familyOf_0 : decode cX1_familyOf 0 = .ok (.iload_n 0, 1) := by decide +kernel
theorem dX1_familyOf_1 : decode cX1_familyOf 1 = .ok (.bipush 97, 2) := by decide +kernel
theorem dX1_familyOf_3 : decode cX1_familyOf 3 = .ok (.if_icmp .lt 11, 3) := by decide +kernel
theorem dX1_familyOf_6 : decode cX1_familyOf 6 = .ok (.iload_n 0, 1) := by decide +kernel
theorem dX1_familyOf_7 : decode cX1_familyOf 7 = .ok (.bipush 122, 2) := by decide +kernel
theorem dX1_familyOf_9 : decode cX1_familyOf 9 = .ok (.if_icmp .gt 5, 3) := by decide +kernel
theorem dX1_familyOf_12 : decode cX1_familyOf 12 = .ok (.iconst 1, 1) := by decide +kernel
theorem dX1_familyOf_13 : decode cX1_familyOf 13 = .ok (.ireturn, 1) := by decide +kernel
theorem dX1_familyOf_14 : decode cX1_familyOf 14 = .ok (.iload_n 0, 1) := by decide +kernel
theorem dX1_familyOf_15 : decode cX1_familyOf 15 = .ok (.bipush 48, 2) := by decide +kernel
theorem dX1_familyOf_17 : decode cX1_familyOf 17 = .ok (.if_icmp .lt 13, 3) := by decide +kernel
theorem dX1_familyOf_20 : decode cX1_familyOf 20 = .ok (.iload_n 0, 1) := by decide +kernel
theorem dX1_familyOf_21 : decode cX1_familyOf 21 = .ok (.bipush 57, 2) := by decide +kernel
theorem dX1_familyOf_23 : decode cX1_familyOf 23 = .ok (.if_icmp .gt 7, 3) := by decide +kernel
theorem dX1_familyOf_26 : decode cX1_familyOf 26 = .ok (.iconst 2, 1) := by decide +kernel
theorem dX1_familyOf_27 : decode cX1_familyOf 27 = .ok (.goto 4, 3) := by decide +kernel
theorem dX1_familyOf_30 : decode cX1_familyOf 30 = .ok (.iconst 0, 1) := by decide +kernel
theorem dX1_familyOf_31 : decode cX1_familyOf 31 = .ok (.ireturn, 1) := by decide +kernel
theorem dX2_init_0 : decode cX2_init 0 = .ok (.aload_n 0, 1) := by decide +kernel
theorem dX2_init_1 : decode cX2_init 1 = .ok (.invokespecial 1, 3) := by decide +kernel
theorem dX2_init_4 : decode cX2_init 4 = .ok (.return_, 1) := by decide +kernel
theorem dX2_clear_0 : decode cX2_clear 0 = .ok (.aload_n 0, 1) := by decide +kernel
theorem dX2_clear_1 : decode cX2_clear 1 = .ok (.lconst 1, 1) := by decide +kernel
theorem dX2_clear_2 : decode cX2_clear 2 = .ok (.putfield 7, 3) := by decide +kernel
theorem dX2_clear_5 : decode cX2_clear 5 = .ok (.aload_n 0, 1) := by decide +kernel
theorem dX2_clear_6 : decode cX2_clear 6 = .ok (.lconst 0, 1) := by decide +kernel
theorem dX2_clear_7 : decode cX2_clear 7 = .ok (.putfield 13, 3) := by decide +kernel
theorem dX2_clear_10 : decode cX2_clear 10 = .ok (.aload_n 0, 1) := by decide +kernel
theorem dX2_clear_11 : decode cX2_clear 11 = .ok (.iconst 1, 1) := by decide +kernel
theorem dX2_clear_12 : decode cX2_clear 12 = .ok (.putfield 16, 3) := by decide +kernel
theorem dX2_clear_15 : decode cX2_clear 15 = .ok (.return_, 1) := by decide +kernel
theorem dX2_put_0 : decode cX2_put 0 = .ok (.aload_n 0, 1) := by decide +kernel
theorem dX2_put_1 : decode cX2_put 1 = .ok (.lload_n 1, 1) := by decide +kernel
theorem dX2_put_2 : decode cX2_put 2 = .ok (.putfield 7, 3) := by decide +kernel
theorem dX2_put_5 : decode cX2_put 5 = .ok (.aload_n 0, 1) := by decide +kernel
theorem dX2_put_6 : decode cX2_put 6 = .ok (.lload_n 3, 1) := by decide +kernel
theorem dX2_put_7 : decode cX2_put 7 = .ok (.putfield 13, 3) := by decide +kernel
theorem dX2_put_10 : decode cX2_put 10 = .ok (.aload_n 0, 1) := by decide +kernel
theorem dX2_put_11 : decode cX2_put 11 = .ok (.iload 5, 2) := by decide +kernel
theorem dX2_put_13 : decode cX2_put 13 = .ok (.putfield 16, 3) := by decide +kernel
theorem dX2_put_16 : decode cX2_put 16 = .ok (.return_, 1) := by decide +kernel
theorem dX2_lessen_0 : decode cX2_lessen 0 = .ok (.aload_n 0, 1) := by decide +kernel
theorem dX2_lessen_1 : decode cX2_lessen 1 = .ok (.getfield 7, 3) := by decide +kernel
theorem dX2_lessen_4 : decode cX2_lessen 4 = .ok (.lload_n 3, 1) := by decide +kernel
theorem dX2_lessen_5 : decode cX2_lessen 5 = .ok (.lmul, 1) := by decide +kernel
theorem dX2_lessen_6 : decode cX2_lessen 6 = .ok (.lstore 6, 2) := by decide +kernel
theorem dX2_lessen_8 : decode cX2_lessen 8 = .ok (.lload_n 1, 1) := by decide +kernel
theorem dX2_lessen_9 : decode cX2_lessen 9 = .ok (.aload_n 0, 1) := by decide +kernel
theorem dX2_lessen_10 : decode cX2_lessen 10 = .ok (.getfield 13, 3) := by decide +kernel
theorem dX2_lessen_13 : decode cX2_lessen 13 = .ok (.lmul, 1) := by decide +kernel
theorem dX2_lessen_14 : decode cX2_lessen 14 = .ok (.lstore 8, 2) := by decide +kernel
theorem dX2_lessen_16 : decode cX2_lessen 16 = .ok (.lload 8, 2) := by decide +kernel
theorem dX2_lessen_18 : decode cX2_lessen 18 = .ok (.lload 6, 2) := by decide +kernel
theorem dX2_lessen_20 : decode cX2_lessen 20 = .ok (.lcmp, 1) := by decide +kernel
theorem dX2_lessen_21 : decode cX2_lessen 21 = .ok (.ifCond .lt 16, 3) := by decide +kernel
theorem dX2_lessen_24 : decode cX2_lessen 24 = .ok (.lload 8, 2) := by decide +kernel
theorem dX2_lessen_26 : decode cX2_lessen 26 = .ok (.lload 6, 2) := by decide +kernel
theorem dX2_lessen_28 : decode cX2_lessen 28 = .ok (.lcmp, 1) := by decide +kernel
theorem dX2_lessen_29 : decode cX2_lessen 29 = .ok (.ifCond .ne 16, 3) := by decide +kernel
theorem dX2_lessen_32 : decode cX2_lessen 32 = .ok (.iload 5, 2) := by decide +kernel
theorem dX2_lessen_34 : decode cX2_lessen 34 = .ok (.ifCond .eq 11, 3) := by decide +kernel
theorem dX2_lessen_37 : decode cX2_lessen 37 = .ok (.aload_n 0, 1) := by decide +kernel
theorem dX2_lessen_38 : decode cX2_lessen 38 = .ok (.lload_n 1, 1) := by decide +kernel
theorem dX2_lessen_39 : decode cX2_lessen 39 = .ok (.lload_n 3, 1) := by decide +kernel
theorem dX2_lessen_40 : decode cX2_lessen 40 = .ok (.iload 5, 2) := by decide +kernel
theorem dX2_lessen_42 : decode cX2_lessen 42 = .ok (.invokevirtual 20, 3) := by decide +kernel
theorem dX2_lessen_45 : decode cX2_lessen 45 = .ok (.return_, 1) := by decide +kernel
theorem dX2_isBelowOne_0 : decode cX2_isBelowOne 0 = .ok (.aload_n 0, 1) := by decide +kernel
theorem dX2_isBelowOne_1 : decode cX2_isBelowOne 1 = .ok (.getfield 13, 3) := by decide +kernel
theorem dX2_isBelowOne_4 : decode cX2_isBelowOne 4 = .ok (.lconst 0, 1) := by decide +kernel
theorem dX2_isBelowOne_5 : decode cX2_isBelowOne 5 = .ok (.lcmp, 1) := by decide +kernel
theorem dX2_isBelowOne_6 : decode cX2_isBelowOne 6 = .ok (.ifCond .eq 38, 3) := by decide +kernel
theorem dX2_isBelowOne_9 : decode cX2_isBelowOne 9 = .ok (.aload_n 0, 1) := by decide +kernel
theorem dX2_isBelowOne_10 : decode cX2_isBelowOne 10 = .ok (.getfield 7, 3) := by decide +kernel
theorem dX2_isBelowOne_13 : decode cX2_isBelowOne 13 = .ok (.aload_n 0, 1) := by decide +kernel
theorem dX2_isBelowOne_14 : decode cX2_isBelowOne 14 = .ok (.getfield 13, 3) := by decide +kernel
theorem dX2_isBelowOne_17 : decode cX2_isBelowOne 17 = .ok (.lcmp, 1) := by decide +kernel
theorem dX2_isBelowOne_18 : decode cX2_isBelowOne 18 = .ok (.ifCond .lt 22, 3) := by decide +kernel
theorem dX2_isBelowOne_21 : decode cX2_isBelowOne 21 = .ok (.aload_n 0, 1) := by decide +kernel
theorem dX2_isBelowOne_22 : decode cX2_isBelowOne 22 = .ok (.getfield 7, 3) := by decide +kernel
theorem dX2_isBelowOne_25 : decode cX2_isBelowOne 25 = .ok (.aload_n 0, 1) := by decide +kernel
theorem dX2_isBelowOne_26 : decode cX2_isBelowOne 26 = .ok (.getfield 13, 3) := by decide +kernel
theorem dX2_isBelowOne_29 : decode cX2_isBelowOne 29 = .ok (.lcmp, 1) := by decide +kernel
theorem dX2_isBelowOne_30 : decode cX2_isBelowOne 30 = .ok (.ifCond .ne 14, 3) := by decide +kernel
theorem dX2_isBelowOne_33 : decode cX2_isBelowOne 33 = .ok (.aload_n 0, 1) := by decide +kernel
theorem dX2_isBelowOne_34 : decode cX2_isBelowOne 34 = .ok (.getfield 16, 3) := by decide +kernel
theorem dX2_isBelowOne_37 : decode cX2_isBelowOne 37 = .ok (.ifCond .eq 7, 3) := by decide +kernel
theorem dX2_isBelowOne_40 : decode cX2_isBelowOne 40 = .ok (.iconst 1, 1) := by decide +kernel
theorem dX2_isBelowOne_41 : decode cX2_isBelowOne 41 = .ok (.goto 4, 3) := by decide +kernel
theorem dX2_isBelowOne_44 : decode cX2_isBelowOne 44 = .ok (.iconst 0, 1) := by decide +kernel
theorem dX2_isBelowOne_45 : decode cX2_isBelowOne 45 = .ok (.ireturn, 1) := by decide +kernel
theorem dX2_contradicts_0 : decode cX2_contradicts 0 = .ok (.aload_n 0, 1) := by decide +kernel
theorem dX2_contradicts_1 : decode cX2_contradicts 1 = .ok (.getfield 7, 3) := by decide +kernel
theorem dX2_contradicts_4 : decode cX2_contradicts 4 = .ok (.aload_n 1, 1) := by decide +kernel
theorem dX2_contradicts_5 : decode cX2_contradicts 5 = .ok (.getfield 7, 3) := by decide +kernel
theorem dX2_contradicts_8 : decode cX2_contradicts 8 = .ok (.lmul, 1) := by decide +kernel
theorem dX2_contradicts_9 : decode cX2_contradicts 9 = .ok (.lstore_n 2, 1) := by decide +kernel
theorem dX2_contradicts_10 : decode cX2_contradicts 10 = .ok (.aload_n 0, 1) := by decide +kernel
theorem dX2_contradicts_11 : decode cX2_contradicts 11 = .ok (.getfield 13, 3) := by decide +kernel
theorem dX2_contradicts_14 : decode cX2_contradicts 14 = .ok (.aload_n 1, 1) := by decide +kernel
theorem dX2_contradicts_15 : decode cX2_contradicts 15 = .ok (.getfield 13, 3) := by decide +kernel
theorem dX2_contradicts_18 : decode cX2_contradicts 18 = .ok (.lmul, 1) := by decide +kernel
theorem dX2_contradicts_19 : decode cX2_contradicts 19 = .ok (.lstore 4, 2) := by decide +kernel
theorem dX2_contradicts_21 : decode cX2_contradicts 21 = .ok (.lload_n 2, 1) := by decide +kernel
theorem dX2_contradicts_22 : decode cX2_contradicts 22 = .ok (.lload 4, 2) := by decide +kernel
theorem dX2_contradicts_24 : decode cX2_contradicts 24 = .ok (.lcmp, 1) := by decide +kernel
theorem dX2_contradicts_25 : decode cX2_contradicts 25 = .ok (.ifCond .lt 24, 3) := by decide +kernel
theorem dX2_contradicts_28 : decode cX2_contradicts 28 = .ok (.lload_n 2, 1) := by decide +kernel
theorem dX2_contradicts_29 : decode cX2_contradicts 29 = .ok (.lload 4, 2) := by decide +kernel
theorem dX2_contradicts_31 : decode cX2_contradicts 31 = .ok (.lcmp, 1) := by decide +kernel
theorem dX2_contradicts_32 : decode cX2_contradicts 32 = .ok (.ifCond .ne 21, 3) := by decide +kernel
theorem dX2_contradicts_35 : decode cX2_contradicts 35 = .ok (.aload_n 0, 1) := by decide +kernel
theorem dX2_contradicts_36 : decode cX2_contradicts 36 = .ok (.getfield 16, 3) := by decide +kernel
theorem dX2_contradicts_39 : decode cX2_contradicts 39 = .ok (.ifCond .ne 10, 3) := by decide +kernel
theorem dX2_contradicts_42 : decode cX2_contradicts 42 = .ok (.aload_n 1, 1) := by decide +kernel
theorem dX2_contradicts_43 : decode cX2_contradicts 43 = .ok (.getfield 16, 3) := by decide +kernel
theorem dX2_contradicts_46 : decode cX2_contradicts 46 = .ok (.ifCond .eq 7, 3) := by decide +kernel
theorem dX2_contradicts_49 : decode cX2_contradicts 49 = .ok (.iconst 1, 1) := by decide +kernel
theorem dX2_contradicts_50 : decode cX2_contradicts 50 = .ok (.goto 4, 3) := by decide +kernel
theorem dX2_contradicts_53 : decode cX2_contradicts 53 = .ok (.iconst 0, 1) := by decide +kernel
theorem dX2_contradicts_54 : decode cX2_contradicts 54 = .ok (.ireturn, 1) := by decide +kernel
theorem dX3_init_0 : decode cX3_init 0 = .ok (.aload_n 0, 1) := by decide +kernel
theorem dX3_init_1 : decode cX3_init 1 = .ok (.invokespecial 3, 3) := by decide +kernel
theorem dX3_init_4 : decode cX3_init 4 = .ok (.aload_n 0, 1) := by decide +kernel
theorem dX3_init_5 : decode cX3_init 5 = .ok (.aload_n 1, 1) := by decide +kernel
theorem dX3_init_6 : decode cX3_init 6 = .ok (.putfield 9, 3) := by decide +kernel
theorem dX3_init_9 : decode cX3_init 9 = .ok (.return_, 1) := by decide +kernel
theorem dX3_leaveOut_0 : decode cX3_leaveOut 0 = .ok (.iload_n 2, 1) := by decide +kernel
theorem dX3_leaveOut_1 : decode cX3_leaveOut 1 = .ok (.istore_n 3, 1) := by decide +kernel
theorem dX3_leaveOut_2 : decode cX3_leaveOut 2 = .ok (.iconst 0, 1) := by decide +kernel
theorem dX3_leaveOut_3 : decode cX3_leaveOut 3 = .ok (.istore 4, 2) := by decide +kernel
theorem dX3_leaveOut_5 : decode cX3_leaveOut 5 = .ok (.iload 4, 2) := by decide +kernel
theorem dX3_leaveOut_7 : decode cX3_leaveOut 7 = .ok (.bipush 24, 2) := by decide +kernel
theorem dX3_leaveOut_9 : decode cX3_leaveOut 9 = .ok (.if_icmp .ge 41, 3) := by decide +kernel
theorem dX3_leaveOut_12 : decode cX3_leaveOut 12 = .ok (.iload_n 3, 1) := by decide +kernel
theorem dX3_leaveOut_13 : decode cX3_leaveOut 13 = .ok (.iconst 1, 1) := by decide +kernel
theorem dX3_leaveOut_14 : decode cX3_leaveOut 14 = .ok (.iload 4, 2) := by decide +kernel
theorem dX3_leaveOut_16 : decode cX3_leaveOut 16 = .ok (.ishl, 1) := by decide +kernel
theorem dX3_leaveOut_17 : decode cX3_leaveOut 17 = .ok (.iconst (-1), 1) := by decide +kernel
theorem dX3_leaveOut_18 : decode cX3_leaveOut 18 = .ok (.ixor, 1) := by decide +kernel
theorem dX3_leaveOut_19 : decode cX3_leaveOut 19 = .ok (.iand, 1) := by decide +kernel
theorem dX3_leaveOut_20 : decode cX3_leaveOut 20 = .ok (.istore 5, 2) := by decide +kernel
theorem dX3_leaveOut_22 : decode cX3_leaveOut 22 = .ok (.iload 5, 2) := by decide +kernel
theorem dX3_leaveOut_24 : decode cX3_leaveOut 24 = .ok (.iload_n 3, 1) := by decide +kernel
theorem dX3_leaveOut_25 : decode cX3_leaveOut 25 = .ok (.if_icmp .eq 19, 3) := by decide +kernel
theorem dX3_leaveOut_28 : decode cX3_leaveOut 28 = .ok (.aload_n 0, 1) := by decide +kernel
theorem dX3_leaveOut_29 : decode cX3_leaveOut 29 = .ok (.getfield 9, 3) := by decide +kernel
theorem dX3_leaveOut_32 : decode cX3_leaveOut 32 = .ok (.aload_n 1, 1) := by decide +kernel
theorem dX3_leaveOut_33 : decode cX3_leaveOut 33 = .ok (.iload 5, 2) := by decide +kernel
theorem dX3_leaveOut_35 : decode cX3_leaveOut 35 = .ok (.invokevirtual 15, 3) := by decide +kernel
theorem dX3_leaveOut_38 : decode cX3_leaveOut 38 = .ok (.ifCond .ne 6, 3) := by decide +kernel
theorem dX3_leaveOut_41 : decode cX3_leaveOut 41 = .ok (.iload 5, 2) := by decide +kernel
theorem dX3_leaveOut_43 : decode cX3_leaveOut 43 = .ok (.istore_n 3, 1) := by decide +kernel
theorem dX3_leaveOut_44 : decode cX3_leaveOut 44 = .ok (.iinc 4 1, 3) := by decide +kernel
theorem dX3_leaveOut_47 : decode cX3_leaveOut 47 = .ok (.goto (-42), 3) := by decide +kernel
theorem dX3_leaveOut_50 : decode cX3_leaveOut 50 = .ok (.iload_n 3, 1) := by decide +kernel
theorem dX3_leaveOut_51 : decode cX3_leaveOut 51 = .ok (.ireturn, 1) := by decide +kernel
theorem dX3_search_0 : decode cX3_search 0 = .ok (.aload_n 0, 1) := by decide +kernel
theorem dX3_search_1 : decode cX3_search 1 = .ok (.iconst 0, 1) := by decide +kernel
theorem dX3_search_2 : decode cX3_search 2 = .ok (.putfield 21, 3) := by decide +kernel
theorem dX3_search_5 : decode cX3_search 5 = .ok (.aload_n 0, 1) := by decide +kernel
theorem dX3_search_6 : decode cX3_search 6 = .ok (.iconst 1, 1) := by decide +kernel
theorem dX3_search_7 : decode cX3_search 7 = .ok (.putfield 25, 3) := by decide +kernel
theorem dX3_search_10 : decode cX3_search 10 = .ok (.aload_n 0, 1) := by decide +kernel
theorem dX3_search_11 : decode cX3_search 11 = .ok (.iconst 0, 1) := by decide +kernel
theorem dX3_search_12 : decode cX3_search 12 = .ok (.putfield 28, 3) := by decide +kernel
theorem dX3_search_15 : decode cX3_search 15 = .ok (.aload_n 0, 1) := by decide +kernel
theorem dX3_search_16 : decode cX3_search 16 = .ok (.getfield 9, 3) := by decide +kernel
theorem dX3_search_19 : decode cX3_search 19 = .ok (.aload_n 1, 1) := by decide +kernel
theorem dX3_search_20 : decode cX3_search 20 = .ok (.aload_n 1, 1) := by decide +kernel
theorem dX3_search_21 : decode cX3_search 21 = .ok (.getfield 31, 3) := by decide +kernel
theorem dX3_search_24 : decode cX3_search 24 = .ok (.invokevirtual 15, 3) := by decide +kernel
theorem dX3_search_27 : decode cX3_search 27 = .ok (.ifCond .eq 5, 3) := by decide +kernel
theorem dX3_search_30 : decode cX3_search 30 = .ok (.iconst 1, 1) := by decide +kernel
theorem dX3_search_31 : decode cX3_search 31 = .ok (.ireturn, 1) := by decide +kernel
theorem dX3_search_32 : decode cX3_search 32 = .ok (.aload_n 0, 1) := by decide +kernel
theorem dX3_search_33 : decode cX3_search 33 = .ok (.iconst 0, 1) := by decide +kernel
theorem dX3_search_34 : decode cX3_search 34 = .ok (.putfield 25, 3) := by decide +kernel
theorem dX3_search_37 : decode cX3_search 37 = .ok (.aload_n 0, 1) := by decide +kernel
theorem dX3_search_38 : decode cX3_search 38 = .ok (.aload_n 1, 1) := by decide +kernel
theorem dX3_search_39 : decode cX3_search 39 = .ok (.aload_n 1, 1) := by decide +kernel
theorem dX3_search_40 : decode cX3_search 40 = .ok (.getfield 31, 3) := by decide +kernel
theorem dX3_search_43 : decode cX3_search 43 = .ok (.invokevirtual 36, 3) := by decide +kernel
theorem dX3_search_46 : decode cX3_search 46 = .ok (.istore_n 2, 1) := by decide +kernel
theorem dX3_search_47 : decode cX3_search 47 = .ok (.aload_n 0, 1) := by decide +kernel
theorem dX3_search_48 : decode cX3_search 48 = .ok (.iconst 1, 1) := by decide +kernel
theorem dX3_search_49 : decode cX3_search 49 = .ok (.putfield 21, 3) := by decide +kernel
theorem dX3_search_52 : decode cX3_search 52 = .ok (.iconst 0, 1) := by decide +kernel
theorem dX3_search_53 : decode cX3_search 53 = .ok (.istore_n 3, 1) := by decide +kernel
theorem dX3_search_54 : decode cX3_search 54 = .ok (.iload_n 3, 1) := by decide +kernel
theorem dX3_search_55 : decode cX3_search 55 = .ok (.bipush 24, 2) := by decide +kernel
theorem dX3_search_57 : decode cX3_search 57 = .ok (.if_icmp .ge 25, 3) := by decide +kernel
theorem dX3_search_60 : decode cX3_search 60 = .ok (.iload_n 2, 1) := by decide +kernel
theorem dX3_search_61 : decode cX3_search 61 = .ok (.iload_n 3, 1) := by decide +kernel
theorem dX3_search_62 : decode cX3_search 62 = .ok (.invokestatic 40, 3) := by decide +kernel
theorem dX3_search_65 : decode cX3_search 65 = .ok (.ifCond .eq 11, 3) := by decide +kernel
theorem dX3_search_68 : decode cX3_search 68 = .ok (.aload_n 0, 1) := by decide +kernel
theorem dX3_search_69 : decode cX3_search 69 = .ok (.aload_n 1, 1) := by decide +kernel
theorem dX3_search_70 : decode cX3_search 70 = .ok (.iconst 1, 1) := by decide +kernel
theorem dX3_search_71 : decode cX3_search 71 = .ok (.iload_n 3, 1) := by decide +kernel
theorem dX3_search_72 : decode cX3_search 72 = .ok (.ishl, 1) := by decide +kernel
theorem dX3_search_73 : decode cX3_search 73 = .ok (.invokevirtual 44, 3) := by decide +kernel
theorem dX3_search_76 : decode cX3_search 76 = .ok (.iinc 3 1, 3) := by decide +kernel
theorem dX3_search_79 : decode cX3_search 79 = .ok (.goto (-25), 3) := by decide +kernel
theorem dX3_search_82 : decode cX3_search 82 = .ok (.aload_n 0, 1) := by decide +kernel
theorem dX3_search_83 : decode cX3_search 83 = .ok (.getfield 25, 3) := by decide +kernel
theorem dX3_search_86 : decode cX3_search 86 = .ok (.ifCond .le 5, 3) := by decide +kernel
theorem dX3_search_89 : decode cX3_search 89 = .ok (.iconst 1, 1) := by decide +kernel
theorem dX3_search_90 : decode cX3_search 90 = .ok (.ireturn, 1) := by decide +kernel
theorem dX3_search_91 : decode cX3_search 91 = .ok (.aload_n 0, 1) := by decide +kernel
theorem dX3_search_92 : decode cX3_search 92 = .ok (.iconst 2, 1) := by decide +kernel
theorem dX3_search_93 : decode cX3_search 93 = .ok (.putfield 21, 3) := by decide +kernel
theorem dX3_search_96 : decode cX3_search 96 = .ok (.iconst 0, 1) := by decide +kernel
theorem dX3_search_97 : decode cX3_search 97 = .ok (.istore_n 3, 1) := by decide +kernel
theorem dX3_search_98 : decode cX3_search 98 = .ok (.iload_n 3, 1) := by decide +kernel
theorem dX3_search_99 : decode cX3_search 99 = .ok (.sipush 576, 3) := by decide +kernel
theorem dX3_search_102 : decode cX3_search 102 = .ok (.if_icmp .ge 88, 3) := by decide +kernel
theorem dX3_search_105 : decode cX3_search 105 = .ok (.iload_n 3, 1) := by decide +kernel
theorem dX3_search_106 : decode cX3_search 106 = .ok (.bipush 24, 2) := by decide +kernel
theorem dX3_search_108 : decode cX3_search 108 = .ok (.idiv, 1) := by decide +kernel
theorem dX3_search_109 : decode cX3_search 109 = .ok (.istore 4, 2) := by decide +kernel
theorem dX3_search_111 : decode cX3_search 111 = .ok (.iload_n 3, 1) := by decide +kernel
theorem dX3_search_112 : decode cX3_search 112 = .ok (.bipush 24, 2) := by decide +kernel
theorem dX3_search_114 : decode cX3_search 114 = .ok (.irem, 1) := by decide +kernel
theorem dX3_search_115 : decode cX3_search 115 = .ok (.istore 5, 2) := by decide +kernel
theorem dX3_search_117 : decode cX3_search 117 = .ok (.iload 5, 2) := by decide +kernel
theorem dX3_search_119 : decode cX3_search 119 = .ok (.iload 4, 2) := by decide +kernel
theorem dX3_search_121 : decode cX3_search 121 = .ok (.if_icmp .eq 19, 3) := by decide +kernel
theorem dX3_search_124 : decode cX3_search 124 = .ok (.iload_n 2, 1) := by decide +kernel
theorem dX3_search_125 : decode cX3_search 125 = .ok (.iload 5, 2) := by decide +kernel
theorem dX3_search_127 : decode cX3_search 127 = .ok (.invokestatic 40, 3) := by decide +kernel
theorem dX3_search_130 : decode cX3_search 130 = .ok (.ifCond .eq 14, 3) := by decide +kernel
theorem dX3_search_133 : decode cX3_search 133 = .ok (.iload 5, 2) := by decide +kernel
theorem dX3_search_135 : decode cX3_search 135 = .ok (.iload 4, 2) := by decide +kernel
theorem dX3_search_137 : decode cX3_search 137 = .ok (.if_icmp .ge 7, 3) := by decide +kernel
theorem dX3_search_140 : decode cX3_search 140 = .ok (.iconst 1, 1) := by decide +kernel
theorem dX3_search_141 : decode cX3_search 141 = .ok (.goto 4, 3) := by decide +kernel
theorem dX3_search_144 : decode cX3_search 144 = .ok (.iconst 0, 1) := by decide +kernel
theorem dX3_search_145 : decode cX3_search 145 = .ok (.istore 6, 2) := by decide +kernel
theorem dX3_search_147 : decode cX3_search 147 = .ok (.iload_n 2, 1) := by decide +kernel
theorem dX3_search_148 : decode cX3_search 148 = .ok (.iload 4, 2) := by decide +kernel
theorem dX3_search_150 : decode cX3_search 150 = .ok (.invokestatic 40, 3) := by decide +kernel
theorem dX3_search_153 : decode cX3_search 153 = .ok (.ifCond .eq 31, 3) := by decide +kernel
theorem dX3_search_156 : decode cX3_search 156 = .ok (.aload_n 1, 1) := by decide +kernel
theorem dX3_search_157 : decode cX3_search 157 = .ok (.iload 5, 2) := by decide +kernel
theorem dX3_search_159 : decode cX3_search 159 = .ok (.invokevirtual 48, 3) := by decide +kernel
theorem dX3_search_162 : decode cX3_search 162 = .ok (.ifCond .eq 22, 3) := by decide +kernel
theorem dX3_search_165 : decode cX3_search 165 = .ok (.iload 6, 2) := by decide +kernel
theorem dX3_search_167 : decode cX3_search 167 = .ok (.ifCond .ne 17, 3) := by decide +kernel
theorem dX3_search_170 : decode cX3_search 170 = .ok (.aload_n 0, 1) := by decide +kernel
theorem dX3_search_171 : decode cX3_search 171 = .ok (.aload_n 1, 1) := by decide +kernel
theorem dX3_search_172 : decode cX3_search 172 = .ok (.iconst 1, 1) := by decide +kernel
theorem dX3_search_173 : decode cX3_search 173 = .ok (.iload 4, 2) := by decide +kernel
theorem dX3_search_175 : decode cX3_search 175 = .ok (.ishl, 1) := by decide +kernel
theorem dX3_search_176 : decode cX3_search 176 = .ok (.iconst 1, 1) := by decide +kernel
theorem dX3_search_177 : decode cX3_search 177 = .ok (.iload 5, 2) := by decide +kernel
theorem dX3_search_179 : decode cX3_search 179 = .ok (.ishl, 1) := by decide +kernel
theorem dX3_search_180 : decode cX3_search 180 = .ok (.ior, 1) := by decide +kernel
theorem dX3_search_181 : decode cX3_search 181 = .ok (.invokevirtual 44, 3) := by decide +kernel
theorem dX3_search_184 : decode cX3_search 184 = .ok (.iinc 3 1, 3) := by decide +kernel
theorem dX3_search_187 : decode cX3_search 187 = .ok (.goto (-89), 3) := by decide +kernel
theorem dX3_search_190 : decode cX3_search 190 = .ok (.aload_n 0, 1) := by decide +kernel
theorem dX3_search_191 : decode cX3_search 191 = .ok (.getfield 25, 3) := by decide +kernel
theorem dX3_search_194 : decode cX3_search 194 = .ok (.ifCond .le 7, 3) := by decide +kernel
theorem dX3_search_197 : decode cX3_search 197 = .ok (.iconst 1, 1) := by decide +kernel
theorem dX3_search_198 : decode cX3_search 198 = .ok (.goto 4, 3) := by decide +kernel
theorem dX3_search_201 : decode cX3_search 201 = .ok (.iconst 0, 1) := by decide +kernel
theorem dX3_search_202 : decode cX3_search 202 = .ok (.ireturn, 1) := by decide +kernel
theorem dX3_strike_0 : decode cX3_strike 0 = .ok (.aload_n 0, 1) := by decide +kernel
theorem dX3_strike_1 : decode cX3_strike 1 = .ok (.getfield 9, 3) := by decide +kernel
theorem dX3_strike_4 : decode cX3_strike 4 = .ok (.aload_n 1, 1) := by decide +kernel
theorem dX3_strike_5 : decode cX3_strike 5 = .ok (.aload_n 1, 1) := by decide +kernel
theorem dX3_strike_6 : decode cX3_strike 6 = .ok (.getfield 31, 3) := by decide +kernel
theorem dX3_strike_9 : decode cX3_strike 9 = .ok (.iload_n 2, 1) := by decide +kernel
theorem dX3_strike_10 : decode cX3_strike 10 = .ok (.iconst (-1), 1) := by decide +kernel
theorem dX3_strike_11 : decode cX3_strike 11 = .ok (.ixor, 1) := by decide +kernel
theorem dX3_strike_12 : decode cX3_strike 12 = .ok (.iand, 1) := by decide +kernel
theorem dX3_strike_13 : decode cX3_strike 13 = .ok (.invokevirtual 15, 3) := by decide +kernel
theorem dX3_strike_16 : decode cX3_strike 16 = .ok (.ifCond .eq 36, 3) := by decide +kernel
theorem dX3_strike_19 : decode cX3_strike 19 = .ok (.aload_n 0, 1) := by decide +kernel
theorem dX3_strike_20 : decode cX3_strike 20 = .ok (.dup, 1) := by decide +kernel
theorem dX3_strike_21 : decode cX3_strike 21 = .ok (.getfield 25, 3) := by decide +kernel
theorem dX3_strike_24 : decode cX3_strike 24 = .ok (.iconst 1, 1) := by decide +kernel
theorem dX3_strike_25 : decode cX3_strike 25 = .ok (.iadd, 1) := by decide +kernel
theorem dX3_strike_26 : decode cX3_strike 26 = .ok (.putfield 25, 3) := by decide +kernel
theorem dX3_strike_29 : decode cX3_strike 29 = .ok (.aload_n 0, 1) := by decide +kernel
theorem dX3_strike_30 : decode cX3_strike 30 = .ok (.aload_n 0, 1) := by decide +kernel
theorem dX3_strike_31 : decode cX3_strike 31 = .ok (.getfield 28, 3) := by decide +kernel
theorem dX3_strike_34 : decode cX3_strike 34 = .ok (.ifCond .ne 7, 3) := by decide +kernel
theorem dX3_strike_37 : decode cX3_strike 37 = .ok (.iload_n 2, 1) := by decide +kernel
theorem dX3_strike_38 : decode cX3_strike 38 = .ok (.goto 11, 3) := by decide +kernel
theorem dX3_strike_41 : decode cX3_strike 41 = .ok (.aload_n 0, 1) := by decide +kernel
theorem dX3_strike_42 : decode cX3_strike 42 = .ok (.getfield 28, 3) := by decide +kernel
theorem dX3_strike_45 : decode cX3_strike 45 = .ok (.iload_n 2, 1) := by decide +kernel
theorem dX3_strike_46 : decode cX3_strike 46 = .ok (.invokestatic 52, 3) := by decide +kernel
theorem dX3_strike_49 : decode cX3_strike 49 = .ok (.putfield 28, 3) := by decide +kernel
theorem dX3_strike_52 : decode cX3_strike 52 = .ok (.return_, 1) := by decide +kernel
theorem dX4_init_0 : decode cX4_init 0 = .ok (.aload_n 0, 1) := by decide +kernel
theorem dX4_init_1 : decode cX4_init 1 = .ok (.invokespecial 3, 3) := by decide +kernel
theorem dX4_init_4 : decode cX4_init 4 = .ok (.aload_n 0, 1) := by decide +kernel
theorem dX4_init_5 : decode cX4_init 5 = .ok (.bipush 32, 2) := by decide +kernel
theorem dX4_init_7 : decode cX4_init 7 = .ok (.newarray .int, 2) := by decide +kernel
theorem dX4_init_9 : decode cX4_init 9 = .ok (.putfield 9, 3) := by decide +kernel
theorem dX4_init_12 : decode cX4_init 12 = .ok (.aload_n 0, 1) := by decide +kernel
theorem dX4_init_13 : decode cX4_init 13 = .ok (.bipush 6, 2) := by decide +kernel
theorem dX4_init_15 : decode cX4_init 15 = .ok (.newarray .int, 2) := by decide +kernel
theorem dX4_init_17 : decode cX4_init 17 = .ok (.putfield 15, 3) := by decide +kernel
theorem dX4_init_20 : decode cX4_init 20 = .ok (.aload_n 0, 1) := by decide +kernel
theorem dX4_init_21 : decode cX4_init 21 = .ok (.bipush 24, 2) := by decide +kernel
theorem dX4_init_23 : decode cX4_init 23 = .ok (.newarray .int, 2) := by decide +kernel
theorem dX4_init_25 : decode cX4_init 25 = .ok (.putfield 18, 3) := by decide +kernel
theorem dX4_init_28 : decode cX4_init 28 = .ok (.aload_n 0, 1) := by decide +kernel
theorem dX4_init_29 : decode cX4_init 29 = .ok (.bipush 24, 2) := by decide +kernel
theorem dX4_init_31 : decode cX4_init 31 = .ok (.newarray .int, 2) := by decide +kernel
theorem dX4_init_33 : decode cX4_init 33 = .ok (.putfield 21, 3) := by decide +kernel
theorem dX4_init_36 : decode cX4_init 36 = .ok (.aload_n 0, 1) := by decide +kernel
theorem dX4_init_37 : decode cX4_init 37 = .ok (.bipush 24, 2) := by decide +kernel
theorem dX4_init_39 : decode cX4_init 39 = .ok (.newarray .int, 2) := by decide +kernel
theorem dX4_init_41 : decode cX4_init 41 = .ok (.putfield 24, 3) := by decide +kernel
theorem dX4_init_44 : decode cX4_init 44 = .ok (.aload_n 0, 1) := by decide +kernel
theorem dX4_init_45 : decode cX4_init 45 = .ok (.bipush 24, 2) := by decide +kernel
theorem dX4_init_47 : decode cX4_init 47 = .ok (.newarray .int, 2) := by decide +kernel
theorem dX4_init_49 : decode cX4_init 49 = .ok (.putfield 27, 3) := by decide +kernel
theorem dX4_init_52 : decode cX4_init 52 = .ok (.aload_n 0, 1) := by decide +kernel
theorem dX4_init_53 : decode cX4_init 53 = .ok (.bipush 16, 2) := by decide +kernel
theorem dX4_init_55 : decode cX4_init 55 = .ok (.newarray .int, 2) := by decide +kernel
theorem dX4_init_57 : decode cX4_init 57 = .ok (.putfield 30, 3) := by decide +kernel
theorem dX4_init_60 : decode cX4_init 60 = .ok (.aload_n 0, 1) := by decide +kernel
theorem dX4_init_61 : decode cX4_init 61 = .ok (.getfield 9, 3) := by decide +kernel
theorem dX4_init_64 : decode cX4_init 64 = .ok (.iconst (-1), 1) := by decide +kernel
theorem dX4_init_65 : decode cX4_init 65 = .ok (.invokestatic 33, 3) := by decide +kernel
theorem dX4_init_68 : decode cX4_init 68 = .ok (.aload_n 0, 1) := by decide +kernel
theorem dX4_init_69 : decode cX4_init 69 = .ok (.getfield 15, 3) := by decide +kernel
theorem dX4_init_72 : decode cX4_init 72 = .ok (.iconst (-1), 1) := by decide +kernel
theorem dX4_init_73 : decode cX4_init 73 = .ok (.invokestatic 33, 3) := by decide +kernel
theorem dX4_init_76 : decode cX4_init 76 = .ok (.aload_n 0, 1) := by decide +kernel
theorem dX4_init_77 : decode cX4_init 77 = .ok (.getfield 30, 3) := by decide +kernel
theorem dX4_init_80 : decode cX4_init 80 = .ok (.bipush 100, 2) := by decide +kernel
theorem dX4_init_82 : decode cX4_init 82 = .ok (.invokestatic 33, 3) := by decide +kernel
theorem dX4_init_85 : decode cX4_init 85 = .ok (.return_, 1) := by decide +kernel
theorem dX4_copyFrom_0 : decode cX4_copyFrom 0 = .ok (.aload_n 1, 1) := by decide +kernel
theorem dX4_copyFrom_1 : decode cX4_copyFrom 1 = .ok (.getfield 9, 3) := by decide +kernel
theorem dX4_copyFrom_4 : decode cX4_copyFrom 4 = .ok (.iconst 0, 1) := by decide +kernel
theorem dX4_copyFrom_5 : decode cX4_copyFrom 5 = .ok (.aload_n 0, 1) := by decide +kernel
theorem dX4_copyFrom_6 : decode cX4_copyFrom 6 = .ok (.getfield 9, 3) := by decide +kernel
theorem dX4_copyFrom_9 : decode cX4_copyFrom 9 = .ok (.iconst 0, 1) := by decide +kernel
theorem dX4_copyFrom_10 : decode cX4_copyFrom 10 = .ok (.bipush 32, 2) := by decide +kernel
theorem dX4_copyFrom_12 : decode cX4_copyFrom 12 = .ok (.invokestatic 39, 3) := by decide +kernel
theorem dX4_copyFrom_15 : decode cX4_copyFrom 15 = .ok (.aload_n 1, 1) := by decide +kernel
theorem dX4_copyFrom_16 : decode cX4_copyFrom 16 = .ok (.getfield 15, 3) := by decide +kernel
theorem dX4_copyFrom_19 : decode cX4_copyFrom 19 = .ok (.iconst 0, 1) := by decide +kernel
theorem dX4_copyFrom_20 : decode cX4_copyFrom 20 = .ok (.aload_n 0, 1) := by decide +kernel
theorem dX4_copyFrom_21 : decode cX4_copyFrom 21 = .ok (.getfield 15, 3) := by decide +kernel
theorem dX4_copyFrom_24 : decode cX4_copyFrom 24 = .ok (.iconst 0, 1) := by decide +kernel
theorem dX4_copyFrom_25 : decode cX4_copyFrom 25 = .ok (.bipush 6, 2) := by decide +kernel
theorem dX4_copyFrom_27 : decode cX4_copyFrom 27 = .ok (.invokestatic 39, 3) := by decide +kernel
theorem dX4_copyFrom_30 : decode cX4_copyFrom 30 = .ok (.aload_n 1, 1) := by decide +kernel
theorem dX4_copyFrom_31 : decode cX4_copyFrom 31 = .ok (.getfield 18, 3) := by decide +kernel
theorem dX4_copyFrom_34 : decode cX4_copyFrom 34 = .ok (.iconst 0, 1) := by decide +kernel
theorem dX4_copyFrom_35 : decode cX4_copyFrom 35 = .ok (.aload_n 0, 1) := by decide +kernel
theorem dX4_copyFrom_36 : decode cX4_copyFrom 36 = .ok (.getfield 18, 3) := by decide +kernel
theorem dX4_copyFrom_39 : decode cX4_copyFrom 39 = .ok (.iconst 0, 1) := by decide +kernel
theorem dX4_copyFrom_40 : decode cX4_copyFrom 40 = .ok (.bipush 24, 2) := by decide +kernel
theorem dX4_copyFrom_42 : decode cX4_copyFrom 42 = .ok (.invokestatic 39, 3) := by decide +kernel
theorem dX4_copyFrom_45 : decode cX4_copyFrom 45 = .ok (.aload_n 1, 1) := by decide +kernel
theorem dX4_copyFrom_46 : decode cX4_copyFrom 46 = .ok (.getfield 21, 3) := by decide +kernel
theorem dX4_copyFrom_49 : decode cX4_copyFrom 49 = .ok (.iconst 0, 1) := by decide +kernel
theorem dX4_copyFrom_50 : decode cX4_copyFrom 50 = .ok (.aload_n 0, 1) := by decide +kernel
theorem dX4_copyFrom_51 : decode cX4_copyFrom 51 = .ok (.getfield 21, 3) := by decide +kernel
theorem dX4_copyFrom_54 : decode cX4_copyFrom 54 = .ok (.iconst 0, 1) := by decide +kernel
theorem dX4_copyFrom_55 : decode cX4_copyFrom 55 = .ok (.bipush 24, 2) := by decide +kernel
theorem dX4_copyFrom_57 : decode cX4_copyFrom 57 = .ok (.invokestatic 39, 3) := by decide +kernel
theorem dX4_copyFrom_60 : decode cX4_copyFrom 60 = .ok (.aload_n 1, 1) := by decide +kernel
theorem dX4_copyFrom_61 : decode cX4_copyFrom 61 = .ok (.getfield 24, 3) := by decide +kernel
theorem dX4_copyFrom_64 : decode cX4_copyFrom 64 = .ok (.iconst 0, 1) := by decide +kernel
theorem dX4_copyFrom_65 : decode cX4_copyFrom 65 = .ok (.aload_n 0, 1) := by decide +kernel
theorem dX4_copyFrom_66 : decode cX4_copyFrom 66 = .ok (.getfield 24, 3) := by decide +kernel
theorem dX4_copyFrom_69 : decode cX4_copyFrom 69 = .ok (.iconst 0, 1) := by decide +kernel
theorem dX4_copyFrom_70 : decode cX4_copyFrom 70 = .ok (.bipush 24, 2) := by decide +kernel
theorem dX4_copyFrom_72 : decode cX4_copyFrom 72 = .ok (.invokestatic 39, 3) := by decide +kernel
theorem dX4_copyFrom_75 : decode cX4_copyFrom 75 = .ok (.aload_n 1, 1) := by decide +kernel
theorem dX4_copyFrom_76 : decode cX4_copyFrom 76 = .ok (.getfield 27, 3) := by decide +kernel
theorem dX4_copyFrom_79 : decode cX4_copyFrom 79 = .ok (.iconst 0, 1) := by decide +kernel
theorem dX4_copyFrom_80 : decode cX4_copyFrom 80 = .ok (.aload_n 0, 1) := by decide +kernel
theorem dX4_copyFrom_81 : decode cX4_copyFrom 81 = .ok (.getfield 27, 3) := by decide +kernel
theorem dX4_copyFrom_84 : decode cX4_copyFrom 84 = .ok (.iconst 0, 1) := by decide +kernel
theorem dX4_copyFrom_85 : decode cX4_copyFrom 85 = .ok (.bipush 24, 2) := by decide +kernel
theorem dX4_copyFrom_87 : decode cX4_copyFrom 87 = .ok (.invokestatic 39, 3) := by decide +kernel
theorem dX4_copyFrom_90 : decode cX4_copyFrom 90 = .ok (.aload_n 1, 1) := by decide +kernel
theorem dX4_copyFrom_91 : decode cX4_copyFrom 91 = .ok (.getfield 30, 3) := by decide +kernel
theorem dX4_copyFrom_94 : decode cX4_copyFrom 94 = .ok (.iconst 0, 1) := by decide +kernel
theorem dX4_copyFrom_95 : decode cX4_copyFrom 95 = .ok (.aload_n 0, 1) := by decide +kernel
theorem dX4_copyFrom_96 : decode cX4_copyFrom 96 = .ok (.getfield 30, 3) := by decide +kernel
theorem dX4_copyFrom_99 : decode cX4_copyFrom 99 = .ok (.iconst 0, 1) := by decide +kernel
theorem dX4_copyFrom_100 : decode cX4_copyFrom 100 = .ok (.bipush 16, 2) := by decide +kernel
theorem dX4_copyFrom_102 : decode cX4_copyFrom 102 = .ok (.invokestatic 39, 3) := by decide +kernel
theorem dX4_copyFrom_105 : decode cX4_copyFrom 105 = .ok (.aload_n 0, 1) := by decide +kernel
theorem dX4_copyFrom_106 : decode cX4_copyFrom 106 = .ok (.aload_n 1, 1) := by decide +kernel
theorem dX4_copyFrom_107 : decode cX4_copyFrom 107 = .ok (.getfield 45, 3) := by decide +kernel
theorem dX4_copyFrom_110 : decode cX4_copyFrom 110 = .ok (.putfield 45, 3) := by decide +kernel
theorem dX4_copyFrom_113 : decode cX4_copyFrom 113 = .ok (.aload_n 0, 1) := by decide +kernel
theorem dX4_copyFrom_114 : decode cX4_copyFrom 114 = .ok (.aload_n 1, 1) := by decide +kernel
theorem dX4_copyFrom_115 : decode cX4_copyFrom 115 = .ok (.getfield 49, 3) := by decide +kernel
theorem dX4_copyFrom_118 : decode cX4_copyFrom 118 = .ok (.putfield 49, 3) := by decide +kernel
theorem dX4_copyFrom_121 : decode cX4_copyFrom 121 = .ok (.aload_n 0, 1) := by decide +kernel
theorem dX4_copyFrom_122 : decode cX4_copyFrom 122 = .ok (.aload_n 1, 1) := by decide +kernel
theorem dX4_copyFrom_123 : decode cX4_copyFrom 123 = .ok (.getfield 52, 3) := by decide +kernel
theorem dX4_copyFrom_126 : decode cX4_copyFrom 126 = .ok (.putfield 52, 3) := by decide +kernel
theorem dX4_copyFrom_129 : decode cX4_copyFrom 129 = .ok (.return_, 1) := by decide +kernel
theorem dX4_hasRoom_0 : decode cX4_hasRoom 0 = .ok (.aload_n 0, 1) := by decide +kernel
theorem dX4_hasRoom_1 : decode cX4_hasRoom 1 = .ok (.getfield 45, 3) := by decide +kernel
theorem dX4_hasRoom_4 : decode cX4_hasRoom 4 = .ok (.bipush 24, 2) := by decide +kernel
theorem dX4_hasRoom_6 : decode cX4_hasRoom 6 = .ok (.if_icmp .ge 7, 3) := by decide +kernel
theorem dX4_hasRoom_9 : decode cX4_hasRoom 9 = .ok (.iconst 1, 1) := by decide +kernel
theorem dX4_hasRoom_10 : decode cX4_hasRoom 10 = .ok (.goto 4, 3) := by decide +kernel
theorem dX4_hasRoom_13 : decode cX4_hasRoom 13 = .ok (.iconst 0, 1) := by decide +kernel
theorem dX4_hasRoom_14 : decode cX4_hasRoom 14 = .ok (.ireturn, 1) := by decide +kernel
theorem dX4_addEntry_0 : decode cX4_addEntry 0 = .ok (.aload_n 0, 1) := by decide +kernel
theorem dX4_addEntry_1 : decode cX4_addEntry 1 = .ok (.invokevirtual 55, 3) := by decide +kernel
theorem dX4_addEntry_4 : decode cX4_addEntry 4 = .ok (.ifCond .ne 4, 3) := by decide +kernel
theorem dX4_addEntry_7 : decode cX4_addEntry 7 = .ok (.return_, 1) := by decide +kernel
theorem dX4_addEntry_8 : decode cX4_addEntry 8 = .ok (.aload_n 0, 1) := by decide +kernel
theorem dX4_addEntry_9 : decode cX4_addEntry 9 = .ok (.getfield 18, 3) := by decide +kernel
theorem dX4_addEntry_12 : decode cX4_addEntry 12 = .ok (.aload_n 0, 1) := by decide +kernel
theorem dX4_addEntry_13 : decode cX4_addEntry 13 = .ok (.getfield 45, 3) := by decide +kernel
theorem dX4_addEntry_16 : decode cX4_addEntry 16 = .ok (.iload_n 1, 1) := by decide +kernel
theorem dX4_addEntry_17 : decode cX4_addEntry 17 = .ok (.iastore, 1) := by decide +kernel
theorem dX4_addEntry_18 : decode cX4_addEntry 18 = .ok (.aload_n 0, 1) := by decide +kernel
theorem dX4_addEntry_19 : decode cX4_addEntry 19 = .ok (.getfield 21, 3) := by decide +kernel
theorem dX4_addEntry_22 : decode cX4_addEntry 22 = .ok (.aload_n 0, 1) := by decide +kernel
theorem dX4_addEntry_23 : decode cX4_addEntry 23 = .ok (.getfield 45, 3) := by decide +kernel
theorem dX4_addEntry_26 : decode cX4_addEntry 26 = .ok (.iload_n 2, 1) := by decide +kernel
theorem dX4_addEntry_27 : decode cX4_addEntry 27 = .ok (.iastore, 1) := by decide +kernel
theorem dX4_addEntry_28 : decode cX4_addEntry 28 = .ok (.aload_n 0, 1) := by decide +kernel
theorem dX4_addEntry_29 : decode cX4_addEntry 29 = .ok (.getfield 24, 3) := by decide +kernel
theorem dX4_addEntry_32 : decode cX4_addEntry 32 = .ok (.aload_n 0, 1) := by decide +kernel
theorem dX4_addEntry_33 : decode cX4_addEntry 33 = .ok (.getfield 45, 3) := by decide +kernel
theorem dX4_addEntry_36 : decode cX4_addEntry 36 = .ok (.iload_n 3, 1) := by decide +kernel
theorem dX4_addEntry_37 : decode cX4_addEntry 37 = .ok (.iastore, 1) := by decide +kernel
theorem dX4_addEntry_38 : decode cX4_addEntry 38 = .ok (.aload_n 0, 1) := by decide +kernel
theorem dX4_addEntry_39 : decode cX4_addEntry 39 = .ok (.getfield 27, 3) := by decide +kernel
theorem dX4_addEntry_42 : decode cX4_addEntry 42 = .ok (.aload_n 0, 1) := by decide +kernel
theorem dX4_addEntry_43 : decode cX4_addEntry 43 = .ok (.getfield 45, 3) := by decide +kernel
theorem dX4_addEntry_46 : decode cX4_addEntry 46 = .ok (.iload 4, 2) := by decide +kernel
theorem dX4_addEntry_48 : decode cX4_addEntry 48 = .ok (.iastore, 1) := by decide +kernel
theorem dX4_addEntry_49 : decode cX4_addEntry 49 = .ok (.aload_n 0, 1) := by decide +kernel
theorem dX4_addEntry_50 : decode cX4_addEntry 50 = .ok (.dup, 1) := by decide +kernel
theorem dX4_addEntry_51 : decode cX4_addEntry 51 = .ok (.getfield 49, 3) := by decide +kernel
theorem dX4_addEntry_54 : decode cX4_addEntry 54 = .ok (.iconst 1, 1) := by decide +kernel
theorem dX4_addEntry_55 : decode cX4_addEntry 55 = .ok (.aload_n 0, 1) := by decide +kernel
theorem dX4_addEntry_56 : decode cX4_addEntry 56 = .ok (.getfield 45, 3) := by decide +kernel
theorem dX4_addEntry_59 : decode cX4_addEntry 59 = .ok (.ishl, 1) := by decide +kernel
theorem dX4_addEntry_60 : decode cX4_addEntry 60 = .ok (.ior, 1) := by decide +kernel
theorem dX4_addEntry_61 : decode cX4_addEntry 61 = .ok (.putfield 49, 3) := by decide +kernel
theorem dX4_addEntry_64 : decode cX4_addEntry 64 = .ok (.aload_n 0, 1) := by decide +kernel
theorem dX4_addEntry_65 : decode cX4_addEntry 65 = .ok (.dup, 1) := by decide +kernel
theorem dX4_addEntry_66 : decode cX4_addEntry 66 = .ok (.getfield 45, 3) := by decide +kernel
theorem dX4_addEntry_69 : decode cX4_addEntry 69 = .ok (.iconst 1, 1) := by decide +kernel
theorem dX4_addEntry_70 : decode cX4_addEntry 70 = .ok (.iadd, 1) := by decide +kernel
theorem dX4_addEntry_71 : decode cX4_addEntry 71 = .ok (.putfield 45, 3) := by decide +kernel
theorem dX4_addEntry_74 : decode cX4_addEntry 74 = .ok (.return_, 1) := by decide +kernel
theorem dX4_isCounting_0 : decode cX4_isCounting 0 = .ok (.aload_n 0, 1) := by decide +kernel
theorem dX4_isCounting_1 : decode cX4_isCounting 1 = .ok (.getfield 49, 3) := by decide +kernel
theorem dX4_isCounting_4 : decode cX4_isCounting 4 = .ok (.iload_n 1, 1) := by decide +kernel
theorem dX4_isCounting_5 : decode cX4_isCounting 5 = .ok (.invokestatic 59, 3) := by decide +kernel
theorem dX4_isCounting_8 : decode cX4_isCounting 8 = .ok (.ireturn, 1) := by decide +kernel
theorem dX4_setCounting_0 : decode cX4_setCounting 0 = .ok (.iconst 1, 1) := by decide +kernel
theorem dX4_setCounting_1 : decode cX4_setCounting 1 = .ok (.iload_n 1, 1) := by decide +kernel
theorem dX4_setCounting_2 : decode cX4_setCounting 2 = .ok (.ishl, 1) := by decide +kernel
theorem dX4_setCounting_3 : decode cX4_setCounting 3 = .ok (.istore_n 3, 1) := by decide +kernel
theorem dX4_setCounting_4 : decode cX4_setCounting 4 = .ok (.aload_n 0, 1) := by decide +kernel
theorem dX4_setCounting_5 : decode cX4_setCounting 5 = .ok (.iload_n 2, 1) := by decide +kernel
theorem dX4_setCounting_6 : decode cX4_setCounting 6 = .ok (.ifCond .eq 12, 3) := by decide +kernel
theorem dX4_setCounting_9 : decode cX4_setCounting 9 = .ok (.aload_n 0, 1) := by decide +kernel
theorem dX4_setCounting_10 : decode cX4_setCounting 10 = .ok (.getfield 49, 3) := by decide +kernel
theorem dX4_setCounting_13 : decode cX4_setCounting 13 = .ok (.iload_n 3, 1) := by decide +kernel
theorem dX4_setCounting_14 : decode cX4_setCounting 14 = .ok (.ior, 1) := by decide +kernel
theorem dX4_setCounting_15 : decode cX4_setCounting 15 = .ok (.goto 11, 3) := by decide +kernel
theorem dX4_setCounting_18 : decode cX4_setCounting 18 = .ok (.aload_n 0, 1) := by decide +kernel
theorem dX4_setCounting_19 : decode cX4_setCounting 19 = .ok (.getfield 49, 3) := by decide +kernel
theorem dX4_setCounting_22 : decode cX4_setCounting 22 = .ok (.iload_n 3, 1) := by decide +kernel
theorem dX4_setCounting_23 : decode cX4_setCounting 23 = .ok (.iconst (-1), 1) := by decide +kernel
theorem dX4_setCounting_24 : decode cX4_setCounting 24 = .ok (.ixor, 1) := by decide +kernel
theorem dX4_setCounting_25 : decode cX4_setCounting 25 = .ok (.iand, 1) := by decide +kernel
theorem dX4_setCounting_26 : decode cX4_setCounting 26 = .ok (.putfield 49, 3) := by decide +kernel
theorem dX4_setCounting_29 : decode cX4_setCounting 29 = .ok (.return_, 1) := by decide +kernel
theorem dX4_isShorter_0 : decode cX4_isShorter 0 = .ok (.aload_n 0, 1) := by decide +kernel
theorem dX4_isShorter_1 : decode cX4_isShorter 1 = .ok (.getfield 52, 3) := by decide +kernel
theorem dX4_isShorter_4 : decode cX4_isShorter 4 = .ok (.iload_n 1, 1) := by decide +kernel
theorem dX4_isShorter_5 : decode cX4_isShorter 5 = .ok (.iconst 4, 1) := by decide +kernel
theorem dX4_isShorter_6 : decode cX4_isShorter 6 = .ok (.imul, 1) := by decide +kernel
theorem dX4_isShorter_7 : decode cX4_isShorter 7 = .ok (.iload_n 2, 1) := by decide +kernel
theorem dX4_isShorter_8 : decode cX4_isShorter 8 = .ok (.iadd, 1) := by decide +kernel
theorem dX4_isShorter_9 : decode cX4_isShorter 9 = .ok (.invokestatic 59, 3) := by decide +kernel
theorem dX4_isShorter_12 : decode cX4_isShorter 12 = .ok (.ireturn, 1) := by decide +kernel
theorem dX4_shorters_0 : decode cX4_shorters 0 = .ok (.aload_n 0, 1) := by decide +kernel
theorem dX4_shorters_1 : decode cX4_shorters 1 = .ok (.getfield 52, 3) := by decide +kernel
theorem dX4_shorters_4 : decode cX4_shorters 4 = .ok (.invokestatic 63, 3) := by decide +kernel
theorem dX4_shorters_7 : decode cX4_shorters 7 = .ok (.ireturn, 1) := by decide +kernel
theorem dX4_hasRoomForShorter_0 : decode cX4_hasRoomForShorter 0 = .ok (.aload_n 0, 1) := by decide +kernel
theorem dX4_hasRoomForShorter_1 : decode cX4_hasRoomForShorter 1 = .ok (.invokevirtual 69, 3) := by decide +kernel
theorem dX4_hasRoomForShorter_4 : decode cX4_hasRoomForShorter 4 = .ok (.bipush 6, 2) := by decide +kernel
theorem dX4_hasRoomForShorter_6 : decode cX4_hasRoomForShorter 6 = .ok (.if_icmp .ge 7, 3) := by decide +kernel
theorem dX4_hasRoomForShorter_9 : decode cX4_hasRoomForShorter 9 = .ok (.iconst 1, 1) := by decide +kernel
theorem dX4_hasRoomForShorter_10 : decode cX4_hasRoomForShorter 10 = .ok (.goto 4, 3) := by decide +kernel
theorem dX4_hasRoomForShorter_13 : decode cX4_hasRoomForShorter 13 = .ok (.iconst 0, 1) := by decide +kernel
theorem dX4_hasRoomForShorter_14 : decode cX4_hasRoomForShorter 14 = .ok (.ireturn, 1) := by decide +kernel
theorem dX4_addShorter_0 : decode cX4_addShorter 0 = .ok (.aload_n 0, 1) := by decide +kernel
theorem dX4_addShorter_1 : decode cX4_addShorter 1 = .ok (.dup, 1) := by decide +kernel
theorem dX4_addShorter_2 : decode cX4_addShorter 2 = .ok (.getfield 52, 3) := by decide +kernel
theorem dX4_addShorter_5 : decode cX4_addShorter 5 = .ok (.iconst 1, 1) := by decide +kernel
theorem dX4_addShorter_6 : decode cX4_addShorter 6 = .ok (.iload_n 1, 1) := by decide +kernel
theorem dX4_addShorter_7 : decode cX4_addShorter 7 = .ok (.iconst 4, 1) := by decide +kernel
theorem dX4_addShorter_8 : decode cX4_addShorter 8 = .ok (.imul, 1) := by decide +kernel
theorem dX4_addShorter_9 : decode cX4_addShorter 9 = .ok (.iload_n 2, 1) := by decide +kernel
theorem dX4_addShorter_10 : decode cX4_addShorter 10 = .ok (.iadd, 1) := by decide +kernel
theorem dX4_addShorter_11 : decode cX4_addShorter 11 = .ok (.ishl, 1) := by decide +kernel
theorem dX4_addShorter_12 : decode cX4_addShorter 12 = .ok (.ior, 1) := by decide +kernel
theorem dX4_addShorter_13 : decode cX4_addShorter 13 = .ok (.putfield 52, 3) := by decide +kernel
theorem dX4_addShorter_16 : decode cX4_addShorter 16 = .ok (.return_, 1) := by decide +kernel
theorem dX4_isThere_0 : decode cX4_isThere 0 = .ok (.iload_n 1, 1) := by decide +kernel
theorem dX4_isThere_1 : decode cX4_isThere 1 = .ok (.iconst 0, 1) := by decide +kernel
theorem dX4_isThere_2 : decode cX4_isThere 2 = .ok (.bipush 15, 2) := by decide +kernel
theorem dX4_isThere_4 : decode cX4_isThere 4 = .ok (.invokestatic 73, 3) := by decide +kernel
theorem dX4_isThere_7 : decode cX4_isThere 7 = .ok (.ifCond .ne 5, 3) := by decide +kernel
theorem dX4_isThere_10 : decode cX4_isThere 10 = .ok (.iconst 0, 1) := by decide +kernel
theorem dX4_isThere_11 : decode cX4_isThere 11 = .ok (.ireturn, 1) := by decide +kernel
theorem dX4_isThere_12 : decode cX4_isThere 12 = .ok (.iload_n 1, 1) := by decide +kernel
theorem dX4_isThere_13 : decode cX4_isThere 13 = .ok (.bipush 6, 2) := by decide +kernel
theorem dX4_isThere_15 : decode cX4_isThere 15 = .ok (.if_icmp .lt 13, 3) := by decide +kernel
theorem dX4_isThere_18 : decode cX4_isThere 18 = .ok (.iload_n 1, 1) := by decide +kernel
theorem dX4_isThere_19 : decode cX4_isThere 19 = .ok (.bipush 12, 2) := by decide +kernel
theorem dX4_isThere_21 : decode cX4_isThere 21 = .ok (.if_icmp .ge 7, 3) := by decide +kernel
theorem dX4_isThere_24 : decode cX4_isThere 24 = .ok (.iconst 1, 1) := by decide +kernel
theorem dX4_isThere_25 : decode cX4_isThere 25 = .ok (.goto 4, 3) := by decide +kernel
theorem dX4_isThere_28 : decode cX4_isThere 28 = .ok (.iconst 0, 1) := by decide +kernel
theorem dX4_isThere_29 : decode cX4_isThere 29 = .ok (.istore_n 2, 1) := by decide +kernel
theorem dX4_isThere_30 : decode cX4_isThere 30 = .ok (.iload_n 2, 1) := by decide +kernel
theorem dX4_isThere_31 : decode cX4_isThere 31 = .ok (.ifCond .eq 16, 3) := by decide +kernel
theorem dX4_isThere_34 : decode cX4_isThere 34 = .ok (.aload_n 0, 1) := by decide +kernel
theorem dX4_isThere_35 : decode cX4_isThere 35 = .ok (.getfield 15, 3) := by decide +kernel
theorem dX4_isThere_38 : decode cX4_isThere 38 = .ok (.iload_n 1, 1) := by decide +kernel
theorem dX4_isThere_39 : decode cX4_isThere 39 = .ok (.bipush 6, 2) := by decide +kernel
theorem dX4_isThere_41 : decode cX4_isThere 41 = .ok (.isub, 1) := by decide +kernel
theorem dX4_isThere_42 : decode cX4_isThere 42 = .ok (.iaload, 1) := by decide +kernel
theorem dX4_isThere_43 : decode cX4_isThere 43 = .ok (.iconst (-1), 1) := by decide +kernel
theorem dX4_isThere_44 : decode cX4_isThere 44 = .ok (.if_icmp .eq 7, 3) := by decide +kernel
theorem dX4_isThere_47 : decode cX4_isThere 47 = .ok (.iconst 1, 1) := by decide +kernel
theorem dX4_isThere_48 : decode cX4_isThere 48 = .ok (.goto 4, 3) := by decide +kernel
theorem dX4_isThere_51 : decode cX4_isThere 51 = .ok (.iconst 0, 1) := by decide +kernel
theorem dX4_isThere_52 : decode cX4_isThere 52 = .ok (.ireturn, 1) := by decide +kernel
theorem dX4_lengthIn_0 : decode cX4_lengthIn 0 = .ok (.aload_n 0, 1) := by decide +kernel
theorem dX4_lengthIn_1 : decode cX4_lengthIn 1 = .ok (.getfield 15, 3) := by decide +kernel
theorem dX4_lengthIn_4 : decode cX4_lengthIn 4 = .ok (.iload_n 1, 1) := by decide +kernel
theorem dX4_lengthIn_5 : decode cX4_lengthIn 5 = .ok (.iaload, 1) := by decide +kernel
theorem dX4_lengthIn_6 : decode cX4_lengthIn 6 = .ok (.istore_n 3, 1) := by decide +kernel
theorem dX4_lengthIn_7 : decode cX4_lengthIn 7 = .ok (.iload_n 3, 1) := by decide +kernel
theorem dX4_lengthIn_8 : decode cX4_lengthIn 8 = .ok (.iconst (-1), 1) := by decide +kernel
theorem dX4_lengthIn_9 : decode cX4_lengthIn 9 = .ok (.if_icmp .eq 15, 3) := by decide +kernel
theorem dX4_lengthIn_12 : decode cX4_lengthIn 12 = .ok (.iload_n 2, 1) := by decide +kernel
theorem dX4_lengthIn_13 : decode cX4_lengthIn 13 = .ok (.iload_n 3, 1) := by decide +kernel
theorem dX4_lengthIn_14 : decode cX4_lengthIn 14 = .ok (.if_icmp .lt 10, 3) := by decide +kernel
theorem dX4_lengthIn_17 : decode cX4_lengthIn 17 = .ok (.iload_n 1, 1) := by decide +kernel
theorem dX4_lengthIn_18 : decode cX4_lengthIn 18 = .ok (.bipush 6, 2) := by decide +kernel
theorem dX4_lengthIn_20 : decode cX4_lengthIn 20 = .ok (.iadd, 1) := by decide +kernel
theorem dX4_lengthIn_21 : decode cX4_lengthIn 21 = .ok (.goto 4, 3) := by decide +kernel
theorem dX4_lengthIn_24 : decode cX4_lengthIn 24 = .ok (.iload_n 1, 1) := by decide +kernel
theorem dX4_lengthIn_25 : decode cX4_lengthIn 25 = .ok (.ireturn, 1) := by decide +kernel
theorem dX4_lengthOf_0 : decode cX4_lengthOf 0 = .ok (.aload_n 0, 1) := by decide +kernel
theorem dX4_lengthOf_1 : decode cX4_lengthOf 1 = .ok (.aload_n 0, 1) := by decide +kernel
theorem dX4_lengthOf_2 : decode cX4_lengthOf 2 = .ok (.getfield 18, 3) := by decide +kernel
theorem dX4_lengthOf_5 : decode cX4_lengthOf 5 = .ok (.iload_n 1, 1) := by decide +kernel
theorem dX4_lengthOf_6 : decode cX4_lengthOf 6 = .ok (.iaload, 1) := by decide +kernel
theorem dX4_lengthOf_7 : decode cX4_lengthOf 7 = .ok (.aload_n 0, 1) := by decide +kernel
theorem dX4_lengthOf_8 : decode cX4_lengthOf 8 = .ok (.getfield 21, 3) := by decide +kernel
theorem dX4_lengthOf_11 : decode cX4_lengthOf 11 = .ok (.iload_n 1, 1) := by decide +kernel
theorem dX4_lengthOf_12 : decode cX4_lengthOf 12 = .ok (.iaload, 1) := by decide +kernel
theorem dX4_lengthOf_13 : decode cX4_lengthOf 13 = .ok (.invokevirtual 77, 3) := by decide +kernel
theorem dX4_lengthOf_16 : decode cX4_lengthOf 16 = .ok (.ireturn, 1) := by decide +kernel
theorem dX4_keeperOf_0 : decode cX4_keeperOf 0 = .ok (.aload_n 0, 1) := by decide +kernel
theorem dX4_keeperOf_1 : decode cX4_keeperOf 1 = .ok (.getfield 9, 3) := by decide +kernel
theorem dX4_keeperOf_4 : decode cX4_keeperOf 4 = .ok (.aload_n 0, 1) := by decide +kernel
theorem dX4_keeperOf_5 : decode cX4_keeperOf 5 = .ok (.getfield 21, 3) := by decide +kernel
theorem dX4_keeperOf_8 : decode cX4_keeperOf 8 = .ok (.iload_n 1, 1) := by decide +kernel
theorem dX4_keeperOf_9 : decode cX4_keeperOf 9 = .ok (.iaload, 1) := by decide +kernel
theorem dX4_keeperOf_10 : decode cX4_keeperOf 10 = .ok (.iaload, 1) := by decide +kernel
theorem dX4_keeperOf_11 : decode cX4_keeperOf 11 = .ok (.ireturn, 1) := by decide +kernel
theorem dX4_leastHalves_0 : decode cX4_leastHalves 0 = .ok (.iconst 2, 1) := by decide +kernel
theorem dX4_leastHalves_1 : decode cX4_leastHalves 1 = .ok (.aload_n 0, 1) := by decide +kernel
theorem dX4_leastHalves_2 : decode cX4_leastHalves 2 = .ok (.getfield 24, 3) := by decide +kernel
theorem dX4_leastHalves_5 : decode cX4_leastHalves 5 = .ok (.iload_n 1, 1) := by decide +kernel
theorem dX4_leastHalves_6 : decode cX4_leastHalves 6 = .ok (.iaload, 1) := by decide +kernel
theorem dX4_leastHalves_7 : decode cX4_leastHalves 7 = .ok (.imul, 1) := by decide +kernel
theorem dX4_leastHalves_8 : decode cX4_leastHalves 8 = .ok (.aload_n 0, 1) := by decide +kernel
theorem dX4_leastHalves_9 : decode cX4_leastHalves 9 = .ok (.getfield 27, 3) := by decide +kernel
theorem dX4_leastHalves_12 : decode cX4_leastHalves 12 = .ok (.iload_n 1, 1) := by decide +kernel
theorem dX4_leastHalves_13 : decode cX4_leastHalves 13 = .ok (.iaload, 1) := by decide +kernel
theorem dX4_leastHalves_14 : decode cX4_leastHalves 14 = .ok (.iconst 2, 1) := by decide +kernel
theorem dX4_leastHalves_15 : decode cX4_leastHalves 15 = .ok (.if_icmp .ne 7, 3) := by decide +kernel
theorem dX4_leastHalves_18 : decode cX4_leastHalves 18 = .ok (.iconst 1, 1) := by decide +kernel
theorem dX4_leastHalves_19 : decode cX4_leastHalves 19 = .ok (.goto 4, 3) := by decide +kernel
theorem dX4_leastHalves_22 : decode cX4_leastHalves 22 = .ok (.iconst 0, 1) := by decide +kernel
theorem dX4_leastHalves_23 : decode cX4_leastHalves 23 = .ok (.isub, 1) := by decide +kernel
theorem dX4_leastHalves_24 : decode cX4_leastHalves 24 = .ok (.ireturn, 1) := by decide +kernel
theorem dX4_endHalves_0 : decode cX4_endHalves 0 = .ok (.aload_n 0, 1) := by decide +kernel
theorem dX4_endHalves_1 : decode cX4_endHalves 1 = .ok (.getfield 27, 3) := by decide +kernel
theorem dX4_endHalves_4 : decode cX4_endHalves 4 = .ok (.iload_n 1, 1) := by decide +kernel
theorem dX4_endHalves_5 : decode cX4_endHalves 5 = .ok (.iaload, 1) := by decide +kernel
theorem dX4_endHalves_6 : decode cX4_endHalves 6 = .ok (.ifCond .ne 12, 3) := by decide +kernel
theorem dX4_endHalves_9 : decode cX4_endHalves 9 = .ok (.iconst 2, 1) := by decide +kernel
theorem dX4_endHalves_10 : decode cX4_endHalves 10 = .ok (.aload_n 0, 1) := by decide +kernel
theorem dX4_endHalves_11 : decode cX4_endHalves 11 = .ok (.getfield 24, 3) := by decide +kernel
theorem dX4_endHalves_14 : decode cX4_endHalves 14 = .ok (.iload_n 1, 1) := by decide +kernel
theorem dX4_endHalves_15 : decode cX4_endHalves 15 = .ok (.iaload, 1) := by decide +kernel
theorem dX4_endHalves_16 : decode cX4_endHalves 16 = .ok (.imul, 1) := by decide +kernel
theorem dX4_endHalves_17 : decode cX4_endHalves 17 = .ok (.ireturn, 1) := by decide +kernel
theorem dX4_endHalves_18 : decode cX4_endHalves 18 = .ok (.aload_n 0, 1) := by decide +kernel
theorem dX4_endHalves_19 : decode cX4_endHalves 19 = .ok (.iload_n 1, 1) := by decide +kernel
theorem dX4_endHalves_20 : decode cX4_endHalves 20 = .ok (.invokevirtual 81, 3) := by decide +kernel
theorem dX4_endHalves_23 : decode cX4_endHalves 23 = .ok (.iconst 2, 1) := by decide +kernel
theorem dX4_endHalves_24 : decode cX4_endHalves 24 = .ok (.iadd, 1) := by decide +kernel
theorem dX4_endHalves_25 : decode cX4_endHalves 25 = .ok (.ireturn, 1) := by decide +kernel
theorem dX4_wholeFeet_0 : decode cX4_wholeFeet 0 = .ok (.aload_n 0, 1) := by decide +kernel
theorem dX4_wholeFeet_1 : decode cX4_wholeFeet 1 = .ok (.getfield 30, 3) := by decide +kernel
theorem dX4_wholeFeet_4 : decode cX4_wholeFeet 4 = .ok (.iload_n 1, 1) := by decide +kernel
theorem dX4_wholeFeet_5 : decode cX4_wholeFeet 5 = .ok (.iaload, 1) := by decide +kernel
theorem dX4_wholeFeet_6 : decode cX4_wholeFeet 6 = .ok (.i2l, 1) := by decide +kernel
theorem dX4_wholeFeet_7 : decode cX4_wholeFeet 7 = .ok (.aload_n 0, 1) := by decide +kernel
theorem dX4_wholeFeet_8 : decode cX4_wholeFeet 8 = .ok (.getfield 30, 3) := by decide +kernel
theorem dX4_wholeFeet_11 : decode cX4_wholeFeet 11 = .ok (.bipush 12, 2) := by decide +kernel
theorem dX4_wholeFeet_13 : decode cX4_wholeFeet 13 = .ok (.iload_n 2, 1) := by decide +kernel
theorem dX4_wholeFeet_14 : decode cX4_wholeFeet 14 = .ok (.iadd, 1) := by decide +kernel
theorem dX4_wholeFeet_15 : decode cX4_wholeFeet 15 = .ok (.iaload, 1) := by decide +kernel
theorem dX4_wholeFeet_16 : decode cX4_wholeFeet 16 = .ok (.i2l, 1) := by decide +kernel
theorem dX4_wholeFeet_17 : decode cX4_wholeFeet 17 = .ok (.invokestatic 84, 3) := by decide +kernel
theorem dX4_wholeFeet_20 : decode cX4_wholeFeet 20 = .ok (.l2i, 1) := by decide +kernel
theorem dX4_wholeFeet_21 : decode cX4_wholeFeet 21 = .ok (.ireturn, 1) := by decide +kernel
theorem dX4_isSoByWorld_0 : decode cX4_isSoByWorld 0 = .ok (.aload_n 0, 1) := by decide +kernel
theorem dX4_isSoByWorld_1 : decode cX4_isSoByWorld 1 = .ok (.iload_n 1, 1) := by decide +kernel
theorem dX4_isSoByWorld_2 : decode cX4_isSoByWorld 2 = .ok (.invokevirtual 88, 3) := by decide +kernel
theorem dX4_isSoByWorld_5 : decode cX4_isSoByWorld 5 = .ok (.istore_n 2, 1) := by decide +kernel
theorem dX4_isSoByWorld_6 : decode cX4_isSoByWorld 6 = .ok (.iload_n 2, 1) := by decide +kernel
theorem dX4_isSoByWorld_7 : decode cX4_isSoByWorld 7 = .ok (.iconst (-1), 1) := by decide +kernel
theorem dX4_isSoByWorld_8 : decode cX4_isSoByWorld 8 = .ok (.if_icmp .ne 5, 3) := by decide +kernel
theorem dX4_isSoByWorld_11 : decode cX4_isSoByWorld 11 = .ok (.iconst 1, 1) := by decide +kernel
theorem dX4_isSoByWorld_12 : decode cX4_isSoByWorld 12 = .ok (.ireturn, 1) := by decide +kernel
theorem dX4_isSoByWorld_13 : decode cX4_isSoByWorld 13 = .ok (.aload_n 0, 1) := by decide +kernel
theorem dX4_isSoByWorld_14 : decode cX4_isSoByWorld 14 = .ok (.getfield 30, 3) := by decide +kernel
theorem dX4_isSoByWorld_17 : decode cX4_isSoByWorld 17 = .ok (.bipush 12, 2) := by decide +kernel
theorem dX4_isSoByWorld_19 : decode cX4_isSoByWorld 19 = .ok (.iload_n 2, 1) := by decide +kernel
theorem dX4_isSoByWorld_20 : decode cX4_isSoByWorld 20 = .ok (.iadd, 1) := by decide +kernel
theorem dX4_isSoByWorld_21 : decode cX4_isSoByWorld 21 = .ok (.iaload, 1) := by decide +kernel
theorem dX4_isSoByWorld_22 : decode cX4_isSoByWorld 22 = .ok (.istore_n 3, 1) := by decide +kernel
theorem dX4_isSoByWorld_23 : decode cX4_isSoByWorld 23 = .ok (.iconst 2, 1) := by decide +kernel
theorem dX4_isSoByWorld_24 : decode cX4_isSoByWorld 24 = .ok (.aload_n 0, 1) := by decide +kernel
theorem dX4_isSoByWorld_25 : decode cX4_isSoByWorld 25 = .ok (.getfield 30, 3) := by decide +kernel
theorem dX4_isSoByWorld_28 : decode cX4_isSoByWorld 28 = .ok (.aload_n 0, 1) := by decide +kernel
theorem dX4_isSoByWorld_29 : decode cX4_isSoByWorld 29 = .ok (.iload_n 1, 1) := by decide +kernel
theorem dX4_isSoByWorld_30 : decode cX4_isSoByWorld 30 = .ok (.invokevirtual 91, 3) := by decide +kernel
theorem dX4_isSoByWorld_33 : decode cX4_isSoByWorld 33 = .ok (.iaload, 1) := by decide +kernel
theorem dX4_isSoByWorld_34 : decode cX4_isSoByWorld 34 = .ok (.imul, 1) := by decide +kernel
theorem dX4_isSoByWorld_35 : decode cX4_isSoByWorld 35 = .ok (.istore 4, 2) := by decide +kernel
theorem dX4_isSoByWorld_37 : decode cX4_isSoByWorld 37 = .ok (.aload_n 0, 1) := by decide +kernel
theorem dX4_isSoByWorld_38 : decode cX4_isSoByWorld 38 = .ok (.iload_n 1, 1) := by decide +kernel
theorem dX4_isSoByWorld_39 : decode cX4_isSoByWorld 39 = .ok (.invokevirtual 81, 3) := by decide +kernel
theorem dX4_isSoByWorld_42 : decode cX4_isSoByWorld 42 = .ok (.iload_n 3, 1) := by decide +kernel
theorem dX4_isSoByWorld_43 : decode cX4_isSoByWorld 43 = .ok (.imul, 1) := by decide +kernel
theorem dX4_isSoByWorld_44 : decode cX4_isSoByWorld 44 = .ok (.istore 5, 2) := by decide +kernel
theorem dX4_isSoByWorld_46 : decode cX4_isSoByWorld 46 = .ok (.aload_n 0, 1) := by decide +kernel
theorem dX4_isSoByWorld_47 : decode cX4_isSoByWorld 47 = .ok (.iload_n 1, 1) := by decide +kernel
theorem dX4_isSoByWorld_48 : decode cX4_isSoByWorld 48 = .ok (.invokevirtual 94, 3) := by decide +kernel
theorem dX4_isSoByWorld_51 : decode cX4_isSoByWorld 51 = .ok (.iload_n 3, 1) := by decide +kernel
theorem dX4_isSoByWorld_52 : decode cX4_isSoByWorld 52 = .ok (.imul, 1) := by decide +kernel
theorem dX4_isSoByWorld_53 : decode cX4_isSoByWorld 53 = .ok (.istore 6, 2) := by decide +kernel
theorem dX4_isSoByWorld_55 : decode cX4_isSoByWorld 55 = .ok (.aload_n 0, 1) := by decide +kernel
theorem dX4_isSoByWorld_56 : decode cX4_isSoByWorld 56 = .ok (.getfield 27, 3) := by decide +kernel
theorem dX4_isSoByWorld_59 : decode cX4_isSoByWorld 59 = .ok (.iload_n 1, 1) := by decide +kernel
theorem dX4_isSoByWorld_60 : decode cX4_isSoByWorld 60 = .ok (.iaload, 1) := by decide +kernel
theorem dX4_isSoByWorld_61 : decode cX4_isSoByWorld 61 = .ok (.ifCond .ne 18, 3) := by decide +kernel
theorem dX4_isSoByWorld_64 : decode cX4_isSoByWorld 64 = .ok (.iload 4, 2) := by decide +kernel
theorem dX4_isSoByWorld_66 : decode cX4_isSoByWorld 66 = .ok (.iload 6, 2) := by decide +kernel
theorem dX4_isSoByWorld_68 : decode cX4_isSoByWorld 68 = .ok (.if_icmp .ne 7, 3) := by decide +kernel
theorem dX4_isSoByWorld_71 : decode cX4_isSoByWorld 71 = .ok (.iconst 1, 1) := by decide +kernel
theorem dX4_isSoByWorld_72 : decode cX4_isSoByWorld 72 = .ok (.goto 26, 3) := by decide +kernel
theorem dX4_isSoByWorld_75 : decode cX4_isSoByWorld 75 = .ok (.iconst 0, 1) := by decide +kernel
theorem dX4_isSoByWorld_76 : decode cX4_isSoByWorld 76 = .ok (.goto 22, 3) := by decide +kernel
theorem dX4_isSoByWorld_79 : decode cX4_isSoByWorld 79 = .ok (.iload 4, 2) := by decide +kernel
theorem dX4_isSoByWorld_81 : decode cX4_isSoByWorld 81 = .ok (.iload 5, 2) := by decide +kernel
theorem dX4_isSoByWorld_83 : decode cX4_isSoByWorld 83 = .ok (.if_icmp .lt 14, 3) := by decide +kernel
theorem dX4_isSoByWorld_86 : decode cX4_isSoByWorld 86 = .ok (.iload 4, 2) := by decide +kernel
theorem dX4_isSoByWorld_88 : decode cX4_isSoByWorld 88 = .ok (.iload 6, 2) := by decide +kernel
theorem dX4_isSoByWorld_90 : decode cX4_isSoByWorld 90 = .ok (.if_icmp .ge 7, 3) := by decide +kernel
theorem dX4_isSoByWorld_93 : decode cX4_isSoByWorld 93 = .ok (.iconst 1, 1) := by decide +kernel
theorem dX4_isSoByWorld_94 : decode cX4_isSoByWorld 94 = .ok (.goto 4, 3) := by decide +kernel
theorem dX4_isSoByWorld_97 : decode cX4_isSoByWorld 97 = .ok (.iconst 0, 1) := by decide +kernel
theorem dX4_isSoByWorld_98 : decode cX4_isSoByWorld 98 = .ok (.ireturn, 1) := by decide +kernel
theorem dX4_hasShortersByWorld_0 : decode cX4_hasShortersByWorld 0 = .ok (.iconst 0, 1) := by decide +kernel
theorem dX4_hasShortersByWorld_1 : decode cX4_hasShortersByWorld 1 = .ok (.istore_n 1, 1) := by decide +kernel
theorem dX4_hasShortersByWorld_2 : decode cX4_hasShortersByWorld 2 = .ok (.iload_n 1, 1) := by decide +kernel
theorem dX4_hasShortersByWorld_3 : decode cX4_hasShortersByWorld 3 = .ok (.bipush 16, 2) := by decide +kernel
theorem dX4_hasShortersByWorld_5 : decode cX4_hasShortersByWorld 5 = .ok (.if_icmp .ge 51, 3) := by decide +kernel
theorem dX4_hasShortersByWorld_8 : decode cX4_hasShortersByWorld 8 = .ok (.aload_n 0, 1) := by decide +kernel
theorem dX4_hasShortersByWorld_9 : decode cX4_hasShortersByWorld 9 = .ok (.getfield 30, 3) := by decide +kernel
theorem dX4_hasShortersByWorld_12 : decode cX4_hasShortersByWorld 12 = .ok (.bipush 12, 2) := by decide +kernel
theorem dX4_hasShortersByWorld_14 : decode cX4_hasShortersByWorld 14 = .ok (.iload_n 1, 1) := by decide +kernel
theorem dX4_hasShortersByWorld_15 : decode cX4_hasShortersByWorld 15 = .ok (.iconst 4, 1) := by decide +kernel
theorem dX4_hasShortersByWorld_16 : decode cX4_hasShortersByWorld 16 = .ok (.idiv, 1) := by decide +kernel
theorem dX4_hasShortersByWorld_17 : decode cX4_hasShortersByWorld 17 = .ok (.iadd, 1) := by decide +kernel
theorem dX4_hasShortersByWorld_18 : decode cX4_hasShortersByWorld 18 = .ok (.iaload, 1) := by decide +kernel
theorem dX4_hasShortersByWorld_19 : decode cX4_hasShortersByWorld 19 = .ok (.istore_n 2, 1) := by decide +kernel
theorem dX4_hasShortersByWorld_20 : decode cX4_hasShortersByWorld 20 = .ok (.aload_n 0, 1) := by decide +kernel
theorem dX4_hasShortersByWorld_21 : decode cX4_hasShortersByWorld 21 = .ok (.getfield 30, 3) := by decide +kernel
theorem dX4_hasShortersByWorld_24 : decode cX4_hasShortersByWorld 24 = .ok (.bipush 12, 2) := by decide +kernel
theorem dX4_hasShortersByWorld_26 : decode cX4_hasShortersByWorld 26 = .ok (.iload_n 1, 1) := by decide +kernel
theorem dX4_hasShortersByWorld_27 : decode cX4_hasShortersByWorld 27 = .ok (.iconst 4, 1) := by decide +kernel
theorem dX4_hasShortersByWorld_28 : decode cX4_hasShortersByWorld 28 = .ok (.irem, 1) := by decide +kernel
theorem dX4_hasShortersByWorld_29 : decode cX4_hasShortersByWorld 29 = .ok (.iadd, 1) := by decide +kernel
theorem dX4_hasShortersByWorld_30 : decode cX4_hasShortersByWorld 30 = .ok (.iaload, 1) := by decide +kernel
theorem dX4_hasShortersByWorld_31 : decode cX4_hasShortersByWorld 31 = .ok (.istore_n 3, 1) := by decide +kernel
theorem dX4_hasShortersByWorld_32 : decode cX4_hasShortersByWorld 32 = .ok (.aload_n 0, 1) := by decide +kernel
theorem dX4_hasShortersByWorld_33 : decode cX4_hasShortersByWorld 33 = .ok (.getfield 52, 3) := by decide +kernel
theorem dX4_hasShortersByWorld_36 : decode cX4_hasShortersByWorld 36 = .ok (.iload_n 1, 1) := by decide +kernel
theorem dX4_hasShortersByWorld_37 : decode cX4_hasShortersByWorld 37 = .ok (.invokestatic 59, 3) := by decide +kernel
theorem dX4_hasShortersByWorld_40 : decode cX4_hasShortersByWorld 40 = .ok (.ifCond .eq 10, 3) := by decide +kernel
theorem dX4_hasShortersByWorld_43 : decode cX4_hasShortersByWorld 43 = .ok (.iload_n 2, 1) := by decide +kernel
theorem dX4_hasShortersByWorld_44 : decode cX4_hasShortersByWorld 44 = .ok (.iload_n 3, 1) := by decide +kernel
theorem dX4_hasShortersByWorld_45 : decode cX4_hasShortersByWorld 45 = .ok (.if_icmp .lt 5, 3) := by decide +kernel
theorem dX4_hasShortersByWorld_48 : decode cX4_hasShortersByWorld 48 = .ok (.iconst 0, 1) := by decide +kernel
theorem dX4_hasShortersByWorld_49 : decode cX4_hasShortersByWorld 49 = .ok (.ireturn, 1) := by decide +kernel
theorem dX4_hasShortersByWorld_50 : decode cX4_hasShortersByWorld 50 = .ok (.iinc 1 1, 3) := by decide +kernel
theorem dX4_hasShortersByWorld_53 : decode cX4_hasShortersByWorld 53 = .ok (.goto (-51), 3) := by decide +kernel
theorem dX4_hasShortersByWorld_56 : decode cX4_hasShortersByWorld 56 = .ok (.iconst 1, 1) := by decide +kernel
theorem dX4_hasShortersByWorld_57 : decode cX4_hasShortersByWorld 57 = .ok (.ireturn, 1) := by decide +kernel
theorem dX4_hasCutsByWorld_0 : decode cX4_hasCutsByWorld 0 = .ok (.iconst 0, 1) := by decide +kernel
theorem dX4_hasCutsByWorld_1 : decode cX4_hasCutsByWorld 1 = .ok (.istore_n 1, 1) := by decide +kernel
theorem dX4_hasCutsByWorld_2 : decode cX4_hasCutsByWorld 2 = .ok (.iload_n 1, 1) := by decide +kernel
theorem dX4_hasCutsByWorld_3 : decode cX4_hasCutsByWorld 3 = .ok (.bipush 6, 2) := by decide +kernel
theorem dX4_hasCutsByWorld_5 : decode cX4_hasCutsByWorld 5 = .ok (.if_icmp .ge 39, 3) := by decide +kernel
theorem dX4_hasCutsByWorld_8 : decode cX4_hasCutsByWorld 8 = .ok (.aload_n 0, 1) := by decide +kernel
theorem dX4_hasCutsByWorld_9 : decode cX4_hasCutsByWorld 9 = .ok (.getfield 15, 3) := by decide +kernel
theorem dX4_hasCutsByWorld_12 : decode cX4_hasCutsByWorld 12 = .ok (.iload_n 1, 1) := by decide +kernel
theorem dX4_hasCutsByWorld_13 : decode cX4_hasCutsByWorld 13 = .ok (.iaload, 1) := by decide +kernel
theorem dX4_hasCutsByWorld_14 : decode cX4_hasCutsByWorld 14 = .ok (.iconst (-1), 1) := by decide +kernel
theorem dX4_hasCutsByWorld_15 : decode cX4_hasCutsByWorld 15 = .ok (.if_icmp .eq 23, 3) := by decide +kernel
theorem dX4_hasCutsByWorld_18 : decode cX4_hasCutsByWorld 18 = .ok (.aload_n 0, 1) := by decide +kernel
theorem dX4_hasCutsByWorld_19 : decode cX4_hasCutsByWorld 19 = .ok (.getfield 30, 3) := by decide +kernel
theorem dX4_hasCutsByWorld_22 : decode cX4_hasCutsByWorld 22 = .ok (.iload_n 1, 1) := by decide +kernel
theorem dX4_hasCutsByWorld_23 : decode cX4_hasCutsByWorld 23 = .ok (.bipush 6, 2) := by decide +kernel
theorem dX4_hasCutsByWorld_25 : decode cX4_hasCutsByWorld 25 = .ok (.iadd, 1) := by decide +kernel
theorem dX4_hasCutsByWorld_26 : decode cX4_hasCutsByWorld 26 = .ok (.iaload, 1) := by decide +kernel
theorem dX4_hasCutsByWorld_27 : decode cX4_hasCutsByWorld 27 = .ok (.aload_n 0, 1) := by decide +kernel
theorem dX4_hasCutsByWorld_28 : decode cX4_hasCutsByWorld 28 = .ok (.getfield 30, 3) := by decide +kernel
theorem dX4_hasCutsByWorld_31 : decode cX4_hasCutsByWorld 31 = .ok (.iload_n 1, 1) := by decide +kernel
theorem dX4_hasCutsByWorld_32 : decode cX4_hasCutsByWorld 32 = .ok (.iaload, 1) := by decide +kernel
theorem dX4_hasCutsByWorld_33 : decode cX4_hasCutsByWorld 33 = .ok (.if_icmp .le 5, 3) := by decide +kernel
theorem dX4_hasCutsByWorld_36 : decode cX4_hasCutsByWorld 36 = .ok (.iconst 0, 1) := by decide +kernel
theorem dX4_hasCutsByWorld_37 : decode cX4_hasCutsByWorld 37 = .ok (.ireturn, 1) := by decide +kernel
theorem dX4_hasCutsByWorld_38 : decode cX4_hasCutsByWorld 38 = .ok (.iinc 1 1, 3) := by decide +kernel
theorem dX4_hasCutsByWorld_41 : decode cX4_hasCutsByWorld 41 = .ok (.goto (-39), 3) := by decide +kernel
theorem dX4_hasCutsByWorld_44 : decode cX4_hasCutsByWorld 44 = .ok (.iconst 1, 1) := by decide +kernel
theorem dX4_hasCutsByWorld_45 : decode cX4_hasCutsByWorld 45 = .ok (.ireturn, 1) := by decide +kernel
theorem dX5_init_0 : decode cX5_init 0 = .ok (.aload_n 0, 1) := by decide +kernel
theorem dX5_init_1 : decode cX5_init 1 = .ok (.invokespecial 3, 3) := by decide +kernel
theorem dX5_init_4 : decode cX5_init 4 = .ok (.aload_n 0, 1) := by decide +kernel
theorem dX5_init_5 : decode cX5_init 5 = .ok (.bipush 32, 2) := by decide +kernel
theorem dX5_init_7 : decode cX5_init 7 = .ok (.newarray .int, 2) := by decide +kernel
theorem dX5_init_9 : decode cX5_init 9 = .ok (.putfield 9, 3) := by decide +kernel
theorem dX5_init_12 : decode cX5_init 12 = .ok (.return_, 1) := by decide +kernel
theorem dX5_draw_0 : decode cX5_draw 0 = .ok (.iload_n 1, 1) := by decide +kernel
theorem dX5_draw_1 : decode cX5_draw 1 = .ok (.istore_n 2, 1) := by decide +kernel
theorem dX5_draw_2 : decode cX5_draw 2 = .ok (.iconst 0, 1) := by decide +kernel
theorem dX5_draw_3 : decode cX5_draw 3 = .ok (.istore_n 3, 1) := by decide +kernel
theorem dX5_draw_4 : decode cX5_draw 4 = .ok (.iload_n 3, 1) := by decide +kernel
theorem dX5_draw_5 : decode cX5_draw 5 = .ok (.bipush 32, 2) := by decide +kernel
theorem dX5_draw_7 : decode cX5_draw 7 = .ok (.if_icmp .ge 31, 3) := by decide +kernel
theorem dX5_draw_10 : decode cX5_draw 10 = .ok (.iload_n 2, 1) := by decide +kernel
theorem dX5_draw_11 : decode cX5_draw 11 = .ok (.sipush 1103, 3) := by decide +kernel
theorem dX5_draw_14 : decode cX5_draw 14 = .ok (.imul, 1) := by decide +kernel
theorem dX5_draw_15 : decode cX5_draw 15 = .ok (.sipush 12345, 3) := by decide +kernel
theorem dX5_draw_18 : decode cX5_draw 18 = .ok (.iadd, 1) := by decide +kernel
theorem dX5_draw_19 : decode cX5_draw 19 = .ok (.ldc 15, 2) := by decide +kernel
theorem dX5_draw_21 : decode cX5_draw 21 = .ok (.irem, 1) := by decide +kernel
theorem dX5_draw_22 : decode cX5_draw 22 = .ok (.istore_n 2, 1) := by decide +kernel
theorem dX5_draw_23 : decode cX5_draw 23 = .ok (.aload_n 0, 1) := by decide +kernel
theorem dX5_draw_24 : decode cX5_draw 24 = .ok (.getfield 9, 3) := by decide +kernel
theorem dX5_draw_27 : decode cX5_draw 27 = .ok (.iload_n 3, 1) := by decide +kernel
theorem dX5_draw_28 : decode cX5_draw 28 = .ok (.iload_n 2, 1) := by decide +kernel
theorem dX5_draw_29 : decode cX5_draw 29 = .ok (.iconst 4, 1) := by decide +kernel
theorem dX5_draw_30 : decode cX5_draw 30 = .ok (.irem, 1) := by decide +kernel
theorem dX5_draw_31 : decode cX5_draw 31 = .ok (.iastore, 1) := by decide +kernel
theorem dX5_draw_32 : decode cX5_draw 32 = .ok (.iinc 3 1, 3) := by decide +kernel
theorem dX5_draw_35 : decode cX5_draw 35 = .ok (.goto (-31), 3) := by decide +kernel
theorem dX5_draw_38 : decode cX5_draw 38 = .ok (.aload_n 0, 1) := by decide +kernel
theorem dX5_draw_39 : decode cX5_draw 39 = .ok (.iconst 1, 1) := by decide +kernel
theorem dX5_draw_40 : decode cX5_draw 40 = .ok (.putfield 16, 3) := by decide +kernel
theorem dX5_draw_43 : decode cX5_draw 43 = .ok (.return_, 1) := by decide +kernel
theorem dX5_bestTrade_0 : decode cX5_bestTrade 0 = .ok (.iconst 0, 1) := by decide +kernel
theorem dX5_bestTrade_1 : decode cX5_bestTrade 1 = .ok (.istore_n 3, 1) := by decide +kernel
theorem dX5_bestTrade_2 : decode cX5_bestTrade 2 = .ok (.aload_n 0, 1) := by decide +kernel
theorem dX5_bestTrade_3 : decode cX5_bestTrade 3 = .ok (.iconst (-1), 1) := by decide +kernel
theorem dX5_bestTrade_4 : decode cX5_bestTrade 4 = .ok (.putfield 20, 3) := by decide +kernel
theorem dX5_bestTrade_7 : decode cX5_bestTrade 7 = .ok (.aload_n 0, 1) := by decide +kernel
theorem dX5_bestTrade_8 : decode cX5_bestTrade 8 = .ok (.iconst (-1), 1) := by decide +kernel
theorem dX5_bestTrade_9 : decode cX5_bestTrade 9 = .ok (.putfield 24, 3) := by decide +kernel
theorem dX5_bestTrade_12 : decode cX5_bestTrade 12 = .ok (.iconst 0, 1) := by decide +kernel
theorem dX5_bestTrade_13 : decode cX5_bestTrade 13 = .ok (.istore 4, 2) := by decide +kernel
theorem dX5_bestTrade_15 : decode cX5_bestTrade 15 = .ok (.iload 4, 2) := by decide +kernel
theorem dX5_bestTrade_17 : decode cX5_bestTrade 17 = .ok (.bipush 32, 2) := by decide +kernel
theorem dX5_bestTrade_19 : decode cX5_bestTrade 19 = .ok (.if_icmp .ge 80, 3) := by decide +kernel
theorem dX5_bestTrade_22 : decode cX5_bestTrade 22 = .ok (.aload_n 1, 1) := by decide +kernel
theorem dX5_bestTrade_23 : decode cX5_bestTrade 23 = .ok (.iload_n 2, 1) := by decide +kernel
theorem dX5_bestTrade_24 : decode cX5_bestTrade 24 = .ok (.aload_n 0, 1) := by decide +kernel
theorem dX5_bestTrade_25 : decode cX5_bestTrade 25 = .ok (.getfield 9, 3) := by decide +kernel
theorem dX5_bestTrade_28 : decode cX5_bestTrade 28 = .ok (.iload 4, 2) := by decide +kernel
theorem dX5_bestTrade_30 : decode cX5_bestTrade 30 = .ok (.iaload, 1) := by decide +kernel
theorem dX5_bestTrade_31 : decode cX5_bestTrade 31 = .ok (.invokevirtual 27, 3) := by decide +kernel
theorem dX5_bestTrade_34 : decode cX5_bestTrade 34 = .ok (.istore 5, 2) := by decide +kernel
theorem dX5_bestTrade_36 : decode cX5_bestTrade 36 = .ok (.iload 4, 2) := by decide +kernel
theorem dX5_bestTrade_38 : decode cX5_bestTrade 38 = .ok (.iconst 1, 1) := by decide +kernel
theorem dX5_bestTrade_39 : decode cX5_bestTrade 39 = .ok (.iadd, 1) := by decide +kernel
theorem dX5_bestTrade_40 : decode cX5_bestTrade 40 = .ok (.istore 6, 2) := by decide +kernel
theorem dX5_bestTrade_42 : decode cX5_bestTrade 42 = .ok (.iload 6, 2) := by decide +kernel
theorem dX5_bestTrade_44 : decode cX5_bestTrade 44 = .ok (.bipush 32, 2) := by decide +kernel
theorem dX5_bestTrade_46 : decode cX5_bestTrade 46 = .ok (.if_icmp .ge 47, 3) := by decide +kernel
theorem dX5_bestTrade_49 : decode cX5_bestTrade 49 = .ok (.aload_n 1, 1) := by decide +kernel
theorem dX5_bestTrade_50 : decode cX5_bestTrade 50 = .ok (.iload_n 2, 1) := by decide +kernel
theorem dX5_bestTrade_51 : decode cX5_bestTrade 51 = .ok (.aload_n 0, 1) := by decide +kernel
theorem dX5_bestTrade_52 : decode cX5_bestTrade 52 = .ok (.getfield 9, 3) := by decide +kernel
theorem dX5_bestTrade_55 : decode cX5_bestTrade 55 = .ok (.iload 6, 2) := by decide +kernel
theorem dX5_bestTrade_57 : decode cX5_bestTrade 57 = .ok (.iaload, 1) := by decide +kernel
theorem dX5_bestTrade_58 : decode cX5_bestTrade 58 = .ok (.invokevirtual 27, 3) := by decide +kernel
theorem dX5_bestTrade_61 : decode cX5_bestTrade 61 = .ok (.iload 5, 2) := by decide +kernel
theorem dX5_bestTrade_63 : decode cX5_bestTrade 63 = .ok (.isub, 1) := by decide +kernel
theorem dX5_bestTrade_64 : decode cX5_bestTrade 64 = .ok (.istore 7, 2) := by decide +kernel
theorem dX5_bestTrade_66 : decode cX5_bestTrade 66 = .ok (.iload 7, 2) := by decide +kernel
theorem dX5_bestTrade_68 : decode cX5_bestTrade 68 = .ok (.iload_n 3, 1) := by decide +kernel
theorem dX5_bestTrade_69 : decode cX5_bestTrade 69 = .ok (.if_icmp .le 18, 3) := by decide +kernel
theorem dX5_bestTrade_72 : decode cX5_bestTrade 72 = .ok (.iload 7, 2) := by decide +kernel
theorem dX5_bestTrade_74 : decode cX5_bestTrade 74 = .ok (.istore_n 3, 1) := by decide +kernel
theorem dX5_bestTrade_75 : decode cX5_bestTrade 75 = .ok (.aload_n 0, 1) := by decide +kernel
theorem dX5_bestTrade_76 : decode cX5_bestTrade 76 = .ok (.iload 4, 2) := by decide +kernel
theorem dX5_bestTrade_78 : decode cX5_bestTrade 78 = .ok (.putfield 20, 3) := by decide +kernel
theorem dX5_bestTrade_81 : decode cX5_bestTrade 81 = .ok (.aload_n 0, 1) := by decide +kernel
theorem dX5_bestTrade_82 : decode cX5_bestTrade 82 = .ok (.iload 6, 2) := by decide +kernel
theorem dX5_bestTrade_84 : decode cX5_bestTrade 84 = .ok (.putfield 24, 3) := by decide +kernel
theorem dX5_bestTrade_87 : decode cX5_bestTrade 87 = .ok (.iinc 6 1, 3) := by decide +kernel
theorem dX5_bestTrade_90 : decode cX5_bestTrade 90 = .ok (.goto (-48), 3) := by decide +kernel
theorem dX5_bestTrade_93 : decode cX5_bestTrade 93 = .ok (.iinc 4 1, 3) := by decide +kernel
theorem dX5_bestTrade_96 : decode cX5_bestTrade 96 = .ok (.goto (-81), 3) := by decide +kernel
theorem dX5_bestTrade_99 : decode cX5_bestTrade 99 = .ok (.iload_n 3, 1) := by decide +kernel
theorem dX5_bestTrade_100 : decode cX5_bestTrade 100 = .ok (.ireturn, 1) := by decide +kernel
theorem dX6_init_0 : decode cX6_init 0 = .ok (.aload_n 0, 1) := by decide +kernel
theorem dX6_init_1 : decode cX6_init 1 = .ok (.invokespecial 3, 3) := by decide +kernel
theorem dX6_init_4 : decode cX6_init 4 = .ok (.aload_n 0, 1) := by decide +kernel
theorem dX6_init_5 : decode cX6_init 5 = .ok (.iconst 3, 1) := by decide +kernel
theorem dX6_init_6 : decode cX6_init 6 = .ok (.newarray .int, 2) := by decide +kernel
theorem dX6_init_8 : decode cX6_init 8 = .ok (.putfield 9, 3) := by decide +kernel
theorem dX6_init_11 : decode cX6_init 11 = .ok (.aload_n 0, 1) := by decide +kernel
theorem dX6_init_12 : decode cX6_init 12 = .ok (.bipush 12, 2) := by decide +kernel
theorem dX6_init_14 : decode cX6_init 14 = .ok (.newarray .int, 2) := by decide +kernel
theorem dX6_init_16 : decode cX6_init 16 = .ok (.putfield 15, 3) := by decide +kernel
theorem dX6_init_19 : decode cX6_init 19 = .ok (.aload_n 0, 1) := by decide +kernel
theorem dX6_init_20 : decode cX6_init 20 = .ok (.aload_n 1, 1) := by decide +kernel
theorem dX6_init_21 : decode cX6_init 21 = .ok (.putfield 18, 3) := by decide +kernel
theorem dX6_init_24 : decode cX6_init 24 = .ok (.return_, 1) := by decide +kernel
theorem dX6_seek_0 : decode cX6_seek 0 = .ok (.aload_n 0, 1) := by decide +kernel
theorem dX6_seek_1 : decode cX6_seek 1 = .ok (.iconst 0, 1) := by decide +kernel
theorem dX6_seek_2 : decode cX6_seek 2 = .ok (.putfield 22, 3) := by decide +kernel
theorem dX6_seek_5 : decode cX6_seek 5 = .ok (.aload_n 0, 1) := by decide +kernel
theorem dX6_seek_6 : decode cX6_seek 6 = .ok (.getfield 15, 3) := by decide +kernel
theorem dX6_seek_9 : decode cX6_seek 9 = .ok (.iconst 0, 1) := by decide +kernel
theorem dX6_seek_10 : decode cX6_seek 10 = .ok (.invokestatic 26, 3) := by decide +kernel
theorem dX6_seek_13 : decode cX6_seek 13 = .ok (.aload_n 0, 1) := by decide +kernel
theorem dX6_seek_14 : decode cX6_seek 14 = .ok (.aload_n 1, 1) := by decide +kernel
theorem dX6_seek_15 : decode cX6_seek 15 = .ok (.invokevirtual 32, 3) := by decide +kernel
theorem dX6_seek_18 : decode cX6_seek 18 = .ok (.ifCond .ne 5, 3) := by decide +kernel
theorem dX6_seek_21 : decode cX6_seek 21 = .ok (.iconst 0, 1) := by decide +kernel
theorem dX6_seek_22 : decode cX6_seek 22 = .ok (.ireturn, 1) := by decide +kernel
theorem dX6_seek_23 : decode cX6_seek 23 = .ok (.iconst 1, 1) := by decide +kernel
theorem dX6_seek_24 : decode cX6_seek 24 = .ok (.iconst 2, 1) := by decide +kernel
theorem dX6_seek_25 : decode cX6_seek 25 = .ok (.aload_n 0, 1) := by decide +kernel
theorem dX6_seek_26 : decode cX6_seek 26 = .ok (.getfield 36, 3) := by decide +kernel
theorem dX6_seek_29 : decode cX6_seek 29 = .ok (.imul, 1) := by decide +kernel
theorem dX6_seek_30 : decode cX6_seek 30 = .ok (.ishl, 1) := by decide +kernel
theorem dX6_seek_31 : decode cX6_seek 31 = .ok (.istore_n 2, 1) := by decide +kernel
theorem dX6_seek_32 : decode cX6_seek 32 = .ok (.iconst 0, 1) := by decide +kernel
theorem dX6_seek_33 : decode cX6_seek 33 = .ok (.istore_n 3, 1) := by decide +kernel
theorem dX6_seek_34 : decode cX6_seek 34 = .ok (.iload_n 3, 1) := by decide +kernel
theorem dX6_seek_35 : decode cX6_seek 35 = .ok (.iload_n 2, 1) := by decide +kernel
theorem dX6_seek_36 : decode cX6_seek 36 = .ok (.if_icmp .ge 65, 3) := by decide +kernel
theorem dX6_seek_39 : decode cX6_seek 39 = .ok (.iconst 0, 1) := by decide +kernel
theorem dX6_seek_40 : decode cX6_seek 40 = .ok (.istore 4, 2) := by decide +kernel
theorem dX6_seek_42 : decode cX6_seek 42 = .ok (.iload 4, 2) := by decide +kernel
theorem dX6_seek_44 : decode cX6_seek 44 = .ok (.aload_n 0, 1) := by decide +kernel
theorem dX6_seek_45 : decode cX6_seek 45 = .ok (.getfield 36, 3) := by decide +kernel
theorem dX6_seek_48 : decode cX6_seek 48 = .ok (.if_icmp .ge 27, 3) := by decide +kernel
theorem dX6_seek_51 : decode cX6_seek 51 = .ok (.aload_n 1, 1) := by decide +kernel
theorem dX6_seek_52 : decode cX6_seek 52 = .ok (.getfield 39, 3) := by decide +kernel
theorem dX6_seek_55 : decode cX6_seek 55 = .ok (.aload_n 0, 1) := by decide +kernel
theorem dX6_seek_56 : decode cX6_seek 56 = .ok (.getfield 9, 3) := by decide +kernel
theorem dX6_seek_59 : decode cX6_seek 59 = .ok (.iload 4, 2) := by decide +kernel
theorem dX6_seek_61 : decode cX6_seek 61 = .ok (.iaload, 1) := by decide +kernel
theorem dX6_seek_62 : decode cX6_seek 62 = .ok (.iload_n 3, 1) := by decide +kernel
theorem dX6_seek_63 : decode cX6_seek 63 = .ok (.iload 4, 2) := by decide +kernel
theorem dX6_seek_65 : decode cX6_seek 65 = .ok (.invokestatic 44, 3) := by decide +kernel
theorem dX6_seek_68 : decode cX6_seek 68 = .ok (.iastore, 1) := by decide +kernel
theorem dX6_seek_69 : decode cX6_seek 69 = .ok (.iinc 4 1, 3) := by decide +kernel
theorem dX6_seek_72 : decode cX6_seek 72 = .ok (.goto (-30), 3) := by decide +kernel
theorem dX6_seek_75 : decode cX6_seek 75 = .ok (.aload_n 0, 1) := by decide +kernel
theorem dX6_seek_76 : decode cX6_seek 76 = .ok (.getfield 18, 3) := by decide +kernel
theorem dX6_seek_79 : decode cX6_seek 79 = .ok (.aload_n 1, 1) := by decide +kernel
theorem dX6_seek_80 : decode cX6_seek 80 = .ok (.aload_n 1, 1) := by decide +kernel
theorem dX6_seek_81 : decode cX6_seek 81 = .ok (.getfield 48, 3) := by decide +kernel
theorem dX6_seek_84 : decode cX6_seek 84 = .ok (.invokevirtual 51, 3) := by decide +kernel
theorem dX6_seek_87 : decode cX6_seek 87 = .ok (.ifCond .eq 8, 3) := by decide +kernel
theorem dX6_seek_90 : decode cX6_seek 90 = .ok (.aload_n 0, 1) := by decide +kernel
theorem dX6_seek_91 : decode cX6_seek 91 = .ok (.iload_n 3, 1) := by decide +kernel
theorem dX6_seek_92 : decode cX6_seek 92 = .ok (.invokevirtual 57, 3) := by decide +kernel
theorem dX6_seek_95 : decode cX6_seek 95 = .ok (.iinc 3 1, 3) := by decide +kernel
theorem dX6_seek_98 : decode cX6_seek 98 = .ok (.goto (-64), 3) := by decide +kernel
theorem dX6_seek_101 : decode cX6_seek 101 = .ok (.iconst 1, 1) := by decide +kernel
theorem dX6_seek_102 : decode cX6_seek 102 = .ok (.ireturn, 1) := by decide +kernel
theorem dX6_keeperBy_0 : decode cX6_keeperBy 0 = .ok (.iload_n 0, 1) := by decide +kernel
theorem dX6_keeperBy_1 : decode cX6_keeperBy 1 = .ok (.iconst 2, 1) := by decide +kernel
theorem dX6_keeperBy_2 : decode cX6_keeperBy 2 = .ok (.iload_n 1, 1) := by decide +kernel
theorem dX6_keeperBy_3 : decode cX6_keeperBy 3 = .ok (.imul, 1) := by decide +kernel
theorem dX6_keeperBy_4 : decode cX6_keeperBy 4 = .ok (.ishr, 1) := by decide +kernel
theorem dX6_keeperBy_5 : decode cX6_keeperBy 5 = .ok (.iconst 3, 1) := by decide +kernel
theorem dX6_keeperBy_6 : decode cX6_keeperBy 6 = .ok (.iand, 1) := by decide +kernel
theorem dX6_keeperBy_7 : decode cX6_keeperBy 7 = .ok (.ireturn, 1) := by decide +kernel
theorem dX6_gather_0 : decode cX6_gather 0 = .ok (.aload_n 0, 1) := by decide +kernel
theorem dX6_gather_1 : decode cX6_gather 1 = .ok (.iconst 0, 1) := by decide +kernel
theorem dX6_gather_2 : decode cX6_gather 2 = .ok (.putfield 36, 3) := by decide +kernel
theorem dX6_gather_5 : decode cX6_gather 5 = .ok (.iconst 0, 1) := by decide +kernel
theorem dX6_gather_6 : decode cX6_gather 6 = .ok (.istore_n 2, 1) := by decide +kernel
theorem dX6_gather_7 : decode cX6_gather 7 = .ok (.iload_n 2, 1) := by decide +kernel
theorem dX6_gather_8 : decode cX6_gather 8 = .ok (.bipush 32, 2) := by decide +kernel
theorem dX6_gather_10 : decode cX6_gather 10 = .ok (.if_icmp .ge 60, 3) := by decide +kernel
theorem dX6_gather_13 : decode cX6_gather 13 = .ok (.aload_n 1, 1) := by decide +kernel
theorem dX6_gather_14 : decode cX6_gather 14 = .ok (.getfield 39, 3) := by decide +kernel
theorem dX6_gather_17 : decode cX6_gather 17 = .ok (.iload_n 2, 1) := by decide +kernel
theorem dX6_gather_18 : decode cX6_gather 18 = .ok (.iaload, 1) := by decide +kernel
theorem dX6_gather_19 : decode cX6_gather 19 = .ok (.iconst (-1), 1) := by decide +kernel
theorem dX6_gather_20 : decode cX6_gather 20 = .ok (.if_icmp .ne 44, 3) := by decide +kernel
theorem dX6_gather_23 : decode cX6_gather 23 = .ok (.aload_n 1, 1) := by decide +kernel
theorem dX6_gather_24 : decode cX6_gather 24 = .ok (.iload_n 2, 1) := by decide +kernel
theorem dX6_gather_25 : decode cX6_gather 25 = .ok (.invokestatic 61, 3) := by decide +kernel
theorem dX6_gather_28 : decode cX6_gather 28 = .ok (.ifCond .ne 6, 3) := by decide +kernel
theorem dX6_gather_31 : decode cX6_gather 31 = .ok (.goto 33, 3) := by decide +kernel
theorem dX6_gather_34 : decode cX6_gather 34 = .ok (.aload_n 0, 1) := by decide +kernel
theorem dX6_gather_35 : decode cX6_gather 35 = .ok (.getfield 36, 3) := by decide +kernel
theorem dX6_gather_38 : decode cX6_gather 38 = .ok (.iconst 3, 1) := by decide +kernel
theorem dX6_gather_39 : decode cX6_gather 39 = .ok (.if_icmp .lt 5, 3) := by decide +kernel
theorem dX6_gather_42 : decode cX6_gather 42 = .ok (.iconst 0, 1) := by decide +kernel
theorem dX6_gather_43 : decode cX6_gather 43 = .ok (.ireturn, 1) := by decide +kernel
theorem dX6_gather_44 : decode cX6_gather 44 = .ok (.aload_n 0, 1) := by decide +kernel
theorem dX6_gather_45 : decode cX6_gather 45 = .ok (.getfield 9, 3) := by decide +kernel
theorem dX6_gather_48 : decode cX6_gather 48 = .ok (.aload_n 0, 1) := by decide +kernel
theorem dX6_gather_49 : decode cX6_gather 49 = .ok (.getfield 36, 3) := by decide +kernel
theorem dX6_gather_52 : decode cX6_gather 52 = .ok (.iload_n 2, 1) := by decide +kernel
theorem dX6_gather_53 : decode cX6_gather 53 = .ok (.iastore, 1) := by decide +kernel
theorem dX6_gather_54 : decode cX6_gather 54 = .ok (.aload_n 0, 1) := by decide +kernel
theorem dX6_gather_55 : decode cX6_gather 55 = .ok (.dup, 1) := by decide +kernel
theorem dX6_gather_56 : decode cX6_gather 56 = .ok (.getfield 36, 3) := by decide +kernel
theorem dX6_gather_59 : decode cX6_gather 59 = .ok (.iconst 1, 1) := by decide +kernel
theorem dX6_gather_60 : decode cX6_gather 60 = .ok (.iadd, 1) := by decide +kernel
theorem dX6_gather_61 : decode cX6_gather 61 = .ok (.putfield 36, 3) := by decide +kernel
theorem dX6_gather_64 : decode cX6_gather 64 = .ok (.iinc 2 1, 3) := by decide +kernel
theorem dX6_gather_67 : decode cX6_gather 67 = .ok (.goto (-60), 3) := by decide +kernel
theorem dX6_gather_70 : decode cX6_gather 70 = .ok (.iconst 1, 1) := by decide +kernel
theorem dX6_gather_71 : decode cX6_gather 71 = .ok (.ireturn, 1) := by decide +kernel
theorem dX6_hasEntry_0 : decode cX6_hasEntry 0 = .ok (.iconst 0, 1) := by decide +kernel
theorem dX6_hasEntry_1 : decode cX6_hasEntry 1 = .ok (.istore_n 2, 1) := by decide +kernel
theorem dX6_hasEntry_2 : decode cX6_hasEntry 2 = .ok (.iload_n 2, 1) := by decide +kernel
theorem dX6_hasEntry_3 : decode cX6_hasEntry 3 = .ok (.aload_n 0, 1) := by decide +kernel
theorem dX6_hasEntry_4 : decode cX6_hasEntry 4 = .ok (.getfield 64, 3) := by decide +kernel
theorem dX6_hasEntry_7 : decode cX6_hasEntry 7 = .ok (.if_icmp .ge 29, 3) := by decide +kernel
theorem dX6_hasEntry_10 : decode cX6_hasEntry 10 = .ok (.aload_n 0, 1) := by decide +kernel
theorem dX6_hasEntry_11 : decode cX6_hasEntry 11 = .ok (.getfield 67, 3) := by decide +kernel
theorem dX6_hasEntry_14 : decode cX6_hasEntry 14 = .ok (.iload_n 2, 1) := by decide +kernel
theorem dX6_hasEntry_15 : decode cX6_hasEntry 15 = .ok (.iaload, 1) := by decide +kernel
theorem dX6_hasEntry_16 : decode cX6_hasEntry 16 = .ok (.iload_n 1, 1) := by decide +kernel
theorem dX6_hasEntry_17 : decode cX6_hasEntry 17 = .ok (.if_icmp .ne 13, 3) := by decide +kernel
theorem dX6_hasEntry_20 : decode cX6_hasEntry 20 = .ok (.aload_n 0, 1) := by decide +kernel
theorem dX6_hasEntry_21 : decode cX6_hasEntry 21 = .ok (.iload_n 2, 1) := by decide +kernel
theorem dX6_hasEntry_22 : decode cX6_hasEntry 22 = .ok (.invokevirtual 70, 3) := by decide +kernel
theorem dX6_hasEntry_25 : decode cX6_hasEntry 25 = .ok (.ifCond .eq 5, 3) := by decide +kernel
theorem dX6_hasEntry_28 : decode cX6_hasEntry 28 = .ok (.iconst 1, 1) := by decide +kernel
theorem dX6_hasEntry_29 : decode cX6_hasEntry 29 = .ok (.ireturn, 1) := by decide +kernel
theorem dX6_hasEntry_30 : decode cX6_hasEntry 30 = .ok (.iinc 2 1, 3) := by decide +kernel
theorem dX6_hasEntry_33 : decode cX6_hasEntry 33 = .ok (.goto (-31), 3) := by decide +kernel
theorem dX6_hasEntry_36 : decode cX6_hasEntry 36 = .ok (.iconst 0, 1) := by decide +kernel
theorem dX6_hasEntry_37 : decode cX6_hasEntry 37 = .ok (.ireturn, 1) := by decide +kernel
theorem dX6_note_0 : decode cX6_note 0 = .ok (.aload_n 0, 1) := by decide +kernel
theorem dX6_note_1 : decode cX6_note 1 = .ok (.dup, 1) := by decide +kernel
theorem dX6_note_2 : decode cX6_note 2 = .ok (.getfield 22, 3) := by decide +kernel
theorem dX6_note_5 : decode cX6_note 5 = .ok (.iconst 1, 1) := by decide +kernel
theorem dX6_note_6 : decode cX6_note 6 = .ok (.iadd, 1) := by decide +kernel
theorem dX6_note_7 : decode cX6_note 7 = .ok (.putfield 22, 3) := by decide +kernel
theorem dX6_note_10 : decode cX6_note 10 = .ok (.iconst 0, 1) := by decide +kernel
theorem dX6_note_11 : decode cX6_note 11 = .ok (.istore_n 2, 1) := by decide +kernel
theorem dX6_note_12 : decode cX6_note 12 = .ok (.iload_n 2, 1) := by decide +kernel
theorem dX6_note_13 : decode cX6_note 13 = .ok (.aload_n 0, 1) := by decide +kernel
theorem dX6_note_14 : decode cX6_note 14 = .ok (.getfield 36, 3) := by decide +kernel
theorem dX6_note_17 : decode cX6_note 17 = .ok (.if_icmp .ge 27, 3) := by decide +kernel
theorem dX6_note_20 : decode cX6_note 20 = .ok (.aload_n 0, 1) := by decide +kernel
theorem dX6_note_21 : decode cX6_note 21 = .ok (.getfield 15, 3) := by decide +kernel
theorem dX6_note_24 : decode cX6_note 24 = .ok (.iload_n 2, 1) := by decide +kernel
theorem dX6_note_25 : decode cX6_note 25 = .ok (.iconst 4, 1) := by decide +kernel
theorem dX6_note_26 : decode cX6_note 26 = .ok (.imul, 1) := by decide +kernel
theorem dX6_note_27 : decode cX6_note 27 = .ok (.iload_n 1, 1) := by decide +kernel
theorem dX6_note_28 : decode cX6_note 28 = .ok (.iload_n 2, 1) := by decide +kernel
theorem dX6_note_29 : decode cX6_note 29 = .ok (.invokestatic 44, 3) := by decide +kernel
theorem dX6_note_32 : decode cX6_note 32 = .ok (.iadd, 1) := by decide +kernel
theorem dX6_note_33 : decode cX6_note 33 = .ok (.dup2, 1) := by decide +kernel
theorem dX6_note_34 : decode cX6_note 34 = .ok (.iaload, 1) := by decide +kernel
theorem dX6_note_35 : decode cX6_note 35 = .ok (.iconst 1, 1) := by decide +kernel
theorem dX6_note_36 : decode cX6_note 36 = .ok (.iadd, 1) := by decide +kernel
theorem dX6_note_37 : decode cX6_note 37 = .ok (.iastore, 1) := by decide +kernel
theorem dX6_note_38 : decode cX6_note 38 = .ok (.iinc 2 1, 3) := by decide +kernel
theorem dX6_note_41 : decode cX6_note 41 = .ok (.goto (-29), 3) := by decide +kernel
theorem dX6_note_44 : decode cX6_note 44 = .ok (.return_, 1) := by decide +kernel
theorem dX6_placeOf_0 : decode cX6_placeOf 0 = .ok (.iconst 0, 1) := by decide +kernel
theorem dX6_placeOf_1 : decode cX6_placeOf 1 = .ok (.istore_n 2, 1) := by decide +kernel
theorem dX6_placeOf_2 : decode cX6_placeOf 2 = .ok (.iload_n 2, 1) := by decide +kernel
theorem dX6_placeOf_3 : decode cX6_placeOf 3 = .ok (.aload_n 0, 1) := by decide +kernel
theorem dX6_placeOf_4 : decode cX6_placeOf 4 = .ok (.getfield 36, 3) := by decide +kernel
theorem dX6_placeOf_7 : decode cX6_placeOf 7 = .ok (.if_icmp .ge 21, 3) := by decide +kernel
theorem dX6_placeOf_10 : decode cX6_placeOf 10 = .ok (.aload_n 0, 1) := by decide +kernel
theorem dX6_placeOf_11 : decode cX6_placeOf 11 = .ok (.getfield 9, 3) := by decide +kernel
theorem dX6_placeOf_14 : decode cX6_placeOf 14 = .ok (.iload_n 2, 1) := by decide +kernel
theorem dX6_placeOf_15 : decode cX6_placeOf 15 = .ok (.iaload, 1) := by decide +kernel
theorem dX6_placeOf_16 : decode cX6_placeOf 16 = .ok (.iload_n 1, 1) := by decide +kernel
theorem dX6_placeOf_17 : decode cX6_placeOf 17 = .ok (.if_icmp .ne 5, 3) := by decide +kernel
theorem dX6_placeOf_20 : decode cX6_placeOf 20 = .ok (.iload_n 2, 1) := by decide +kernel
theorem dX6_placeOf_21 : decode cX6_placeOf 21 = .ok (.ireturn, 1) := by decide +kernel
theorem dX6_placeOf_22 : decode cX6_placeOf 22 = .ok (.iinc 2 1, 3) := by decide +kernel
theorem dX6_placeOf_25 : decode cX6_placeOf 25 = .ok (.goto (-23), 3) := by decide +kernel
theorem dX6_placeOf_28 : decode cX6_placeOf 28 = .ok (.iconst (-1), 1) := by decide +kernel
theorem dX6_placeOf_29 : decode cX6_placeOf 29 = .ok (.ireturn, 1) := by decide +kernel
theorem dX6_waysWith_0 : decode cX6_waysWith 0 = .ok (.aload_n 0, 1) := by decide +kernel
theorem dX6_waysWith_1 : decode cX6_waysWith 1 = .ok (.iload_n 1, 1) := by decide +kernel
theorem dX6_waysWith_2 : decode cX6_waysWith 2 = .ok (.invokevirtual 74, 3) := by decide +kernel
theorem dX6_waysWith_5 : decode cX6_waysWith 5 = .ok (.istore_n 3, 1) := by decide +kernel
theorem dX6_waysWith_6 : decode cX6_waysWith 6 = .ok (.iload_n 3, 1) := by decide +kernel
theorem dX6_waysWith_7 : decode cX6_waysWith 7 = .ok (.iconst (-1), 1) := by decide +kernel
theorem dX6_waysWith_8 : decode cX6_waysWith 8 = .ok (.if_icmp .ne 7, 3) := by decide +kernel
theorem dX6_waysWith_11 : decode cX6_waysWith 11 = .ok (.iconst (-1), 1) := by decide +kernel
theorem dX6_waysWith_12 : decode cX6_waysWith 12 = .ok (.goto 13, 3) := by decide +kernel
theorem dX6_waysWith_15 : decode cX6_waysWith 15 = .ok (.aload_n 0, 1) := by decide +kernel
theorem dX6_waysWith_16 : decode cX6_waysWith 16 = .ok (.getfield 15, 3) := by decide +kernel
theorem dX6_waysWith_19 : decode cX6_waysWith 19 = .ok (.iload_n 3, 1) := by decide +kernel
theorem dX6_waysWith_20 : decode cX6_waysWith 20 = .ok (.iconst 4, 1) := by decide +kernel
theorem dX6_waysWith_21 : decode cX6_waysWith 21 = .ok (.imul, 1) := by decide +kernel
theorem dX6_waysWith_22 : decode cX6_waysWith 22 = .ok (.iload_n 2, 1) := by decide +kernel
theorem dX6_waysWith_23 : decode cX6_waysWith 23 = .ok (.iadd, 1) := by decide +kernel
theorem dX6_waysWith_24 : decode cX6_waysWith 24 = .ok (.iaload, 1) := by decide +kernel
theorem dX6_waysWith_25 : decode cX6_waysWith 25 = .ok (.ireturn, 1) := by decide +kernel
theorem dX6_onlyKeeper_0 : decode cX6_onlyKeeper 0 = .ok (.aload_n 0, 1) := by decide +kernel
theorem dX6_onlyKeeper_1 : decode cX6_onlyKeeper 1 = .ok (.iload_n 1, 1) := by decide +kernel
theorem dX6_onlyKeeper_2 : decode cX6_onlyKeeper 2 = .ok (.invokevirtual 74, 3) := by decide +kernel
theorem dX6_onlyKeeper_5 : decode cX6_onlyKeeper 5 = .ok (.iconst (-1), 1) := by decide +kernel
theorem dX6_onlyKeeper_6 : decode cX6_onlyKeeper 6 = .ok (.if_icmp .eq 10, 3) := by decide +kernel
theorem dX6_onlyKeeper_9 : decode cX6_onlyKeeper 9 = .ok (.aload_n 0, 1) := by decide +kernel
theorem dX6_onlyKeeper_10 : decode cX6_onlyKeeper 10 = .ok (.getfield 22, 3) := by decide +kernel
theorem dX6_onlyKeeper_13 : decode cX6_onlyKeeper 13 = .ok (.ifCond .ne 5, 3) := by decide +kernel
theorem dX6_onlyKeeper_16 : decode cX6_onlyKeeper 16 = .ok (.iconst (-1), 1) := by decide +kernel
theorem dX6_onlyKeeper_17 : decode cX6_onlyKeeper 17 = .ok (.ireturn, 1) := by decide +kernel
theorem dX6_onlyKeeper_18 : decode cX6_onlyKeeper 18 = .ok (.iconst 0, 1) := by decide +kernel
theorem dX6_onlyKeeper_19 : decode cX6_onlyKeeper 19 = .ok (.istore_n 2, 1) := by decide +kernel
theorem dX6_onlyKeeper_20 : decode cX6_onlyKeeper 20 = .ok (.iload_n 2, 1) := by decide +kernel
theorem dX6_onlyKeeper_21 : decode cX6_onlyKeeper 21 = .ok (.iconst 4, 1) := by decide +kernel
theorem dX6_onlyKeeper_22 : decode cX6_onlyKeeper 22 = .ok (.if_icmp .ge 24, 3) := by decide +kernel
theorem dX6_onlyKeeper_25 : decode cX6_onlyKeeper 25 = .ok (.aload_n 0, 1) := by decide +kernel
theorem dX6_onlyKeeper_26 : decode cX6_onlyKeeper 26 = .ok (.iload_n 1, 1) := by decide +kernel
theorem dX6_onlyKeeper_27 : decode cX6_onlyKeeper 27 = .ok (.iload_n 2, 1) := by decide +kernel
theorem dX6_onlyKeeper_28 : decode cX6_onlyKeeper 28 = .ok (.invokevirtual 78, 3) := by decide +kernel
theorem dX6_onlyKeeper_31 : decode cX6_onlyKeeper 31 = .ok (.aload_n 0, 1) := by decide +kernel
theorem dX6_onlyKeeper_32 : decode cX6_onlyKeeper 32 = .ok (.getfield 22, 3) := by decide +kernel
theorem dX6_onlyKeeper_35 : decode cX6_onlyKeeper 35 = .ok (.if_icmp .ne 5, 3) := by decide +kernel
theorem dX6_onlyKeeper_38 : decode cX6_onlyKeeper 38 = .ok (.iload_n 2, 1) := by decide +kernel
theorem dX6_onlyKeeper_39 : decode cX6_onlyKeeper 39 = .ok (.ireturn, 1) := by decide +kernel
theorem dX6_onlyKeeper_40 : decode cX6_onlyKeeper 40 = .ok (.iinc 2 1, 3) := by decide +kernel
theorem dX6_onlyKeeper_43 : decode cX6_onlyKeeper 43 = .ok (.goto (-23), 3) := by decide +kernel
theorem dX6_onlyKeeper_46 : decode cX6_onlyKeeper 46 = .ok (.iconst 5, 1) := by decide +kernel
theorem dX6_onlyKeeper_47 : decode cX6_onlyKeeper 47 = .ok (.ireturn, 1) := by decide +kernel
theorem dX7_init_0 : decode cX7_init 0 = .ok (.aload_n 0, 1) := by decide +kernel
theorem dX7_init_1 : decode cX7_init 1 = .ok (.invokespecial 3, 3) := by decide +kernel
theorem dX7_init_4 : decode cX7_init 4 = .ok (.aload_n 0, 1) := by decide +kernel
theorem dX7_init_5 : decode cX7_init 5 = .ok (.new 9, 3) := by decide +kernel
theorem dX7_init_8 : decode cX7_init 8 = .ok (.dup, 1) := by decide +kernel
theorem dX7_init_9 : decode cX7_init 9 = .ok (.invokespecial 11, 3) := by decide +kernel
theorem dX7_init_12 : decode cX7_init 12 = .ok (.putfield 12, 3) := by decide +kernel
theorem dX7_init_15 : decode cX7_init 15 = .ok (.aload_n 0, 1) := by decide +kernel
theorem dX7_init_16 : decode cX7_init 16 = .ok (.new 9, 3) := by decide +kernel
theorem dX7_init_19 : decode cX7_init 19 = .ok (.dup, 1) := by decide +kernel
theorem dX7_init_20 : decode cX7_init 20 = .ok (.invokespecial 11, 3) := by decide +kernel
theorem dX7_init_23 : decode cX7_init 23 = .ok (.putfield 18, 3) := by decide +kernel
theorem dX7_init_26 : decode cX7_init 26 = .ok (.return_, 1) := by decide +kernel
theorem dX7_measure_0 : decode cX7_measure 0 = .ok (.aload_n 1, 1) := by decide +kernel
theorem dX7_measure_1 : decode cX7_measure 1 = .ok (.iload_n 2, 1) := by decide +kernel
theorem dX7_measure_2 : decode cX7_measure 2 = .ok (.iload_n 3, 1) := by decide +kernel
theorem dX7_measure_3 : decode cX7_measure 3 = .ok (.aload_n 0, 1) := by decide +kernel
theorem dX7_measure_4 : decode cX7_measure 4 = .ok (.getfield 18, 3) := by decide +kernel
theorem dX7_measure_7 : decode cX7_measure 7 = .ok (.invokevirtual 21, 3) := by decide +kernel
theorem dX7_measure_10 : decode cX7_measure 10 = .ok (.aload_n 1, 1) := by decide +kernel
theorem dX7_measure_11 : decode cX7_measure 11 = .ok (.iload_n 3, 1) := by decide +kernel
theorem dX7_measure_12 : decode cX7_measure 12 = .ok (.iload_n 2, 1) := by decide +kernel
theorem dX7_measure_13 : decode cX7_measure 13 = .ok (.aload_n 0, 1) := by decide +kernel
theorem dX7_measure_14 : decode cX7_measure 14 = .ok (.getfield 12, 3) := by decide +kernel
theorem dX7_measure_17 : decode cX7_measure 17 = .ok (.invokevirtual 21, 3) := by decide +kernel
theorem dX7_measure_20 : decode cX7_measure 20 = .ok (.return_, 1) := by decide +kernel
theorem dX7_leastMillionths_0 : decode cX7_leastMillionths 0 = .ok (.ldc2_w 27, 3) := by decide +kernel
theorem dX7_leastMillionths_3 : decode cX7_leastMillionths 3 = .ok (.aload_n 0, 1) := by decide +kernel
theorem dX7_leastMillionths_4 : decode cX7_leastMillionths 4 = .ok (.getfield 12, 3) := by decide +kernel
theorem dX7_leastMillionths_7 : decode cX7_leastMillionths 7 = .ok (.getfield 29, 3) := by decide +kernel
theorem dX7_leastMillionths_10 : decode cX7_leastMillionths 10 = .ok (.lmul, 1) := by decide +kernel
theorem dX7_leastMillionths_11 : decode cX7_leastMillionths 11 = .ok (.aload_n 0, 1) := by decide +kernel
theorem dX7_leastMillionths_12 : decode cX7_leastMillionths 12 = .ok (.getfield 12, 3) := by decide +kernel
theorem dX7_leastMillionths_15 : decode cX7_leastMillionths 15 = .ok (.getfield 33, 3) := by decide +kernel
theorem dX7_leastMillionths_18 : decode cX7_leastMillionths 18 = .ok (.invokestatic 36, 3) := by decide +kernel
theorem dX7_leastMillionths_21 : decode cX7_leastMillionths 21 = .ok (.lreturn, 1) := by decide +kernel
theorem dX7_greatestMillionths_0 : decode cX7_greatestMillionths 0 = .ok (.aload_n 0, 1) := by decide +kernel
theorem dX7_greatestMillionths_1 : decode cX7_greatestMillionths 1 = .ok (.getfield 18, 3) := by decide +kernel
theorem dX7_greatestMillionths_4 : decode cX7_greatestMillionths 4 = .ok (.getfield 29, 3) := by decide +kernel
theorem dX7_greatestMillionths_7 : decode cX7_greatestMillionths 7 = .ok (.lconst 0, 1) := by decide +kernel
theorem dX7_greatestMillionths_8 : decode cX7_greatestMillionths 8 = .ok (.lcmp, 1) := by decide +kernel
theorem dX7_greatestMillionths_9 : decode cX7_greatestMillionths 9 = .ok (.ifCond .ne 9, 3) := by decide +kernel
theorem dX7_greatestMillionths_12 : decode cX7_greatestMillionths 12 = .ok (.ldc2_w 40, 3) := by decide +kernel
theorem dX7_greatestMillionths_15 : decode cX7_greatestMillionths 15 = .ok (.goto 24, 3) := by decide +kernel
theorem dX7_greatestMillionths_18 : decode cX7_greatestMillionths 18 = .ok (.ldc2_w 27, 3) := by decide +kernel
theorem dX7_greatestMillionths_21 : decode cX7_greatestMillionths 21 = .ok (.aload_n 0, 1) := by decide +kernel
theorem dX7_greatestMillionths_22 : decode cX7_greatestMillionths 22 = .ok (.getfield 18, 3) := by decide +kernel
theorem dX7_greatestMillionths_25 : decode cX7_greatestMillionths 25 = .ok (.getfield 33, 3) := by decide +kernel
theorem dX7_greatestMillionths_28 : decode cX7_greatestMillionths 28 = .ok (.lmul, 1) := by decide +kernel
theorem dX7_greatestMillionths_29 : decode cX7_greatestMillionths 29 = .ok (.aload_n 0, 1) := by decide +kernel
theorem dX7_greatestMillionths_30 : decode cX7_greatestMillionths 30 = .ok (.getfield 18, 3) := by decide +kernel
theorem dX7_greatestMillionths_33 : decode cX7_greatestMillionths 33 = .ok (.getfield 29, 3) := by decide +kernel
theorem dX7_greatestMillionths_36 : decode cX7_greatestMillionths 36 = .ok (.invokestatic 36, 3) := by decide +kernel
theorem dX7_greatestMillionths_39 : decode cX7_greatestMillionths 39 = .ok (.lreturn, 1) := by decide +kernel
theorem dX7_isTheSame_0 : decode cX7_isTheSame 0 = .ok (.aload_n 0, 1) := by decide +kernel
theorem dX7_isTheSame_1 : decode cX7_isTheSame 1 = .ok (.getfield 18, 3) := by decide +kernel
theorem dX7_isTheSame_4 : decode cX7_isTheSame 4 = .ok (.getfield 33, 3) := by decide +kernel
theorem dX7_isTheSame_7 : decode cX7_isTheSame 7 = .ok (.aload_n 0, 1) := by decide +kernel
theorem dX7_isTheSame_8 : decode cX7_isTheSame 8 = .ok (.getfield 12, 3) := by decide +kernel
theorem dX7_isTheSame_11 : decode cX7_isTheSame 11 = .ok (.getfield 33, 3) := by decide +kernel
theorem dX7_isTheSame_14 : decode cX7_isTheSame 14 = .ok (.lmul, 1) := by decide +kernel
theorem dX7_isTheSame_15 : decode cX7_isTheSame 15 = .ok (.aload_n 0, 1) := by decide +kernel
theorem dX7_isTheSame_16 : decode cX7_isTheSame 16 = .ok (.getfield 18, 3) := by decide +kernel
theorem dX7_isTheSame_19 : decode cX7_isTheSame 19 = .ok (.getfield 29, 3) := by decide +kernel
theorem dX7_isTheSame_22 : decode cX7_isTheSame 22 = .ok (.aload_n 0, 1) := by decide +kernel
theorem dX7_isTheSame_23 : decode cX7_isTheSame 23 = .ok (.getfield 12, 3) := by decide +kernel
theorem dX7_isTheSame_26 : decode cX7_isTheSame 26 = .ok (.getfield 29, 3) := by decide +kernel
theorem dX7_isTheSame_29 : decode cX7_isTheSame 29 = .ok (.lmul, 1) := by decide +kernel
theorem dX7_isTheSame_30 : decode cX7_isTheSame 30 = .ok (.lcmp, 1) := by decide +kernel
theorem dX7_isTheSame_31 : decode cX7_isTheSame 31 = .ok (.ifCond .ne 7, 3) := by decide +kernel
theorem dX7_isTheSame_34 : decode cX7_isTheSame 34 = .ok (.iconst 1, 1) := by decide +kernel
theorem dX7_isTheSame_35 : decode cX7_isTheSame 35 = .ok (.goto 4, 3) := by decide +kernel
theorem dX7_isTheSame_38 : decode cX7_isTheSame 38 = .ok (.iconst 0, 1) := by decide +kernel
theorem dX7_isTheSame_39 : decode cX7_isTheSame 39 = .ok (.ireturn, 1) := by decide +kernel
theorem dX7_isAlways_0 : decode cX7_isAlways 0 = .ok (.aload_n 0, 1) := by decide +kernel
theorem dX7_isAlways_1 : decode cX7_isAlways 1 = .ok (.getfield 18, 3) := by decide +kernel
theorem dX7_isAlways_4 : decode cX7_isAlways 4 = .ok (.getfield 33, 3) := by decide +kernel
theorem dX7_isAlways_7 : decode cX7_isAlways 7 = .ok (.lload_n 1, 1) := by decide +kernel
theorem dX7_isAlways_8 : decode cX7_isAlways 8 = .ok (.aload_n 0, 1) := by decide +kernel
theorem dX7_isAlways_9 : decode cX7_isAlways 9 = .ok (.getfield 18, 3) := by decide +kernel
theorem dX7_isAlways_12 : decode cX7_isAlways 12 = .ok (.getfield 29, 3) := by decide +kernel
theorem dX7_isAlways_15 : decode cX7_isAlways 15 = .ok (.lmul, 1) := by decide +kernel
theorem dX7_isAlways_16 : decode cX7_isAlways 16 = .ok (.lcmp, 1) := by decide +kernel
theorem dX7_isAlways_17 : decode cX7_isAlways 17 = .ok (.ifCond .ne 27, 3) := by decide +kernel
theorem dX7_isAlways_20 : decode cX7_isAlways 20 = .ok (.aload_n 0, 1) := by decide +kernel
theorem dX7_isAlways_21 : decode cX7_isAlways 21 = .ok (.getfield 12, 3) := by decide +kernel
theorem dX7_isAlways_24 : decode cX7_isAlways 24 = .ok (.getfield 29, 3) := by decide +kernel
theorem dX7_isAlways_27 : decode cX7_isAlways 27 = .ok (.lload_n 1, 1) := by decide +kernel
theorem dX7_isAlways_28 : decode cX7_isAlways 28 = .ok (.aload_n 0, 1) := by decide +kernel
theorem dX7_isAlways_29 : decode cX7_isAlways 29 = .ok (.getfield 12, 3) := by decide +kernel
theorem dX7_isAlways_32 : decode cX7_isAlways 32 = .ok (.getfield 33, 3) := by decide +kernel
theorem dX7_isAlways_35 : decode cX7_isAlways 35 = .ok (.lmul, 1) := by decide +kernel
theorem dX7_isAlways_36 : decode cX7_isAlways 36 = .ok (.lcmp, 1) := by decide +kernel
theorem dX7_isAlways_37 : decode cX7_isAlways 37 = .ok (.ifCond .ne 7, 3) := by decide +kernel
theorem dX7_isAlways_40 : decode cX7_isAlways 40 = .ok (.iconst 1, 1) := by decide +kernel
theorem dX7_isAlways_41 : decode cX7_isAlways 41 = .ok (.goto 4, 3) := by decide +kernel
theorem dX7_isAlways_44 : decode cX7_isAlways 44 = .ok (.iconst 0, 1) := by decide +kernel
theorem dX7_isAlways_45 : decode cX7_isAlways 45 = .ok (.ireturn, 1) := by decide +kernel
theorem dX7_leastNumber_0 : decode cX7_leastNumber 0 = .ok (.iload_n 1, 1) := by decide +kernel
theorem dX7_leastNumber_1 : decode cX7_leastNumber 1 = .ok (.iconst 2, 1) := by decide +kernel
theorem dX7_leastNumber_2 : decode cX7_leastNumber 2 = .ok (.if_icmp .ne 37, 3) := by decide +kernel
theorem dX7_leastNumber_5 : decode cX7_leastNumber 5 = .ok (.ldc2_w 42, 3) := by decide +kernel
theorem dX7_leastNumber_8 : decode cX7_leastNumber 8 = .ok (.aload_n 0, 1) := by decide +kernel
theorem dX7_leastNumber_9 : decode cX7_leastNumber 9 = .ok (.getfield 12, 3) := by decide +kernel
theorem dX7_leastNumber_12 : decode cX7_leastNumber 12 = .ok (.getfield 29, 3) := by decide +kernel
theorem dX7_leastNumber_15 : decode cX7_leastNumber 15 = .ok (.lmul, 1) := by decide +kernel
theorem dX7_leastNumber_16 : decode cX7_leastNumber 16 = .ok (.aload_n 0, 1) := by decide +kernel
theorem dX7_leastNumber_17 : decode cX7_leastNumber 17 = .ok (.getfield 12, 3) := by decide +kernel
theorem dX7_leastNumber_20 : decode cX7_leastNumber 20 = .ok (.getfield 33, 3) := by decide +kernel
theorem dX7_leastNumber_23 : decode cX7_leastNumber 23 = .ok (.ladd, 1) := by decide +kernel
theorem dX7_leastNumber_24 : decode cX7_leastNumber 24 = .ok (.ldc2_w 42, 3) := by decide +kernel
theorem dX7_leastNumber_27 : decode cX7_leastNumber 27 = .ok (.aload_n 0, 1) := by decide +kernel
theorem dX7_leastNumber_28 : decode cX7_leastNumber 28 = .ok (.getfield 12, 3) := by decide +kernel
theorem dX7_leastNumber_31 : decode cX7_leastNumber 31 = .ok (.getfield 33, 3) := by decide +kernel
theorem dX7_leastNumber_34 : decode cX7_leastNumber 34 = .ok (.lmul, 1) := by decide +kernel
theorem dX7_leastNumber_35 : decode cX7_leastNumber 35 = .ok (.invokestatic 36, 3) := by decide +kernel
theorem dX7_leastNumber_38 : decode cX7_leastNumber 38 = .ok (.lreturn, 1) := by decide +kernel
theorem dX7_leastNumber_39 : decode cX7_leastNumber 39 = .ok (.aload_n 0, 1) := by decide +kernel
theorem dX7_leastNumber_40 : decode cX7_leastNumber 40 = .ok (.getfield 12, 3) := by decide +kernel
theorem dX7_leastNumber_43 : decode cX7_leastNumber 43 = .ok (.getfield 29, 3) := by decide +kernel
theorem dX7_leastNumber_46 : decode cX7_leastNumber 46 = .ok (.aload_n 0, 1) := by decide +kernel
theorem dX7_leastNumber_47 : decode cX7_leastNumber 47 = .ok (.getfield 12, 3) := by decide +kernel
theorem dX7_leastNumber_50 : decode cX7_leastNumber 50 = .ok (.getfield 33, 3) := by decide +kernel
theorem dX7_leastNumber_53 : decode cX7_leastNumber 53 = .ok (.invokestatic 36, 3) := by decide +kernel
theorem dX7_leastNumber_56 : decode cX7_leastNumber 56 = .ok (.lstore_n 2, 1) := by decide +kernel
theorem dX7_leastNumber_57 : decode cX7_leastNumber 57 = .ok (.aload_n 0, 1) := by decide +kernel
theorem dX7_leastNumber_58 : decode cX7_leastNumber 58 = .ok (.getfield 12, 3) := by decide +kernel
theorem dX7_leastNumber_61 : decode cX7_leastNumber 61 = .ok (.getfield 44, 3) := by decide +kernel
theorem dX7_leastNumber_64 : decode cX7_leastNumber 64 = .ok (.ifCond .ne 23, 3) := by decide +kernel
theorem dX7_leastNumber_67 : decode cX7_leastNumber 67 = .ok (.lload_n 2, 1) := by decide +kernel
theorem dX7_leastNumber_68 : decode cX7_leastNumber 68 = .ok (.aload_n 0, 1) := by decide +kernel
theorem dX7_leastNumber_69 : decode cX7_leastNumber 69 = .ok (.getfield 12, 3) := by decide +kernel
theorem dX7_leastNumber_72 : decode cX7_leastNumber 72 = .ok (.getfield 33, 3) := by decide +kernel
theorem dX7_leastNumber_75 : decode cX7_leastNumber 75 = .ok (.lmul, 1) := by decide +kernel
theorem dX7_leastNumber_76 : decode cX7_leastNumber 76 = .ok (.aload_n 0, 1) := by decide +kernel
theorem dX7_leastNumber_77 : decode cX7_leastNumber 77 = .ok (.getfield 12, 3) := by decide +kernel
theorem dX7_leastNumber_80 : decode cX7_leastNumber 80 = .ok (.getfield 29, 3) := by decide +kernel
theorem dX7_leastNumber_83 : decode cX7_leastNumber 83 = .ok (.lcmp, 1) := by decide +kernel
theorem dX7_leastNumber_84 : decode cX7_leastNumber 84 = .ok (.ifCond .eq 7, 3) := by decide +kernel
theorem dX7_leastNumber_87 : decode cX7_leastNumber 87 = .ok (.iconst 1, 1) := by decide +kernel
theorem dX7_leastNumber_88 : decode cX7_leastNumber 88 = .ok (.goto 4, 3) := by decide +kernel
theorem dX7_leastNumber_91 : decode cX7_leastNumber 91 = .ok (.iconst 0, 1) := by decide +kernel
theorem dX7_leastNumber_92 : decode cX7_leastNumber 92 = .ok (.istore 4, 2) := by decide +kernel
theorem dX7_leastNumber_94 : decode cX7_leastNumber 94 = .ok (.iload_n 1, 1) := by decide +kernel
theorem dX7_leastNumber_95 : decode cX7_leastNumber 95 = .ok (.ifCond .ne 14, 3) := by decide +kernel
theorem dX7_leastNumber_98 : decode cX7_leastNumber 98 = .ok (.iload 4, 2) := by decide +kernel
theorem dX7_leastNumber_100 : decode cX7_leastNumber 100 = .ok (.ifCond .eq 9, 3) := by decide +kernel
theorem dX7_leastNumber_103 : decode cX7_leastNumber 103 = .ok (.lload_n 2, 1) := by decide +kernel
theorem dX7_leastNumber_104 : decode cX7_leastNumber 104 = .ok (.lconst 1, 1) := by decide +kernel
theorem dX7_leastNumber_105 : decode cX7_leastNumber 105 = .ok (.ladd, 1) := by decide +kernel
theorem dX7_leastNumber_106 : decode cX7_leastNumber 106 = .ok (.goto 4, 3) := by decide +kernel
theorem dX7_leastNumber_109 : decode cX7_leastNumber 109 = .ok (.lload_n 2, 1) := by decide +kernel
theorem dX7_leastNumber_110 : decode cX7_leastNumber 110 = .ok (.lreturn, 1) := by decide +kernel
theorem dX7_greatestNumber_0 : decode cX7_greatestNumber 0 = .ok (.aload_n 0, 1) := by decide +kernel
theorem dX7_greatestNumber_1 : decode cX7_greatestNumber 1 = .ok (.getfield 18, 3) := by decide +kernel
theorem dX7_greatestNumber_4 : decode cX7_greatestNumber 4 = .ok (.getfield 29, 3) := by decide +kernel
theorem dX7_greatestNumber_7 : decode cX7_greatestNumber 7 = .ok (.lconst 0, 1) := by decide +kernel
theorem dX7_greatestNumber_8 : decode cX7_greatestNumber 8 = .ok (.lcmp, 1) := by decide +kernel
theorem dX7_greatestNumber_9 : decode cX7_greatestNumber 9 = .ok (.ifCond .ne 7, 3) := by decide +kernel
theorem dX7_greatestNumber_12 : decode cX7_greatestNumber 12 = .ok (.ldc2_w 40, 3) := by decide +kernel
theorem dX7_greatestNumber_15 : decode cX7_greatestNumber 15 = .ok (.lreturn, 1) := by decide +kernel
theorem dX7_greatestNumber_16 : decode cX7_greatestNumber 16 = .ok (.iload_n 1, 1) := by decide +kernel
theorem dX7_greatestNumber_17 : decode cX7_greatestNumber 17 = .ok (.iconst 2, 1) := by decide +kernel
theorem dX7_greatestNumber_18 : decode cX7_greatestNumber 18 = .ok (.if_icmp .ne 25, 3) := by decide +kernel
theorem dX7_greatestNumber_21 : decode cX7_greatestNumber 21 = .ok (.ldc2_w 42, 3) := by decide +kernel
theorem dX7_greatestNumber_24 : decode cX7_greatestNumber 24 = .ok (.aload_n 0, 1) := by decide +kernel
theorem dX7_greatestNumber_25 : decode cX7_greatestNumber 25 = .ok (.getfield 18, 3) := by decide +kernel
theorem dX7_greatestNumber_28 : decode cX7_greatestNumber 28 = .ok (.getfield 33, 3) := by decide +kernel
theorem dX7_greatestNumber_31 : decode cX7_greatestNumber 31 = .ok (.lmul, 1) := by decide +kernel
theorem dX7_greatestNumber_32 : decode cX7_greatestNumber 32 = .ok (.aload_n 0, 1) := by decide +kernel
theorem dX7_greatestNumber_33 : decode cX7_greatestNumber 33 = .ok (.getfield 18, 3) := by decide +kernel
theorem dX7_greatestNumber_36 : decode cX7_greatestNumber 36 = .ok (.getfield 29, 3) := by decide +kernel
theorem dX7_greatestNumber_39 : decode cX7_greatestNumber 39 = .ok (.ladd, 1) := by decide +kernel
theorem dX7_greatestNumber_40 : decode cX7_greatestNumber 40 = .ok (.goto 10, 3) := by decide +kernel
theorem dX7_greatestNumber_43 : decode cX7_greatestNumber 43 = .ok (.aload_n 0, 1) := by decide +kernel
theorem dX7_greatestNumber_44 : decode cX7_greatestNumber 44 = .ok (.getfield 18, 3) := by decide +kernel
theorem dX7_greatestNumber_47 : decode cX7_greatestNumber 47 = .ok (.getfield 33, 3) := by decide +kernel
theorem dX7_greatestNumber_50 : decode cX7_greatestNumber 50 = .ok (.lstore_n 2, 1) := by decide +kernel
theorem dX7_greatestNumber_51 : decode cX7_greatestNumber 51 = .ok (.iload_n 1, 1) := by decide +kernel
theorem dX7_greatestNumber_52 : decode cX7_greatestNumber 52 = .ok (.iconst 2, 1) := by decide +kernel
theorem dX7_greatestNumber_53 : decode cX7_greatestNumber 53 = .ok (.if_icmp .ne 17, 3) := by decide +kernel
theorem dX7_greatestNumber_56 : decode cX7_greatestNumber 56 = .ok (.ldc2_w 42, 3) := by decide +kernel
theorem dX7_greatestNumber_59 : decode cX7_greatestNumber 59 = .ok (.aload_n 0, 1) := by decide +kernel
theorem dX7_greatestNumber_60 : decode cX7_greatestNumber 60 = .ok (.getfield 18, 3) := by decide +kernel
theorem dX7_greatestNumber_63 : decode cX7_greatestNumber 63 = .ok (.getfield 29, 3) := by decide +kernel
theorem dX7_greatestNumber_66 : decode cX7_greatestNumber 66 = .ok (.lmul, 1) := by decide +kernel
theorem dX7_greatestNumber_67 : decode cX7_greatestNumber 67 = .ok (.goto 10, 3) := by decide +kernel
theorem dX7_greatestNumber_70 : decode cX7_greatestNumber 70 = .ok (.aload_n 0, 1) := by decide +kernel
theorem dX7_greatestNumber_71 : decode cX7_greatestNumber 71 = .ok (.getfield 18, 3) := by decide +kernel
theorem dX7_greatestNumber_74 : decode cX7_greatestNumber 74 = .ok (.getfield 29, 3) := by decide +kernel
theorem dX7_greatestNumber_77 : decode cX7_greatestNumber 77 = .ok (.lstore 4, 2) := by decide +kernel
theorem dX7_greatestNumber_79 : decode cX7_greatestNumber 79 = .ok (.lload_n 2, 1) := by decide +kernel
theorem dX7_greatestNumber_80 : decode cX7_greatestNumber 80 = .ok (.lload 4, 2) := by decide +kernel
theorem dX7_greatestNumber_82 : decode cX7_greatestNumber 82 = .ok (.invokestatic 36, 3) := by decide +kernel
theorem dX7_greatestNumber_85 : decode cX7_greatestNumber 85 = .ok (.lstore 6, 2) := by decide +kernel
theorem dX7_greatestNumber_87 : decode cX7_greatestNumber 87 = .ok (.aload_n 0, 1) := by decide +kernel
theorem dX7_greatestNumber_88 : decode cX7_greatestNumber 88 = .ok (.getfield 18, 3) := by decide +kernel
theorem dX7_greatestNumber_91 : decode cX7_greatestNumber 91 = .ok (.getfield 44, 3) := by decide +kernel
theorem dX7_greatestNumber_94 : decode cX7_greatestNumber 94 = .ok (.ifCond .eq 20, 3) := by decide +kernel
theorem dX7_greatestNumber_97 : decode cX7_greatestNumber 97 = .ok (.lload 6, 2) := by decide +kernel
theorem dX7_greatestNumber_99 : decode cX7_greatestNumber 99 = .ok (.lload 4, 2) := by decide +kernel
theorem dX7_greatestNumber_101 : decode cX7_greatestNumber 101 = .ok (.lmul, 1) := by decide +kernel
theorem dX7_greatestNumber_102 : decode cX7_greatestNumber 102 = .ok (.lload_n 2, 1) := by decide +kernel
theorem dX7_greatestNumber_103 : decode cX7_greatestNumber 103 = .ok (.lcmp, 1) := by decide +kernel
theorem dX7_greatestNumber_104 : decode cX7_greatestNumber 104 = .ok (.ifCond .ne 10, 3) := by decide +kernel
theorem dX7_greatestNumber_107 : decode cX7_greatestNumber 107 = .ok (.lload 6, 2) := by decide +kernel
theorem dX7_greatestNumber_109 : decode cX7_greatestNumber 109 = .ok (.lconst 1, 1) := by decide +kernel
theorem dX7_greatestNumber_110 : decode cX7_greatestNumber 110 = .ok (.lsub, 1) := by decide +kernel
theorem dX7_greatestNumber_111 : decode cX7_greatestNumber 111 = .ok (.goto 5, 3) := by decide +kernel
theorem dX7_greatestNumber_114 : decode cX7_greatestNumber 114 = .ok (.lload 6, 2) := by decide +kernel
theorem dX7_greatestNumber_116 : decode cX7_greatestNumber 116 = .ok (.lreturn, 1) := by decide +kernel
theorem dX7_firstNumber_0 : decode cX7_firstNumber 0 = .ok (.ldc2_w 48, 3) := by decide +kernel
theorem dX7_firstNumber_3 : decode cX7_firstNumber 3 = .ok (.lconst 1, 1) := by decide +kernel
theorem dX7_firstNumber_4 : decode cX7_firstNumber 4 = .ok (.aload_n 0, 1) := by decide +kernel
theorem dX7_firstNumber_5 : decode cX7_firstNumber 5 = .ok (.iload_n 1, 1) := by decide +kernel
theorem dX7_firstNumber_6 : decode cX7_firstNumber 6 = .ok (.invokevirtual 50, 3) := by decide +kernel
theorem dX7_firstNumber_9 : decode cX7_firstNumber 9 = .ok (.invokestatic 54, 3) := by decide +kernel
theorem dX7_firstNumber_12 : decode cX7_firstNumber 12 = .ok (.invokestatic 59, 3) := by decide +kernel
theorem dX7_firstNumber_15 : decode cX7_firstNumber 15 = .ok (.l2i, 1) := by decide +kernel
theorem dX7_firstNumber_16 : decode cX7_firstNumber 16 = .ok (.ireturn, 1) := by decide +kernel
theorem dX7_lastNumber_0 : decode cX7_lastNumber 0 = .ok (.aload_n 0, 1) := by decide +kernel
theorem dX7_lastNumber_1 : decode cX7_lastNumber 1 = .ok (.getfield 18, 3) := by decide +kernel
theorem dX7_lastNumber_4 : decode cX7_lastNumber 4 = .ok (.getfield 29, 3) := by decide +kernel
theorem dX7_lastNumber_7 : decode cX7_lastNumber 7 = .ok (.lconst 0, 1) := by decide +kernel
theorem dX7_lastNumber_8 : decode cX7_lastNumber 8 = .ok (.lcmp, 1) := by decide +kernel
theorem dX7_lastNumber_9 : decode cX7_lastNumber 9 = .ok (.ifCond .ne 8, 3) := by decide +kernel
theorem dX7_lastNumber_12 : decode cX7_lastNumber 12 = .ok (.bipush 99, 2) := by decide +kernel
theorem dX7_lastNumber_14 : decode cX7_lastNumber 14 = .ok (.goto 14, 3) := by decide +kernel
theorem dX7_lastNumber_17 : decode cX7_lastNumber 17 = .ok (.aload_n 0, 1) := by decide +kernel
theorem dX7_lastNumber_18 : decode cX7_lastNumber 18 = .ok (.iload_n 1, 1) := by decide +kernel
theorem dX7_lastNumber_19 : decode cX7_lastNumber 19 = .ok (.invokevirtual 62, 3) := by decide +kernel
theorem dX7_lastNumber_22 : decode cX7_lastNumber 22 = .ok (.ldc2_w 65, 3) := by decide +kernel
theorem dX7_lastNumber_25 : decode cX7_lastNumber 25 = .ok (.invokestatic 67, 3) := by decide +kernel
theorem dX7_lastNumber_28 : decode cX7_lastNumber 28 = .ok (.ireturn, 1) := by decide +kernel
theorem dX7_manyNumbers_0 : decode cX7_manyNumbers 0 = .ok (.iconst 0, 1) := by decide +kernel
theorem dX7_manyNumbers_1 : decode cX7_manyNumbers 1 = .ok (.aload_n 0, 1) := by decide +kernel
theorem dX7_manyNumbers_2 : decode cX7_manyNumbers 2 = .ok (.iload_n 1, 1) := by decide +kernel
theorem dX7_manyNumbers_3 : decode cX7_manyNumbers 3 = .ok (.invokevirtual 71, 3) := by decide +kernel
theorem dX7_manyNumbers_6 : decode cX7_manyNumbers 6 = .ok (.aload_n 0, 1) := by decide +kernel
theorem dX7_manyNumbers_7 : decode cX7_manyNumbers 7 = .ok (.iload_n 1, 1) := by decide +kernel
theorem dX7_manyNumbers_8 : decode cX7_manyNumbers 8 = .ok (.invokevirtual 75, 3) := by decide +kernel
theorem dX7_manyNumbers_11 : decode cX7_manyNumbers 11 = .ok (.isub, 1) := by decide +kernel
theorem dX7_manyNumbers_12 : decode cX7_manyNumbers 12 = .ok (.iconst 1, 1) := by decide +kernel
theorem dX7_manyNumbers_13 : decode cX7_manyNumbers 13 = .ok (.iadd, 1) := by decide +kernel
theorem dX7_manyNumbers_14 : decode cX7_manyNumbers 14 = .ok (.invokestatic 78, 3) := by decide +kernel
theorem dX7_manyNumbers_17 : decode cX7_manyNumbers 17 = .ok (.ireturn, 1) := by decide +kernel
theorem dX7_allows_0 : decode cX7_allows 0 = .ok (.iload_n 1, 1) := by decide +kernel
theorem dX7_allows_1 : decode cX7_allows 1 = .ok (.aload_n 0, 1) := by decide +kernel
theorem dX7_allows_2 : decode cX7_allows 2 = .ok (.iload_n 2, 1) := by decide +kernel
theorem dX7_allows_3 : decode cX7_allows 3 = .ok (.invokevirtual 75, 3) := by decide +kernel
theorem dX7_allows_6 : decode cX7_allows 6 = .ok (.if_icmp .lt 16, 3) := by decide +kernel
theorem dX7_allows_9 : decode cX7_allows 9 = .ok (.iload_n 1, 1) := by decide +kernel
theorem dX7_allows_10 : decode cX7_allows 10 = .ok (.aload_n 0, 1) := by decide +kernel
theorem dX7_allows_11 : decode cX7_allows 11 = .ok (.iload_n 2, 1) := by decide +kernel
theorem dX7_allows_12 : decode cX7_allows 12 = .ok (.invokevirtual 71, 3) := by decide +kernel
theorem dX7_allows_15 : decode cX7_allows 15 = .ok (.if_icmp .gt 7, 3) := by decide +kernel
theorem dX7_allows_18 : decode cX7_allows 18 = .ok (.iconst 1, 1) := by decide +kernel
theorem dX7_allows_19 : decode cX7_allows 19 = .ok (.goto 4, 3) := by decide +kernel
theorem dX7_allows_22 : decode cX7_allows 22 = .ok (.iconst 0, 1) := by decide +kernel
theorem dX7_allows_23 : decode cX7_allows 23 = .ok (.ireturn, 1) := by decide +kernel
theorem dX7_forces_0 : decode cX7_forces 0 = .ok (.iload_n 2, 1) := by decide +kernel
theorem dX7_forces_1 : decode cX7_forces 1 = .ok (.ifCond .ne 10, 3) := by decide +kernel
theorem dX7_forces_4 : decode cX7_forces 4 = .ok (.aload_n 0, 1) := by decide +kernel
theorem dX7_forces_5 : decode cX7_forces 5 = .ok (.iload_n 1, 1) := by decide +kernel
theorem dX7_forces_6 : decode cX7_forces 6 = .ok (.i2l, 1) := by decide +kernel
theorem dX7_forces_7 : decode cX7_forces 7 = .ok (.invokevirtual 81, 3) := by decide +kernel
theorem dX7_forces_10 : decode cX7_forces 10 = .ok (.ireturn, 1) := by decide +kernel
theorem dX7_forces_11 : decode cX7_forces 11 = .ok (.aload_n 0, 1) := by decide +kernel
theorem dX7_forces_12 : decode cX7_forces 12 = .ok (.iload_n 2, 1) := by decide +kernel
theorem dX7_forces_13 : decode cX7_forces 13 = .ok (.invokevirtual 50, 3) := by decide +kernel
theorem dX7_forces_16 : decode cX7_forces 16 = .ok (.iload_n 1, 1) := by decide +kernel
theorem dX7_forces_17 : decode cX7_forces 17 = .ok (.i2l, 1) := by decide +kernel
theorem dX7_forces_18 : decode cX7_forces 18 = .ok (.lcmp, 1) := by decide +kernel
theorem dX7_forces_19 : decode cX7_forces 19 = .ok (.ifCond .ne 18, 3) := by decide +kernel
theorem dX7_forces_22 : decode cX7_forces 22 = .ok (.aload_n 0, 1) := by decide +kernel
theorem dX7_forces_23 : decode cX7_forces 23 = .ok (.iload_n 2, 1) := by decide +kernel
theorem dX7_forces_24 : decode cX7_forces 24 = .ok (.invokevirtual 62, 3) := by decide +kernel
theorem dX7_forces_27 : decode cX7_forces 27 = .ok (.iload_n 1, 1) := by decide +kernel
theorem dX7_forces_28 : decode cX7_forces 28 = .ok (.i2l, 1) := by decide +kernel
theorem dX7_forces_29 : decode cX7_forces 29 = .ok (.lcmp, 1) := by decide +kernel
theorem dX7_forces_30 : decode cX7_forces 30 = .ok (.ifCond .ne 7, 3) := by decide +kernel
theorem dX7_forces_33 : decode cX7_forces 33 = .ok (.iconst 1, 1) := by decide +kernel
theorem dX7_forces_34 : decode cX7_forces 34 = .ok (.goto 4, 3) := by decide +kernel
theorem dX7_forces_37 : decode cX7_forces 37 = .ok (.iconst 0, 1) := by decide +kernel
theorem dX7_forces_38 : decode cX7_forces 38 = .ok (.ireturn, 1) := by decide +kernel
theorem dX8_init_0 : decode cX8_init 0 = .ok (.aload_n 0, 1) := by decide +kernel
theorem dX8_init_1 : decode cX8_init 1 = .ok (.invokespecial 3, 3) := by decide +kernel
theorem dX8_init_4 : decode cX8_init 4 = .ok (.aload_n 0, 1) := by decide +kernel
theorem dX8_init_5 : decode cX8_init 5 = .ok (.sipush 400, 3) := by decide +kernel
theorem dX8_init_8 : decode cX8_init 8 = .ok (.newarray .int, 2) := by decide +kernel
theorem dX8_init_10 : decode cX8_init 10 = .ok (.putfield 9, 3) := by decide +kernel
theorem dX8_init_13 : decode cX8_init 13 = .ok (.return_, 1) := by decide +kernel
theorem dX8_append_0 : decode cX8_append 0 = .ok (.aload_n 0, 1) := by decide +kernel
theorem dX8_append_1 : decode cX8_append 1 = .ok (.getfield 15, 3) := by decide +kernel
theorem dX8_append_4 : decode cX8_append 4 = .ok (.iconst 4, 1) := by decide +kernel
theorem dX8_append_5 : decode cX8_append 5 = .ok (.iadd, 1) := by decide +kernel
theorem dX8_append_6 : decode cX8_append 6 = .ok (.sipush 400, 3) := by decide +kernel
theorem dX8_append_9 : decode cX8_append 9 = .ok (.if_icmp .le 4, 3) := by decide +kernel
theorem dX8_append_12 : decode cX8_append 12 = .ok (.return_, 1) := by decide +kernel
theorem dX8_append_13 : decode cX8_append 13 = .ok (.aload_n 0, 1) := by decide +kernel
theorem dX8_append_14 : decode cX8_append 14 = .ok (.getfield 9, 3) := by decide +kernel
theorem dX8_append_17 : decode cX8_append 17 = .ok (.aload_n 0, 1) := by decide +kernel
theorem dX8_append_18 : decode cX8_append 18 = .ok (.getfield 15, 3) := by decide +kernel
theorem dX8_append_21 : decode cX8_append 21 = .ok (.iload_n 1, 1) := by decide +kernel
theorem dX8_append_22 : decode cX8_append 22 = .ok (.bipush 24, 2) := by decide +kernel
theorem dX8_append_24 : decode cX8_append 24 = .ok (.iushr, 1) := by decide +kernel
theorem dX8_append_25 : decode cX8_append 25 = .ok (.iastore, 1) := by decide +kernel
theorem dX8_append_26 : decode cX8_append 26 = .ok (.aload_n 0, 1) := by decide +kernel
theorem dX8_append_27 : decode cX8_append 27 = .ok (.getfield 9, 3) := by decide +kernel
theorem dX8_append_30 : decode cX8_append 30 = .ok (.aload_n 0, 1) := by decide +kernel
theorem dX8_append_31 : decode cX8_append 31 = .ok (.getfield 15, 3) := by decide +kernel
theorem dX8_append_34 : decode cX8_append 34 = .ok (.iconst 1, 1) := by decide +kernel
theorem dX8_append_35 : decode cX8_append 35 = .ok (.iadd, 1) := by decide +kernel
theorem dX8_append_36 : decode cX8_append 36 = .ok (.iload_n 1, 1) := by decide +kernel
theorem dX8_append_37 : decode cX8_append 37 = .ok (.bipush 16, 2) := by decide +kernel
theorem dX8_append_39 : decode cX8_append 39 = .ok (.iushr, 1) := by decide +kernel
theorem dX8_append_40 : decode cX8_append 40 = .ok (.sipush 255, 3) := by decide +kernel
theorem dX8_append_43 : decode cX8_append 43 = .ok (.iand, 1) := by decide +kernel
theorem dX8_append_44 : decode cX8_append 44 = .ok (.iastore, 1) := by decide +kernel
theorem dX8_append_45 : decode cX8_append 45 = .ok (.aload_n 0, 1) := by decide +kernel
theorem dX8_append_46 : decode cX8_append 46 = .ok (.getfield 9, 3) := by decide +kernel
theorem dX8_append_49 : decode cX8_append 49 = .ok (.aload_n 0, 1) := by decide +kernel
theorem dX8_append_50 : decode cX8_append 50 = .ok (.getfield 15, 3) := by decide +kernel
theorem dX8_append_53 : decode cX8_append 53 = .ok (.iconst 2, 1) := by decide +kernel
theorem dX8_append_54 : decode cX8_append 54 = .ok (.iadd, 1) := by decide +kernel
theorem dX8_append_55 : decode cX8_append 55 = .ok (.iload_n 1, 1) := by decide +kernel
theorem dX8_append_56 : decode cX8_append 56 = .ok (.bipush 8, 2) := by decide +kernel
theorem dX8_append_58 : decode cX8_append 58 = .ok (.iushr, 1) := by decide +kernel
theorem dX8_append_59 : decode cX8_append 59 = .ok (.sipush 255, 3) := by decide +kernel
theorem dX8_append_62 : decode cX8_append 62 = .ok (.iand, 1) := by decide +kernel
theorem dX8_append_63 : decode cX8_append 63 = .ok (.iastore, 1) := by decide +kernel
theorem dX8_append_64 : decode cX8_append 64 = .ok (.aload_n 0, 1) := by decide +kernel
theorem dX8_append_65 : decode cX8_append 65 = .ok (.getfield 9, 3) := by decide +kernel
theorem dX8_append_68 : decode cX8_append 68 = .ok (.aload_n 0, 1) := by decide +kernel
theorem dX8_append_69 : decode cX8_append 69 = .ok (.getfield 15, 3) := by decide +kernel
theorem dX8_append_72 : decode cX8_append 72 = .ok (.iconst 3, 1) := by decide +kernel
theorem dX8_append_73 : decode cX8_append 73 = .ok (.iadd, 1) := by decide +kernel
theorem dX8_append_74 : decode cX8_append 74 = .ok (.iload_n 1, 1) := by decide +kernel
theorem dX8_append_75 : decode cX8_append 75 = .ok (.sipush 255, 3) := by decide +kernel
theorem dX8_append_78 : decode cX8_append 78 = .ok (.iand, 1) := by decide +kernel
theorem dX8_append_79 : decode cX8_append 79 = .ok (.iastore, 1) := by decide +kernel
theorem dX8_append_80 : decode cX8_append 80 = .ok (.aload_n 0, 1) := by decide +kernel
theorem dX8_append_81 : decode cX8_append 81 = .ok (.dup, 1) := by decide +kernel
theorem dX8_append_82 : decode cX8_append 82 = .ok (.getfield 15, 3) := by decide +kernel
theorem dX8_append_85 : decode cX8_append 85 = .ok (.iconst 4, 1) := by decide +kernel
theorem dX8_append_86 : decode cX8_append 86 = .ok (.iadd, 1) := by decide +kernel
theorem dX8_append_87 : decode cX8_append 87 = .ok (.putfield 15, 3) := by decide +kernel
theorem dX8_append_90 : decode cX8_append 90 = .ok (.return_, 1) := by decide +kernel
theorem dX9_init_0 : decode cX9_init 0 = .ok (.aload_n 0, 1) := by decide +kernel
theorem dX9_init_1 : decode cX9_init 1 = .ok (.invokespecial 3, 3) := by decide +kernel
theorem dX9_init_4 : decode cX9_init 4 = .ok (.aload_n 0, 1) := by decide +kernel
theorem dX9_init_5 : decode cX9_init 5 = .ok (.bipush 48, 2) := by decide +kernel
theorem dX9_init_7 : decode cX9_init 7 = .ok (.newarray .int, 2) := by decide +kernel
theorem dX9_init_9 : decode cX9_init 9 = .ok (.putfield 9, 3) := by decide +kernel
theorem dX9_init_12 : decode cX9_init 12 = .ok (.aload_n 0, 1) := by decide +kernel
theorem dX9_init_13 : decode cX9_init 13 = .ok (.bipush 48, 2) := by decide +kernel
theorem dX9_init_15 : decode cX9_init 15 = .ok (.newarray .boolean, 2) := by decide +kernel
theorem dX9_init_17 : decode cX9_init 17 = .ok (.putfield 15, 3) := by decide +kernel
theorem dX9_init_20 : decode cX9_init 20 = .ok (.aload_n 0, 1) := by decide +kernel
theorem dX9_init_21 : decode cX9_init 21 = .ok (.bipush 48, 2) := by decide +kernel
theorem dX9_init_23 : decode cX9_init 23 = .ok (.newarray .int, 2) := by decide +kernel
theorem dX9_init_25 : decode cX9_init 25 = .ok (.putfield 19, 3) := by decide +kernel
theorem dX9_init_28 : decode cX9_init 28 = .ok (.aload_n 0, 1) := by decide +kernel
theorem dX9_init_29 : decode cX9_init 29 = .ok (.bipush 16, 2) := by decide +kernel
theorem dX9_init_31 : decode cX9_init 31 = .ok (.invokestatic 22, 3) := by decide +kernel
theorem dX9_init_34 : decode cX9_init 34 = .ok (.putfield 26, 3) := by decide +kernel
theorem dX9_init_37 : decode cX9_init 37 = .ok (.aload_n 0, 1) := by decide +kernel
theorem dX9_init_38 : decode cX9_init 38 = .ok (.bipush 16, 2) := by decide +kernel
theorem dX9_init_40 : decode cX9_init 40 = .ok (.invokestatic 22, 3) := by decide +kernel
theorem dX9_init_43 : decode cX9_init 43 = .ok (.putfield 30, 3) := by decide +kernel
theorem dX9_init_46 : decode cX9_init 46 = .ok (.aload_n 0, 1) := by decide +kernel
theorem dX9_init_47 : decode cX9_init 47 = .ok (.bipush 16, 2) := by decide +kernel
theorem dX9_init_49 : decode cX9_init 49 = .ok (.invokestatic 22, 3) := by decide +kernel
theorem dX9_init_52 : decode cX9_init 52 = .ok (.putfield 33, 3) := by decide +kernel
theorem dX9_init_55 : decode cX9_init 55 = .ok (.return_, 1) := by decide +kernel
theorem dX9_canBe_0 : decode cX9_canBe 0 = .ok (.aload_n 0, 1) := by decide +kernel
theorem dX9_canBe_1 : decode cX9_canBe 1 = .ok (.invokevirtual 36, 3) := by decide +kernel
theorem dX9_canBe_4 : decode cX9_canBe 4 = .ok (.iconst 0, 1) := by decide +kernel
theorem dX9_canBe_5 : decode cX9_canBe 5 = .ok (.istore_n 3, 1) := by decide +kernel
theorem dX9_canBe_6 : decode cX9_canBe 6 = .ok (.iload_n 3, 1) := by decide +kernel
theorem dX9_canBe_7 : decode cX9_canBe 7 = .ok (.aload_n 1, 1) := by decide +kernel
theorem dX9_canBe_8 : decode cX9_canBe 8 = .ok (.getfield 39, 3) := by decide +kernel
theorem dX9_canBe_11 : decode cX9_canBe 11 = .ok (.if_icmp .ge 23, 3) := by decide +kernel
theorem dX9_canBe_14 : decode cX9_canBe 14 = .ok (.iload_n 2, 1) := by decide +kernel
theorem dX9_canBe_15 : decode cX9_canBe 15 = .ok (.iload_n 3, 1) := by decide +kernel
theorem dX9_canBe_16 : decode cX9_canBe 16 = .ok (.invokestatic 45, 3) := by decide +kernel
theorem dX9_canBe_19 : decode cX9_canBe 19 = .ok (.ifCond .eq 9, 3) := by decide +kernel
theorem dX9_canBe_22 : decode cX9_canBe 22 = .ok (.aload_n 0, 1) := by decide +kernel
theorem dX9_canBe_23 : decode cX9_canBe 23 = .ok (.aload_n 1, 1) := by decide +kernel
theorem dX9_canBe_24 : decode cX9_canBe 24 = .ok (.iload_n 3, 1) := by decide +kernel
theorem dX9_canBe_25 : decode cX9_canBe 25 = .ok (.invokevirtual 49, 3) := by decide +kernel
theorem dX9_canBe_28 : decode cX9_canBe 28 = .ok (.iinc 3 1, 3) := by decide +kernel
theorem dX9_canBe_31 : decode cX9_canBe 31 = .ok (.goto (-25), 3) := by decide +kernel
theorem dX9_canBe_34 : decode cX9_canBe 34 = .ok (.iconst 0, 1) := by decide +kernel
theorem dX9_canBe_35 : decode cX9_canBe 35 = .ok (.istore_n 3, 1) := by decide +kernel
theorem dX9_canBe_36 : decode cX9_canBe 36 = .ok (.iload_n 3, 1) := by decide +kernel
theorem dX9_canBe_37 : decode cX9_canBe 37 = .ok (.bipush 6, 2) := by decide +kernel
theorem dX9_canBe_39 : decode cX9_canBe 39 = .ok (.if_icmp .ge 24, 3) := by decide +kernel
theorem dX9_canBe_42 : decode cX9_canBe 42 = .ok (.aload_n 1, 1) := by decide +kernel
theorem dX9_canBe_43 : decode cX9_canBe 43 = .ok (.getfield 53, 3) := by decide +kernel
theorem dX9_canBe_46 : decode cX9_canBe 46 = .ok (.iload_n 3, 1) := by decide +kernel
theorem dX9_canBe_47 : decode cX9_canBe 47 = .ok (.iaload, 1) := by decide +kernel
theorem dX9_canBe_48 : decode cX9_canBe 48 = .ok (.iconst (-1), 1) := by decide +kernel
theorem dX9_canBe_49 : decode cX9_canBe 49 = .ok (.if_icmp .eq 8, 3) := by decide +kernel
theorem dX9_canBe_52 : decode cX9_canBe 52 = .ok (.aload_n 0, 1) := by decide +kernel
theorem dX9_canBe_53 : decode cX9_canBe 53 = .ok (.iload_n 3, 1) := by decide +kernel
theorem dX9_canBe_54 : decode cX9_canBe 54 = .ok (.invokevirtual 56, 3) := by decide +kernel
theorem dX9_canBe_57 : decode cX9_canBe 57 = .ok (.iinc 3 1, 3) := by decide +kernel
theorem dX9_canBe_60 : decode cX9_canBe 60 = .ok (.goto (-24), 3) := by decide +kernel
theorem dX9_canBe_63 : decode cX9_canBe 63 = .ok (.iconst 0, 1) := by decide +kernel
theorem dX9_canBe_64 : decode cX9_canBe 64 = .ok (.istore_n 3, 1) := by decide +kernel
theorem dX9_canBe_65 : decode cX9_canBe 65 = .ok (.iload_n 3, 1) := by decide +kernel
theorem dX9_canBe_66 : decode cX9_canBe 66 = .ok (.bipush 12, 2) := by decide +kernel
theorem dX9_canBe_68 : decode cX9_canBe 68 = .ok (.if_icmp .ge 14, 3) := by decide +kernel
theorem dX9_canBe_71 : decode cX9_canBe 71 = .ok (.aload_n 0, 1) := by decide +kernel
theorem dX9_canBe_72 : decode cX9_canBe 72 = .ok (.iload_n 3, 1) := by decide +kernel
theorem dX9_canBe_73 : decode cX9_canBe 73 = .ok (.invokevirtual 60, 3) := by decide +kernel
theorem dX9_canBe_76 : decode cX9_canBe 76 = .ok (.iinc 3 1, 3) := by decide +kernel
theorem dX9_canBe_79 : decode cX9_canBe 79 = .ok (.goto (-14), 3) := by decide +kernel
theorem dX9_canBe_82 : decode cX9_canBe 82 = .ok (.iconst 0, 1) := by decide +kernel
theorem dX9_canBe_83 : decode cX9_canBe 83 = .ok (.istore_n 3, 1) := by decide +kernel
theorem dX9_canBe_84 : decode cX9_canBe 84 = .ok (.iload_n 3, 1) := by decide +kernel
theorem dX9_canBe_85 : decode cX9_canBe 85 = .ok (.bipush 16, 2) := by decide +kernel
theorem dX9_canBe_87 : decode cX9_canBe 87 = .ok (.if_icmp .ge 32, 3) := by decide +kernel
theorem dX9_canBe_90 : decode cX9_canBe 90 = .ok (.aload_n 1, 1) := by decide +kernel
theorem dX9_canBe_91 : decode cX9_canBe 91 = .ok (.getfield 63, 3) := by decide +kernel
theorem dX9_canBe_94 : decode cX9_canBe 94 = .ok (.iload_n 3, 1) := by decide +kernel
theorem dX9_canBe_95 : decode cX9_canBe 95 = .ok (.invokestatic 45, 3) := by decide +kernel
theorem dX9_canBe_98 : decode cX9_canBe 98 = .ok (.ifCond .eq 15, 3) := by decide +kernel
theorem dX9_canBe_101 : decode cX9_canBe 101 = .ok (.aload_n 0, 1) := by decide +kernel
theorem dX9_canBe_102 : decode cX9_canBe 102 = .ok (.getfield 26, 3) := by decide +kernel
theorem dX9_canBe_105 : decode cX9_canBe 105 = .ok (.iload_n 3, 1) := by decide +kernel
theorem dX9_canBe_106 : decode cX9_canBe 106 = .ok (.aaload, 1) := by decide +kernel
theorem dX9_canBe_107 : decode cX9_canBe 107 = .ok (.lconst 1, 1) := by decide +kernel
theorem dX9_canBe_108 : decode cX9_canBe 108 = .ok (.lconst 1, 1) := by decide +kernel
theorem dX9_canBe_109 : decode cX9_canBe 109 = .ok (.iconst 1, 1) := by decide +kernel
theorem dX9_canBe_110 : decode cX9_canBe 110 = .ok (.invokevirtual 66, 3) := by decide +kernel
theorem dX9_canBe_113 : decode cX9_canBe 113 = .ok (.iinc 3 1, 3) := by decide +kernel
theorem dX9_canBe_116 : decode cX9_canBe 116 = .ok (.goto (-32), 3) := by decide +kernel
theorem dX9_canBe_119 : decode cX9_canBe 119 = .ok (.aload_n 0, 1) := by decide +kernel
theorem dX9_canBe_120 : decode cX9_canBe 120 = .ok (.invokevirtual 72, 3) := by decide +kernel
theorem dX9_canBe_123 : decode cX9_canBe 123 = .ok (.ifCond .ne 5, 3) := by decide +kernel
theorem dX9_canBe_126 : decode cX9_canBe 126 = .ok (.iconst 0, 1) := by decide +kernel
theorem dX9_canBe_127 : decode cX9_canBe 127 = .ok (.ireturn, 1) := by decide +kernel
theorem dX9_canBe_128 : decode cX9_canBe 128 = .ok (.aload_n 0, 1) := by decide +kernel
theorem dX9_canBe_129 : decode cX9_canBe 129 = .ok (.aload_n 0, 1) := by decide +kernel
theorem dX9_canBe_130 : decode cX9_canBe 130 = .ok (.getfield 26, 3) := by decide +kernel
theorem dX9_canBe_133 : decode cX9_canBe 133 = .ok (.aload_n 0, 1) := by decide +kernel
theorem dX9_canBe_134 : decode cX9_canBe 134 = .ok (.getfield 30, 3) := by decide +kernel
theorem dX9_canBe_137 : decode cX9_canBe 137 = .ok (.invokevirtual 76, 3) := by decide +kernel
theorem dX9_canBe_140 : decode cX9_canBe 140 = .ok (.aload_n 0, 1) := by decide +kernel
theorem dX9_canBe_141 : decode cX9_canBe 141 = .ok (.aload_n 0, 1) := by decide +kernel
theorem dX9_canBe_142 : decode cX9_canBe 142 = .ok (.getfield 30, 3) := by decide +kernel
theorem dX9_canBe_145 : decode cX9_canBe 145 = .ok (.aload_n 0, 1) := by decide +kernel
theorem dX9_canBe_146 : decode cX9_canBe 146 = .ok (.getfield 33, 3) := by decide +kernel
theorem dX9_canBe_149 : decode cX9_canBe 149 = .ok (.invokevirtual 76, 3) := by decide +kernel
theorem dX9_canBe_152 : decode cX9_canBe 152 = .ok (.aload_n 0, 1) := by decide +kernel
theorem dX9_canBe_153 : decode cX9_canBe 153 = .ok (.invokevirtual 80, 3) := by decide +kernel
theorem dX9_canBe_156 : decode cX9_canBe 156 = .ok (.ireturn, 1) := by decide +kernel
theorem dX9_forget_0 : decode cX9_forget 0 = .ok (.aload_n 0, 1) := by decide +kernel
theorem dX9_forget_1 : decode cX9_forget 1 = .ok (.getfield 9, 3) := by decide +kernel
theorem dX9_forget_4 : decode cX9_forget 4 = .ok (.iconst 0, 1) := by decide +kernel
theorem dX9_forget_5 : decode cX9_forget 5 = .ok (.invokestatic 83, 3) := by decide +kernel
theorem dX9_forget_8 : decode cX9_forget 8 = .ok (.aload_n 0, 1) := by decide +kernel
theorem dX9_forget_9 : decode cX9_forget 9 = .ok (.getfield 19, 3) := by decide +kernel
theorem dX9_forget_12 : decode cX9_forget 12 = .ok (.iconst 0, 1) := by decide +kernel
theorem dX9_forget_13 : decode cX9_forget 13 = .ok (.invokestatic 83, 3) := by decide +kernel
theorem dX9_forget_16 : decode cX9_forget 16 = .ok (.iconst 0, 1) := by decide +kernel
theorem dX9_forget_17 : decode cX9_forget 17 = .ok (.istore_n 1, 1) := by decide +kernel
theorem dX9_forget_18 : decode cX9_forget 18 = .ok (.iload_n 1, 1) := by decide +kernel
theorem dX9_forget_19 : decode cX9_forget 19 = .ok (.bipush 16, 2) := by decide +kernel
theorem dX9_forget_21 : decode cX9_forget 21 = .ok (.if_icmp .ge 18, 3) := by decide +kernel
theorem dX9_forget_24 : decode cX9_forget 24 = .ok (.aload_n 0, 1) := by decide +kernel
theorem dX9_forget_25 : decode cX9_forget 25 = .ok (.getfield 26, 3) := by decide +kernel
theorem dX9_forget_28 : decode cX9_forget 28 = .ok (.iload_n 1, 1) := by decide +kernel
theorem dX9_forget_29 : decode cX9_forget 29 = .ok (.aaload, 1) := by decide +kernel
theorem dX9_forget_30 : decode cX9_forget 30 = .ok (.invokevirtual 89, 3) := by decide +kernel
theorem dX9_forget_33 : decode cX9_forget 33 = .ok (.iinc 1 1, 3) := by decide +kernel
theorem dX9_forget_36 : decode cX9_forget 36 = .ok (.goto (-18), 3) := by decide +kernel
theorem dX9_forget_39 : decode cX9_forget 39 = .ok (.return_, 1) := by decide +kernel
theorem dX9_tie_0 : decode cX9_tie 0 = .ok (.aload_n 1, 1) := by decide +kernel
theorem dX9_tie_1 : decode cX9_tie 1 = .ok (.iload_n 2, 1) := by decide +kernel
theorem dX9_tie_2 : decode cX9_tie 2 = .ok (.invokevirtual 92, 3) := by decide +kernel
theorem dX9_tie_5 : decode cX9_tie 5 = .ok (.istore_n 3, 1) := by decide +kernel
theorem dX9_tie_6 : decode cX9_tie 6 = .ok (.iload_n 3, 1) := by decide +kernel
theorem dX9_tie_7 : decode cX9_tie 7 = .ok (.iconst (-1), 1) := by decide +kernel
theorem dX9_tie_8 : decode cX9_tie 8 = .ok (.if_icmp .ne 4, 3) := by decide +kernel
theorem dX9_tie_11 : decode cX9_tie 11 = .ok (.return_, 1) := by decide +kernel
theorem dX9_tie_12 : decode cX9_tie 12 = .ok (.aload_n 1, 1) := by decide +kernel
theorem dX9_tie_13 : decode cX9_tie 13 = .ok (.iload_n 2, 1) := by decide +kernel
theorem dX9_tie_14 : decode cX9_tie 14 = .ok (.invokevirtual 96, 3) := by decide +kernel
theorem dX9_tie_17 : decode cX9_tie 17 = .ok (.iconst 4, 1) := by decide +kernel
theorem dX9_tie_18 : decode cX9_tie 18 = .ok (.imul, 1) := by decide +kernel
theorem dX9_tie_19 : decode cX9_tie 19 = .ok (.iload_n 3, 1) := by decide +kernel
theorem dX9_tie_20 : decode cX9_tie 20 = .ok (.iadd, 1) := by decide +kernel
theorem dX9_tie_21 : decode cX9_tie 21 = .ok (.istore 4, 2) := by decide +kernel
theorem dX9_tie_23 : decode cX9_tie 23 = .ok (.aload_n 0, 1) := by decide +kernel
theorem dX9_tie_24 : decode cX9_tie 24 = .ok (.iload 4, 2) := by decide +kernel
theorem dX9_tie_26 : decode cX9_tie 26 = .ok (.aload_n 1, 1) := by decide +kernel
theorem dX9_tie_27 : decode cX9_tie 27 = .ok (.iload_n 2, 1) := by decide +kernel
theorem dX9_tie_28 : decode cX9_tie 28 = .ok (.invokevirtual 99, 3) := by decide +kernel
theorem dX9_tie_31 : decode cX9_tie 31 = .ok (.aload_n 1, 1) := by decide +kernel
theorem dX9_tie_32 : decode cX9_tie 32 = .ok (.getfield 102, 3) := by decide +kernel
theorem dX9_tie_35 : decode cX9_tie 35 = .ok (.iload_n 2, 1) := by decide +kernel
theorem dX9_tie_36 : decode cX9_tie 36 = .ok (.iaload, 1) := by decide +kernel
theorem dX9_tie_37 : decode cX9_tie 37 = .ok (.ifCond .eq 7, 3) := by decide +kernel
theorem dX9_tie_40 : decode cX9_tie 40 = .ok (.iconst 1, 1) := by decide +kernel
theorem dX9_tie_41 : decode cX9_tie 41 = .ok (.goto 4, 3) := by decide +kernel
theorem dX9_tie_44 : decode cX9_tie 44 = .ok (.iconst 0, 1) := by decide +kernel
theorem dX9_tie_45 : decode cX9_tie 45 = .ok (.invokevirtual 105, 3) := by decide +kernel
theorem dX9_tie_48 : decode cX9_tie 48 = .ok (.aload_n 0, 1) := by decide +kernel
theorem dX9_tie_49 : decode cX9_tie 49 = .ok (.getfield 19, 3) := by decide +kernel
theorem dX9_tie_52 : decode cX9_tie 52 = .ok (.iload 4, 2) := by decide +kernel
theorem dX9_tie_54 : decode cX9_tie 54 = .ok (.aload_n 0, 1) := by decide +kernel
theorem dX9_tie_55 : decode cX9_tie 55 = .ok (.getfield 19, 3) := by decide +kernel
theorem dX9_tie_58 : decode cX9_tie 58 = .ok (.iload 4, 2) := by decide +kernel
theorem dX9_tie_60 : decode cX9_tie 60 = .ok (.iaload, 1) := by decide +kernel
theorem dX9_tie_61 : decode cX9_tie 61 = .ok (.aload_n 1, 1) := by decide +kernel
theorem dX9_tie_62 : decode cX9_tie 62 = .ok (.iload_n 2, 1) := by decide +kernel
theorem dX9_tie_63 : decode cX9_tie 63 = .ok (.invokevirtual 109, 3) := by decide +kernel
theorem dX9_tie_66 : decode cX9_tie 66 = .ok (.invokestatic 112, 3) := by decide +kernel
theorem dX9_tie_69 : decode cX9_tie 69 = .ok (.iastore, 1) := by decide +kernel
theorem dX9_tie_70 : decode cX9_tie 70 = .ok (.return_, 1) := by decide +kernel
theorem dX9_lower_0 : decode cX9_lower 0 = .ok (.aload_n 0, 1) := by decide +kernel
theorem dX9_lower_1 : decode cX9_lower 1 = .ok (.getfield 9, 3) := by decide +kernel
theorem dX9_lower_4 : decode cX9_lower 4 = .ok (.iload_n 1, 1) := by decide +kernel
theorem dX9_lower_5 : decode cX9_lower 5 = .ok (.iaload, 1) := by decide +kernel
theorem dX9_lower_6 : decode cX9_lower 6 = .ok (.ifCond .eq 13, 3) := by decide +kernel
theorem dX9_lower_9 : decode cX9_lower 9 = .ok (.iload_n 2, 1) := by decide +kernel
theorem dX9_lower_10 : decode cX9_lower 10 = .ok (.aload_n 0, 1) := by decide +kernel
theorem dX9_lower_11 : decode cX9_lower 11 = .ok (.getfield 9, 3) := by decide +kernel
theorem dX9_lower_14 : decode cX9_lower 14 = .ok (.iload_n 1, 1) := by decide +kernel
theorem dX9_lower_15 : decode cX9_lower 15 = .ok (.iaload, 1) := by decide +kernel
theorem dX9_lower_16 : decode cX9_lower 16 = .ok (.if_icmp .ge 20, 3) := by decide +kernel
theorem dX9_lower_19 : decode cX9_lower 19 = .ok (.aload_n 0, 1) := by decide +kernel
theorem dX9_lower_20 : decode cX9_lower 20 = .ok (.getfield 9, 3) := by decide +kernel
theorem dX9_lower_23 : decode cX9_lower 23 = .ok (.iload_n 1, 1) := by decide +kernel
theorem dX9_lower_24 : decode cX9_lower 24 = .ok (.iload_n 2, 1) := by decide +kernel
theorem dX9_lower_25 : decode cX9_lower 25 = .ok (.iastore, 1) := by decide +kernel
theorem dX9_lower_26 : decode cX9_lower 26 = .ok (.aload_n 0, 1) := by decide +kernel
theorem dX9_lower_27 : decode cX9_lower 27 = .ok (.getfield 15, 3) := by decide +kernel
theorem dX9_lower_30 : decode cX9_lower 30 = .ok (.iload_n 1, 1) := by decide +kernel
theorem dX9_lower_31 : decode cX9_lower 31 = .ok (.iload_n 3, 1) := by decide +kernel
theorem dX9_lower_32 : decode cX9_lower 32 = .ok (.bastore, 1) := by decide +kernel
theorem dX9_lower_33 : decode cX9_lower 33 = .ok (.goto 24, 3) := by decide +kernel
theorem dX9_lower_36 : decode cX9_lower 36 = .ok (.iload_n 2, 1) := by decide +kernel
theorem dX9_lower_37 : decode cX9_lower 37 = .ok (.aload_n 0, 1) := by decide +kernel
theorem dX9_lower_38 : decode cX9_lower 38 = .ok (.getfield 9, 3) := by decide +kernel
theorem dX9_lower_41 : decode cX9_lower 41 = .ok (.iload_n 1, 1) := by decide +kernel
theorem dX9_lower_42 : decode cX9_lower 42 = .ok (.iaload, 1) := by decide +kernel
theorem dX9_lower_43 : decode cX9_lower 43 = .ok (.if_icmp .ne 14, 3) := by decide +kernel
theorem dX9_lower_46 : decode cX9_lower 46 = .ok (.iload_n 3, 1) := by decide +kernel
theorem dX9_lower_47 : decode cX9_lower 47 = .ok (.ifCond .eq 10, 3) := by decide +kernel
theorem dX9_lower_50 : decode cX9_lower 50 = .ok (.aload_n 0, 1) := by decide +kernel
theorem dX9_lower_51 : decode cX9_lower 51 = .ok (.getfield 15, 3) := by decide +kernel
theorem dX9_lower_54 : decode cX9_lower 54 = .ok (.iload_n 1, 1) := by decide +kernel
theorem dX9_lower_55 : decode cX9_lower 55 = .ok (.iconst 1, 1) := by decide +kernel
theorem dX9_lower_56 : decode cX9_lower 56 = .ok (.bastore, 1) := by decide +kernel
theorem dX9_lower_57 : decode cX9_lower 57 = .ok (.return_, 1) := by decide +kernel
theorem dX9_tieCut_0 : decode cX9_tieCut 0 = .ok (.iconst 0, 1) := by decide +kernel
theorem dX9_tieCut_1 : decode cX9_tieCut 1 = .ok (.istore_n 2, 1) := by decide +kernel
theorem dX9_tieCut_2 : decode cX9_tieCut 2 = .ok (.iload_n 2, 1) := by decide +kernel
theorem dX9_tieCut_3 : decode cX9_tieCut 3 = .ok (.iconst 4, 1) := by decide +kernel
theorem dX9_tieCut_4 : decode cX9_tieCut 4 = .ok (.if_icmp .ge 74, 3) := by decide +kernel
theorem dX9_tieCut_7 : decode cX9_tieCut 7 = .ok (.iload_n 1, 1) := by decide +kernel
theorem dX9_tieCut_8 : decode cX9_tieCut 8 = .ok (.iconst 4, 1) := by decide +kernel
theorem dX9_tieCut_9 : decode cX9_tieCut 9 = .ok (.imul, 1) := by decide +kernel
theorem dX9_tieCut_10 : decode cX9_tieCut 10 = .ok (.iload_n 2, 1) := by decide +kernel
theorem dX9_tieCut_11 : decode cX9_tieCut 11 = .ok (.iadd, 1) := by decide +kernel
theorem dX9_tieCut_12 : decode cX9_tieCut 12 = .ok (.istore_n 3, 1) := by decide +kernel
theorem dX9_tieCut_13 : decode cX9_tieCut 13 = .ok (.iload_n 1, 1) := by decide +kernel
theorem dX9_tieCut_14 : decode cX9_tieCut 14 = .ok (.bipush 6, 2) := by decide +kernel
theorem dX9_tieCut_16 : decode cX9_tieCut 16 = .ok (.iadd, 1) := by decide +kernel
theorem dX9_tieCut_17 : decode cX9_tieCut 17 = .ok (.iconst 4, 1) := by decide +kernel
theorem dX9_tieCut_18 : decode cX9_tieCut 18 = .ok (.imul, 1) := by decide +kernel
theorem dX9_tieCut_19 : decode cX9_tieCut 19 = .ok (.iload_n 2, 1) := by decide +kernel
theorem dX9_tieCut_20 : decode cX9_tieCut 20 = .ok (.iadd, 1) := by decide +kernel
theorem dX9_tieCut_21 : decode cX9_tieCut 21 = .ok (.istore 4, 2) := by decide +kernel
theorem dX9_tieCut_23 : decode cX9_tieCut 23 = .ok (.aload_n 0, 1) := by decide +kernel
theorem dX9_tieCut_24 : decode cX9_tieCut 24 = .ok (.getfield 9, 3) := by decide +kernel
theorem dX9_tieCut_27 : decode cX9_tieCut 27 = .ok (.iload_n 3, 1) := by decide +kernel
theorem dX9_tieCut_28 : decode cX9_tieCut 28 = .ok (.iaload, 1) := by decide +kernel
theorem dX9_tieCut_29 : decode cX9_tieCut 29 = .ok (.ifCond .eq 21, 3) := by decide +kernel
theorem dX9_tieCut_32 : decode cX9_tieCut 32 = .ok (.aload_n 0, 1) := by decide +kernel
theorem dX9_tieCut_33 : decode cX9_tieCut 33 = .ok (.iload 4, 2) := by decide +kernel
theorem dX9_tieCut_35 : decode cX9_tieCut 35 = .ok (.aload_n 0, 1) := by decide +kernel
theorem dX9_tieCut_36 : decode cX9_tieCut 36 = .ok (.getfield 9, 3) := by decide +kernel
theorem dX9_tieCut_39 : decode cX9_tieCut 39 = .ok (.iload_n 3, 1) := by decide +kernel
theorem dX9_tieCut_40 : decode cX9_tieCut 40 = .ok (.iaload, 1) := by decide +kernel
theorem dX9_tieCut_41 : decode cX9_tieCut 41 = .ok (.aload_n 0, 1) := by decide +kernel
theorem dX9_tieCut_42 : decode cX9_tieCut 42 = .ok (.getfield 15, 3) := by decide +kernel
theorem dX9_tieCut_45 : decode cX9_tieCut 45 = .ok (.iload_n 3, 1) := by decide +kernel
theorem dX9_tieCut_46 : decode cX9_tieCut 46 = .ok (.baload, 1) := by decide +kernel
theorem dX9_tieCut_47 : decode cX9_tieCut 47 = .ok (.invokevirtual 105, 3) := by decide +kernel
theorem dX9_tieCut_50 : decode cX9_tieCut 50 = .ok (.aload_n 0, 1) := by decide +kernel
theorem dX9_tieCut_51 : decode cX9_tieCut 51 = .ok (.getfield 19, 3) := by decide +kernel
theorem dX9_tieCut_54 : decode cX9_tieCut 54 = .ok (.iload_n 3, 1) := by decide +kernel
theorem dX9_tieCut_55 : decode cX9_tieCut 55 = .ok (.aload_n 0, 1) := by decide +kernel
theorem dX9_tieCut_56 : decode cX9_tieCut 56 = .ok (.getfield 19, 3) := by decide +kernel
theorem dX9_tieCut_59 : decode cX9_tieCut 59 = .ok (.iload_n 3, 1) := by decide +kernel
theorem dX9_tieCut_60 : decode cX9_tieCut 60 = .ok (.iaload, 1) := by decide +kernel
theorem dX9_tieCut_61 : decode cX9_tieCut 61 = .ok (.aload_n 0, 1) := by decide +kernel
theorem dX9_tieCut_62 : decode cX9_tieCut 62 = .ok (.getfield 19, 3) := by decide +kernel
theorem dX9_tieCut_65 : decode cX9_tieCut 65 = .ok (.iload 4, 2) := by decide +kernel
theorem dX9_tieCut_67 : decode cX9_tieCut 67 = .ok (.iaload, 1) := by decide +kernel
theorem dX9_tieCut_68 : decode cX9_tieCut 68 = .ok (.invokestatic 112, 3) := by decide +kernel
theorem dX9_tieCut_71 : decode cX9_tieCut 71 = .ok (.iastore, 1) := by decide +kernel
theorem dX9_tieCut_72 : decode cX9_tieCut 72 = .ok (.iinc 2 1, 3) := by decide +kernel
theorem dX9_tieCut_75 : decode cX9_tieCut 75 = .ok (.goto (-73), 3) := by decide +kernel
theorem dX9_tieCut_78 : decode cX9_tieCut 78 = .ok (.return_, 1) := by decide +kernel
theorem dX9_stepOver_0 : decode cX9_stepOver 0 = .ok (.iload_n 1, 1) := by decide +kernel
theorem dX9_stepOver_1 : decode cX9_stepOver 1 = .ok (.iconst 4, 1) := by decide +kernel
theorem dX9_stepOver_2 : decode cX9_stepOver 2 = .ok (.imul, 1) := by decide +kernel
theorem dX9_stepOver_3 : decode cX9_stepOver 3 = .ok (.istore_n 2, 1) := by decide +kernel
theorem dX9_stepOver_4 : decode cX9_stepOver 4 = .ok (.iconst 0, 1) := by decide +kernel
theorem dX9_stepOver_5 : decode cX9_stepOver 5 = .ok (.istore_n 3, 1) := by decide +kernel
theorem dX9_stepOver_6 : decode cX9_stepOver 6 = .ok (.iload_n 3, 1) := by decide +kernel
theorem dX9_stepOver_7 : decode cX9_stepOver 7 = .ok (.iconst 4, 1) := by decide +kernel
theorem dX9_stepOver_8 : decode cX9_stepOver 8 = .ok (.if_icmp .ge 92, 3) := by decide +kernel
theorem dX9_stepOver_11 : decode cX9_stepOver 11 = .ok (.aload_n 0, 1) := by decide +kernel
theorem dX9_stepOver_12 : decode cX9_stepOver 12 = .ok (.getfield 19, 3) := by decide +kernel
theorem dX9_stepOver_15 : decode cX9_stepOver 15 = .ok (.iload_n 2, 1) := by decide +kernel
theorem dX9_stepOver_16 : decode cX9_stepOver 16 = .ok (.iload_n 3, 1) := by decide +kernel
theorem dX9_stepOver_17 : decode cX9_stepOver 17 = .ok (.iadd, 1) := by decide +kernel
theorem dX9_stepOver_18 : decode cX9_stepOver 18 = .ok (.iaload, 1) := by decide +kernel
theorem dX9_stepOver_19 : decode cX9_stepOver 19 = .ok (.ifCond .ne 6, 3) := by decide +kernel
theorem dX9_stepOver_22 : decode cX9_stepOver 22 = .ok (.goto 72, 3) := by decide +kernel
theorem dX9_stepOver_25 : decode cX9_stepOver 25 = .ok (.iconst 0, 1) := by decide +kernel
theorem dX9_stepOver_26 : decode cX9_stepOver 26 = .ok (.istore 4, 2) := by decide +kernel
theorem dX9_stepOver_28 : decode cX9_stepOver 28 = .ok (.iload 4, 2) := by decide +kernel
theorem dX9_stepOver_30 : decode cX9_stepOver 30 = .ok (.iconst 4, 1) := by decide +kernel
theorem dX9_stepOver_31 : decode cX9_stepOver 31 = .ok (.if_icmp .ge 63, 3) := by decide +kernel
theorem dX9_stepOver_34 : decode cX9_stepOver 34 = .ok (.aload_n 0, 1) := by decide +kernel
theorem dX9_stepOver_35 : decode cX9_stepOver 35 = .ok (.getfield 9, 3) := by decide +kernel
theorem dX9_stepOver_38 : decode cX9_stepOver 38 = .ok (.iload_n 2, 1) := by decide +kernel
theorem dX9_stepOver_39 : decode cX9_stepOver 39 = .ok (.iload 4, 2) := by decide +kernel
theorem dX9_stepOver_41 : decode cX9_stepOver 41 = .ok (.iadd, 1) := by decide +kernel
theorem dX9_stepOver_42 : decode cX9_stepOver 42 = .ok (.iaload, 1) := by decide +kernel
theorem dX9_stepOver_43 : decode cX9_stepOver 43 = .ok (.ifCond .eq 45, 3) := by decide +kernel
theorem dX9_stepOver_46 : decode cX9_stepOver 46 = .ok (.aload_n 0, 1) := by decide +kernel
theorem dX9_stepOver_47 : decode cX9_stepOver 47 = .ok (.getfield 26, 3) := by decide +kernel
theorem dX9_stepOver_50 : decode cX9_stepOver 50 = .ok (.iload_n 3, 1) := by decide +kernel
theorem dX9_stepOver_51 : decode cX9_stepOver 51 = .ok (.iconst 4, 1) := by decide +kernel
theorem dX9_stepOver_52 : decode cX9_stepOver 52 = .ok (.imul, 1) := by decide +kernel
theorem dX9_stepOver_53 : decode cX9_stepOver 53 = .ok (.iload 4, 2) := by decide +kernel
theorem dX9_stepOver_55 : decode cX9_stepOver 55 = .ok (.iadd, 1) := by decide +kernel
theorem dX9_stepOver_56 : decode cX9_stepOver 56 = .ok (.aaload, 1) := by decide +kernel
theorem dX9_stepOver_57 : decode cX9_stepOver 57 = .ok (.aload_n 0, 1) := by decide +kernel
theorem dX9_stepOver_58 : decode cX9_stepOver 58 = .ok (.getfield 9, 3) := by decide +kernel
theorem dX9_stepOver_61 : decode cX9_stepOver 61 = .ok (.iload_n 2, 1) := by decide +kernel
theorem dX9_stepOver_62 : decode cX9_stepOver 62 = .ok (.iload 4, 2) := by decide +kernel
theorem dX9_stepOver_64 : decode cX9_stepOver 64 = .ok (.iadd, 1) := by decide +kernel
theorem dX9_stepOver_65 : decode cX9_stepOver 65 = .ok (.iaload, 1) := by decide +kernel
theorem dX9_stepOver_66 : decode cX9_stepOver 66 = .ok (.i2l, 1) := by decide +kernel
theorem dX9_stepOver_67 : decode cX9_stepOver 67 = .ok (.aload_n 0, 1) := by decide +kernel
theorem dX9_stepOver_68 : decode cX9_stepOver 68 = .ok (.getfield 19, 3) := by decide +kernel
theorem dX9_stepOver_71 : decode cX9_stepOver 71 = .ok (.iload_n 2, 1) := by decide +kernel
theorem dX9_stepOver_72 : decode cX9_stepOver 72 = .ok (.iload_n 3, 1) := by decide +kernel
theorem dX9_stepOver_73 : decode cX9_stepOver 73 = .ok (.iadd, 1) := by decide +kernel
theorem dX9_stepOver_74 : decode cX9_stepOver 74 = .ok (.iaload, 1) := by decide +kernel
theorem dX9_stepOver_75 : decode cX9_stepOver 75 = .ok (.i2l, 1) := by decide +kernel
theorem dX9_stepOver_76 : decode cX9_stepOver 76 = .ok (.aload_n 0, 1) := by decide +kernel
theorem dX9_stepOver_77 : decode cX9_stepOver 77 = .ok (.getfield 15, 3) := by decide +kernel
theorem dX9_stepOver_80 : decode cX9_stepOver 80 = .ok (.iload_n 2, 1) := by decide +kernel
theorem dX9_stepOver_81 : decode cX9_stepOver 81 = .ok (.iload 4, 2) := by decide +kernel
theorem dX9_stepOver_83 : decode cX9_stepOver 83 = .ok (.iadd, 1) := by decide +kernel
theorem dX9_stepOver_84 : decode cX9_stepOver 84 = .ok (.baload, 1) := by decide +kernel
theorem dX9_stepOver_85 : decode cX9_stepOver 85 = .ok (.invokevirtual 66, 3) := by decide +kernel
theorem dX9_stepOver_88 : decode cX9_stepOver 88 = .ok (.iinc 4 1, 3) := by decide +kernel
theorem dX9_stepOver_91 : decode cX9_stepOver 91 = .ok (.goto (-63), 3) := by decide +kernel
theorem dX9_stepOver_94 : decode cX9_stepOver 94 = .ok (.iinc 3 1, 3) := by decide +kernel
theorem dX9_stepOver_97 : decode cX9_stepOver 97 = .ok (.goto (-91), 3) := by decide +kernel
theorem dX9_stepOver_100 : decode cX9_stepOver 100 = .ok (.return_, 1) := by decide +kernel
theorem dX9_eachFootHolds_0 : decode cX9_eachFootHolds 0 = .ok (.iconst 0, 1) := by decide +kernel
theorem dX9_eachFootHolds_1 : decode cX9_eachFootHolds 1 = .ok (.istore_n 1, 1) := by decide +kernel
theorem dX9_eachFootHolds_2 : decode cX9_eachFootHolds 2 = .ok (.iload_n 1, 1) := by decide +kernel
theorem dX9_eachFootHolds_3 : decode cX9_eachFootHolds 3 = .ok (.iconst 4, 1) := by decide +kernel
theorem dX9_eachFootHolds_4 : decode cX9_eachFootHolds 4 = .ok (.if_icmp .ge 27, 3) := by decide +kernel
theorem dX9_eachFootHolds_7 : decode cX9_eachFootHolds 7 = .ok (.aload_n 0, 1) := by decide +kernel
theorem dX9_eachFootHolds_8 : decode cX9_eachFootHolds 8 = .ok (.getfield 26, 3) := by decide +kernel
theorem dX9_eachFootHolds_11 : decode cX9_eachFootHolds 11 = .ok (.iload_n 1, 1) := by decide +kernel
theorem dX9_eachFootHolds_12 : decode cX9_eachFootHolds 12 = .ok (.iconst 4, 1) := by decide +kernel
theorem dX9_eachFootHolds_13 : decode cX9_eachFootHolds 13 = .ok (.imul, 1) := by decide +kernel
theorem dX9_eachFootHolds_14 : decode cX9_eachFootHolds 14 = .ok (.iload_n 1, 1) := by decide +kernel
theorem dX9_eachFootHolds_15 : decode cX9_eachFootHolds 15 = .ok (.iadd, 1) := by decide +kernel
theorem dX9_eachFootHolds_16 : decode cX9_eachFootHolds 16 = .ok (.aaload, 1) := by decide +kernel
theorem dX9_eachFootHolds_17 : decode cX9_eachFootHolds 17 = .ok (.invokevirtual 118, 3) := by decide +kernel
theorem dX9_eachFootHolds_20 : decode cX9_eachFootHolds 20 = .ok (.ifCond .eq 5, 3) := by decide +kernel
theorem dX9_eachFootHolds_23 : decode cX9_eachFootHolds 23 = .ok (.iconst 0, 1) := by decide +kernel
theorem dX9_eachFootHolds_24 : decode cX9_eachFootHolds 24 = .ok (.ireturn, 1) := by decide +kernel
theorem dX9_eachFootHolds_25 : decode cX9_eachFootHolds 25 = .ok (.iinc 1 1, 3) := by decide +kernel
theorem dX9_eachFootHolds_28 : decode cX9_eachFootHolds 28 = .ok (.goto (-26), 3) := by decide +kernel
theorem dX9_eachFootHolds_31 : decode cX9_eachFootHolds 31 = .ok (.iconst 1, 1) := by decide +kernel
theorem dX9_eachFootHolds_32 : decode cX9_eachFootHolds 32 = .ok (.ireturn, 1) := by decide +kernel
theorem dX9_feetHoldTogether_0 : decode cX9_feetHoldTogether 0 = .ok (.iconst 0, 1) := by decide +kernel
theorem dX9_feetHoldTogether_1 : decode cX9_feetHoldTogether 1 = .ok (.istore_n 1, 1) := by decide +kernel
theorem dX9_feetHoldTogether_2 : decode cX9_feetHoldTogether 2 = .ok (.iload_n 1, 1) := by decide +kernel
theorem dX9_feetHoldTogether_3 : decode cX9_feetHoldTogether 3 = .ok (.iconst 4, 1) := by decide +kernel
theorem dX9_feetHoldTogether_4 : decode cX9_feetHoldTogether 4 = .ok (.if_icmp .ge 52, 3) := by decide +kernel
theorem dX9_feetHoldTogether_7 : decode cX9_feetHoldTogether 7 = .ok (.iconst 0, 1) := by decide +kernel
theorem dX9_feetHoldTogether_8 : decode cX9_feetHoldTogether 8 = .ok (.istore_n 2, 1) := by decide +kernel
theorem dX9_feetHoldTogether_9 : decode cX9_feetHoldTogether 9 = .ok (.iload_n 2, 1) := by decide +kernel
theorem dX9_feetHoldTogether_10 : decode cX9_feetHoldTogether 10 = .ok (.iload_n 1, 1) := by decide +kernel
theorem dX9_feetHoldTogether_11 : decode cX9_feetHoldTogether 11 = .ok (.if_icmp .ge 39, 3) := by decide +kernel
theorem dX9_feetHoldTogether_14 : decode cX9_feetHoldTogether 14 = .ok (.aload_n 0, 1) := by decide +kernel
theorem dX9_feetHoldTogether_15 : decode cX9_feetHoldTogether 15 = .ok (.getfield 33, 3) := by decide +kernel
theorem dX9_feetHoldTogether_18 : decode cX9_feetHoldTogether 18 = .ok (.iload_n 1, 1) := by decide +kernel
theorem dX9_feetHoldTogether_19 : decode cX9_feetHoldTogether 19 = .ok (.iconst 4, 1) := by decide +kernel
theorem dX9_feetHoldTogether_20 : decode cX9_feetHoldTogether 20 = .ok (.imul, 1) := by decide +kernel
theorem dX9_feetHoldTogether_21 : decode cX9_feetHoldTogether 21 = .ok (.iload_n 2, 1) := by decide +kernel
theorem dX9_feetHoldTogether_22 : decode cX9_feetHoldTogether 22 = .ok (.iadd, 1) := by decide +kernel
theorem dX9_feetHoldTogether_23 : decode cX9_feetHoldTogether 23 = .ok (.aaload, 1) := by decide +kernel
theorem dX9_feetHoldTogether_24 : decode cX9_feetHoldTogether 24 = .ok (.astore_n 3, 1) := by decide +kernel
theorem dX9_feetHoldTogether_25 : decode cX9_feetHoldTogether 25 = .ok (.aload_n 3, 1) := by decide +kernel
theorem dX9_feetHoldTogether_26 : decode cX9_feetHoldTogether 26 = .ok (.aload_n 0, 1) := by decide +kernel
theorem dX9_feetHoldTogether_27 : decode cX9_feetHoldTogether 27 = .ok (.getfield 33, 3) := by decide +kernel
theorem dX9_feetHoldTogether_30 : decode cX9_feetHoldTogether 30 = .ok (.iload_n 2, 1) := by decide +kernel
theorem dX9_feetHoldTogether_31 : decode cX9_feetHoldTogether 31 = .ok (.iconst 4, 1) := by decide +kernel
theorem dX9_feetHoldTogether_32 : decode cX9_feetHoldTogether 32 = .ok (.imul, 1) := by decide +kernel
theorem dX9_feetHoldTogether_33 : decode cX9_feetHoldTogether 33 = .ok (.iload_n 1, 1) := by decide +kernel
theorem dX9_feetHoldTogether_34 : decode cX9_feetHoldTogether 34 = .ok (.iadd, 1) := by decide +kernel
theorem dX9_feetHoldTogether_35 : decode cX9_feetHoldTogether 35 = .ok (.aaload, 1) := by decide +kernel
theorem dX9_feetHoldTogether_36 : decode cX9_feetHoldTogether 36 = .ok (.invokevirtual 121, 3) := by decide +kernel
theorem dX9_feetHoldTogether_39 : decode cX9_feetHoldTogether 39 = .ok (.ifCond .eq 5, 3) := by decide +kernel
theorem dX9_feetHoldTogether_42 : decode cX9_feetHoldTogether 42 = .ok (.iconst 0, 1) := by decide +kernel
theorem dX9_feetHoldTogether_43 : decode cX9_feetHoldTogether 43 = .ok (.ireturn, 1) := by decide +kernel
theorem dX9_feetHoldTogether_44 : decode cX9_feetHoldTogether 44 = .ok (.iinc 2 1, 3) := by decide +kernel
theorem dX9_feetHoldTogether_47 : decode cX9_feetHoldTogether 47 = .ok (.goto (-38), 3) := by decide +kernel
theorem dX9_feetHoldTogether_50 : decode cX9_feetHoldTogether 50 = .ok (.iinc 1 1, 3) := by decide +kernel
theorem dX9_feetHoldTogether_53 : decode cX9_feetHoldTogether 53 = .ok (.goto (-51), 3) := by decide +kernel
theorem dX9_feetHoldTogether_56 : decode cX9_feetHoldTogether 56 = .ok (.iconst 1, 1) := by decide +kernel
theorem dX9_feetHoldTogether_57 : decode cX9_feetHoldTogether 57 = .ok (.ireturn, 1) := by decide +kernel
theorem dX9_goOn_0 : decode cX9_goOn 0 = .ok (.iconst 0, 1) := by decide +kernel
theorem dX9_goOn_1 : decode cX9_goOn 1 = .ok (.istore_n 3, 1) := by decide +kernel
theorem dX9_goOn_2 : decode cX9_goOn 2 = .ok (.iload_n 3, 1) := by decide +kernel
theorem dX9_goOn_3 : decode cX9_goOn 3 = .ok (.bipush 16, 2) := by decide +kernel
theorem dX9_goOn_5 : decode cX9_goOn 5 = .ok (.if_icmp .ge 185, 3) := by decide +kernel
theorem dX9_goOn_8 : decode cX9_goOn 8 = .ok (.iload_n 3, 1) := by decide +kernel
theorem dX9_goOn_9 : decode cX9_goOn 9 = .ok (.iconst 4, 1) := by decide +kernel
theorem dX9_goOn_10 : decode cX9_goOn 10 = .ok (.idiv, 1) := by decide +kernel
theorem dX9_goOn_11 : decode cX9_goOn 11 = .ok (.istore 4, 2) := by decide +kernel
theorem dX9_goOn_13 : decode cX9_goOn 13 = .ok (.iload_n 3, 1) := by decide +kernel
theorem dX9_goOn_14 : decode cX9_goOn 14 = .ok (.iconst 4, 1) := by decide +kernel
theorem dX9_goOn_15 : decode cX9_goOn 15 = .ok (.irem, 1) := by decide +kernel
theorem dX9_goOn_16 : decode cX9_goOn 16 = .ok (.istore 5, 2) := by decide +kernel
theorem dX9_goOn_18 : decode cX9_goOn 18 = .ok (.iload 4, 2) := by decide +kernel
theorem dX9_goOn_20 : decode cX9_goOn 20 = .ok (.iload 5, 2) := by decide +kernel
theorem dX9_goOn_22 : decode cX9_goOn 22 = .ok (.if_icmp .ne 15, 3) := by decide +kernel
theorem dX9_goOn_25 : decode cX9_goOn 25 = .ok (.aload_n 2, 1) := by decide +kernel
theorem dX9_goOn_26 : decode cX9_goOn 26 = .ok (.iload_n 3, 1) := by decide +kernel
theorem dX9_goOn_27 : decode cX9_goOn 27 = .ok (.aaload, 1) := by decide +kernel
theorem dX9_goOn_28 : decode cX9_goOn 28 = .ok (.lconst 1, 1) := by decide +kernel
theorem dX9_goOn_29 : decode cX9_goOn 29 = .ok (.lconst 1, 1) := by decide +kernel
theorem dX9_goOn_30 : decode cX9_goOn 30 = .ok (.iconst 0, 1) := by decide +kernel
theorem dX9_goOn_31 : decode cX9_goOn 31 = .ok (.invokevirtual 125, 3) := by decide +kernel
theorem dX9_goOn_34 : decode cX9_goOn 34 = .ok (.goto 150, 3) := by decide +kernel
theorem dX9_goOn_37 : decode cX9_goOn 37 = .ok (.aload_n 2, 1) := by decide +kernel
theorem dX9_goOn_38 : decode cX9_goOn 38 = .ok (.iload_n 3, 1) := by decide +kernel
theorem dX9_goOn_39 : decode cX9_goOn 39 = .ok (.aaload, 1) := by decide +kernel
theorem dX9_goOn_40 : decode cX9_goOn 40 = .ok (.aload_n 1, 1) := by decide +kernel
theorem dX9_goOn_41 : decode cX9_goOn 41 = .ok (.iload_n 3, 1) := by decide +kernel
theorem dX9_goOn_42 : decode cX9_goOn 42 = .ok (.aaload, 1) := by decide +kernel
theorem dX9_goOn_43 : decode cX9_goOn 43 = .ok (.getfield 128, 3) := by decide +kernel
theorem dX9_goOn_46 : decode cX9_goOn 46 = .ok (.aload_n 1, 1) := by decide +kernel
theorem dX9_goOn_47 : decode cX9_goOn 47 = .ok (.iload_n 3, 1) := by decide +kernel
theorem dX9_goOn_48 : decode cX9_goOn 48 = .ok (.aaload, 1) := by decide +kernel
theorem dX9_goOn_49 : decode cX9_goOn 49 = .ok (.getfield 132, 3) := by decide +kernel
theorem dX9_goOn_52 : decode cX9_goOn 52 = .ok (.aload_n 1, 1) := by decide +kernel
theorem dX9_goOn_53 : decode cX9_goOn 53 = .ok (.iload_n 3, 1) := by decide +kernel
theorem dX9_goOn_54 : decode cX9_goOn 54 = .ok (.aaload, 1) := by decide +kernel
theorem dX9_goOn_55 : decode cX9_goOn 55 = .ok (.getfield 134, 3) := by decide +kernel
theorem dX9_goOn_58 : decode cX9_goOn 58 = .ok (.invokevirtual 125, 3) := by decide +kernel
theorem dX9_goOn_61 : decode cX9_goOn 61 = .ok (.iconst 0, 1) := by decide +kernel
theorem dX9_goOn_62 : decode cX9_goOn 62 = .ok (.istore 6, 2) := by decide +kernel
theorem dX9_goOn_64 : decode cX9_goOn 64 = .ok (.iload 6, 2) := by decide +kernel
theorem dX9_goOn_66 : decode cX9_goOn 66 = .ok (.iconst 4, 1) := by decide +kernel
theorem dX9_goOn_67 : decode cX9_goOn 67 = .ok (.if_icmp .ge 117, 3) := by decide +kernel
theorem dX9_goOn_70 : decode cX9_goOn 70 = .ok (.aload_n 1, 1) := by decide +kernel
theorem dX9_goOn_71 : decode cX9_goOn 71 = .ok (.iload 4, 2) := by decide +kernel
theorem dX9_goOn_73 : decode cX9_goOn 73 = .ok (.iconst 4, 1) := by decide +kernel
theorem dX9_goOn_74 : decode cX9_goOn 74 = .ok (.imul, 1) := by decide +kernel
theorem dX9_goOn_75 : decode cX9_goOn 75 = .ok (.iload 6, 2) := by decide +kernel
theorem dX9_goOn_77 : decode cX9_goOn 77 = .ok (.iadd, 1) := by decide +kernel
theorem dX9_goOn_78 : decode cX9_goOn 78 = .ok (.aaload, 1) := by decide +kernel
theorem dX9_goOn_79 : decode cX9_goOn 79 = .ok (.astore 7, 2) := by decide +kernel
theorem dX9_goOn_81 : decode cX9_goOn 81 = .ok (.aload_n 0, 1) := by decide +kernel
theorem dX9_goOn_82 : decode cX9_goOn 82 = .ok (.getfield 26, 3) := by decide +kernel
theorem dX9_goOn_85 : decode cX9_goOn 85 = .ok (.iload 6, 2) := by decide +kernel
theorem dX9_goOn_87 : decode cX9_goOn 87 = .ok (.iconst 4, 1) := by decide +kernel
theorem dX9_goOn_88 : decode cX9_goOn 88 = .ok (.imul, 1) := by decide +kernel
theorem dX9_goOn_89 : decode cX9_goOn 89 = .ok (.iload 5, 2) := by decide +kernel
theorem dX9_goOn_91 : decode cX9_goOn 91 = .ok (.iadd, 1) := by decide +kernel
theorem dX9_goOn_92 : decode cX9_goOn 92 = .ok (.aaload, 1) := by decide +kernel
theorem dX9_goOn_93 : decode cX9_goOn 93 = .ok (.astore 8, 2) := by decide +kernel
theorem dX9_goOn_95 : decode cX9_goOn 95 = .ok (.iload 6, 2) := by decide +kernel
theorem dX9_goOn_97 : decode cX9_goOn 97 = .ok (.iload 4, 2) := by decide +kernel
theorem dX9_goOn_99 : decode cX9_goOn 99 = .ok (.if_icmp .eq 79, 3) := by decide +kernel
theorem dX9_goOn_102 : decode cX9_goOn 102 = .ok (.iload 6, 2) := by decide +kernel
theorem dX9_goOn_104 : decode cX9_goOn 104 = .ok (.iload 5, 2) := by decide +kernel
theorem dX9_goOn_106 : decode cX9_goOn 106 = .ok (.if_icmp .eq 72, 3) := by decide +kernel
theorem dX9_goOn_109 : decode cX9_goOn 109 = .ok (.aload 7, 2) := by decide +kernel
theorem dX9_goOn_111 : decode cX9_goOn 111 = .ok (.getfield 132, 3) := by decide +kernel
theorem dX9_goOn_114 : decode cX9_goOn 114 = .ok (.lconst 0, 1) := by decide +kernel
theorem dX9_goOn_115 : decode cX9_goOn 115 = .ok (.lcmp, 1) := by decide +kernel
theorem dX9_goOn_116 : decode cX9_goOn 116 = .ok (.ifCond .eq 62, 3) := by decide +kernel
theorem dX9_goOn_119 : decode cX9_goOn 119 = .ok (.aload 8, 2) := by decide +kernel
theorem dX9_goOn_121 : decode cX9_goOn 121 = .ok (.getfield 132, 3) := by decide +kernel
theorem dX9_goOn_124 : decode cX9_goOn 124 = .ok (.lconst 0, 1) := by decide +kernel
theorem dX9_goOn_125 : decode cX9_goOn 125 = .ok (.lcmp, 1) := by decide +kernel
theorem dX9_goOn_126 : decode cX9_goOn 126 = .ok (.ifCond .eq 52, 3) := by decide +kernel
theorem dX9_goOn_129 : decode cX9_goOn 129 = .ok (.aload_n 2, 1) := by decide +kernel
theorem dX9_goOn_130 : decode cX9_goOn 130 = .ok (.iload_n 3, 1) := by decide +kernel
theorem dX9_goOn_131 : decode cX9_goOn 131 = .ok (.aaload, 1) := by decide +kernel
theorem dX9_goOn_132 : decode cX9_goOn 132 = .ok (.aload 7, 2) := by decide +kernel
theorem dX9_goOn_134 : decode cX9_goOn 134 = .ok (.getfield 128, 3) := by decide +kernel
theorem dX9_goOn_137 : decode cX9_goOn 137 = .ok (.aload 8, 2) := by decide +kernel
theorem dX9_goOn_139 : decode cX9_goOn 139 = .ok (.getfield 128, 3) := by decide +kernel
theorem dX9_goOn_142 : decode cX9_goOn 142 = .ok (.lmul, 1) := by decide +kernel
theorem dX9_goOn_143 : decode cX9_goOn 143 = .ok (.aload 7, 2) := by decide +kernel
theorem dX9_goOn_145 : decode cX9_goOn 145 = .ok (.getfield 132, 3) := by decide +kernel
theorem dX9_goOn_148 : decode cX9_goOn 148 = .ok (.aload 8, 2) := by decide +kernel
theorem dX9_goOn_150 : decode cX9_goOn 150 = .ok (.getfield 132, 3) := by decide +kernel
theorem dX9_goOn_153 : decode cX9_goOn 153 = .ok (.lmul, 1) := by decide +kernel
theorem dX9_goOn_154 : decode cX9_goOn 154 = .ok (.aload 7, 2) := by decide +kernel
theorem dX9_goOn_156 : decode cX9_goOn 156 = .ok (.getfield 134, 3) := by decide +kernel
theorem dX9_goOn_159 : decode cX9_goOn 159 = .ok (.ifCond .ne 11, 3) := by decide +kernel
theorem dX9_goOn_162 : decode cX9_goOn 162 = .ok (.aload 8, 2) := by decide +kernel
theorem dX9_goOn_164 : decode cX9_goOn 164 = .ok (.getfield 134, 3) := by decide +kernel
theorem dX9_goOn_167 : decode cX9_goOn 167 = .ok (.ifCond .eq 7, 3) := by decide +kernel
theorem dX9_goOn_170 : decode cX9_goOn 170 = .ok (.iconst 1, 1) := by decide +kernel
theorem dX9_goOn_171 : decode cX9_goOn 171 = .ok (.goto 4, 3) := by decide +kernel
theorem dX9_goOn_174 : decode cX9_goOn 174 = .ok (.iconst 0, 1) := by decide +kernel
theorem dX9_goOn_175 : decode cX9_goOn 175 = .ok (.invokevirtual 66, 3) := by decide +kernel
theorem dX9_goOn_178 : decode cX9_goOn 178 = .ok (.iinc 6 1, 3) := by decide +kernel
theorem dX9_goOn_181 : decode cX9_goOn 181 = .ok (.goto (-117), 3) := by decide +kernel
theorem dX9_goOn_184 : decode cX9_goOn 184 = .ok (.iinc 3 1, 3) := by decide +kernel
theorem dX9_goOn_187 : decode cX9_goOn 187 = .ok (.goto (-185), 3) := by decide +kernel
theorem dX9_goOn_190 : decode cX9_goOn 190 = .ok (.return_, 1) := by decide +kernel
theorem dX9_limit_0 : decode cX9_limit 0 = .ok (.iload_n 2, 1) := by decide +kernel
theorem dX9_limit_1 : decode cX9_limit 1 = .ok (.bipush 6, 2) := by decide +kernel
theorem dX9_limit_3 : decode cX9_limit 3 = .ok (.if_icmp .ge 15, 3) := by decide +kernel
theorem dX9_limit_6 : decode cX9_limit 6 = .ok (.iload_n 1, 1) := by decide +kernel
theorem dX9_limit_7 : decode cX9_limit 7 = .ok (.iload_n 2, 1) := by decide +kernel
theorem dX9_limit_8 : decode cX9_limit 8 = .ok (.bipush 6, 2) := by decide +kernel
theorem dX9_limit_10 : decode cX9_limit 10 = .ok (.iadd, 1) := by decide +kernel
theorem dX9_limit_11 : decode cX9_limit 11 = .ok (.if_icmp .ne 7, 3) := by decide +kernel
theorem dX9_limit_14 : decode cX9_limit 14 = .ok (.iconst 1, 1) := by decide +kernel
theorem dX9_limit_15 : decode cX9_limit 15 = .ok (.goto 4, 3) := by decide +kernel
theorem dX9_limit_18 : decode cX9_limit 18 = .ok (.iconst 0, 1) := by decide +kernel
theorem dX9_limit_19 : decode cX9_limit 19 = .ok (.istore 4, 2) := by decide +kernel
theorem dX9_limit_21 : decode cX9_limit 21 = .ok (.iload_n 1, 1) := by decide +kernel
theorem dX9_limit_22 : decode cX9_limit 22 = .ok (.iload_n 2, 1) := by decide +kernel
theorem dX9_limit_23 : decode cX9_limit 23 = .ok (.if_icmp .eq 8, 3) := by decide +kernel
theorem dX9_limit_26 : decode cX9_limit 26 = .ok (.iload 4, 2) := by decide +kernel
theorem dX9_limit_28 : decode cX9_limit 28 = .ok (.ifCond .eq 13, 3) := by decide +kernel
theorem dX9_limit_31 : decode cX9_limit 31 = .ok (.aload_n 3, 1) := by decide +kernel
theorem dX9_limit_32 : decode cX9_limit 32 = .ok (.lconst 1, 1) := by decide +kernel
theorem dX9_limit_33 : decode cX9_limit 33 = .ok (.lconst 1, 1) := by decide +kernel
theorem dX9_limit_34 : decode cX9_limit 34 = .ok (.iconst 0, 1) := by decide +kernel
theorem dX9_limit_35 : decode cX9_limit 35 = .ok (.invokevirtual 125, 3) := by decide +kernel
theorem dX9_limit_38 : decode cX9_limit 38 = .ok (.goto 7, 3) := by decide +kernel
theorem dX9_limit_41 : decode cX9_limit 41 = .ok (.aload_n 3, 1) := by decide +kernel
theorem dX9_limit_42 : decode cX9_limit 42 = .ok (.invokevirtual 89, 3) := by decide +kernel
theorem dX9_limit_45 : decode cX9_limit 45 = .ok (.iload_n 1, 1) := by decide +kernel
theorem dX9_limit_46 : decode cX9_limit 46 = .ok (.iload_n 2, 1) := by decide +kernel
theorem dX9_limit_47 : decode cX9_limit 47 = .ok (.if_icmp .ne 4, 3) := by decide +kernel
theorem dX9_limit_50 : decode cX9_limit 50 = .ok (.return_, 1) := by decide +kernel
theorem dX9_limit_51 : decode cX9_limit 51 = .ok (.iconst 0, 1) := by decide +kernel
theorem dX9_limit_52 : decode cX9_limit 52 = .ok (.istore 5, 2) := by decide +kernel
theorem dX9_limit_54 : decode cX9_limit 54 = .ok (.iload 5, 2) := by decide +kernel
theorem dX9_limit_56 : decode cX9_limit 56 = .ok (.bipush 16, 2) := by decide +kernel
theorem dX9_limit_58 : decode cX9_limit 58 = .ok (.if_icmp .ge 18, 3) := by decide +kernel
theorem dX9_limit_61 : decode cX9_limit 61 = .ok (.aload_n 0, 1) := by decide +kernel
theorem dX9_limit_62 : decode cX9_limit 62 = .ok (.iload_n 1, 1) := by decide +kernel
theorem dX9_limit_63 : decode cX9_limit 63 = .ok (.iload_n 2, 1) := by decide +kernel
theorem dX9_limit_64 : decode cX9_limit 64 = .ok (.iload 5, 2) := by decide +kernel
theorem dX9_limit_66 : decode cX9_limit 66 = .ok (.aload_n 3, 1) := by decide +kernel
theorem dX9_limit_67 : decode cX9_limit 67 = .ok (.invokevirtual 138, 3) := by decide +kernel
theorem dX9_limit_70 : decode cX9_limit 70 = .ok (.iinc 5 1, 3) := by decide +kernel
theorem dX9_limit_73 : decode cX9_limit 73 = .ok (.goto (-19), 3) := by decide +kernel
theorem dX9_limit_76 : decode cX9_limit 76 = .ok (.return_, 1) := by decide +kernel
theorem dX9_limitBy_0 : decode cX9_limitBy 0 = .ok (.aload_n 0, 1) := by decide +kernel
theorem dX9_limitBy_1 : decode cX9_limitBy 1 = .ok (.getfield 33, 3) := by decide +kernel
theorem dX9_limitBy_4 : decode cX9_limitBy 4 = .ok (.iload_n 3, 1) := by decide +kernel
theorem dX9_limitBy_5 : decode cX9_limitBy 5 = .ok (.aaload, 1) := by decide +kernel
theorem dX9_limitBy_6 : decode cX9_limitBy 6 = .ok (.astore 5, 2) := by decide +kernel
theorem dX9_limitBy_8 : decode cX9_limitBy 8 = .ok (.iload_n 3, 1) := by decide +kernel
theorem dX9_limitBy_9 : decode cX9_limitBy 9 = .ok (.iconst 4, 1) := by decide +kernel
theorem dX9_limitBy_10 : decode cX9_limitBy 10 = .ok (.idiv, 1) := by decide +kernel
theorem dX9_limitBy_11 : decode cX9_limitBy 11 = .ok (.istore 6, 2) := by decide +kernel
theorem dX9_limitBy_13 : decode cX9_limitBy 13 = .ok (.iload_n 3, 1) := by decide +kernel
theorem dX9_limitBy_14 : decode cX9_limitBy 14 = .ok (.iconst 4, 1) := by decide +kernel
theorem dX9_limitBy_15 : decode cX9_limitBy 15 = .ok (.irem, 1) := by decide +kernel
theorem dX9_limitBy_16 : decode cX9_limitBy 16 = .ok (.istore 7, 2) := by decide +kernel
theorem dX9_limitBy_18 : decode cX9_limitBy 18 = .ok (.aload_n 0, 1) := by decide +kernel
theorem dX9_limitBy_19 : decode cX9_limitBy 19 = .ok (.iload_n 1, 1) := by decide +kernel
theorem dX9_limitBy_20 : decode cX9_limitBy 20 = .ok (.iload 6, 2) := by decide +kernel
theorem dX9_limitBy_22 : decode cX9_limitBy 22 = .ok (.invokevirtual 142, 3) := by decide +kernel
theorem dX9_limitBy_25 : decode cX9_limitBy 25 = .ok (.i2l, 1) := by decide +kernel
theorem dX9_limitBy_26 : decode cX9_limitBy 26 = .ok (.lstore 8, 2) := by decide +kernel
theorem dX9_limitBy_28 : decode cX9_limitBy 28 = .ok (.aload_n 0, 1) := by decide +kernel
theorem dX9_limitBy_29 : decode cX9_limitBy 29 = .ok (.iload_n 2, 1) := by decide +kernel
theorem dX9_limitBy_30 : decode cX9_limitBy 30 = .ok (.iload 7, 2) := by decide +kernel
theorem dX9_limitBy_32 : decode cX9_limitBy 32 = .ok (.invokevirtual 145, 3) := by decide +kernel
theorem dX9_limitBy_35 : decode cX9_limitBy 35 = .ok (.i2l, 1) := by decide +kernel
theorem dX9_limitBy_36 : decode cX9_limitBy 36 = .ok (.lstore 10, 2) := by decide +kernel
theorem dX9_limitBy_38 : decode cX9_limitBy 38 = .ok (.lload 8, 2) := by decide +kernel
theorem dX9_limitBy_40 : decode cX9_limitBy 40 = .ok (.lconst 0, 1) := by decide +kernel
theorem dX9_limitBy_41 : decode cX9_limitBy 41 = .ok (.lcmp, 1) := by decide +kernel
theorem dX9_limitBy_42 : decode cX9_limitBy 42 = .ok (.ifCond .eq 20, 3) := by decide +kernel
theorem dX9_limitBy_45 : decode cX9_limitBy 45 = .ok (.lload 10, 2) := by decide +kernel
theorem dX9_limitBy_47 : decode cX9_limitBy 47 = .ok (.lconst 0, 1) := by decide +kernel
theorem dX9_limitBy_48 : decode cX9_limitBy 48 = .ok (.lcmp, 1) := by decide +kernel
theorem dX9_limitBy_49 : decode cX9_limitBy 49 = .ok (.ifCond .eq 13, 3) := by decide +kernel
theorem dX9_limitBy_52 : decode cX9_limitBy 52 = .ok (.aload 5, 2) := by decide +kernel
theorem dX9_limitBy_54 : decode cX9_limitBy 54 = .ok (.getfield 132, 3) := by decide +kernel
theorem dX9_limitBy_57 : decode cX9_limitBy 57 = .ok (.lconst 0, 1) := by decide +kernel
theorem dX9_limitBy_58 : decode cX9_limitBy 58 = .ok (.lcmp, 1) := by decide +kernel
theorem dX9_limitBy_59 : decode cX9_limitBy 59 = .ok (.ifCond .ne 4, 3) := by decide +kernel
theorem dX9_limitBy_62 : decode cX9_limitBy 62 = .ok (.return_, 1) := by decide +kernel
theorem dX9_limitBy_63 : decode cX9_limitBy 63 = .ok (.aload 5, 2) := by decide +kernel
theorem dX9_limitBy_65 : decode cX9_limitBy 65 = .ok (.getfield 134, 3) := by decide +kernel
theorem dX9_limitBy_68 : decode cX9_limitBy 68 = .ok (.ifCond .ne 23, 3) := by decide +kernel
theorem dX9_limitBy_71 : decode cX9_limitBy 71 = .ok (.iload_n 1, 1) := by decide +kernel
theorem dX9_limitBy_72 : decode cX9_limitBy 72 = .ok (.bipush 12, 2) := by decide +kernel
theorem dX9_limitBy_74 : decode cX9_limitBy 74 = .ok (.if_icmp .ge 21, 3) := by decide +kernel
theorem dX9_limitBy_77 : decode cX9_limitBy 77 = .ok (.aload_n 0, 1) := by decide +kernel
theorem dX9_limitBy_78 : decode cX9_limitBy 78 = .ok (.getfield 15, 3) := by decide +kernel
theorem dX9_limitBy_81 : decode cX9_limitBy 81 = .ok (.iload_n 1, 1) := by decide +kernel
theorem dX9_limitBy_82 : decode cX9_limitBy 82 = .ok (.iconst 4, 1) := by decide +kernel
theorem dX9_limitBy_83 : decode cX9_limitBy 83 = .ok (.imul, 1) := by decide +kernel
theorem dX9_limitBy_84 : decode cX9_limitBy 84 = .ok (.iload 6, 2) := by decide +kernel
theorem dX9_limitBy_86 : decode cX9_limitBy 86 = .ok (.iadd, 1) := by decide +kernel
theorem dX9_limitBy_87 : decode cX9_limitBy 87 = .ok (.baload, 1) := by decide +kernel
theorem dX9_limitBy_88 : decode cX9_limitBy 88 = .ok (.ifCond .eq 7, 3) := by decide +kernel
theorem dX9_limitBy_91 : decode cX9_limitBy 91 = .ok (.iconst 1, 1) := by decide +kernel
theorem dX9_limitBy_92 : decode cX9_limitBy 92 = .ok (.goto 4, 3) := by decide +kernel
theorem dX9_limitBy_95 : decode cX9_limitBy 95 = .ok (.iconst 0, 1) := by decide +kernel
theorem dX9_limitBy_96 : decode cX9_limitBy 96 = .ok (.istore 12, 2) := by decide +kernel
theorem dX9_limitBy_98 : decode cX9_limitBy 98 = .ok (.lload 8, 2) := by decide +kernel
theorem dX9_limitBy_100 : decode cX9_limitBy 100 = .ok (.aload 5, 2) := by decide +kernel
theorem dX9_limitBy_102 : decode cX9_limitBy 102 = .ok (.getfield 128, 3) := by decide +kernel
theorem dX9_limitBy_105 : decode cX9_limitBy 105 = .ok (.iload_n 1, 1) := by decide +kernel
theorem dX9_limitBy_106 : decode cX9_limitBy 106 = .ok (.iload_n 2, 1) := by decide +kernel
theorem dX9_limitBy_107 : decode cX9_limitBy 107 = .ok (.invokestatic 148, 3) := by decide +kernel
theorem dX9_limitBy_110 : decode cX9_limitBy 110 = .ok (.i2l, 1) := by decide +kernel
theorem dX9_limitBy_111 : decode cX9_limitBy 111 = .ok (.lmul, 1) := by decide +kernel
theorem dX9_limitBy_112 : decode cX9_limitBy 112 = .ok (.lmul, 1) := by decide +kernel
theorem dX9_limitBy_113 : decode cX9_limitBy 113 = .ok (.lstore 8, 2) := by decide +kernel
theorem dX9_limitBy_115 : decode cX9_limitBy 115 = .ok (.lload 10, 2) := by decide +kernel
theorem dX9_limitBy_117 : decode cX9_limitBy 117 = .ok (.aload 5, 2) := by decide +kernel
theorem dX9_limitBy_119 : decode cX9_limitBy 119 = .ok (.getfield 132, 3) := by decide +kernel
theorem dX9_limitBy_122 : decode cX9_limitBy 122 = .ok (.iload_n 2, 1) := by decide +kernel
theorem dX9_limitBy_123 : decode cX9_limitBy 123 = .ok (.iload_n 1, 1) := by decide +kernel
theorem dX9_limitBy_124 : decode cX9_limitBy 124 = .ok (.invokestatic 148, 3) := by decide +kernel
theorem dX9_limitBy_127 : decode cX9_limitBy 127 = .ok (.i2l, 1) := by decide +kernel
theorem dX9_limitBy_128 : decode cX9_limitBy 128 = .ok (.lmul, 1) := by decide +kernel
theorem dX9_limitBy_129 : decode cX9_limitBy 129 = .ok (.lmul, 1) := by decide +kernel
theorem dX9_limitBy_130 : decode cX9_limitBy 130 = .ok (.lstore 10, 2) := by decide +kernel
theorem dX9_limitBy_132 : decode cX9_limitBy 132 = .ok (.aload 4, 2) := by decide +kernel
theorem dX9_limitBy_134 : decode cX9_limitBy 134 = .ok (.lload 8, 2) := by decide +kernel
theorem dX9_limitBy_136 : decode cX9_limitBy 136 = .ok (.lload 10, 2) := by decide +kernel
theorem dX9_limitBy_138 : decode cX9_limitBy 138 = .ok (.iload 12, 2) := by decide +kernel
theorem dX9_limitBy_140 : decode cX9_limitBy 140 = .ok (.invokevirtual 66, 3) := by decide +kernel
theorem dX9_limitBy_143 : decode cX9_limitBy 143 = .ok (.return_, 1) := by decide +kernel
theorem dX9_highOf_0 : decode cX9_highOf 0 = .ok (.iload_n 1, 1) := by decide +kernel
theorem dX9_highOf_1 : decode cX9_highOf 1 = .ok (.bipush 12, 2) := by decide +kernel
theorem dX9_highOf_3 : decode cX9_highOf 3 = .ok (.if_icmp .lt 17, 3) := by decide +kernel
theorem dX9_highOf_6 : decode cX9_highOf 6 = .ok (.iload_n 1, 1) := by decide +kernel
theorem dX9_highOf_7 : decode cX9_highOf 7 = .ok (.bipush 12, 2) := by decide +kernel
theorem dX9_highOf_9 : decode cX9_highOf 9 = .ok (.isub, 1) := by decide +kernel
theorem dX9_highOf_10 : decode cX9_highOf 10 = .ok (.iload_n 2, 1) := by decide +kernel
theorem dX9_highOf_11 : decode cX9_highOf 11 = .ok (.if_icmp .ne 7, 3) := by decide +kernel
theorem dX9_highOf_14 : decode cX9_highOf 14 = .ok (.iconst 1, 1) := by decide +kernel
theorem dX9_highOf_15 : decode cX9_highOf 15 = .ok (.goto 4, 3) := by decide +kernel
theorem dX9_highOf_18 : decode cX9_highOf 18 = .ok (.iconst 0, 1) := by decide +kernel
theorem dX9_highOf_19 : decode cX9_highOf 19 = .ok (.ireturn, 1) := by decide +kernel
theorem dX9_highOf_20 : decode cX9_highOf 20 = .ok (.aload_n 0, 1) := by decide +kernel
theorem dX9_highOf_21 : decode cX9_highOf 21 = .ok (.getfield 9, 3) := by decide +kernel
theorem dX9_highOf_24 : decode cX9_highOf 24 = .ok (.iload_n 1, 1) := by decide +kernel
theorem dX9_highOf_25 : decode cX9_highOf 25 = .ok (.iconst 4, 1) := by decide +kernel
theorem dX9_highOf_26 : decode cX9_highOf 26 = .ok (.imul, 1) := by decide +kernel
theorem dX9_highOf_27 : decode cX9_highOf 27 = .ok (.iload_n 2, 1) := by decide +kernel
theorem dX9_highOf_28 : decode cX9_highOf 28 = .ok (.iadd, 1) := by decide +kernel
theorem dX9_highOf_29 : decode cX9_highOf 29 = .ok (.iaload, 1) := by decide +kernel
theorem dX9_highOf_30 : decode cX9_highOf 30 = .ok (.ireturn, 1) := by decide +kernel
theorem dX9_lowOf_0 : decode cX9_lowOf 0 = .ok (.iload_n 1, 1) := by decide +kernel
theorem dX9_lowOf_1 : decode cX9_lowOf 1 = .ok (.bipush 12, 2) := by decide +kernel
theorem dX9_lowOf_3 : decode cX9_lowOf 3 = .ok (.if_icmp .lt 17, 3) := by decide +kernel
theorem dX9_lowOf_6 : decode cX9_lowOf 6 = .ok (.iload_n 1, 1) := by decide +kernel
theorem dX9_lowOf_7 : decode cX9_lowOf 7 = .ok (.bipush 12, 2) := by decide +kernel
theorem dX9_lowOf_9 : decode cX9_lowOf 9 = .ok (.isub, 1) := by decide +kernel
theorem dX9_lowOf_10 : decode cX9_lowOf 10 = .ok (.iload_n 2, 1) := by decide +kernel
theorem dX9_lowOf_11 : decode cX9_lowOf 11 = .ok (.if_icmp .ne 7, 3) := by decide +kernel
theorem dX9_lowOf_14 : decode cX9_lowOf 14 = .ok (.iconst 1, 1) := by decide +kernel
theorem dX9_lowOf_15 : decode cX9_lowOf 15 = .ok (.goto 4, 3) := by decide +kernel
theorem dX9_lowOf_18 : decode cX9_lowOf 18 = .ok (.iconst 0, 1) := by decide +kernel
theorem dX9_lowOf_19 : decode cX9_lowOf 19 = .ok (.ireturn, 1) := by decide +kernel
theorem dX9_lowOf_20 : decode cX9_lowOf 20 = .ok (.aload_n 0, 1) := by decide +kernel
theorem dX9_lowOf_21 : decode cX9_lowOf 21 = .ok (.getfield 19, 3) := by decide +kernel
theorem dX9_lowOf_24 : decode cX9_lowOf 24 = .ok (.iload_n 1, 1) := by decide +kernel
theorem dX9_lowOf_25 : decode cX9_lowOf 25 = .ok (.iconst 4, 1) := by decide +kernel
theorem dX9_lowOf_26 : decode cX9_lowOf 26 = .ok (.imul, 1) := by decide +kernel
theorem dX9_lowOf_27 : decode cX9_lowOf 27 = .ok (.iload_n 2, 1) := by decide +kernel
theorem dX9_lowOf_28 : decode cX9_lowOf 28 = .ok (.iadd, 1) := by decide +kernel
theorem dX9_lowOf_29 : decode cX9_lowOf 29 = .ok (.iaload, 1) := by decide +kernel
theorem dX9_lowOf_30 : decode cX9_lowOf 30 = .ok (.ireturn, 1) := by decide +kernel
theorem dX9_halvesIn_0 : decode cX9_halvesIn 0 = .ok (.iload_n 0, 1) := by decide +kernel
theorem dX9_halvesIn_1 : decode cX9_halvesIn 1 = .ok (.bipush 12, 2) := by decide +kernel
theorem dX9_halvesIn_3 : decode cX9_halvesIn 3 = .ok (.if_icmp .lt 13, 3) := by decide +kernel
theorem dX9_halvesIn_6 : decode cX9_halvesIn 6 = .ok (.iload_n 1, 1) := by decide +kernel
theorem dX9_halvesIn_7 : decode cX9_halvesIn 7 = .ok (.bipush 12, 2) := by decide +kernel
theorem dX9_halvesIn_9 : decode cX9_halvesIn 9 = .ok (.if_icmp .ge 7, 3) := by decide +kernel
theorem dX9_halvesIn_12 : decode cX9_halvesIn 12 = .ok (.iconst 2, 1) := by decide +kernel
theorem dX9_halvesIn_13 : decode cX9_halvesIn 13 = .ok (.goto 4, 3) := by decide +kernel
theorem dX9_halvesIn_16 : decode cX9_halvesIn 16 = .ok (.iconst 1, 1) := by decide +kernel
theorem dX9_halvesIn_17 : decode cX9_halvesIn 17 = .ok (.ireturn, 1) := by decide +kernel
theorem dX10_init_0 : decode cX10_init 0 = .ok (.aload_n 0, 1) := by decide +kernel
theorem dX10_init_1 : decode cX10_init 1 = .ok (.invokespecial 3, 3) := by decide +kernel
theorem dX10_init_4 : decode cX10_init 4 = .ok (.aload_n 0, 1) := by decide +kernel
theorem dX10_init_5 : decode cX10_init 5 = .ok (.iconst 3, 1) := by decide +kernel
theorem dX10_init_6 : decode cX10_init 6 = .ok (.newarray .long, 2) := by decide +kernel
theorem dX10_init_8 : decode cX10_init 8 = .ok (.putfield 9, 3) := by decide +kernel
theorem dX10_init_11 : decode cX10_init 11 = .ok (.aload_n 0, 1) := by decide +kernel
theorem dX10_init_12 : decode cX10_init 12 = .ok (.iconst 3, 1) := by decide +kernel
theorem dX10_init_13 : decode cX10_init 13 = .ok (.newarray .long, 2) := by decide +kernel
theorem dX10_init_15 : decode cX10_init 15 = .ok (.putfield 15, 3) := by decide +kernel
theorem dX10_init_18 : decode cX10_init 18 = .ok (.return_, 1) := by decide +kernel
theorem dX10_clear_0 : decode cX10_clear 0 = .ok (.iconst 0, 1) := by decide +kernel
theorem dX10_clear_1 : decode cX10_clear 1 = .ok (.istore_n 1, 1) := by decide +kernel
theorem dX10_clear_2 : decode cX10_clear 2 = .ok (.iload_n 1, 1) := by decide +kernel
theorem dX10_clear_3 : decode cX10_clear 3 = .ok (.iconst 3, 1) := by decide +kernel
theorem dX10_clear_4 : decode cX10_clear 4 = .ok (.if_icmp .ge 23, 3) := by decide +kernel
theorem dX10_clear_7 : decode cX10_clear 7 = .ok (.aload_n 0, 1) := by decide +kernel
theorem dX10_clear_8 : decode cX10_clear 8 = .ok (.getfield 9, 3) := by decide +kernel
theorem dX10_clear_11 : decode cX10_clear 11 = .ok (.iload_n 1, 1) := by decide +kernel
theorem dX10_clear_12 : decode cX10_clear 12 = .ok (.lconst 0, 1) := by decide +kernel
theorem dX10_clear_13 : decode cX10_clear 13 = .ok (.lastore, 1) := by decide +kernel
theorem dX10_clear_14 : decode cX10_clear 14 = .ok (.aload_n 0, 1) := by decide +kernel
theorem dX10_clear_15 : decode cX10_clear 15 = .ok (.getfield 15, 3) := by decide +kernel
theorem dX10_clear_18 : decode cX10_clear 18 = .ok (.iload_n 1, 1) := by decide +kernel
theorem dX10_clear_19 : decode cX10_clear 19 = .ok (.lconst 1, 1) := by decide +kernel
theorem dX10_clear_20 : decode cX10_clear 20 = .ok (.lastore, 1) := by decide +kernel
theorem dX10_clear_21 : decode cX10_clear 21 = .ok (.iinc 1 1, 3) := by decide +kernel
theorem dX10_clear_24 : decode cX10_clear 24 = .ok (.goto (-22), 3) := by decide +kernel
theorem dX10_clear_27 : decode cX10_clear 27 = .ok (.aload_n 0, 1) := by decide +kernel
theorem dX10_clear_28 : decode cX10_clear 28 = .ok (.iconst 0, 1) := by decide +kernel
theorem dX10_clear_29 : decode cX10_clear 29 = .ok (.putfield 18, 3) := by decide +kernel
theorem dX10_clear_32 : decode cX10_clear 32 = .ok (.aload_n 0, 1) := by decide +kernel
theorem dX10_clear_33 : decode cX10_clear 33 = .ok (.iconst 0, 1) := by decide +kernel
theorem dX10_clear_34 : decode cX10_clear 34 = .ok (.putfield 22, 3) := by decide +kernel
theorem dX10_clear_37 : decode cX10_clear 37 = .ok (.aload_n 0, 1) := by decide +kernel
theorem dX10_clear_38 : decode cX10_clear 38 = .ok (.iconst 0, 1) := by decide +kernel
theorem dX10_clear_39 : decode cX10_clear 39 = .ok (.putfield 26, 3) := by decide +kernel
theorem dX10_clear_42 : decode cX10_clear 42 = .ok (.return_, 1) := by decide +kernel
theorem dX10_add_0 : decode cX10_add 0 = .ok (.lload_n 3, 1) := by decide +kernel
theorem dX10_add_1 : decode cX10_add 1 = .ok (.lconst 0, 1) := by decide +kernel
theorem dX10_add_2 : decode cX10_add 2 = .ok (.lcmp, 1) := by decide +kernel
theorem dX10_add_3 : decode cX10_add 3 = .ok (.ifCond .ne 11, 3) := by decide +kernel
theorem dX10_add_6 : decode cX10_add 6 = .ok (.aload_n 0, 1) := by decide +kernel
theorem dX10_add_7 : decode cX10_add 7 = .ok (.iconst 1, 1) := by decide +kernel
theorem dX10_add_8 : decode cX10_add 8 = .ok (.putfield 26, 3) := by decide +kernel
theorem dX10_add_11 : decode cX10_add 11 = .ok (.goto 62, 3) := by decide +kernel
theorem dX10_add_14 : decode cX10_add 14 = .ok (.aload_n 0, 1) := by decide +kernel
theorem dX10_add_15 : decode cX10_add 15 = .ok (.getfield 18, 3) := by decide +kernel
theorem dX10_add_18 : decode cX10_add 18 = .ok (.iconst 3, 1) := by decide +kernel
theorem dX10_add_19 : decode cX10_add 19 = .ok (.if_icmp .ge 54, 3) := by decide +kernel
theorem dX10_add_22 : decode cX10_add 22 = .ok (.aload_n 0, 1) := by decide +kernel
theorem dX10_add_23 : decode cX10_add 23 = .ok (.getfield 9, 3) := by decide +kernel
theorem dX10_add_26 : decode cX10_add 26 = .ok (.aload_n 0, 1) := by decide +kernel
theorem dX10_add_27 : decode cX10_add 27 = .ok (.getfield 18, 3) := by decide +kernel
theorem dX10_add_30 : decode cX10_add 30 = .ok (.lload_n 1, 1) := by decide +kernel
theorem dX10_add_31 : decode cX10_add 31 = .ok (.lastore, 1) := by decide +kernel
theorem dX10_add_32 : decode cX10_add 32 = .ok (.aload_n 0, 1) := by decide +kernel
theorem dX10_add_33 : decode cX10_add 33 = .ok (.getfield 15, 3) := by decide +kernel
theorem dX10_add_36 : decode cX10_add 36 = .ok (.aload_n 0, 1) := by decide +kernel
theorem dX10_add_37 : decode cX10_add 37 = .ok (.getfield 18, 3) := by decide +kernel
theorem dX10_add_40 : decode cX10_add 40 = .ok (.lload_n 3, 1) := by decide +kernel
theorem dX10_add_41 : decode cX10_add 41 = .ok (.lastore, 1) := by decide +kernel
theorem dX10_add_42 : decode cX10_add 42 = .ok (.aload_n 0, 1) := by decide +kernel
theorem dX10_add_43 : decode cX10_add 43 = .ok (.aload_n 0, 1) := by decide +kernel
theorem dX10_add_44 : decode cX10_add 44 = .ok (.getfield 22, 3) := by decide +kernel
theorem dX10_add_47 : decode cX10_add 47 = .ok (.ifCond .ne 8, 3) := by decide +kernel
theorem dX10_add_50 : decode cX10_add 50 = .ok (.iload 5, 2) := by decide +kernel
theorem dX10_add_52 : decode cX10_add 52 = .ok (.ifCond .eq 7, 3) := by decide +kernel
theorem dX10_add_55 : decode cX10_add 55 = .ok (.iconst 1, 1) := by decide +kernel
theorem dX10_add_56 : decode cX10_add 56 = .ok (.goto 4, 3) := by decide +kernel
theorem dX10_add_59 : decode cX10_add 59 = .ok (.iconst 0, 1) := by decide +kernel
theorem dX10_add_60 : decode cX10_add 60 = .ok (.putfield 22, 3) := by decide +kernel
theorem dX10_add_63 : decode cX10_add 63 = .ok (.aload_n 0, 1) := by decide +kernel
theorem dX10_add_64 : decode cX10_add 64 = .ok (.dup, 1) := by decide +kernel
theorem dX10_add_65 : decode cX10_add 65 = .ok (.getfield 18, 3) := by decide +kernel
theorem dX10_add_68 : decode cX10_add 68 = .ok (.iconst 1, 1) := by decide +kernel
theorem dX10_add_69 : decode cX10_add 69 = .ok (.iadd, 1) := by decide +kernel
theorem dX10_add_70 : decode cX10_add 70 = .ok (.putfield 18, 3) := by decide +kernel
theorem dX10_add_73 : decode cX10_add 73 = .ok (.return_, 1) := by decide +kernel
theorem dX10_sum_0 : decode cX10_sum 0 = .ok (.aload_n 0, 1) := by decide +kernel
theorem dX10_sum_1 : decode cX10_sum 1 = .ok (.getfield 26, 3) := by decide +kernel
theorem dX10_sum_4 : decode cX10_sum 4 = .ok (.ifCond .eq 7, 3) := by decide +kernel
theorem dX10_sum_7 : decode cX10_sum 7 = .ok (.ldc2_w 29, 3) := by decide +kernel
theorem dX10_sum_10 : decode cX10_sum 10 = .ok (.lreturn, 1) := by decide +kernel
theorem dX10_sum_11 : decode cX10_sum 11 = .ok (.lconst 0, 1) := by decide +kernel
theorem dX10_sum_12 : decode cX10_sum 12 = .ok (.lstore_n 1, 1) := by decide +kernel
theorem dX10_sum_13 : decode cX10_sum 13 = .ok (.iconst 0, 1) := by decide +kernel
theorem dX10_sum_14 : decode cX10_sum 14 = .ok (.istore_n 3, 1) := by decide +kernel
theorem dX10_sum_15 : decode cX10_sum 15 = .ok (.iload_n 3, 1) := by decide +kernel
theorem dX10_sum_16 : decode cX10_sum 16 = .ok (.iconst 3, 1) := by decide +kernel
theorem dX10_sum_17 : decode cX10_sum 17 = .ok (.if_icmp .ge 27, 3) := by decide +kernel
theorem dX10_sum_20 : decode cX10_sum 20 = .ok (.lload_n 1, 1) := by decide +kernel
theorem dX10_sum_21 : decode cX10_sum 21 = .ok (.aload_n 0, 1) := by decide +kernel
theorem dX10_sum_22 : decode cX10_sum 22 = .ok (.getfield 9, 3) := by decide +kernel
theorem dX10_sum_25 : decode cX10_sum 25 = .ok (.iload_n 3, 1) := by decide +kernel
theorem dX10_sum_26 : decode cX10_sum 26 = .ok (.laload, 1) := by decide +kernel
theorem dX10_sum_27 : decode cX10_sum 27 = .ok (.aload_n 0, 1) := by decide +kernel
theorem dX10_sum_28 : decode cX10_sum 28 = .ok (.getfield 15, 3) := by decide +kernel
theorem dX10_sum_31 : decode cX10_sum 31 = .ok (.iload_n 3, 1) := by decide +kernel
theorem dX10_sum_32 : decode cX10_sum 32 = .ok (.laload, 1) := by decide +kernel
theorem dX10_sum_33 : decode cX10_sum 33 = .ok (.invokestatic 31, 3) := by decide +kernel
theorem dX10_sum_36 : decode cX10_sum 36 = .ok (.ladd, 1) := by decide +kernel
theorem dX10_sum_37 : decode cX10_sum 37 = .ok (.lstore_n 1, 1) := by decide +kernel
theorem dX10_sum_38 : decode cX10_sum 38 = .ok (.iinc 3 1, 3) := by decide +kernel
theorem dX10_sum_41 : decode cX10_sum 41 = .ok (.goto (-26), 3) := by decide +kernel
theorem dX10_sum_44 : decode cX10_sum 44 = .ok (.aload_n 0, 1) := by decide +kernel
theorem dX10_sum_45 : decode cX10_sum 45 = .ok (.getfield 9, 3) := by decide +kernel
theorem dX10_sum_48 : decode cX10_sum 48 = .ok (.iconst 0, 1) := by decide +kernel
theorem dX10_sum_49 : decode cX10_sum 49 = .ok (.laload, 1) := by decide +kernel
theorem dX10_sum_50 : decode cX10_sum 50 = .ok (.aload_n 0, 1) := by decide +kernel
theorem dX10_sum_51 : decode cX10_sum 51 = .ok (.getfield 15, 3) := by decide +kernel
theorem dX10_sum_54 : decode cX10_sum 54 = .ok (.iconst 0, 1) := by decide +kernel
theorem dX10_sum_55 : decode cX10_sum 55 = .ok (.laload, 1) := by decide +kernel
theorem dX10_sum_56 : decode cX10_sum 56 = .ok (.invokestatic 35, 3) := by decide +kernel
theorem dX10_sum_59 : decode cX10_sum 59 = .ok (.aload_n 0, 1) := by decide +kernel
theorem dX10_sum_60 : decode cX10_sum 60 = .ok (.getfield 15, 3) := by decide +kernel
theorem dX10_sum_63 : decode cX10_sum 63 = .ok (.iconst 1, 1) := by decide +kernel
theorem dX10_sum_64 : decode cX10_sum 64 = .ok (.laload, 1) := by decide +kernel
theorem dX10_sum_65 : decode cX10_sum 65 = .ok (.lmul, 1) := by decide +kernel
theorem dX10_sum_66 : decode cX10_sum 66 = .ok (.aload_n 0, 1) := by decide +kernel
theorem dX10_sum_67 : decode cX10_sum 67 = .ok (.getfield 9, 3) := by decide +kernel
theorem dX10_sum_70 : decode cX10_sum 70 = .ok (.iconst 1, 1) := by decide +kernel
theorem dX10_sum_71 : decode cX10_sum 71 = .ok (.laload, 1) := by decide +kernel
theorem dX10_sum_72 : decode cX10_sum 72 = .ok (.aload_n 0, 1) := by decide +kernel
theorem dX10_sum_73 : decode cX10_sum 73 = .ok (.getfield 15, 3) := by decide +kernel
theorem dX10_sum_76 : decode cX10_sum 76 = .ok (.iconst 1, 1) := by decide +kernel
theorem dX10_sum_77 : decode cX10_sum 77 = .ok (.laload, 1) := by decide +kernel
theorem dX10_sum_78 : decode cX10_sum 78 = .ok (.invokestatic 35, 3) := by decide +kernel
theorem dX10_sum_81 : decode cX10_sum 81 = .ok (.aload_n 0, 1) := by decide +kernel
theorem dX10_sum_82 : decode cX10_sum 82 = .ok (.getfield 15, 3) := by decide +kernel
theorem dX10_sum_85 : decode cX10_sum 85 = .ok (.iconst 0, 1) := by decide +kernel
theorem dX10_sum_86 : decode cX10_sum 86 = .ok (.laload, 1) := by decide +kernel
theorem dX10_sum_87 : decode cX10_sum 87 = .ok (.lmul, 1) := by decide +kernel
theorem dX10_sum_88 : decode cX10_sum 88 = .ok (.ladd, 1) := by decide +kernel
theorem dX10_sum_89 : decode cX10_sum 89 = .ok (.lstore_n 3, 1) := by decide +kernel
theorem dX10_sum_90 : decode cX10_sum 90 = .ok (.aload_n 0, 1) := by decide +kernel
theorem dX10_sum_91 : decode cX10_sum 91 = .ok (.getfield 15, 3) := by decide +kernel
theorem dX10_sum_94 : decode cX10_sum 94 = .ok (.iconst 0, 1) := by decide +kernel
theorem dX10_sum_95 : decode cX10_sum 95 = .ok (.laload, 1) := by decide +kernel
theorem dX10_sum_96 : decode cX10_sum 96 = .ok (.aload_n 0, 1) := by decide +kernel
theorem dX10_sum_97 : decode cX10_sum 97 = .ok (.getfield 15, 3) := by decide +kernel
theorem dX10_sum_100 : decode cX10_sum 100 = .ok (.iconst 1, 1) := by decide +kernel
theorem dX10_sum_101 : decode cX10_sum 101 = .ok (.laload, 1) := by decide +kernel
theorem dX10_sum_102 : decode cX10_sum 102 = .ok (.lmul, 1) := by decide +kernel
theorem dX10_sum_103 : decode cX10_sum 103 = .ok (.lstore 5, 2) := by decide +kernel
theorem dX10_sum_105 : decode cX10_sum 105 = .ok (.lload_n 1, 1) := by decide +kernel
theorem dX10_sum_106 : decode cX10_sum 106 = .ok (.lload_n 3, 1) := by decide +kernel
theorem dX10_sum_107 : decode cX10_sum 107 = .ok (.lload 5, 2) := by decide +kernel
theorem dX10_sum_109 : decode cX10_sum 109 = .ok (.invokestatic 31, 3) := by decide +kernel
theorem dX10_sum_112 : decode cX10_sum 112 = .ok (.ladd, 1) := by decide +kernel
theorem dX10_sum_113 : decode cX10_sum 113 = .ok (.lstore_n 1, 1) := by decide +kernel
theorem dX10_sum_114 : decode cX10_sum 114 = .ok (.lload_n 3, 1) := by decide +kernel
theorem dX10_sum_115 : decode cX10_sum 115 = .ok (.lload 5, 2) := by decide +kernel
theorem dX10_sum_117 : decode cX10_sum 117 = .ok (.invokestatic 35, 3) := by decide +kernel
theorem dX10_sum_120 : decode cX10_sum 120 = .ok (.lstore 7, 2) := by decide +kernel
theorem dX10_sum_122 : decode cX10_sum 122 = .ok (.aload_n 0, 1) := by decide +kernel
theorem dX10_sum_123 : decode cX10_sum 123 = .ok (.getfield 9, 3) := by decide +kernel
theorem dX10_sum_126 : decode cX10_sum 126 = .ok (.iconst 2, 1) := by decide +kernel
theorem dX10_sum_127 : decode cX10_sum 127 = .ok (.laload, 1) := by decide +kernel
theorem dX10_sum_128 : decode cX10_sum 128 = .ok (.aload_n 0, 1) := by decide +kernel
theorem dX10_sum_129 : decode cX10_sum 129 = .ok (.getfield 15, 3) := by decide +kernel
theorem dX10_sum_132 : decode cX10_sum 132 = .ok (.iconst 2, 1) := by decide +kernel
theorem dX10_sum_133 : decode cX10_sum 133 = .ok (.laload, 1) := by decide +kernel
theorem dX10_sum_134 : decode cX10_sum 134 = .ok (.invokestatic 35, 3) := by decide +kernel
theorem dX10_sum_137 : decode cX10_sum 137 = .ok (.lstore 9, 2) := by decide +kernel
theorem dX10_sum_139 : decode cX10_sum 139 = .ok (.lload 7, 2) := by decide +kernel
theorem dX10_sum_141 : decode cX10_sum 141 = .ok (.lload 5, 2) := by decide +kernel
theorem dX10_sum_143 : decode cX10_sum 143 = .ok (.aload_n 0, 1) := by decide +kernel
theorem dX10_sum_144 : decode cX10_sum 144 = .ok (.getfield 15, 3) := by decide +kernel
theorem dX10_sum_147 : decode cX10_sum 147 = .ok (.iconst 2, 1) := by decide +kernel
theorem dX10_sum_148 : decode cX10_sum 148 = .ok (.laload, 1) := by decide +kernel
theorem dX10_sum_149 : decode cX10_sum 149 = .ok (.lload 9, 2) := by decide +kernel
theorem dX10_sum_151 : decode cX10_sum 151 = .ok (.lsub, 1) := by decide +kernel
theorem dX10_sum_152 : decode cX10_sum 152 = .ok (.aload_n 0, 1) := by decide +kernel
theorem dX10_sum_153 : decode cX10_sum 153 = .ok (.getfield 15, 3) := by decide +kernel
theorem dX10_sum_156 : decode cX10_sum 156 = .ok (.iconst 2, 1) := by decide +kernel
theorem dX10_sum_157 : decode cX10_sum 157 = .ok (.laload, 1) := by decide +kernel
theorem dX10_sum_158 : decode cX10_sum 158 = .ok (.invokestatic 38, 3) := by decide +kernel
theorem dX10_sum_161 : decode cX10_sum 161 = .ok (.istore 11, 2) := by decide +kernel
theorem dX10_sum_163 : decode cX10_sum 163 = .ok (.iload 11, 2) := by decide +kernel
theorem dX10_sum_165 : decode cX10_sum 165 = .ok (.ifCond .eq 17, 3) := by decide +kernel
theorem dX10_sum_168 : decode cX10_sum 168 = .ok (.lload 7, 2) := by decide +kernel
theorem dX10_sum_170 : decode cX10_sum 170 = .ok (.lconst 0, 1) := by decide +kernel
theorem dX10_sum_171 : decode cX10_sum 171 = .ok (.lcmp, 1) := by decide +kernel
theorem dX10_sum_172 : decode cX10_sum 172 = .ok (.ifCond .ne 14, 3) := by decide +kernel
theorem dX10_sum_175 : decode cX10_sum 175 = .ok (.lload 9, 2) := by decide +kernel
theorem dX10_sum_177 : decode cX10_sum 177 = .ok (.lconst 0, 1) := by decide +kernel
theorem dX10_sum_178 : decode cX10_sum 178 = .ok (.lcmp, 1) := by decide +kernel
theorem dX10_sum_179 : decode cX10_sum 179 = .ok (.ifCond .ne 7, 3) := by decide +kernel
theorem dX10_sum_182 : decode cX10_sum 182 = .ok (.iconst 1, 1) := by decide +kernel
theorem dX10_sum_183 : decode cX10_sum 183 = .ok (.goto 4, 3) := by decide +kernel
theorem dX10_sum_186 : decode cX10_sum 186 = .ok (.iconst 0, 1) := by decide +kernel
theorem dX10_sum_187 : decode cX10_sum 187 = .ok (.istore 12, 2) := by decide +kernel
theorem dX10_sum_189 : decode cX10_sum 189 = .ok (.lload_n 1, 1) := by decide +kernel
theorem dX10_sum_190 : decode cX10_sum 190 = .ok (.iload 11, 2) := by decide +kernel
theorem dX10_sum_192 : decode cX10_sum 192 = .ok (.ifCond .lt 7, 3) := by decide +kernel
theorem dX10_sum_195 : decode cX10_sum 195 = .ok (.lconst 1, 1) := by decide +kernel
theorem dX10_sum_196 : decode cX10_sum 196 = .ok (.goto 4, 3) := by decide +kernel
theorem dX10_sum_199 : decode cX10_sum 199 = .ok (.lconst 0, 1) := by decide +kernel
theorem dX10_sum_200 : decode cX10_sum 200 = .ok (.ladd, 1) := by decide +kernel
theorem dX10_sum_201 : decode cX10_sum 201 = .ok (.lstore_n 1, 1) := by decide +kernel
theorem dX10_sum_202 : decode cX10_sum 202 = .ok (.aload_n 0, 1) := by decide +kernel
theorem dX10_sum_203 : decode cX10_sum 203 = .ok (.getfield 22, 3) := by decide +kernel
theorem dX10_sum_206 : decode cX10_sum 206 = .ok (.ifCond .eq 14, 3) := by decide +kernel
theorem dX10_sum_209 : decode cX10_sum 209 = .ok (.iload 12, 2) := by decide +kernel
theorem dX10_sum_211 : decode cX10_sum 211 = .ok (.ifCond .eq 9, 3) := by decide +kernel
theorem dX10_sum_214 : decode cX10_sum 214 = .ok (.lload_n 1, 1) := by decide +kernel
theorem dX10_sum_215 : decode cX10_sum 215 = .ok (.lconst 1, 1) := by decide +kernel
theorem dX10_sum_216 : decode cX10_sum 216 = .ok (.lsub, 1) := by decide +kernel
theorem dX10_sum_217 : decode cX10_sum 217 = .ok (.goto 4, 3) := by decide +kernel
theorem dX10_sum_220 : decode cX10_sum 220 = .ok (.lload_n 1, 1) := by decide +kernel
theorem dX10_sum_221 : decode cX10_sum 221 = .ok (.lreturn, 1) := by decide +kernel
theorem dX10_product_0 : decode cX10_product 0 = .ok (.aload_n 0, 1) := by decide +kernel
theorem dX10_product_1 : decode cX10_product 1 = .ok (.getfield 26, 3) := by decide +kernel
theorem dX10_product_4 : decode cX10_product 4 = .ok (.ifCond .eq 7, 3) := by decide +kernel
theorem dX10_product_7 : decode cX10_product 7 = .ok (.ldc2_w 29, 3) := by decide +kernel
theorem dX10_product_10 : decode cX10_product 10 = .ok (.lreturn, 1) := by decide +kernel
theorem dX10_product_11 : decode cX10_product 11 = .ok (.aload_n 0, 1) := by decide +kernel
theorem dX10_product_12 : decode cX10_product 12 = .ok (.getfield 9, 3) := by decide +kernel
theorem dX10_product_15 : decode cX10_product 15 = .ok (.iconst 0, 1) := by decide +kernel
theorem dX10_product_16 : decode cX10_product 16 = .ok (.laload, 1) := by decide +kernel
theorem dX10_product_17 : decode cX10_product 17 = .ok (.aload_n 0, 1) := by decide +kernel
theorem dX10_product_18 : decode cX10_product 18 = .ok (.getfield 9, 3) := by decide +kernel
theorem dX10_product_21 : decode cX10_product 21 = .ok (.iconst 1, 1) := by decide +kernel
theorem dX10_product_22 : decode cX10_product 22 = .ok (.laload, 1) := by decide +kernel
theorem dX10_product_23 : decode cX10_product 23 = .ok (.lmul, 1) := by decide +kernel
theorem dX10_product_24 : decode cX10_product 24 = .ok (.lstore_n 1, 1) := by decide +kernel
theorem dX10_product_25 : decode cX10_product 25 = .ok (.aload_n 0, 1) := by decide +kernel
theorem dX10_product_26 : decode cX10_product 26 = .ok (.getfield 15, 3) := by decide +kernel
theorem dX10_product_29 : decode cX10_product 29 = .ok (.iconst 0, 1) := by decide +kernel
theorem dX10_product_30 : decode cX10_product 30 = .ok (.laload, 1) := by decide +kernel
theorem dX10_product_31 : decode cX10_product 31 = .ok (.aload_n 0, 1) := by decide +kernel
theorem dX10_product_32 : decode cX10_product 32 = .ok (.getfield 15, 3) := by decide +kernel
theorem dX10_product_35 : decode cX10_product 35 = .ok (.iconst 1, 1) := by decide +kernel
theorem dX10_product_36 : decode cX10_product 36 = .ok (.laload, 1) := by decide +kernel
theorem dX10_product_37 : decode cX10_product 37 = .ok (.lmul, 1) := by decide +kernel
theorem dX10_product_38 : decode cX10_product 38 = .ok (.lstore_n 3, 1) := by decide +kernel
theorem dX10_product_39 : decode cX10_product 39 = .ok (.lload_n 1, 1) := by decide +kernel
theorem dX10_product_40 : decode cX10_product 40 = .ok (.lload_n 3, 1) := by decide +kernel
theorem dX10_product_41 : decode cX10_product 41 = .ok (.invokestatic 31, 3) := by decide +kernel
theorem dX10_product_44 : decode cX10_product 44 = .ok (.lstore 5, 2) := by decide +kernel
theorem dX10_product_46 : decode cX10_product 46 = .ok (.aload_n 0, 1) := by decide +kernel
theorem dX10_product_47 : decode cX10_product 47 = .ok (.getfield 22, 3) := by decide +kernel
theorem dX10_product_50 : decode cX10_product 50 = .ok (.ifCond .eq 19, 3) := by decide +kernel
theorem dX10_product_53 : decode cX10_product 53 = .ok (.lload 5, 2) := by decide +kernel
theorem dX10_product_55 : decode cX10_product 55 = .ok (.lload_n 3, 1) := by decide +kernel
theorem dX10_product_56 : decode cX10_product 56 = .ok (.lmul, 1) := by decide +kernel
theorem dX10_product_57 : decode cX10_product 57 = .ok (.lload_n 1, 1) := by decide +kernel
theorem dX10_product_58 : decode cX10_product 58 = .ok (.lcmp, 1) := by decide +kernel
theorem dX10_product_59 : decode cX10_product 59 = .ok (.ifCond .ne 10, 3) := by decide +kernel
theorem dX10_product_62 : decode cX10_product 62 = .ok (.lload 5, 2) := by decide +kernel
theorem dX10_product_64 : decode cX10_product 64 = .ok (.lconst 1, 1) := by decide +kernel
theorem dX10_product_65 : decode cX10_product 65 = .ok (.lsub, 1) := by decide +kernel
theorem dX10_product_66 : decode cX10_product 66 = .ok (.goto 5, 3) := by decide +kernel
theorem dX10_product_69 : decode cX10_product 69 = .ok (.lload 5, 2) := by decide +kernel
theorem dX10_product_71 : decode cX10_product 71 = .ok (.lreturn, 1) := by decide +kernel
