/-! decode by the opcode and the bytes behind it -/
def dcn (c : ByteArray) : List Nat := c.data.toList.map UInt8.toNat
def dby (c : ByteArray) (p n : Nat) : Prop := (dcn c)[p]? = some n
theorem dw_b {c : ByteArray} {wl t : List Nat} {a : Nat} (h : (dcn c).drop a = wl ++ t) (j : Nat) {n : Nat} (e : wl[j]? = some n) : dby c (a + j) n := by
  have hj : j < wl.length := (List.getElem?_eq_some_iff.mp e).1
  unfold dby
  rw [← List.getElem?_drop, h, List.getElem?_append_left hj, e]
theorem dw_n {c : ByteArray} {wl t : List Nat} {a b : Nat} (h : (dcn c).drop a = wl ++ t) (e : a + wl.length = b) : (dcn c).drop b = t := by
  rw [← e, ← List.drop_drop, h]
  exact List.drop_left
theorem du_y {b : ByteArray} {t : Nat} (h : t < b.size) : Reader.runAt (Reader.u1 : Decoder Nat) b t = .ok ((b[t]'h).toNat, t + 1) := by
  have k : Reader.runAt (Reader.u1 : Decoder Nat) b t = (dite (t < b.size) (fun h => (do set (t + 1); pure (b[t]'h).toNat : Decoder Nat)) (fun _ => (throw (HasTruncated.truncated t) : Decoder Nat))) b t := rfl
  rw [k, dif_pos h]
  rfl
theorem du1 {c : ByteArray} {p n : Nat} (h : dby c p n) : Reader.runAt (Reader.u1 : Decoder Nat) c p = .ok (n, p + 1) := by
  unfold dby dcn at h
  rw [List.getElem?_map] at h
  obtain ⟨b, hb, e⟩ := Option.map_eq_some_iff.mp h
  obtain ⟨hp, hc⟩ := List.getElem?_eq_some_iff.mp hb
  have hp' : p < c.size := hp
  have hc' : c[p]'hp' = b := hc
  rw [du_y hp', hc', e]
theorem dbn {α β : Type} {r : Decoder α} {f : α → Decoder β} {c : ByteArray} {p q : Nat} {x : α} (h : Reader.runAt r c p = .ok (x, q)) : Reader.runAt (r >>= f) c p = Reader.runAt (f x) c q := by
  have e : Reader.runAt (r >>= f) c p = Except.bind (Reader.runAt r c p) (fun s => Reader.runAt (f s.1) c s.2) := rfl
  rw [e, h]
  rfl
theorem dmp {α β : Type} {r : Decoder α} {g : α → β} {c : ByteArray} {p q : Nat} {x : α} (h : Reader.runAt r c p = .ok (x, q)) : Reader.runAt (g <$> r) c p = .ok (g x, q) := by
  have e : Reader.runAt (g <$> r) c p = Except.bind (Reader.runAt r c p) (fun s => .ok (g s.1, s.2)) := rfl
  rw [e, h]
  rfl
theorem du2 {c : ByteArray} {p a b : Nat} (h1 : dby c p a) (h2 : dby c (p + 1) b) : Reader.runAt (Reader.u2 : Decoder Nat) c p = .ok (a * 256 + b, p + 2) := by
  unfold Reader.u2
  rw [dbn (du1 h1), dbn (du1 h2)]
  rfl
theorem ds1 {c : ByteArray} {p a : Nat} (h1 : dby c p a) : Reader.runAt (Reader.s1 : Decoder Int) c p = .ok (Reader.signed 8 a, p + 1) := by
  unfold Reader.s1
  exact dmp (du1 h1)
theorem ds2 {c : ByteArray} {p a b : Nat} (h1 : dby c p a) (h2 : dby c (p + 1) b) : Reader.runAt (Reader.s2 : Decoder Int) c p = .ok (Reader.signed 16 (a * 256 + b), p + 2) := by
  unfold Reader.s2
  exact dmp (du2 h1 h2)
theorem dfin {c : ByteArray} {pc k : Nat} {i : Instr} (h : Reader.runAt (Decoder.instr pc) c pc = .ok (i, pc + k)) : decode c pc = .ok (i, k) := by
  have e : decode c pc = Except.bind (Reader.runAt (Decoder.instr pc) c pc) (fun s => .ok (s.1, s.2 - pc)) := rfl
  rw [e, h]
  show Except.ok (i, pc + k - pc) = _
  rw [Nat.add_sub_cancel_left]
theorem dop_2 {c : ByteArray} {pc : Nat} (h : dby c pc 2) : decode c pc = .ok (.iconst (-1), 1) := dfin (by unfold Decoder.instr; rw [dbn (du1 h)]; rfl)
theorem dop_3 {c : ByteArray} {pc : Nat} (h : dby c pc 3) : decode c pc = .ok (.iconst 0, 1) := dfin (by unfold Decoder.instr; rw [dbn (du1 h)]; rfl)
theorem dop_4 {c : ByteArray} {pc : Nat} (h : dby c pc 4) : decode c pc = .ok (.iconst 1, 1) := dfin (by unfold Decoder.instr; rw [dbn (du1 h)]; rfl)
theorem dop_5 {c : ByteArray} {pc : Nat} (h : dby c pc 5) : decode c pc = .ok (.iconst 2, 1) := dfin (by unfold Decoder.instr; rw [dbn (du1 h)]; rfl)
theorem dop_6 {c : ByteArray} {pc : Nat} (h : dby c pc 6) : decode c pc = .ok (.iconst 3, 1) := dfin (by unfold Decoder.instr; rw [dbn (du1 h)]; rfl)
theorem dop_7 {c : ByteArray} {pc : Nat} (h : dby c pc 7) : decode c pc = .ok (.iconst 4, 1) := dfin (by unfold Decoder.instr; rw [dbn (du1 h)]; rfl)
theorem dop_8 {c : ByteArray} {pc : Nat} (h : dby c pc 8) : decode c pc = .ok (.iconst 5, 1) := dfin (by unfold Decoder.instr; rw [dbn (du1 h)]; rfl)
theorem dop_9 {c : ByteArray} {pc : Nat} (h : dby c pc 9) : decode c pc = .ok (.lconst 0, 1) := dfin (by unfold Decoder.instr; rw [dbn (du1 h)]; rfl)
theorem dop_10 {c : ByteArray} {pc : Nat} (h : dby c pc 10) : decode c pc = .ok (.lconst 1, 1) := dfin (by unfold Decoder.instr; rw [dbn (du1 h)]; rfl)
theorem dop_16 {c : ByteArray} {pc : Nat} {a : Nat} {v : Int} (h : dby c pc 16) (h1 : dby c (pc + 1) a) (e : Reader.signed 8 a = v) : decode c pc = .ok (.bipush v, 2) := dfin (by unfold Decoder.instr; rw [dbn (du1 h)]; show Reader.runAt (Reader.s1 >>= fun x => pure (.bipush x) : Decoder Instr) c (pc + 1) = _; rw [dbn (ds1 h1), e]; rfl)
theorem dop_17 {c : ByteArray} {pc : Nat} {a b : Nat} {v : Int} (h : dby c pc 17) (h1 : dby c (pc + 1) a) (h2 : dby c (pc + 1 + 1) b) (e : Reader.signed 16 (a * 256 + b) = v) : decode c pc = .ok (.sipush v, 3) := dfin (by unfold Decoder.instr; rw [dbn (du1 h)]; show Reader.runAt (Reader.s2 >>= fun x => pure (.sipush x) : Decoder Instr) c (pc + 1) = _; rw [dbn (ds2 h1 h2), e]; rfl)
theorem dop_18 {c : ByteArray} {pc : Nat} {n : Nat} (h : dby c pc 18) (h1 : dby c (pc + 1) n) : decode c pc = .ok (.ldc n, 2) := dfin (by unfold Decoder.instr; rw [dbn (du1 h)]; show Reader.runAt (Reader.u1 >>= fun x => pure (.ldc x) : Decoder Instr) c (pc + 1) = _; rw [dbn (du1 h1)]; rfl)
theorem dop_19 {c : ByteArray} {pc : Nat} {a b n : Nat} (h : dby c pc 19) (h1 : dby c (pc + 1) a) (h2 : dby c (pc + 1 + 1) b) (e : a * 256 + b = n) : decode c pc = .ok (.ldc_w n, 3) := dfin (by unfold Decoder.instr; rw [dbn (du1 h)]; show Reader.runAt (Reader.u2 >>= fun x => pure (.ldc_w x) : Decoder Instr) c (pc + 1) = _; rw [dbn (du2 h1 h2), e]; rfl)
theorem dop_20 {c : ByteArray} {pc : Nat} {a b n : Nat} (h : dby c pc 20) (h1 : dby c (pc + 1) a) (h2 : dby c (pc + 1 + 1) b) (e : a * 256 + b = n) : decode c pc = .ok (.ldc2_w n, 3) := dfin (by unfold Decoder.instr; rw [dbn (du1 h)]; show Reader.runAt (Reader.u2 >>= fun x => pure (.ldc2_w x) : Decoder Instr) c (pc + 1) = _; rw [dbn (du2 h1 h2), e]; rfl)
theorem dop_21 {c : ByteArray} {pc : Nat} {n : Nat} (h : dby c pc 21) (h1 : dby c (pc + 1) n) : decode c pc = .ok (.iload n, 2) := dfin (by unfold Decoder.instr; rw [dbn (du1 h)]; show Reader.runAt (Reader.u1 >>= fun x => pure (.iload x) : Decoder Instr) c (pc + 1) = _; rw [dbn (du1 h1)]; rfl)
theorem dop_22 {c : ByteArray} {pc : Nat} {n : Nat} (h : dby c pc 22) (h1 : dby c (pc + 1) n) : decode c pc = .ok (.lload n, 2) := dfin (by unfold Decoder.instr; rw [dbn (du1 h)]; show Reader.runAt (Reader.u1 >>= fun x => pure (.lload x) : Decoder Instr) c (pc + 1) = _; rw [dbn (du1 h1)]; rfl)
theorem dop_25 {c : ByteArray} {pc : Nat} {n : Nat} (h : dby c pc 25) (h1 : dby c (pc + 1) n) : decode c pc = .ok (.aload n, 2) := dfin (by unfold Decoder.instr; rw [dbn (du1 h)]; show Reader.runAt (Reader.u1 >>= fun x => pure (.aload x) : Decoder Instr) c (pc + 1) = _; rw [dbn (du1 h1)]; rfl)
theorem dop_26 {c : ByteArray} {pc : Nat} (h : dby c pc 26) : decode c pc = .ok (.iload_n 0, 1) := dfin (by unfold Decoder.instr; rw [dbn (du1 h)]; rfl)
theorem dop_27 {c : ByteArray} {pc : Nat} (h : dby c pc 27) : decode c pc = .ok (.iload_n 1, 1) := dfin (by unfold Decoder.instr; rw [dbn (du1 h)]; rfl)
theorem dop_28 {c : ByteArray} {pc : Nat} (h : dby c pc 28) : decode c pc = .ok (.iload_n 2, 1) := dfin (by unfold Decoder.instr; rw [dbn (du1 h)]; rfl)
theorem dop_29 {c : ByteArray} {pc : Nat} (h : dby c pc 29) : decode c pc = .ok (.iload_n 3, 1) := dfin (by unfold Decoder.instr; rw [dbn (du1 h)]; rfl)
theorem dop_30 {c : ByteArray} {pc : Nat} (h : dby c pc 30) : decode c pc = .ok (.lload_n 0, 1) := dfin (by unfold Decoder.instr; rw [dbn (du1 h)]; rfl)
theorem dop_31 {c : ByteArray} {pc : Nat} (h : dby c pc 31) : decode c pc = .ok (.lload_n 1, 1) := dfin (by unfold Decoder.instr; rw [dbn (du1 h)]; rfl)
theorem dop_32 {c : ByteArray} {pc : Nat} (h : dby c pc 32) : decode c pc = .ok (.lload_n 2, 1) := dfin (by unfold Decoder.instr; rw [dbn (du1 h)]; rfl)
theorem dop_33 {c : ByteArray} {pc : Nat} (h : dby c pc 33) : decode c pc = .ok (.lload_n 3, 1) := dfin (by unfold Decoder.instr; rw [dbn (du1 h)]; rfl)
theorem dop_42 {c : ByteArray} {pc : Nat} (h : dby c pc 42) : decode c pc = .ok (.aload_n 0, 1) := dfin (by unfold Decoder.instr; rw [dbn (du1 h)]; rfl)
theorem dop_43 {c : ByteArray} {pc : Nat} (h : dby c pc 43) : decode c pc = .ok (.aload_n 1, 1) := dfin (by unfold Decoder.instr; rw [dbn (du1 h)]; rfl)
theorem dop_44 {c : ByteArray} {pc : Nat} (h : dby c pc 44) : decode c pc = .ok (.aload_n 2, 1) := dfin (by unfold Decoder.instr; rw [dbn (du1 h)]; rfl)
theorem dop_45 {c : ByteArray} {pc : Nat} (h : dby c pc 45) : decode c pc = .ok (.aload_n 3, 1) := dfin (by unfold Decoder.instr; rw [dbn (du1 h)]; rfl)
theorem dop_46 {c : ByteArray} {pc : Nat} (h : dby c pc 46) : decode c pc = .ok (.iaload, 1) := dfin (by unfold Decoder.instr; rw [dbn (du1 h)]; rfl)
theorem dop_47 {c : ByteArray} {pc : Nat} (h : dby c pc 47) : decode c pc = .ok (.laload, 1) := dfin (by unfold Decoder.instr; rw [dbn (du1 h)]; rfl)
theorem dop_50 {c : ByteArray} {pc : Nat} (h : dby c pc 50) : decode c pc = .ok (.aaload, 1) := dfin (by unfold Decoder.instr; rw [dbn (du1 h)]; rfl)
theorem dop_51 {c : ByteArray} {pc : Nat} (h : dby c pc 51) : decode c pc = .ok (.baload, 1) := dfin (by unfold Decoder.instr; rw [dbn (du1 h)]; rfl)
theorem dop_54 {c : ByteArray} {pc : Nat} {n : Nat} (h : dby c pc 54) (h1 : dby c (pc + 1) n) : decode c pc = .ok (.istore n, 2) := dfin (by unfold Decoder.instr; rw [dbn (du1 h)]; show Reader.runAt (Reader.u1 >>= fun x => pure (.istore x) : Decoder Instr) c (pc + 1) = _; rw [dbn (du1 h1)]; rfl)
theorem dop_55 {c : ByteArray} {pc : Nat} {n : Nat} (h : dby c pc 55) (h1 : dby c (pc + 1) n) : decode c pc = .ok (.lstore n, 2) := dfin (by unfold Decoder.instr; rw [dbn (du1 h)]; show Reader.runAt (Reader.u1 >>= fun x => pure (.lstore x) : Decoder Instr) c (pc + 1) = _; rw [dbn (du1 h1)]; rfl)
theorem dop_58 {c : ByteArray} {pc : Nat} {n : Nat} (h : dby c pc 58) (h1 : dby c (pc + 1) n) : decode c pc = .ok (.astore n, 2) := dfin (by unfold Decoder.instr; rw [dbn (du1 h)]; show Reader.runAt (Reader.u1 >>= fun x => pure (.astore x) : Decoder Instr) c (pc + 1) = _; rw [dbn (du1 h1)]; rfl)
theorem dop_59 {c : ByteArray} {pc : Nat} (h : dby c pc 59) : decode c pc = .ok (.istore_n 0, 1) := dfin (by unfold Decoder.instr; rw [dbn (du1 h)]; rfl)
theorem dop_60 {c : ByteArray} {pc : Nat} (h : dby c pc 60) : decode c pc = .ok (.istore_n 1, 1) := dfin (by unfold Decoder.instr; rw [dbn (du1 h)]; rfl)
theorem dop_61 {c : ByteArray} {pc : Nat} (h : dby c pc 61) : decode c pc = .ok (.istore_n 2, 1) := dfin (by unfold Decoder.instr; rw [dbn (du1 h)]; rfl)
theorem dop_62 {c : ByteArray} {pc : Nat} (h : dby c pc 62) : decode c pc = .ok (.istore_n 3, 1) := dfin (by unfold Decoder.instr; rw [dbn (du1 h)]; rfl)
theorem dop_64 {c : ByteArray} {pc : Nat} (h : dby c pc 64) : decode c pc = .ok (.lstore_n 1, 1) := dfin (by unfold Decoder.instr; rw [dbn (du1 h)]; rfl)
theorem dop_65 {c : ByteArray} {pc : Nat} (h : dby c pc 65) : decode c pc = .ok (.lstore_n 2, 1) := dfin (by unfold Decoder.instr; rw [dbn (du1 h)]; rfl)
theorem dop_66 {c : ByteArray} {pc : Nat} (h : dby c pc 66) : decode c pc = .ok (.lstore_n 3, 1) := dfin (by unfold Decoder.instr; rw [dbn (du1 h)]; rfl)
theorem dop_76 {c : ByteArray} {pc : Nat} (h : dby c pc 76) : decode c pc = .ok (.astore_n 1, 1) := dfin (by unfold Decoder.instr; rw [dbn (du1 h)]; rfl)
theorem dop_77 {c : ByteArray} {pc : Nat} (h : dby c pc 77) : decode c pc = .ok (.astore_n 2, 1) := dfin (by unfold Decoder.instr; rw [dbn (du1 h)]; rfl)
theorem dop_78 {c : ByteArray} {pc : Nat} (h : dby c pc 78) : decode c pc = .ok (.astore_n 3, 1) := dfin (by unfold Decoder.instr; rw [dbn (du1 h)]; rfl)
theorem dop_79 {c : ByteArray} {pc : Nat} (h : dby c pc 79) : decode c pc = .ok (.iastore, 1) := dfin (by unfold Decoder.instr; rw [dbn (du1 h)]; rfl)
theorem dop_80 {c : ByteArray} {pc : Nat} (h : dby c pc 80) : decode c pc = .ok (.lastore, 1) := dfin (by unfold Decoder.instr; rw [dbn (du1 h)]; rfl)
theorem dop_83 {c : ByteArray} {pc : Nat} (h : dby c pc 83) : decode c pc = .ok (.aastore, 1) := dfin (by unfold Decoder.instr; rw [dbn (du1 h)]; rfl)
theorem dop_84 {c : ByteArray} {pc : Nat} (h : dby c pc 84) : decode c pc = .ok (.bastore, 1) := dfin (by unfold Decoder.instr; rw [dbn (du1 h)]; rfl)
theorem dop_87 {c : ByteArray} {pc : Nat} (h : dby c pc 87) : decode c pc = .ok (.pop, 1) := dfin (by unfold Decoder.instr; rw [dbn (du1 h)]; rfl)
theorem dop_88 {c : ByteArray} {pc : Nat} (h : dby c pc 88) : decode c pc = .ok (.pop2, 1) := dfin (by unfold Decoder.instr; rw [dbn (du1 h)]; rfl)
theorem dop_89 {c : ByteArray} {pc : Nat} (h : dby c pc 89) : decode c pc = .ok (.dup, 1) := dfin (by unfold Decoder.instr; rw [dbn (du1 h)]; rfl)
theorem dop_92 {c : ByteArray} {pc : Nat} (h : dby c pc 92) : decode c pc = .ok (.dup2, 1) := dfin (by unfold Decoder.instr; rw [dbn (du1 h)]; rfl)
theorem dop_96 {c : ByteArray} {pc : Nat} (h : dby c pc 96) : decode c pc = .ok (.iadd, 1) := dfin (by unfold Decoder.instr; rw [dbn (du1 h)]; rfl)
theorem dop_97 {c : ByteArray} {pc : Nat} (h : dby c pc 97) : decode c pc = .ok (.ladd, 1) := dfin (by unfold Decoder.instr; rw [dbn (du1 h)]; rfl)
theorem dop_100 {c : ByteArray} {pc : Nat} (h : dby c pc 100) : decode c pc = .ok (.isub, 1) := dfin (by unfold Decoder.instr; rw [dbn (du1 h)]; rfl)
theorem dop_101 {c : ByteArray} {pc : Nat} (h : dby c pc 101) : decode c pc = .ok (.lsub, 1) := dfin (by unfold Decoder.instr; rw [dbn (du1 h)]; rfl)
theorem dop_104 {c : ByteArray} {pc : Nat} (h : dby c pc 104) : decode c pc = .ok (.imul, 1) := dfin (by unfold Decoder.instr; rw [dbn (du1 h)]; rfl)
theorem dop_105 {c : ByteArray} {pc : Nat} (h : dby c pc 105) : decode c pc = .ok (.lmul, 1) := dfin (by unfold Decoder.instr; rw [dbn (du1 h)]; rfl)
theorem dop_108 {c : ByteArray} {pc : Nat} (h : dby c pc 108) : decode c pc = .ok (.idiv, 1) := dfin (by unfold Decoder.instr; rw [dbn (du1 h)]; rfl)
theorem dop_109 {c : ByteArray} {pc : Nat} (h : dby c pc 109) : decode c pc = .ok (.ldiv, 1) := dfin (by unfold Decoder.instr; rw [dbn (du1 h)]; rfl)
theorem dop_112 {c : ByteArray} {pc : Nat} (h : dby c pc 112) : decode c pc = .ok (.irem, 1) := dfin (by unfold Decoder.instr; rw [dbn (du1 h)]; rfl)
theorem dop_113 {c : ByteArray} {pc : Nat} (h : dby c pc 113) : decode c pc = .ok (.lrem, 1) := dfin (by unfold Decoder.instr; rw [dbn (du1 h)]; rfl)
theorem dop_116 {c : ByteArray} {pc : Nat} (h : dby c pc 116) : decode c pc = .ok (.ineg, 1) := dfin (by unfold Decoder.instr; rw [dbn (du1 h)]; rfl)
theorem dop_120 {c : ByteArray} {pc : Nat} (h : dby c pc 120) : decode c pc = .ok (.ishl, 1) := dfin (by unfold Decoder.instr; rw [dbn (du1 h)]; rfl)
theorem dop_122 {c : ByteArray} {pc : Nat} (h : dby c pc 122) : decode c pc = .ok (.ishr, 1) := dfin (by unfold Decoder.instr; rw [dbn (du1 h)]; rfl)
theorem dop_124 {c : ByteArray} {pc : Nat} (h : dby c pc 124) : decode c pc = .ok (.iushr, 1) := dfin (by unfold Decoder.instr; rw [dbn (du1 h)]; rfl)
theorem dop_126 {c : ByteArray} {pc : Nat} (h : dby c pc 126) : decode c pc = .ok (.iand, 1) := dfin (by unfold Decoder.instr; rw [dbn (du1 h)]; rfl)
theorem dop_128 {c : ByteArray} {pc : Nat} (h : dby c pc 128) : decode c pc = .ok (.ior, 1) := dfin (by unfold Decoder.instr; rw [dbn (du1 h)]; rfl)
theorem dop_130 {c : ByteArray} {pc : Nat} (h : dby c pc 130) : decode c pc = .ok (.ixor, 1) := dfin (by unfold Decoder.instr; rw [dbn (du1 h)]; rfl)
theorem dop_132 {c : ByteArray} {pc : Nat} {n b : Nat} {v : Int} (h : dby c pc 132) (h1 : dby c (pc + 1) n) (h2 : dby c (pc + 1 + 1) b) (e : Reader.signed 8 b = v) : decode c pc = .ok (.iinc n v, 3) := dfin (by unfold Decoder.instr; rw [dbn (du1 h)]; show Reader.runAt (Reader.u1 >>= fun x => Reader.s1 >>= fun y => pure (.iinc x y) : Decoder Instr) c (pc + 1) = _; rw [dbn (du1 h1), dbn (ds1 h2), e]; rfl)
theorem dop_133 {c : ByteArray} {pc : Nat} (h : dby c pc 133) : decode c pc = .ok (.i2l, 1) := dfin (by unfold Decoder.instr; rw [dbn (du1 h)]; rfl)
theorem dop_136 {c : ByteArray} {pc : Nat} (h : dby c pc 136) : decode c pc = .ok (.l2i, 1) := dfin (by unfold Decoder.instr; rw [dbn (du1 h)]; rfl)
theorem dop_146 {c : ByteArray} {pc : Nat} (h : dby c pc 146) : decode c pc = .ok (.i2c, 1) := dfin (by unfold Decoder.instr; rw [dbn (du1 h)]; rfl)
theorem dop_148 {c : ByteArray} {pc : Nat} (h : dby c pc 148) : decode c pc = .ok (.lcmp, 1) := dfin (by unfold Decoder.instr; rw [dbn (du1 h)]; rfl)
theorem dop_153 {c : ByteArray} {pc : Nat} {a b : Nat} {v : Int} (h : dby c pc 153) (h1 : dby c (pc + 1) a) (h2 : dby c (pc + 1 + 1) b) (e : Reader.signed 16 (a * 256 + b) = v) : decode c pc = .ok (.ifCond .eq v, 3) := dfin (by unfold Decoder.instr; rw [dbn (du1 h)]; show Reader.runAt (Reader.s2 >>= fun x => pure (.ifCond .eq x) : Decoder Instr) c (pc + 1) = _; rw [dbn (ds2 h1 h2), e]; rfl)
theorem dop_154 {c : ByteArray} {pc : Nat} {a b : Nat} {v : Int} (h : dby c pc 154) (h1 : dby c (pc + 1) a) (h2 : dby c (pc + 1 + 1) b) (e : Reader.signed 16 (a * 256 + b) = v) : decode c pc = .ok (.ifCond .ne v, 3) := dfin (by unfold Decoder.instr; rw [dbn (du1 h)]; show Reader.runAt (Reader.s2 >>= fun x => pure (.ifCond .ne x) : Decoder Instr) c (pc + 1) = _; rw [dbn (ds2 h1 h2), e]; rfl)
theorem dop_155 {c : ByteArray} {pc : Nat} {a b : Nat} {v : Int} (h : dby c pc 155) (h1 : dby c (pc + 1) a) (h2 : dby c (pc + 1 + 1) b) (e : Reader.signed 16 (a * 256 + b) = v) : decode c pc = .ok (.ifCond .lt v, 3) := dfin (by unfold Decoder.instr; rw [dbn (du1 h)]; show Reader.runAt (Reader.s2 >>= fun x => pure (.ifCond .lt x) : Decoder Instr) c (pc + 1) = _; rw [dbn (ds2 h1 h2), e]; rfl)
theorem dop_156 {c : ByteArray} {pc : Nat} {a b : Nat} {v : Int} (h : dby c pc 156) (h1 : dby c (pc + 1) a) (h2 : dby c (pc + 1 + 1) b) (e : Reader.signed 16 (a * 256 + b) = v) : decode c pc = .ok (.ifCond .ge v, 3) := dfin (by unfold Decoder.instr; rw [dbn (du1 h)]; show Reader.runAt (Reader.s2 >>= fun x => pure (.ifCond .ge x) : Decoder Instr) c (pc + 1) = _; rw [dbn (ds2 h1 h2), e]; rfl)
theorem dop_157 {c : ByteArray} {pc : Nat} {a b : Nat} {v : Int} (h : dby c pc 157) (h1 : dby c (pc + 1) a) (h2 : dby c (pc + 1 + 1) b) (e : Reader.signed 16 (a * 256 + b) = v) : decode c pc = .ok (.ifCond .gt v, 3) := dfin (by unfold Decoder.instr; rw [dbn (du1 h)]; show Reader.runAt (Reader.s2 >>= fun x => pure (.ifCond .gt x) : Decoder Instr) c (pc + 1) = _; rw [dbn (ds2 h1 h2), e]; rfl)
theorem dop_158 {c : ByteArray} {pc : Nat} {a b : Nat} {v : Int} (h : dby c pc 158) (h1 : dby c (pc + 1) a) (h2 : dby c (pc + 1 + 1) b) (e : Reader.signed 16 (a * 256 + b) = v) : decode c pc = .ok (.ifCond .le v, 3) := dfin (by unfold Decoder.instr; rw [dbn (du1 h)]; show Reader.runAt (Reader.s2 >>= fun x => pure (.ifCond .le x) : Decoder Instr) c (pc + 1) = _; rw [dbn (ds2 h1 h2), e]; rfl)
theorem dop_159 {c : ByteArray} {pc : Nat} {a b : Nat} {v : Int} (h : dby c pc 159) (h1 : dby c (pc + 1) a) (h2 : dby c (pc + 1 + 1) b) (e : Reader.signed 16 (a * 256 + b) = v) : decode c pc = .ok (.if_icmp .eq v, 3) := dfin (by unfold Decoder.instr; rw [dbn (du1 h)]; show Reader.runAt (Reader.s2 >>= fun x => pure (.if_icmp .eq x) : Decoder Instr) c (pc + 1) = _; rw [dbn (ds2 h1 h2), e]; rfl)
theorem dop_160 {c : ByteArray} {pc : Nat} {a b : Nat} {v : Int} (h : dby c pc 160) (h1 : dby c (pc + 1) a) (h2 : dby c (pc + 1 + 1) b) (e : Reader.signed 16 (a * 256 + b) = v) : decode c pc = .ok (.if_icmp .ne v, 3) := dfin (by unfold Decoder.instr; rw [dbn (du1 h)]; show Reader.runAt (Reader.s2 >>= fun x => pure (.if_icmp .ne x) : Decoder Instr) c (pc + 1) = _; rw [dbn (ds2 h1 h2), e]; rfl)
theorem dop_161 {c : ByteArray} {pc : Nat} {a b : Nat} {v : Int} (h : dby c pc 161) (h1 : dby c (pc + 1) a) (h2 : dby c (pc + 1 + 1) b) (e : Reader.signed 16 (a * 256 + b) = v) : decode c pc = .ok (.if_icmp .lt v, 3) := dfin (by unfold Decoder.instr; rw [dbn (du1 h)]; show Reader.runAt (Reader.s2 >>= fun x => pure (.if_icmp .lt x) : Decoder Instr) c (pc + 1) = _; rw [dbn (ds2 h1 h2), e]; rfl)
theorem dop_162 {c : ByteArray} {pc : Nat} {a b : Nat} {v : Int} (h : dby c pc 162) (h1 : dby c (pc + 1) a) (h2 : dby c (pc + 1 + 1) b) (e : Reader.signed 16 (a * 256 + b) = v) : decode c pc = .ok (.if_icmp .ge v, 3) := dfin (by unfold Decoder.instr; rw [dbn (du1 h)]; show Reader.runAt (Reader.s2 >>= fun x => pure (.if_icmp .ge x) : Decoder Instr) c (pc + 1) = _; rw [dbn (ds2 h1 h2), e]; rfl)
theorem dop_163 {c : ByteArray} {pc : Nat} {a b : Nat} {v : Int} (h : dby c pc 163) (h1 : dby c (pc + 1) a) (h2 : dby c (pc + 1 + 1) b) (e : Reader.signed 16 (a * 256 + b) = v) : decode c pc = .ok (.if_icmp .gt v, 3) := dfin (by unfold Decoder.instr; rw [dbn (du1 h)]; show Reader.runAt (Reader.s2 >>= fun x => pure (.if_icmp .gt x) : Decoder Instr) c (pc + 1) = _; rw [dbn (ds2 h1 h2), e]; rfl)
theorem dop_164 {c : ByteArray} {pc : Nat} {a b : Nat} {v : Int} (h : dby c pc 164) (h1 : dby c (pc + 1) a) (h2 : dby c (pc + 1 + 1) b) (e : Reader.signed 16 (a * 256 + b) = v) : decode c pc = .ok (.if_icmp .le v, 3) := dfin (by unfold Decoder.instr; rw [dbn (du1 h)]; show Reader.runAt (Reader.s2 >>= fun x => pure (.if_icmp .le x) : Decoder Instr) c (pc + 1) = _; rw [dbn (ds2 h1 h2), e]; rfl)
theorem dop_167 {c : ByteArray} {pc : Nat} {a b : Nat} {v : Int} (h : dby c pc 167) (h1 : dby c (pc + 1) a) (h2 : dby c (pc + 1 + 1) b) (e : Reader.signed 16 (a * 256 + b) = v) : decode c pc = .ok (.goto v, 3) := dfin (by unfold Decoder.instr; rw [dbn (du1 h)]; show Reader.runAt (Reader.s2 >>= fun x => pure (.goto x) : Decoder Instr) c (pc + 1) = _; rw [dbn (ds2 h1 h2), e]; rfl)
theorem dop_172 {c : ByteArray} {pc : Nat} (h : dby c pc 172) : decode c pc = .ok (.ireturn, 1) := dfin (by unfold Decoder.instr; rw [dbn (du1 h)]; rfl)
theorem dop_173 {c : ByteArray} {pc : Nat} (h : dby c pc 173) : decode c pc = .ok (.lreturn, 1) := dfin (by unfold Decoder.instr; rw [dbn (du1 h)]; rfl)
theorem dop_176 {c : ByteArray} {pc : Nat} (h : dby c pc 176) : decode c pc = .ok (.areturn, 1) := dfin (by unfold Decoder.instr; rw [dbn (du1 h)]; rfl)
theorem dop_177 {c : ByteArray} {pc : Nat} (h : dby c pc 177) : decode c pc = .ok (.return_, 1) := dfin (by unfold Decoder.instr; rw [dbn (du1 h)]; rfl)
theorem dop_178 {c : ByteArray} {pc : Nat} {a b n : Nat} (h : dby c pc 178) (h1 : dby c (pc + 1) a) (h2 : dby c (pc + 1 + 1) b) (e : a * 256 + b = n) : decode c pc = .ok (.getstatic n, 3) := dfin (by unfold Decoder.instr; rw [dbn (du1 h)]; show Reader.runAt (Reader.u2 >>= fun x => pure (.getstatic x) : Decoder Instr) c (pc + 1) = _; rw [dbn (du2 h1 h2), e]; rfl)
theorem dop_180 {c : ByteArray} {pc : Nat} {a b n : Nat} (h : dby c pc 180) (h1 : dby c (pc + 1) a) (h2 : dby c (pc + 1 + 1) b) (e : a * 256 + b = n) : decode c pc = .ok (.getfield n, 3) := dfin (by unfold Decoder.instr; rw [dbn (du1 h)]; show Reader.runAt (Reader.u2 >>= fun x => pure (.getfield x) : Decoder Instr) c (pc + 1) = _; rw [dbn (du2 h1 h2), e]; rfl)
theorem dop_181 {c : ByteArray} {pc : Nat} {a b n : Nat} (h : dby c pc 181) (h1 : dby c (pc + 1) a) (h2 : dby c (pc + 1 + 1) b) (e : a * 256 + b = n) : decode c pc = .ok (.putfield n, 3) := dfin (by unfold Decoder.instr; rw [dbn (du1 h)]; show Reader.runAt (Reader.u2 >>= fun x => pure (.putfield x) : Decoder Instr) c (pc + 1) = _; rw [dbn (du2 h1 h2), e]; rfl)
theorem dop_182 {c : ByteArray} {pc : Nat} {a b n : Nat} (h : dby c pc 182) (h1 : dby c (pc + 1) a) (h2 : dby c (pc + 1 + 1) b) (e : a * 256 + b = n) : decode c pc = .ok (.invokevirtual n, 3) := dfin (by unfold Decoder.instr; rw [dbn (du1 h)]; show Reader.runAt (Reader.u2 >>= fun x => pure (.invokevirtual x) : Decoder Instr) c (pc + 1) = _; rw [dbn (du2 h1 h2), e]; rfl)
theorem dop_183 {c : ByteArray} {pc : Nat} {a b n : Nat} (h : dby c pc 183) (h1 : dby c (pc + 1) a) (h2 : dby c (pc + 1 + 1) b) (e : a * 256 + b = n) : decode c pc = .ok (.invokespecial n, 3) := dfin (by unfold Decoder.instr; rw [dbn (du1 h)]; show Reader.runAt (Reader.u2 >>= fun x => pure (.invokespecial x) : Decoder Instr) c (pc + 1) = _; rw [dbn (du2 h1 h2), e]; rfl)
theorem dop_184 {c : ByteArray} {pc : Nat} {a b n : Nat} (h : dby c pc 184) (h1 : dby c (pc + 1) a) (h2 : dby c (pc + 1 + 1) b) (e : a * 256 + b = n) : decode c pc = .ok (.invokestatic n, 3) := dfin (by unfold Decoder.instr; rw [dbn (du1 h)]; show Reader.runAt (Reader.u2 >>= fun x => pure (.invokestatic x) : Decoder Instr) c (pc + 1) = _; rw [dbn (du2 h1 h2), e]; rfl)
theorem dop_187 {c : ByteArray} {pc : Nat} {a b n : Nat} (h : dby c pc 187) (h1 : dby c (pc + 1) a) (h2 : dby c (pc + 1 + 1) b) (e : a * 256 + b = n) : decode c pc = .ok (.new n, 3) := dfin (by unfold Decoder.instr; rw [dbn (du1 h)]; show Reader.runAt (Reader.u2 >>= fun x => pure (.new x) : Decoder Instr) c (pc + 1) = _; rw [dbn (du2 h1 h2), e]; rfl)
theorem dop_188_4 {c : ByteArray} {pc : Nat} (h : dby c pc 188) (h1 : dby c (pc + 1) 4) : decode c pc = .ok (.newarray .boolean, 2) := dfin (by unfold Decoder.instr; rw [dbn (du1 h)]; show Reader.runAt (Decoder.newarray pc) c (pc + 1) = _; unfold Decoder.newarray; rw [dbn (du1 h1)]; rfl)
theorem dop_188_10 {c : ByteArray} {pc : Nat} (h : dby c pc 188) (h1 : dby c (pc + 1) 10) : decode c pc = .ok (.newarray .int, 2) := dfin (by unfold Decoder.instr; rw [dbn (du1 h)]; show Reader.runAt (Decoder.newarray pc) c (pc + 1) = _; unfold Decoder.newarray; rw [dbn (du1 h1)]; rfl)
theorem dop_188_11 {c : ByteArray} {pc : Nat} (h : dby c pc 188) (h1 : dby c (pc + 1) 11) : decode c pc = .ok (.newarray .long, 2) := dfin (by unfold Decoder.instr; rw [dbn (du1 h)]; show Reader.runAt (Decoder.newarray pc) c (pc + 1) = _; unfold Decoder.newarray; rw [dbn (du1 h1)]; rfl)
theorem dop_189 {c : ByteArray} {pc : Nat} {a b n : Nat} (h : dby c pc 189) (h1 : dby c (pc + 1) a) (h2 : dby c (pc + 1 + 1) b) (e : a * 256 + b = n) : decode c pc = .ok (.anewarray n, 3) := dfin (by unfold Decoder.instr; rw [dbn (du1 h)]; show Reader.runAt (Reader.u2 >>= fun x => pure (.anewarray x) : Decoder Instr) c (pc + 1) = _; rw [dbn (du2 h1 h2), e]; rfl)
theorem dop_190 {c : ByteArray} {pc : Nat} (h : dby c pc 190) : decode c pc = .ok (.arraylength, 1) := dfin (by unfold Decoder.instr; rw [dbn (du1 h)]; rfl)
theorem dop_191 {c : ByteArray} {pc : Nat} (h : dby c pc 191) : decode c pc = .ok (.athrow, 1) := dfin (by unfold Decoder.instr; rw [dbn (du1 h)]; rfl)
def zw_J0_length_8abf5_0 : List Nat := [42, 180, 0, 9, 190, 42, 182, 1, 79, 122, 172]
def zt_J0_length_8abf5_0 : List Nat := zw_J0_length_8abf5_0 ++ []
theorem ze_J0_length_8abf5_0 : (dcn cJ0_length_8abf5).drop 0 = zt_J0_length_8abf5_0 := by decide +kernel
theorem zb_J0_length_8abf5_0 (j : Nat) {n : Nat} (e : zw_J0_length_8abf5_0[j]? = some n) : dby cJ0_length_8abf5 (0 + j) n := dw_b (t := []) ze_J0_length_8abf5_0 j e
theorem dJ0_length_8abf5_0 : decode cJ0_length_8abf5 0 = .ok (.aload_n 0, 1) := dop_42 (zb_J0_length_8abf5_0 0 rfl)
theorem dJ0_length_8abf5_1 : decode cJ0_length_8abf5 1 = .ok (.getfield 9, 3) := dop_180 (zb_J0_length_8abf5_0 1 rfl) (zb_J0_length_8abf5_0 2 rfl) (zb_J0_length_8abf5_0 3 rfl) rfl
theorem dJ0_length_8abf5_4 : decode cJ0_length_8abf5 4 = .ok (.arraylength, 1) := dop_190 (zb_J0_length_8abf5_0 4 rfl)
theorem dJ0_length_8abf5_5 : decode cJ0_length_8abf5 5 = .ok (.aload_n 0, 1) := dop_42 (zb_J0_length_8abf5_0 5 rfl)
theorem dJ0_length_8abf5_6 : decode cJ0_length_8abf5 6 = .ok (.invokevirtual 335, 3) := dop_182 (zb_J0_length_8abf5_0 6 rfl) (zb_J0_length_8abf5_0 7 rfl) (zb_J0_length_8abf5_0 8 rfl) rfl
theorem dJ0_length_8abf5_9 : decode cJ0_length_8abf5 9 = .ok (.ishr, 1) := dop_122 (zb_J0_length_8abf5_0 9 rfl)
theorem dJ0_length_8abf5_10 : decode cJ0_length_8abf5 10 = .ok (.ireturn, 1) := dop_172 (zb_J0_length_8abf5_0 10 rfl)
def zw_J0_charAt_5068e_0 : List Nat := [42, 182, 1, 236, 153, 0, 12, 42, 180, 0, 9, 27, 184, 1, 239, 172, 42, 180, 0, 9, 27, 184, 1, 242, 172]
def zt_J0_charAt_5068e_0 : List Nat := zw_J0_charAt_5068e_0 ++ []
theorem ze_J0_charAt_5068e_0 : (dcn cJ0_charAt_5068e).drop 0 = zt_J0_charAt_5068e_0 := by decide +kernel
theorem zb_J0_charAt_5068e_0 (j : Nat) {n : Nat} (e : zw_J0_charAt_5068e_0[j]? = some n) : dby cJ0_charAt_5068e (0 + j) n := dw_b (t := []) ze_J0_charAt_5068e_0 j e
theorem dJ0_charAt_5068e_0 : decode cJ0_charAt_5068e 0 = .ok (.aload_n 0, 1) := dop_42 (zb_J0_charAt_5068e_0 0 rfl)
theorem dJ0_charAt_5068e_1 : decode cJ0_charAt_5068e 1 = .ok (.invokevirtual 492, 3) := dop_182 (zb_J0_charAt_5068e_0 1 rfl) (zb_J0_charAt_5068e_0 2 rfl) (zb_J0_charAt_5068e_0 3 rfl) rfl
theorem dJ0_charAt_5068e_4 : decode cJ0_charAt_5068e 4 = .ok (.ifCond .eq 12, 3) := dop_153 (zb_J0_charAt_5068e_0 4 rfl) (zb_J0_charAt_5068e_0 5 rfl) (zb_J0_charAt_5068e_0 6 rfl) rfl
theorem dJ0_charAt_5068e_7 : decode cJ0_charAt_5068e 7 = .ok (.aload_n 0, 1) := dop_42 (zb_J0_charAt_5068e_0 7 rfl)
theorem dJ0_charAt_5068e_8 : decode cJ0_charAt_5068e 8 = .ok (.getfield 9, 3) := dop_180 (zb_J0_charAt_5068e_0 8 rfl) (zb_J0_charAt_5068e_0 9 rfl) (zb_J0_charAt_5068e_0 10 rfl) rfl
theorem dJ0_charAt_5068e_11 : decode cJ0_charAt_5068e 11 = .ok (.iload_n 1, 1) := dop_27 (zb_J0_charAt_5068e_0 11 rfl)
theorem dJ0_charAt_5068e_12 : decode cJ0_charAt_5068e 12 = .ok (.invokestatic 495, 3) := dop_184 (zb_J0_charAt_5068e_0 12 rfl) (zb_J0_charAt_5068e_0 13 rfl) (zb_J0_charAt_5068e_0 14 rfl) rfl
theorem dJ0_charAt_5068e_15 : decode cJ0_charAt_5068e 15 = .ok (.ireturn, 1) := dop_172 (zb_J0_charAt_5068e_0 15 rfl)
theorem dJ0_charAt_5068e_16 : decode cJ0_charAt_5068e 16 = .ok (.aload_n 0, 1) := dop_42 (zb_J0_charAt_5068e_0 16 rfl)
theorem dJ0_charAt_5068e_17 : decode cJ0_charAt_5068e 17 = .ok (.getfield 9, 3) := dop_180 (zb_J0_charAt_5068e_0 17 rfl) (zb_J0_charAt_5068e_0 18 rfl) (zb_J0_charAt_5068e_0 19 rfl) rfl
theorem dJ0_charAt_5068e_20 : decode cJ0_charAt_5068e 20 = .ok (.iload_n 1, 1) := dop_27 (zb_J0_charAt_5068e_0 20 rfl)
theorem dJ0_charAt_5068e_21 : decode cJ0_charAt_5068e 21 = .ok (.invokestatic 498, 3) := dop_184 (zb_J0_charAt_5068e_0 21 rfl) (zb_J0_charAt_5068e_0 22 rfl) (zb_J0_charAt_5068e_0 23 rfl) rfl
theorem dJ0_charAt_5068e_24 : decode cJ0_charAt_5068e 24 = .ok (.ireturn, 1) := dop_172 (zb_J0_charAt_5068e_0 24 rfl)
def zw_J0_coder_7d493_0 : List Nat := [178, 0, 38, 153, 0, 10, 42, 180, 0, 15, 167, 0, 4, 4, 172]
def zt_J0_coder_7d493_0 : List Nat := zw_J0_coder_7d493_0 ++ []
theorem ze_J0_coder_7d493_0 : (dcn cJ0_coder_7d493).drop 0 = zt_J0_coder_7d493_0 := by decide +kernel
theorem zb_J0_coder_7d493_0 (j : Nat) {n : Nat} (e : zw_J0_coder_7d493_0[j]? = some n) : dby cJ0_coder_7d493 (0 + j) n := dw_b (t := []) ze_J0_coder_7d493_0 j e
theorem dJ0_coder_7d493_0 : decode cJ0_coder_7d493 0 = .ok (.getstatic 38, 3) := dop_178 (zb_J0_coder_7d493_0 0 rfl) (zb_J0_coder_7d493_0 1 rfl) (zb_J0_coder_7d493_0 2 rfl) rfl
theorem dJ0_coder_7d493_3 : decode cJ0_coder_7d493 3 = .ok (.ifCond .eq 10, 3) := dop_153 (zb_J0_coder_7d493_0 3 rfl) (zb_J0_coder_7d493_0 4 rfl) (zb_J0_coder_7d493_0 5 rfl) rfl
theorem dJ0_coder_7d493_6 : decode cJ0_coder_7d493 6 = .ok (.aload_n 0, 1) := dop_42 (zb_J0_coder_7d493_0 6 rfl)
theorem dJ0_coder_7d493_7 : decode cJ0_coder_7d493 7 = .ok (.getfield 15, 3) := dop_180 (zb_J0_coder_7d493_0 7 rfl) (zb_J0_coder_7d493_0 8 rfl) (zb_J0_coder_7d493_0 9 rfl) rfl
theorem dJ0_coder_7d493_10 : decode cJ0_coder_7d493 10 = .ok (.goto 4, 3) := dop_167 (zb_J0_coder_7d493_0 10 rfl) (zb_J0_coder_7d493_0 11 rfl) (zb_J0_coder_7d493_0 12 rfl) rfl
theorem dJ0_coder_7d493_13 : decode cJ0_coder_7d493 13 = .ok (.iconst 1, 1) := dop_4 (zb_J0_coder_7d493_0 13 rfl)
theorem dJ0_coder_7d493_14 : decode cJ0_coder_7d493 14 = .ok (.ireturn, 1) := dop_172 (zb_J0_coder_7d493_0 14 rfl)
def zw_J0_isLatin1_aae02_0 : List Nat := [178, 0, 38, 153, 0, 14, 42, 180, 0, 15, 154, 0, 7, 4, 167, 0, 4, 3, 172]
def zt_J0_isLatin1_aae02_0 : List Nat := zw_J0_isLatin1_aae02_0 ++ []
theorem ze_J0_isLatin1_aae02_0 : (dcn cJ0_isLatin1_aae02).drop 0 = zt_J0_isLatin1_aae02_0 := by decide +kernel
theorem zb_J0_isLatin1_aae02_0 (j : Nat) {n : Nat} (e : zw_J0_isLatin1_aae02_0[j]? = some n) : dby cJ0_isLatin1_aae02 (0 + j) n := dw_b (t := []) ze_J0_isLatin1_aae02_0 j e
theorem dJ0_isLatin1_aae02_0 : decode cJ0_isLatin1_aae02 0 = .ok (.getstatic 38, 3) := dop_178 (zb_J0_isLatin1_aae02_0 0 rfl) (zb_J0_isLatin1_aae02_0 1 rfl) (zb_J0_isLatin1_aae02_0 2 rfl) rfl
theorem dJ0_isLatin1_aae02_3 : decode cJ0_isLatin1_aae02 3 = .ok (.ifCond .eq 14, 3) := dop_153 (zb_J0_isLatin1_aae02_0 3 rfl) (zb_J0_isLatin1_aae02_0 4 rfl) (zb_J0_isLatin1_aae02_0 5 rfl) rfl
theorem dJ0_isLatin1_aae02_6 : decode cJ0_isLatin1_aae02 6 = .ok (.aload_n 0, 1) := dop_42 (zb_J0_isLatin1_aae02_0 6 rfl)
theorem dJ0_isLatin1_aae02_7 : decode cJ0_isLatin1_aae02 7 = .ok (.getfield 15, 3) := dop_180 (zb_J0_isLatin1_aae02_0 7 rfl) (zb_J0_isLatin1_aae02_0 8 rfl) (zb_J0_isLatin1_aae02_0 9 rfl) rfl
theorem dJ0_isLatin1_aae02_10 : decode cJ0_isLatin1_aae02 10 = .ok (.ifCond .ne 7, 3) := dop_154 (zb_J0_isLatin1_aae02_0 10 rfl) (zb_J0_isLatin1_aae02_0 11 rfl) (zb_J0_isLatin1_aae02_0 12 rfl) rfl
theorem dJ0_isLatin1_aae02_13 : decode cJ0_isLatin1_aae02 13 = .ok (.iconst 1, 1) := dop_4 (zb_J0_isLatin1_aae02_0 13 rfl)
theorem dJ0_isLatin1_aae02_14 : decode cJ0_isLatin1_aae02 14 = .ok (.goto 4, 3) := dop_167 (zb_J0_isLatin1_aae02_0 14 rfl) (zb_J0_isLatin1_aae02_0 15 rfl) (zb_J0_isLatin1_aae02_0 16 rfl) rfl
theorem dJ0_isLatin1_aae02_17 : decode cJ0_isLatin1_aae02 17 = .ok (.iconst 0, 1) := dop_3 (zb_J0_isLatin1_aae02_0 17 rfl)
theorem dJ0_isLatin1_aae02_18 : decode cJ0_isLatin1_aae02 18 = .ok (.ireturn, 1) := dop_172 (zb_J0_isLatin1_aae02_0 18 rfl)
def zw_J0_checkIndex_df160_0 : List Nat := [26, 27, 178, 4, 29, 184, 4, 35, 87, 177]
def zt_J0_checkIndex_df160_0 : List Nat := zw_J0_checkIndex_df160_0 ++ []
theorem ze_J0_checkIndex_df160_0 : (dcn cJ0_checkIndex_df160).drop 0 = zt_J0_checkIndex_df160_0 := by decide +kernel
theorem zb_J0_checkIndex_df160_0 (j : Nat) {n : Nat} (e : zw_J0_checkIndex_df160_0[j]? = some n) : dby cJ0_checkIndex_df160 (0 + j) n := dw_b (t := []) ze_J0_checkIndex_df160_0 j e
theorem dJ0_checkIndex_df160_0 : decode cJ0_checkIndex_df160 0 = .ok (.iload_n 0, 1) := dop_26 (zb_J0_checkIndex_df160_0 0 rfl)
theorem dJ0_checkIndex_df160_1 : decode cJ0_checkIndex_df160 1 = .ok (.iload_n 1, 1) := dop_27 (zb_J0_checkIndex_df160_0 1 rfl)
theorem dJ0_checkIndex_df160_2 : decode cJ0_checkIndex_df160 2 = .ok (.getstatic 1053, 3) := dop_178 (zb_J0_checkIndex_df160_0 2 rfl) (zb_J0_checkIndex_df160_0 3 rfl) (zb_J0_checkIndex_df160_0 4 rfl) rfl
theorem dJ0_checkIndex_df160_5 : decode cJ0_checkIndex_df160 5 = .ok (.invokestatic 1059, 3) := dop_184 (zb_J0_checkIndex_df160_0 5 rfl) (zb_J0_checkIndex_df160_0 6 rfl) (zb_J0_checkIndex_df160_0 7 rfl) rfl
theorem dJ0_checkIndex_df160_8 : decode cJ0_checkIndex_df160 8 = .ok (.pop, 1) := dop_87 (zb_J0_checkIndex_df160_0 8 rfl)
theorem dJ0_checkIndex_df160_9 : decode cJ0_checkIndex_df160 9 = .ok (.return_, 1) := dop_177 (zb_J0_checkIndex_df160_0 9 rfl)
def zw_J1_charAt_3b067_0 : List Nat := [27, 42, 190, 184, 0, 9, 42, 27, 51, 17, 0, 255, 126, 146, 172]
def zt_J1_charAt_3b067_0 : List Nat := zw_J1_charAt_3b067_0 ++ []
theorem ze_J1_charAt_3b067_0 : (dcn cJ1_charAt_3b067).drop 0 = zt_J1_charAt_3b067_0 := by decide +kernel
theorem zb_J1_charAt_3b067_0 (j : Nat) {n : Nat} (e : zw_J1_charAt_3b067_0[j]? = some n) : dby cJ1_charAt_3b067 (0 + j) n := dw_b (t := []) ze_J1_charAt_3b067_0 j e
theorem dJ1_charAt_3b067_0 : decode cJ1_charAt_3b067 0 = .ok (.iload_n 1, 1) := dop_27 (zb_J1_charAt_3b067_0 0 rfl)
theorem dJ1_charAt_3b067_1 : decode cJ1_charAt_3b067 1 = .ok (.aload_n 0, 1) := dop_42 (zb_J1_charAt_3b067_0 1 rfl)
theorem dJ1_charAt_3b067_2 : decode cJ1_charAt_3b067 2 = .ok (.arraylength, 1) := dop_190 (zb_J1_charAt_3b067_0 2 rfl)
theorem dJ1_charAt_3b067_3 : decode cJ1_charAt_3b067 3 = .ok (.invokestatic 9, 3) := dop_184 (zb_J1_charAt_3b067_0 3 rfl) (zb_J1_charAt_3b067_0 4 rfl) (zb_J1_charAt_3b067_0 5 rfl) rfl
theorem dJ1_charAt_3b067_6 : decode cJ1_charAt_3b067 6 = .ok (.aload_n 0, 1) := dop_42 (zb_J1_charAt_3b067_0 6 rfl)
theorem dJ1_charAt_3b067_7 : decode cJ1_charAt_3b067 7 = .ok (.iload_n 1, 1) := dop_27 (zb_J1_charAt_3b067_0 7 rfl)
theorem dJ1_charAt_3b067_8 : decode cJ1_charAt_3b067 8 = .ok (.baload, 1) := dop_51 (zb_J1_charAt_3b067_0 8 rfl)
theorem dJ1_charAt_3b067_9 : decode cJ1_charAt_3b067 9 = .ok (.sipush 255, 3) := dop_17 (zb_J1_charAt_3b067_0 9 rfl) (zb_J1_charAt_3b067_0 10 rfl) (zb_J1_charAt_3b067_0 11 rfl) rfl
theorem dJ1_charAt_3b067_12 : decode cJ1_charAt_3b067 12 = .ok (.iand, 1) := dop_126 (zb_J1_charAt_3b067_0 12 rfl)
theorem dJ1_charAt_3b067_13 : decode cJ1_charAt_3b067 13 = .ok (.i2c, 1) := dop_146 (zb_J1_charAt_3b067_0 13 rfl)
theorem dJ1_charAt_3b067_14 : decode cJ1_charAt_3b067 14 = .ok (.ireturn, 1) := dop_172 (zb_J1_charAt_3b067_0 14 rfl)
def zw_J2_getChar_3b067_1 : List Nat := [17, 0, 255, 126, 178, 0, 59, 120, 42, 27, 51, 17, 0, 255, 126, 178, 0, 63, 120, 128, 146, 172]
def zt_J2_getChar_3b067_1 : List Nat := zw_J2_getChar_3b067_1 ++ []
def zw_J2_getChar_3b067_0 : List Nat := [178, 0, 44, 154, 0, 25, 27, 155, 0, 11, 27, 42, 184, 0, 48, 161, 0, 13, 187, 0, 52, 89, 18, 54, 183, 0, 56, 191, 27, 4, 120, 60, 42, 27, 132, 1, 1, 51]
def zt_J2_getChar_3b067_0 : List Nat := zw_J2_getChar_3b067_0 ++ zt_J2_getChar_3b067_1
theorem ze_J2_getChar_3b067_0 : (dcn cJ2_getChar_3b067).drop 0 = zt_J2_getChar_3b067_0 := by decide +kernel
theorem ze_J2_getChar_3b067_1 : (dcn cJ2_getChar_3b067).drop 38 = zt_J2_getChar_3b067_1 := dw_n (wl := zw_J2_getChar_3b067_0) ze_J2_getChar_3b067_0 rfl
theorem zb_J2_getChar_3b067_0 (j : Nat) {n : Nat} (e : zw_J2_getChar_3b067_0[j]? = some n) : dby cJ2_getChar_3b067 (0 + j) n := dw_b (t := zt_J2_getChar_3b067_1) ze_J2_getChar_3b067_0 j e
theorem dJ2_getChar_3b067_0 : decode cJ2_getChar_3b067 0 = .ok (.getstatic 44, 3) := dop_178 (zb_J2_getChar_3b067_0 0 rfl) (zb_J2_getChar_3b067_0 1 rfl) (zb_J2_getChar_3b067_0 2 rfl) rfl
theorem dJ2_getChar_3b067_3 : decode cJ2_getChar_3b067 3 = .ok (.ifCond .ne 25, 3) := dop_154 (zb_J2_getChar_3b067_0 3 rfl) (zb_J2_getChar_3b067_0 4 rfl) (zb_J2_getChar_3b067_0 5 rfl) rfl
theorem dJ2_getChar_3b067_6 : decode cJ2_getChar_3b067 6 = .ok (.iload_n 1, 1) := dop_27 (zb_J2_getChar_3b067_0 6 rfl)
theorem dJ2_getChar_3b067_7 : decode cJ2_getChar_3b067 7 = .ok (.ifCond .lt 11, 3) := dop_155 (zb_J2_getChar_3b067_0 7 rfl) (zb_J2_getChar_3b067_0 8 rfl) (zb_J2_getChar_3b067_0 9 rfl) rfl
theorem dJ2_getChar_3b067_10 : decode cJ2_getChar_3b067 10 = .ok (.iload_n 1, 1) := dop_27 (zb_J2_getChar_3b067_0 10 rfl)
theorem dJ2_getChar_3b067_11 : decode cJ2_getChar_3b067 11 = .ok (.aload_n 0, 1) := dop_42 (zb_J2_getChar_3b067_0 11 rfl)
theorem dJ2_getChar_3b067_12 : decode cJ2_getChar_3b067 12 = .ok (.invokestatic 48, 3) := dop_184 (zb_J2_getChar_3b067_0 12 rfl) (zb_J2_getChar_3b067_0 13 rfl) (zb_J2_getChar_3b067_0 14 rfl) rfl
theorem dJ2_getChar_3b067_15 : decode cJ2_getChar_3b067 15 = .ok (.if_icmp .lt 13, 3) := dop_161 (zb_J2_getChar_3b067_0 15 rfl) (zb_J2_getChar_3b067_0 16 rfl) (zb_J2_getChar_3b067_0 17 rfl) rfl
theorem dJ2_getChar_3b067_18 : decode cJ2_getChar_3b067 18 = .ok (.new 52, 3) := dop_187 (zb_J2_getChar_3b067_0 18 rfl) (zb_J2_getChar_3b067_0 19 rfl) (zb_J2_getChar_3b067_0 20 rfl) rfl
theorem dJ2_getChar_3b067_21 : decode cJ2_getChar_3b067 21 = .ok (.dup, 1) := dop_89 (zb_J2_getChar_3b067_0 21 rfl)
theorem dJ2_getChar_3b067_22 : decode cJ2_getChar_3b067 22 = .ok (.ldc 54, 2) := dop_18 (zb_J2_getChar_3b067_0 22 rfl) (zb_J2_getChar_3b067_0 23 rfl)
theorem dJ2_getChar_3b067_24 : decode cJ2_getChar_3b067 24 = .ok (.invokespecial 56, 3) := dop_183 (zb_J2_getChar_3b067_0 24 rfl) (zb_J2_getChar_3b067_0 25 rfl) (zb_J2_getChar_3b067_0 26 rfl) rfl
theorem dJ2_getChar_3b067_27 : decode cJ2_getChar_3b067 27 = .ok (.athrow, 1) := dop_191 (zb_J2_getChar_3b067_0 27 rfl)
theorem dJ2_getChar_3b067_28 : decode cJ2_getChar_3b067 28 = .ok (.iload_n 1, 1) := dop_27 (zb_J2_getChar_3b067_0 28 rfl)
theorem dJ2_getChar_3b067_29 : decode cJ2_getChar_3b067 29 = .ok (.iconst 1, 1) := dop_4 (zb_J2_getChar_3b067_0 29 rfl)
theorem dJ2_getChar_3b067_30 : decode cJ2_getChar_3b067 30 = .ok (.ishl, 1) := dop_120 (zb_J2_getChar_3b067_0 30 rfl)
theorem dJ2_getChar_3b067_31 : decode cJ2_getChar_3b067 31 = .ok (.istore_n 1, 1) := dop_60 (zb_J2_getChar_3b067_0 31 rfl)
theorem dJ2_getChar_3b067_32 : decode cJ2_getChar_3b067 32 = .ok (.aload_n 0, 1) := dop_42 (zb_J2_getChar_3b067_0 32 rfl)
theorem dJ2_getChar_3b067_33 : decode cJ2_getChar_3b067 33 = .ok (.iload_n 1, 1) := dop_27 (zb_J2_getChar_3b067_0 33 rfl)
theorem dJ2_getChar_3b067_34 : decode cJ2_getChar_3b067 34 = .ok (.iinc 1 1, 3) := dop_132 (zb_J2_getChar_3b067_0 34 rfl) (zb_J2_getChar_3b067_0 35 rfl) (zb_J2_getChar_3b067_0 36 rfl) rfl
theorem dJ2_getChar_3b067_37 : decode cJ2_getChar_3b067 37 = .ok (.baload, 1) := dop_51 (zb_J2_getChar_3b067_0 37 rfl)
theorem zb_J2_getChar_3b067_1 (j : Nat) {n : Nat} (e : zw_J2_getChar_3b067_1[j]? = some n) : dby cJ2_getChar_3b067 (38 + j) n := dw_b (t := []) ze_J2_getChar_3b067_1 j e
theorem dJ2_getChar_3b067_38 : decode cJ2_getChar_3b067 38 = .ok (.sipush 255, 3) := dop_17 (zb_J2_getChar_3b067_1 0 rfl) (zb_J2_getChar_3b067_1 1 rfl) (zb_J2_getChar_3b067_1 2 rfl) rfl
theorem dJ2_getChar_3b067_41 : decode cJ2_getChar_3b067 41 = .ok (.iand, 1) := dop_126 (zb_J2_getChar_3b067_1 3 rfl)
theorem dJ2_getChar_3b067_42 : decode cJ2_getChar_3b067 42 = .ok (.getstatic 59, 3) := dop_178 (zb_J2_getChar_3b067_1 4 rfl) (zb_J2_getChar_3b067_1 5 rfl) (zb_J2_getChar_3b067_1 6 rfl) rfl
theorem dJ2_getChar_3b067_45 : decode cJ2_getChar_3b067 45 = .ok (.ishl, 1) := dop_120 (zb_J2_getChar_3b067_1 7 rfl)
theorem dJ2_getChar_3b067_46 : decode cJ2_getChar_3b067 46 = .ok (.aload_n 0, 1) := dop_42 (zb_J2_getChar_3b067_1 8 rfl)
theorem dJ2_getChar_3b067_47 : decode cJ2_getChar_3b067 47 = .ok (.iload_n 1, 1) := dop_27 (zb_J2_getChar_3b067_1 9 rfl)
theorem dJ2_getChar_3b067_48 : decode cJ2_getChar_3b067 48 = .ok (.baload, 1) := dop_51 (zb_J2_getChar_3b067_1 10 rfl)
theorem dJ2_getChar_3b067_49 : decode cJ2_getChar_3b067 49 = .ok (.sipush 255, 3) := dop_17 (zb_J2_getChar_3b067_1 11 rfl) (zb_J2_getChar_3b067_1 12 rfl) (zb_J2_getChar_3b067_1 13 rfl) rfl
theorem dJ2_getChar_3b067_52 : decode cJ2_getChar_3b067 52 = .ok (.iand, 1) := dop_126 (zb_J2_getChar_3b067_1 14 rfl)
theorem dJ2_getChar_3b067_53 : decode cJ2_getChar_3b067 53 = .ok (.getstatic 63, 3) := dop_178 (zb_J2_getChar_3b067_1 15 rfl) (zb_J2_getChar_3b067_1 16 rfl) (zb_J2_getChar_3b067_1 17 rfl) rfl
theorem dJ2_getChar_3b067_56 : decode cJ2_getChar_3b067 56 = .ok (.ishl, 1) := dop_120 (zb_J2_getChar_3b067_1 18 rfl)
theorem dJ2_getChar_3b067_57 : decode cJ2_getChar_3b067 57 = .ok (.ior, 1) := dop_128 (zb_J2_getChar_3b067_1 19 rfl)
theorem dJ2_getChar_3b067_58 : decode cJ2_getChar_3b067 58 = .ok (.i2c, 1) := dop_146 (zb_J2_getChar_3b067_1 20 rfl)
theorem dJ2_getChar_3b067_59 : decode cJ2_getChar_3b067 59 = .ok (.ireturn, 1) := dop_172 (zb_J2_getChar_3b067_1 21 rfl)
theorem dJ2_length_9d52b_0 : decode cJ2_length_9d52b 0 = .ok (.aload_n 0, 1) := by decide +kernel
theorem dJ2_length_9d52b_1 : decode cJ2_length_9d52b 1 = .ok (.arraylength, 1) := by decide +kernel
theorem dJ2_length_9d52b_2 : decode cJ2_length_9d52b 2 = .ok (.iconst 1, 1) := by decide +kernel
theorem dJ2_length_9d52b_3 : decode cJ2_length_9d52b 3 = .ok (.ishr, 1) := by decide +kernel
theorem dJ2_length_9d52b_4 : decode cJ2_length_9d52b 4 = .ok (.ireturn, 1) := by decide +kernel
def zw_J2_charAt_3b067_0 : List Nat := [27, 42, 184, 0, 67, 42, 27, 184, 0, 71, 172]
def zt_J2_charAt_3b067_0 : List Nat := zw_J2_charAt_3b067_0 ++ []
theorem ze_J2_charAt_3b067_0 : (dcn cJ2_charAt_3b067).drop 0 = zt_J2_charAt_3b067_0 := by decide +kernel
theorem zb_J2_charAt_3b067_0 (j : Nat) {n : Nat} (e : zw_J2_charAt_3b067_0[j]? = some n) : dby cJ2_charAt_3b067 (0 + j) n := dw_b (t := []) ze_J2_charAt_3b067_0 j e
theorem dJ2_charAt_3b067_0 : decode cJ2_charAt_3b067 0 = .ok (.iload_n 1, 1) := dop_27 (zb_J2_charAt_3b067_0 0 rfl)
theorem dJ2_charAt_3b067_1 : decode cJ2_charAt_3b067 1 = .ok (.aload_n 0, 1) := dop_42 (zb_J2_charAt_3b067_0 1 rfl)
theorem dJ2_charAt_3b067_2 : decode cJ2_charAt_3b067 2 = .ok (.invokestatic 67, 3) := dop_184 (zb_J2_charAt_3b067_0 2 rfl) (zb_J2_charAt_3b067_0 3 rfl) (zb_J2_charAt_3b067_0 4 rfl) rfl
theorem dJ2_charAt_3b067_5 : decode cJ2_charAt_3b067 5 = .ok (.aload_n 0, 1) := dop_42 (zb_J2_charAt_3b067_0 5 rfl)
theorem dJ2_charAt_3b067_6 : decode cJ2_charAt_3b067 6 = .ok (.iload_n 1, 1) := dop_27 (zb_J2_charAt_3b067_0 6 rfl)
theorem dJ2_charAt_3b067_7 : decode cJ2_charAt_3b067 7 = .ok (.invokestatic 71, 3) := dop_184 (zb_J2_charAt_3b067_0 7 rfl) (zb_J2_charAt_3b067_0 8 rfl) (zb_J2_charAt_3b067_0 9 rfl) rfl
theorem dJ2_charAt_3b067_10 : decode cJ2_charAt_3b067 10 = .ok (.ireturn, 1) := dop_172 (zb_J2_charAt_3b067_0 10 rfl)
def zw_J2_checkIndex_2214a_0 : List Nat := [26, 43, 184, 0, 48, 184, 1, 158, 177]
def zt_J2_checkIndex_2214a_0 : List Nat := zw_J2_checkIndex_2214a_0 ++ []
theorem ze_J2_checkIndex_2214a_0 : (dcn cJ2_checkIndex_2214a).drop 0 = zt_J2_checkIndex_2214a_0 := by decide +kernel
theorem zb_J2_checkIndex_2214a_0 (j : Nat) {n : Nat} (e : zw_J2_checkIndex_2214a_0[j]? = some n) : dby cJ2_checkIndex_2214a (0 + j) n := dw_b (t := []) ze_J2_checkIndex_2214a_0 j e
theorem dJ2_checkIndex_2214a_0 : decode cJ2_checkIndex_2214a 0 = .ok (.iload_n 0, 1) := dop_26 (zb_J2_checkIndex_2214a_0 0 rfl)
theorem dJ2_checkIndex_2214a_1 : decode cJ2_checkIndex_2214a 1 = .ok (.aload_n 1, 1) := dop_43 (zb_J2_checkIndex_2214a_0 1 rfl)
theorem dJ2_checkIndex_2214a_2 : decode cJ2_checkIndex_2214a 2 = .ok (.invokestatic 48, 3) := dop_184 (zb_J2_checkIndex_2214a_0 2 rfl) (zb_J2_checkIndex_2214a_0 3 rfl) (zb_J2_checkIndex_2214a_0 4 rfl) rfl
theorem dJ2_checkIndex_2214a_5 : decode cJ2_checkIndex_2214a 5 = .ok (.invokestatic 414, 3) := dop_184 (zb_J2_checkIndex_2214a_0 5 rfl) (zb_J2_checkIndex_2214a_0 6 rfl) (zb_J2_checkIndex_2214a_0 7 rfl) rfl
theorem dJ2_checkIndex_2214a_8 : decode cJ2_checkIndex_2214a 8 = .ok (.return_, 1) := dop_177 (zb_J2_checkIndex_2214a_0 8 rfl)
def zw_J3_checkIndex_8e157_0 : List Nat := [26, 155, 0, 8, 26, 27, 161, 0, 10, 44, 26, 27, 184, 0, 95, 191, 26, 172]
def zt_J3_checkIndex_8e157_0 : List Nat := zw_J3_checkIndex_8e157_0 ++ []
theorem ze_J3_checkIndex_8e157_0 : (dcn cJ3_checkIndex_8e157).drop 0 = zt_J3_checkIndex_8e157_0 := by decide +kernel
theorem zb_J3_checkIndex_8e157_0 (j : Nat) {n : Nat} (e : zw_J3_checkIndex_8e157_0[j]? = some n) : dby cJ3_checkIndex_8e157 (0 + j) n := dw_b (t := []) ze_J3_checkIndex_8e157_0 j e
theorem dJ3_checkIndex_8e157_0 : decode cJ3_checkIndex_8e157 0 = .ok (.iload_n 0, 1) := dop_26 (zb_J3_checkIndex_8e157_0 0 rfl)
theorem dJ3_checkIndex_8e157_1 : decode cJ3_checkIndex_8e157 1 = .ok (.ifCond .lt 8, 3) := dop_155 (zb_J3_checkIndex_8e157_0 1 rfl) (zb_J3_checkIndex_8e157_0 2 rfl) (zb_J3_checkIndex_8e157_0 3 rfl) rfl
theorem dJ3_checkIndex_8e157_4 : decode cJ3_checkIndex_8e157 4 = .ok (.iload_n 0, 1) := dop_26 (zb_J3_checkIndex_8e157_0 4 rfl)
theorem dJ3_checkIndex_8e157_5 : decode cJ3_checkIndex_8e157 5 = .ok (.iload_n 1, 1) := dop_27 (zb_J3_checkIndex_8e157_0 5 rfl)
theorem dJ3_checkIndex_8e157_6 : decode cJ3_checkIndex_8e157 6 = .ok (.if_icmp .lt 10, 3) := dop_161 (zb_J3_checkIndex_8e157_0 6 rfl) (zb_J3_checkIndex_8e157_0 7 rfl) (zb_J3_checkIndex_8e157_0 8 rfl) rfl
theorem dJ3_checkIndex_8e157_9 : decode cJ3_checkIndex_8e157 9 = .ok (.aload_n 2, 1) := dop_44 (zb_J3_checkIndex_8e157_0 9 rfl)
theorem dJ3_checkIndex_8e157_10 : decode cJ3_checkIndex_8e157 10 = .ok (.iload_n 0, 1) := dop_26 (zb_J3_checkIndex_8e157_0 10 rfl)
theorem dJ3_checkIndex_8e157_11 : decode cJ3_checkIndex_8e157 11 = .ok (.iload_n 1, 1) := dop_27 (zb_J3_checkIndex_8e157_0 11 rfl)
theorem dJ3_checkIndex_8e157_12 : decode cJ3_checkIndex_8e157 12 = .ok (.invokestatic 95, 3) := dop_184 (zb_J3_checkIndex_8e157_0 12 rfl) (zb_J3_checkIndex_8e157_0 13 rfl) (zb_J3_checkIndex_8e157_0 14 rfl) rfl
theorem dJ3_checkIndex_8e157_15 : decode cJ3_checkIndex_8e157 15 = .ok (.athrow, 1) := dop_191 (zb_J3_checkIndex_8e157_0 15 rfl)
theorem dJ3_checkIndex_8e157_16 : decode cJ3_checkIndex_8e157 16 = .ok (.iload_n 0, 1) := dop_26 (zb_J3_checkIndex_8e157_0 16 rfl)
theorem dJ3_checkIndex_8e157_17 : decode cJ3_checkIndex_8e157 17 = .ok (.ireturn, 1) := dop_172 (zb_J3_checkIndex_8e157_0 17 rfl)
def zw_J6_bitCount_0f7a4_1 : List Nat := [59, 26, 26, 16, 16, 124, 96, 59, 26, 16, 63, 126, 172]
def zt_J6_bitCount_0f7a4_1 : List Nat := zw_J6_bitCount_0f7a4_1 ++ []
def zw_J6_bitCount_0f7a4_0 : List Nat := [26, 26, 4, 124, 19, 1, 9, 126, 100, 59, 26, 19, 1, 10, 126, 26, 5, 124, 19, 1, 10, 126, 96, 59, 26, 26, 7, 124, 96, 19, 1, 11, 126, 59, 26, 26, 16, 8, 124, 96]
def zt_J6_bitCount_0f7a4_0 : List Nat := zw_J6_bitCount_0f7a4_0 ++ zt_J6_bitCount_0f7a4_1
theorem ze_J6_bitCount_0f7a4_0 : (dcn cJ6_bitCount_0f7a4).drop 0 = zt_J6_bitCount_0f7a4_0 := by decide +kernel
theorem ze_J6_bitCount_0f7a4_1 : (dcn cJ6_bitCount_0f7a4).drop 40 = zt_J6_bitCount_0f7a4_1 := dw_n (wl := zw_J6_bitCount_0f7a4_0) ze_J6_bitCount_0f7a4_0 rfl
theorem zb_J6_bitCount_0f7a4_0 (j : Nat) {n : Nat} (e : zw_J6_bitCount_0f7a4_0[j]? = some n) : dby cJ6_bitCount_0f7a4 (0 + j) n := dw_b (t := zt_J6_bitCount_0f7a4_1) ze_J6_bitCount_0f7a4_0 j e
theorem dJ6_bitCount_0f7a4_0 : decode cJ6_bitCount_0f7a4 0 = .ok (.iload_n 0, 1) := dop_26 (zb_J6_bitCount_0f7a4_0 0 rfl)
theorem dJ6_bitCount_0f7a4_1 : decode cJ6_bitCount_0f7a4 1 = .ok (.iload_n 0, 1) := dop_26 (zb_J6_bitCount_0f7a4_0 1 rfl)
theorem dJ6_bitCount_0f7a4_2 : decode cJ6_bitCount_0f7a4 2 = .ok (.iconst 1, 1) := dop_4 (zb_J6_bitCount_0f7a4_0 2 rfl)
theorem dJ6_bitCount_0f7a4_3 : decode cJ6_bitCount_0f7a4 3 = .ok (.iushr, 1) := dop_124 (zb_J6_bitCount_0f7a4_0 3 rfl)
theorem dJ6_bitCount_0f7a4_4 : decode cJ6_bitCount_0f7a4 4 = .ok (.ldc_w 265, 3) := dop_19 (zb_J6_bitCount_0f7a4_0 4 rfl) (zb_J6_bitCount_0f7a4_0 5 rfl) (zb_J6_bitCount_0f7a4_0 6 rfl) rfl
theorem dJ6_bitCount_0f7a4_7 : decode cJ6_bitCount_0f7a4 7 = .ok (.iand, 1) := dop_126 (zb_J6_bitCount_0f7a4_0 7 rfl)
theorem dJ6_bitCount_0f7a4_8 : decode cJ6_bitCount_0f7a4 8 = .ok (.isub, 1) := dop_100 (zb_J6_bitCount_0f7a4_0 8 rfl)
theorem dJ6_bitCount_0f7a4_9 : decode cJ6_bitCount_0f7a4 9 = .ok (.istore_n 0, 1) := dop_59 (zb_J6_bitCount_0f7a4_0 9 rfl)
theorem dJ6_bitCount_0f7a4_10 : decode cJ6_bitCount_0f7a4 10 = .ok (.iload_n 0, 1) := dop_26 (zb_J6_bitCount_0f7a4_0 10 rfl)
theorem dJ6_bitCount_0f7a4_11 : decode cJ6_bitCount_0f7a4 11 = .ok (.ldc_w 266, 3) := dop_19 (zb_J6_bitCount_0f7a4_0 11 rfl) (zb_J6_bitCount_0f7a4_0 12 rfl) (zb_J6_bitCount_0f7a4_0 13 rfl) rfl
theorem dJ6_bitCount_0f7a4_14 : decode cJ6_bitCount_0f7a4 14 = .ok (.iand, 1) := dop_126 (zb_J6_bitCount_0f7a4_0 14 rfl)
theorem dJ6_bitCount_0f7a4_15 : decode cJ6_bitCount_0f7a4 15 = .ok (.iload_n 0, 1) := dop_26 (zb_J6_bitCount_0f7a4_0 15 rfl)
theorem dJ6_bitCount_0f7a4_16 : decode cJ6_bitCount_0f7a4 16 = .ok (.iconst 2, 1) := dop_5 (zb_J6_bitCount_0f7a4_0 16 rfl)
theorem dJ6_bitCount_0f7a4_17 : decode cJ6_bitCount_0f7a4 17 = .ok (.iushr, 1) := dop_124 (zb_J6_bitCount_0f7a4_0 17 rfl)
theorem dJ6_bitCount_0f7a4_18 : decode cJ6_bitCount_0f7a4 18 = .ok (.ldc_w 266, 3) := dop_19 (zb_J6_bitCount_0f7a4_0 18 rfl) (zb_J6_bitCount_0f7a4_0 19 rfl) (zb_J6_bitCount_0f7a4_0 20 rfl) rfl
theorem dJ6_bitCount_0f7a4_21 : decode cJ6_bitCount_0f7a4 21 = .ok (.iand, 1) := dop_126 (zb_J6_bitCount_0f7a4_0 21 rfl)
theorem dJ6_bitCount_0f7a4_22 : decode cJ6_bitCount_0f7a4 22 = .ok (.iadd, 1) := dop_96 (zb_J6_bitCount_0f7a4_0 22 rfl)
theorem dJ6_bitCount_0f7a4_23 : decode cJ6_bitCount_0f7a4 23 = .ok (.istore_n 0, 1) := dop_59 (zb_J6_bitCount_0f7a4_0 23 rfl)
theorem dJ6_bitCount_0f7a4_24 : decode cJ6_bitCount_0f7a4 24 = .ok (.iload_n 0, 1) := dop_26 (zb_J6_bitCount_0f7a4_0 24 rfl)
theorem dJ6_bitCount_0f7a4_25 : decode cJ6_bitCount_0f7a4 25 = .ok (.iload_n 0, 1) := dop_26 (zb_J6_bitCount_0f7a4_0 25 rfl)
theorem dJ6_bitCount_0f7a4_26 : decode cJ6_bitCount_0f7a4 26 = .ok (.iconst 4, 1) := dop_7 (zb_J6_bitCount_0f7a4_0 26 rfl)
theorem dJ6_bitCount_0f7a4_27 : decode cJ6_bitCount_0f7a4 27 = .ok (.iushr, 1) := dop_124 (zb_J6_bitCount_0f7a4_0 27 rfl)
theorem dJ6_bitCount_0f7a4_28 : decode cJ6_bitCount_0f7a4 28 = .ok (.iadd, 1) := dop_96 (zb_J6_bitCount_0f7a4_0 28 rfl)
theorem dJ6_bitCount_0f7a4_29 : decode cJ6_bitCount_0f7a4 29 = .ok (.ldc_w 267, 3) := dop_19 (zb_J6_bitCount_0f7a4_0 29 rfl) (zb_J6_bitCount_0f7a4_0 30 rfl) (zb_J6_bitCount_0f7a4_0 31 rfl) rfl
theorem dJ6_bitCount_0f7a4_32 : decode cJ6_bitCount_0f7a4 32 = .ok (.iand, 1) := dop_126 (zb_J6_bitCount_0f7a4_0 32 rfl)
theorem dJ6_bitCount_0f7a4_33 : decode cJ6_bitCount_0f7a4 33 = .ok (.istore_n 0, 1) := dop_59 (zb_J6_bitCount_0f7a4_0 33 rfl)
theorem dJ6_bitCount_0f7a4_34 : decode cJ6_bitCount_0f7a4 34 = .ok (.iload_n 0, 1) := dop_26 (zb_J6_bitCount_0f7a4_0 34 rfl)
theorem dJ6_bitCount_0f7a4_35 : decode cJ6_bitCount_0f7a4 35 = .ok (.iload_n 0, 1) := dop_26 (zb_J6_bitCount_0f7a4_0 35 rfl)
theorem dJ6_bitCount_0f7a4_36 : decode cJ6_bitCount_0f7a4 36 = .ok (.bipush 8, 2) := dop_16 (zb_J6_bitCount_0f7a4_0 36 rfl) (zb_J6_bitCount_0f7a4_0 37 rfl) rfl
theorem dJ6_bitCount_0f7a4_38 : decode cJ6_bitCount_0f7a4 38 = .ok (.iushr, 1) := dop_124 (zb_J6_bitCount_0f7a4_0 38 rfl)
theorem dJ6_bitCount_0f7a4_39 : decode cJ6_bitCount_0f7a4 39 = .ok (.iadd, 1) := dop_96 (zb_J6_bitCount_0f7a4_0 39 rfl)
theorem zb_J6_bitCount_0f7a4_1 (j : Nat) {n : Nat} (e : zw_J6_bitCount_0f7a4_1[j]? = some n) : dby cJ6_bitCount_0f7a4 (40 + j) n := dw_b (t := []) ze_J6_bitCount_0f7a4_1 j e
theorem dJ6_bitCount_0f7a4_40 : decode cJ6_bitCount_0f7a4 40 = .ok (.istore_n 0, 1) := dop_59 (zb_J6_bitCount_0f7a4_1 0 rfl)
theorem dJ6_bitCount_0f7a4_41 : decode cJ6_bitCount_0f7a4 41 = .ok (.iload_n 0, 1) := dop_26 (zb_J6_bitCount_0f7a4_1 1 rfl)
theorem dJ6_bitCount_0f7a4_42 : decode cJ6_bitCount_0f7a4 42 = .ok (.iload_n 0, 1) := dop_26 (zb_J6_bitCount_0f7a4_1 2 rfl)
theorem dJ6_bitCount_0f7a4_43 : decode cJ6_bitCount_0f7a4 43 = .ok (.bipush 16, 2) := dop_16 (zb_J6_bitCount_0f7a4_1 3 rfl) (zb_J6_bitCount_0f7a4_1 4 rfl) rfl
theorem dJ6_bitCount_0f7a4_45 : decode cJ6_bitCount_0f7a4 45 = .ok (.iushr, 1) := dop_124 (zb_J6_bitCount_0f7a4_1 5 rfl)
theorem dJ6_bitCount_0f7a4_46 : decode cJ6_bitCount_0f7a4 46 = .ok (.iadd, 1) := dop_96 (zb_J6_bitCount_0f7a4_1 6 rfl)
theorem dJ6_bitCount_0f7a4_47 : decode cJ6_bitCount_0f7a4 47 = .ok (.istore_n 0, 1) := dop_59 (zb_J6_bitCount_0f7a4_1 7 rfl)
theorem dJ6_bitCount_0f7a4_48 : decode cJ6_bitCount_0f7a4 48 = .ok (.iload_n 0, 1) := dop_26 (zb_J6_bitCount_0f7a4_1 8 rfl)
theorem dJ6_bitCount_0f7a4_49 : decode cJ6_bitCount_0f7a4 49 = .ok (.bipush 63, 2) := dop_16 (zb_J6_bitCount_0f7a4_1 9 rfl) (zb_J6_bitCount_0f7a4_1 10 rfl) rfl
theorem dJ6_bitCount_0f7a4_51 : decode cJ6_bitCount_0f7a4 51 = .ok (.iand, 1) := dop_126 (zb_J6_bitCount_0f7a4_1 11 rfl)
theorem dJ6_bitCount_0f7a4_52 : decode cJ6_bitCount_0f7a4 52 = .ok (.ireturn, 1) := dop_172 (zb_J6_bitCount_0f7a4_1 12 rfl)
def zw_J7_fill_53178_0 : List Nat := [3, 61, 42, 190, 62, 28, 29, 162, 0, 13, 42, 28, 27, 79, 132, 2, 1, 167, 255, 244, 177]
def zt_J7_fill_53178_0 : List Nat := zw_J7_fill_53178_0 ++ []
theorem ze_J7_fill_53178_0 : (dcn cJ7_fill_53178).drop 0 = zt_J7_fill_53178_0 := by decide +kernel
theorem zb_J7_fill_53178_0 (j : Nat) {n : Nat} (e : zw_J7_fill_53178_0[j]? = some n) : dby cJ7_fill_53178 (0 + j) n := dw_b (t := []) ze_J7_fill_53178_0 j e
theorem dJ7_fill_53178_0 : decode cJ7_fill_53178 0 = .ok (.iconst 0, 1) := dop_3 (zb_J7_fill_53178_0 0 rfl)
theorem dJ7_fill_53178_1 : decode cJ7_fill_53178 1 = .ok (.istore_n 2, 1) := dop_61 (zb_J7_fill_53178_0 1 rfl)
theorem dJ7_fill_53178_2 : decode cJ7_fill_53178 2 = .ok (.aload_n 0, 1) := dop_42 (zb_J7_fill_53178_0 2 rfl)
theorem dJ7_fill_53178_3 : decode cJ7_fill_53178 3 = .ok (.arraylength, 1) := dop_190 (zb_J7_fill_53178_0 3 rfl)
theorem dJ7_fill_53178_4 : decode cJ7_fill_53178 4 = .ok (.istore_n 3, 1) := dop_62 (zb_J7_fill_53178_0 4 rfl)
theorem dJ7_fill_53178_5 : decode cJ7_fill_53178 5 = .ok (.iload_n 2, 1) := dop_28 (zb_J7_fill_53178_0 5 rfl)
theorem dJ7_fill_53178_6 : decode cJ7_fill_53178 6 = .ok (.iload_n 3, 1) := dop_29 (zb_J7_fill_53178_0 6 rfl)
theorem dJ7_fill_53178_7 : decode cJ7_fill_53178 7 = .ok (.if_icmp .ge 13, 3) := dop_162 (zb_J7_fill_53178_0 7 rfl) (zb_J7_fill_53178_0 8 rfl) (zb_J7_fill_53178_0 9 rfl) rfl
theorem dJ7_fill_53178_10 : decode cJ7_fill_53178 10 = .ok (.aload_n 0, 1) := dop_42 (zb_J7_fill_53178_0 10 rfl)
theorem dJ7_fill_53178_11 : decode cJ7_fill_53178 11 = .ok (.iload_n 2, 1) := dop_28 (zb_J7_fill_53178_0 11 rfl)
theorem dJ7_fill_53178_12 : decode cJ7_fill_53178 12 = .ok (.iload_n 1, 1) := dop_27 (zb_J7_fill_53178_0 12 rfl)
theorem dJ7_fill_53178_13 : decode cJ7_fill_53178 13 = .ok (.iastore, 1) := dop_79 (zb_J7_fill_53178_0 13 rfl)
theorem dJ7_fill_53178_14 : decode cJ7_fill_53178 14 = .ok (.iinc 2 1, 3) := dop_132 (zb_J7_fill_53178_0 14 rfl) (zb_J7_fill_53178_0 15 rfl) (zb_J7_fill_53178_0 16 rfl) rfl
theorem dJ7_fill_53178_17 : decode cJ7_fill_53178 17 = .ok (.goto (-12), 3) := dop_167 (zb_J7_fill_53178_0 17 rfl) (zb_J7_fill_53178_0 18 rfl) (zb_J7_fill_53178_0 19 rfl) rfl
theorem dJ7_fill_53178_20 : decode cJ7_fill_53178 20 = .ok (.return_, 1) := dop_177 (zb_J7_fill_53178_0 20 rfl)
def zw_J9_max_7cf53_0 : List Nat := [26, 27, 161, 0, 7, 26, 167, 0, 4, 27, 172]
def zt_J9_max_7cf53_0 : List Nat := zw_J9_max_7cf53_0 ++ []
theorem ze_J9_max_7cf53_0 : (dcn cJ9_max_7cf53).drop 0 = zt_J9_max_7cf53_0 := by decide +kernel
theorem zb_J9_max_7cf53_0 (j : Nat) {n : Nat} (e : zw_J9_max_7cf53_0[j]? = some n) : dby cJ9_max_7cf53 (0 + j) n := dw_b (t := []) ze_J9_max_7cf53_0 j e
theorem dJ9_max_7cf53_0 : decode cJ9_max_7cf53 0 = .ok (.iload_n 0, 1) := dop_26 (zb_J9_max_7cf53_0 0 rfl)
theorem dJ9_max_7cf53_1 : decode cJ9_max_7cf53 1 = .ok (.iload_n 1, 1) := dop_27 (zb_J9_max_7cf53_0 1 rfl)
theorem dJ9_max_7cf53_2 : decode cJ9_max_7cf53 2 = .ok (.if_icmp .lt 7, 3) := dop_161 (zb_J9_max_7cf53_0 2 rfl) (zb_J9_max_7cf53_0 3 rfl) (zb_J9_max_7cf53_0 4 rfl) rfl
theorem dJ9_max_7cf53_5 : decode cJ9_max_7cf53 5 = .ok (.iload_n 0, 1) := dop_26 (zb_J9_max_7cf53_0 5 rfl)
theorem dJ9_max_7cf53_6 : decode cJ9_max_7cf53 6 = .ok (.goto 4, 3) := dop_167 (zb_J9_max_7cf53_0 6 rfl) (zb_J9_max_7cf53_0 7 rfl) (zb_J9_max_7cf53_0 8 rfl) rfl
theorem dJ9_max_7cf53_9 : decode cJ9_max_7cf53 9 = .ok (.iload_n 1, 1) := dop_27 (zb_J9_max_7cf53_0 9 rfl)
theorem dJ9_max_7cf53_10 : decode cJ9_max_7cf53 10 = .ok (.ireturn, 1) := dop_172 (zb_J9_max_7cf53_0 10 rfl)
def zw_J9_max_f86c9_0 : List Nat := [30, 32, 148, 155, 0, 7, 30, 167, 0, 4, 32, 173]
def zt_J9_max_f86c9_0 : List Nat := zw_J9_max_f86c9_0 ++ []
theorem ze_J9_max_f86c9_0 : (dcn cJ9_max_f86c9).drop 0 = zt_J9_max_f86c9_0 := by decide +kernel
theorem zb_J9_max_f86c9_0 (j : Nat) {n : Nat} (e : zw_J9_max_f86c9_0[j]? = some n) : dby cJ9_max_f86c9 (0 + j) n := dw_b (t := []) ze_J9_max_f86c9_0 j e
theorem dJ9_max_f86c9_0 : decode cJ9_max_f86c9 0 = .ok (.lload_n 0, 1) := dop_30 (zb_J9_max_f86c9_0 0 rfl)
theorem dJ9_max_f86c9_1 : decode cJ9_max_f86c9 1 = .ok (.lload_n 2, 1) := dop_32 (zb_J9_max_f86c9_0 1 rfl)
theorem dJ9_max_f86c9_2 : decode cJ9_max_f86c9 2 = .ok (.lcmp, 1) := dop_148 (zb_J9_max_f86c9_0 2 rfl)
theorem dJ9_max_f86c9_3 : decode cJ9_max_f86c9 3 = .ok (.ifCond .lt 7, 3) := dop_155 (zb_J9_max_f86c9_0 3 rfl) (zb_J9_max_f86c9_0 4 rfl) (zb_J9_max_f86c9_0 5 rfl) rfl
theorem dJ9_max_f86c9_6 : decode cJ9_max_f86c9 6 = .ok (.lload_n 0, 1) := dop_30 (zb_J9_max_f86c9_0 6 rfl)
theorem dJ9_max_f86c9_7 : decode cJ9_max_f86c9 7 = .ok (.goto 4, 3) := dop_167 (zb_J9_max_f86c9_0 7 rfl) (zb_J9_max_f86c9_0 8 rfl) (zb_J9_max_f86c9_0 9 rfl) rfl
theorem dJ9_max_f86c9_10 : decode cJ9_max_f86c9 10 = .ok (.lload_n 2, 1) := dop_32 (zb_J9_max_f86c9_0 10 rfl)
theorem dJ9_max_f86c9_11 : decode cJ9_max_f86c9 11 = .ok (.lreturn, 1) := dop_173 (zb_J9_max_f86c9_0 11 rfl)
def zw_J9_min_7cf53_0 : List Nat := [26, 27, 163, 0, 7, 26, 167, 0, 4, 27, 172]
def zt_J9_min_7cf53_0 : List Nat := zw_J9_min_7cf53_0 ++ []
theorem ze_J9_min_7cf53_0 : (dcn cJ9_min_7cf53).drop 0 = zt_J9_min_7cf53_0 := by decide +kernel
theorem zb_J9_min_7cf53_0 (j : Nat) {n : Nat} (e : zw_J9_min_7cf53_0[j]? = some n) : dby cJ9_min_7cf53 (0 + j) n := dw_b (t := []) ze_J9_min_7cf53_0 j e
theorem dJ9_min_7cf53_0 : decode cJ9_min_7cf53 0 = .ok (.iload_n 0, 1) := dop_26 (zb_J9_min_7cf53_0 0 rfl)
theorem dJ9_min_7cf53_1 : decode cJ9_min_7cf53 1 = .ok (.iload_n 1, 1) := dop_27 (zb_J9_min_7cf53_0 1 rfl)
theorem dJ9_min_7cf53_2 : decode cJ9_min_7cf53 2 = .ok (.if_icmp .gt 7, 3) := dop_163 (zb_J9_min_7cf53_0 2 rfl) (zb_J9_min_7cf53_0 3 rfl) (zb_J9_min_7cf53_0 4 rfl) rfl
theorem dJ9_min_7cf53_5 : decode cJ9_min_7cf53 5 = .ok (.iload_n 0, 1) := dop_26 (zb_J9_min_7cf53_0 5 rfl)
theorem dJ9_min_7cf53_6 : decode cJ9_min_7cf53 6 = .ok (.goto 4, 3) := dop_167 (zb_J9_min_7cf53_0 6 rfl) (zb_J9_min_7cf53_0 7 rfl) (zb_J9_min_7cf53_0 8 rfl) rfl
theorem dJ9_min_7cf53_9 : decode cJ9_min_7cf53 9 = .ok (.iload_n 1, 1) := dop_27 (zb_J9_min_7cf53_0 9 rfl)
theorem dJ9_min_7cf53_10 : decode cJ9_min_7cf53 10 = .ok (.ireturn, 1) := dop_172 (zb_J9_min_7cf53_0 10 rfl)
def zw_J9_min_f86c9_0 : List Nat := [30, 32, 148, 157, 0, 7, 30, 167, 0, 4, 32, 173]
def zt_J9_min_f86c9_0 : List Nat := zw_J9_min_f86c9_0 ++ []
theorem ze_J9_min_f86c9_0 : (dcn cJ9_min_f86c9).drop 0 = zt_J9_min_f86c9_0 := by decide +kernel
theorem zb_J9_min_f86c9_0 (j : Nat) {n : Nat} (e : zw_J9_min_f86c9_0[j]? = some n) : dby cJ9_min_f86c9 (0 + j) n := dw_b (t := []) ze_J9_min_f86c9_0 j e
theorem dJ9_min_f86c9_0 : decode cJ9_min_f86c9 0 = .ok (.lload_n 0, 1) := dop_30 (zb_J9_min_f86c9_0 0 rfl)
theorem dJ9_min_f86c9_1 : decode cJ9_min_f86c9 1 = .ok (.lload_n 2, 1) := dop_32 (zb_J9_min_f86c9_0 1 rfl)
theorem dJ9_min_f86c9_2 : decode cJ9_min_f86c9 2 = .ok (.lcmp, 1) := dop_148 (zb_J9_min_f86c9_0 2 rfl)
theorem dJ9_min_f86c9_3 : decode cJ9_min_f86c9 3 = .ok (.ifCond .gt 7, 3) := dop_157 (zb_J9_min_f86c9_0 3 rfl) (zb_J9_min_f86c9_0 4 rfl) (zb_J9_min_f86c9_0 5 rfl) rfl
theorem dJ9_min_f86c9_6 : decode cJ9_min_f86c9 6 = .ok (.lload_n 0, 1) := dop_30 (zb_J9_min_f86c9_0 6 rfl)
theorem dJ9_min_f86c9_7 : decode cJ9_min_f86c9 7 = .ok (.goto 4, 3) := dop_167 (zb_J9_min_f86c9_0 7 rfl) (zb_J9_min_f86c9_0 8 rfl) (zb_J9_min_f86c9_0 9 rfl) rfl
theorem dJ9_min_f86c9_10 : decode cJ9_min_f86c9 10 = .ok (.lload_n 2, 1) := dop_32 (zb_J9_min_f86c9_0 10 rfl)
theorem dJ9_min_f86c9_11 : decode cJ9_min_f86c9 11 = .ok (.lreturn, 1) := dop_173 (zb_J9_min_f86c9_0 11 rfl)
def zw_J13_compare_74951_0 : List Nat := [30, 32, 148, 156, 0, 7, 2, 167, 0, 14, 30, 32, 148, 154, 0, 7, 3, 167, 0, 4, 4, 172]
def zt_J13_compare_74951_0 : List Nat := zw_J13_compare_74951_0 ++ []
theorem ze_J13_compare_74951_0 : (dcn cJ13_compare_74951).drop 0 = zt_J13_compare_74951_0 := by decide +kernel
theorem zb_J13_compare_74951_0 (j : Nat) {n : Nat} (e : zw_J13_compare_74951_0[j]? = some n) : dby cJ13_compare_74951 (0 + j) n := dw_b (t := []) ze_J13_compare_74951_0 j e
theorem dJ13_compare_74951_0 : decode cJ13_compare_74951 0 = .ok (.lload_n 0, 1) := dop_30 (zb_J13_compare_74951_0 0 rfl)
theorem dJ13_compare_74951_1 : decode cJ13_compare_74951 1 = .ok (.lload_n 2, 1) := dop_32 (zb_J13_compare_74951_0 1 rfl)
theorem dJ13_compare_74951_2 : decode cJ13_compare_74951 2 = .ok (.lcmp, 1) := dop_148 (zb_J13_compare_74951_0 2 rfl)
theorem dJ13_compare_74951_3 : decode cJ13_compare_74951 3 = .ok (.ifCond .ge 7, 3) := dop_156 (zb_J13_compare_74951_0 3 rfl) (zb_J13_compare_74951_0 4 rfl) (zb_J13_compare_74951_0 5 rfl) rfl
theorem dJ13_compare_74951_6 : decode cJ13_compare_74951 6 = .ok (.iconst (-1), 1) := dop_2 (zb_J13_compare_74951_0 6 rfl)
theorem dJ13_compare_74951_7 : decode cJ13_compare_74951 7 = .ok (.goto 14, 3) := dop_167 (zb_J13_compare_74951_0 7 rfl) (zb_J13_compare_74951_0 8 rfl) (zb_J13_compare_74951_0 9 rfl) rfl
theorem dJ13_compare_74951_10 : decode cJ13_compare_74951 10 = .ok (.lload_n 0, 1) := dop_30 (zb_J13_compare_74951_0 10 rfl)
theorem dJ13_compare_74951_11 : decode cJ13_compare_74951 11 = .ok (.lload_n 2, 1) := dop_32 (zb_J13_compare_74951_0 11 rfl)
theorem dJ13_compare_74951_12 : decode cJ13_compare_74951 12 = .ok (.lcmp, 1) := dop_148 (zb_J13_compare_74951_0 12 rfl)
theorem dJ13_compare_74951_13 : decode cJ13_compare_74951 13 = .ok (.ifCond .ne 7, 3) := dop_154 (zb_J13_compare_74951_0 13 rfl) (zb_J13_compare_74951_0 14 rfl) (zb_J13_compare_74951_0 15 rfl) rfl
theorem dJ13_compare_74951_16 : decode cJ13_compare_74951 16 = .ok (.iconst 0, 1) := dop_3 (zb_J13_compare_74951_0 16 rfl)
theorem dJ13_compare_74951_17 : decode cJ13_compare_74951 17 = .ok (.goto 4, 3) := dop_167 (zb_J13_compare_74951_0 17 rfl) (zb_J13_compare_74951_0 18 rfl) (zb_J13_compare_74951_0 19 rfl) rfl
theorem dJ13_compare_74951_20 : decode cJ13_compare_74951 20 = .ok (.iconst 1, 1) := dop_4 (zb_J13_compare_74951_0 20 rfl)
theorem dJ13_compare_74951_21 : decode cJ13_compare_74951 21 = .ok (.ireturn, 1) := dop_172 (zb_J13_compare_74951_0 21 rfl)
def zw_X0_init_0 : List Nat := [42, 183, 0, 3, 42, 16, 16, 188, 10, 181, 0, 9, 177]
def zt_X0_init_0 : List Nat := zw_X0_init_0 ++ []
theorem ze_X0_init_0 : (dcn cX0_init).drop 0 = zt_X0_init_0 := by decide +kernel
theorem zb_X0_init_0 (j : Nat) {n : Nat} (e : zw_X0_init_0[j]? = some n) : dby cX0_init (0 + j) n := dw_b (t := []) ze_X0_init_0 j e
theorem dX0_init_0 : decode cX0_init 0 = .ok (.aload_n 0, 1) := dop_42 (zb_X0_init_0 0 rfl)
theorem dX0_init_1 : decode cX0_init 1 = .ok (.invokespecial 3, 3) := dop_183 (zb_X0_init_0 1 rfl) (zb_X0_init_0 2 rfl) (zb_X0_init_0 3 rfl) rfl
theorem dX0_init_4 : decode cX0_init 4 = .ok (.aload_n 0, 1) := dop_42 (zb_X0_init_0 4 rfl)
theorem dX0_init_5 : decode cX0_init 5 = .ok (.bipush 16, 2) := dop_16 (zb_X0_init_0 5 rfl) (zb_X0_init_0 6 rfl) rfl
theorem dX0_init_7 : decode cX0_init 7 = .ok (.newarray .int, 2) := dop_188_10 (zb_X0_init_0 7 rfl) (zb_X0_init_0 8 rfl)
theorem dX0_init_9 : decode cX0_init 9 = .ok (.putfield 9, 3) := dop_181 (zb_X0_init_0 9 rfl) (zb_X0_init_0 10 rfl) (zb_X0_init_0 11 rfl) rfl
theorem dX0_init_12 : decode cX0_init 12 = .ok (.return_, 1) := dop_177 (zb_X0_init_0 12 rfl)
def zw_X0_bind_3 : List Nat := [159, 0, 12, 42, 28, 28, 16, 6, 96, 182, 0, 28, 132, 2, 1, 167, 255, 228, 177]
def zt_X0_bind_3 : List Nat := zw_X0_bind_3 ++ []
def zw_X0_bind_2 : List Nat := [153, 0, 19, 42, 16, 12, 28, 7, 108, 96, 16, 12, 28, 7, 112, 96, 182, 0, 28, 132, 2, 1, 167, 255, 220, 3, 61, 28, 16, 6, 162, 0, 28, 43, 180, 0, 39, 28, 46, 2]
def zt_X0_bind_2 : List Nat := zw_X0_bind_2 ++ zt_X0_bind_3
def zw_X0_bind_1 : List Nat := [159, 0, 16, 42, 43, 28, 182, 0, 25, 16, 12, 29, 96, 182, 0, 28, 132, 2, 1, 167, 255, 221, 3, 61, 28, 16, 16, 162, 0, 36, 43, 180, 0, 32, 28, 184, 0, 35]
def zt_X0_bind_1 : List Nat := zw_X0_bind_1 ++ zt_X0_bind_2
def zw_X0_bind_0 : List Nat := [3, 61, 28, 16, 16, 162, 0, 16, 42, 180, 0, 9, 28, 28, 79, 132, 2, 1, 167, 255, 240, 3, 61, 28, 43, 180, 0, 15, 162, 0, 33, 43, 28, 182, 0, 21, 62, 29, 2]
def zt_X0_bind_0 : List Nat := zw_X0_bind_0 ++ zt_X0_bind_1
theorem ze_X0_bind_0 : (dcn cX0_bind).drop 0 = zt_X0_bind_0 := by decide +kernel
theorem ze_X0_bind_1 : (dcn cX0_bind).drop 39 = zt_X0_bind_1 := dw_n (wl := zw_X0_bind_0) ze_X0_bind_0 rfl
theorem zb_X0_bind_0 (j : Nat) {n : Nat} (e : zw_X0_bind_0[j]? = some n) : dby cX0_bind (0 + j) n := dw_b (t := zt_X0_bind_1) ze_X0_bind_0 j e
theorem dX0_bind_0 : decode cX0_bind 0 = .ok (.iconst 0, 1) := dop_3 (zb_X0_bind_0 0 rfl)
theorem dX0_bind_1 : decode cX0_bind 1 = .ok (.istore_n 2, 1) := dop_61 (zb_X0_bind_0 1 rfl)
theorem dX0_bind_2 : decode cX0_bind 2 = .ok (.iload_n 2, 1) := dop_28 (zb_X0_bind_0 2 rfl)
theorem dX0_bind_3 : decode cX0_bind 3 = .ok (.bipush 16, 2) := dop_16 (zb_X0_bind_0 3 rfl) (zb_X0_bind_0 4 rfl) rfl
theorem dX0_bind_5 : decode cX0_bind 5 = .ok (.if_icmp .ge 16, 3) := dop_162 (zb_X0_bind_0 5 rfl) (zb_X0_bind_0 6 rfl) (zb_X0_bind_0 7 rfl) rfl
theorem dX0_bind_8 : decode cX0_bind 8 = .ok (.aload_n 0, 1) := dop_42 (zb_X0_bind_0 8 rfl)
theorem dX0_bind_9 : decode cX0_bind 9 = .ok (.getfield 9, 3) := dop_180 (zb_X0_bind_0 9 rfl) (zb_X0_bind_0 10 rfl) (zb_X0_bind_0 11 rfl) rfl
theorem dX0_bind_12 : decode cX0_bind 12 = .ok (.iload_n 2, 1) := dop_28 (zb_X0_bind_0 12 rfl)
theorem dX0_bind_13 : decode cX0_bind 13 = .ok (.iload_n 2, 1) := dop_28 (zb_X0_bind_0 13 rfl)
theorem dX0_bind_14 : decode cX0_bind 14 = .ok (.iastore, 1) := dop_79 (zb_X0_bind_0 14 rfl)
theorem dX0_bind_15 : decode cX0_bind 15 = .ok (.iinc 2 1, 3) := dop_132 (zb_X0_bind_0 15 rfl) (zb_X0_bind_0 16 rfl) (zb_X0_bind_0 17 rfl) rfl
theorem dX0_bind_18 : decode cX0_bind 18 = .ok (.goto (-16), 3) := dop_167 (zb_X0_bind_0 18 rfl) (zb_X0_bind_0 19 rfl) (zb_X0_bind_0 20 rfl) rfl
theorem dX0_bind_21 : decode cX0_bind 21 = .ok (.iconst 0, 1) := dop_3 (zb_X0_bind_0 21 rfl)
theorem dX0_bind_22 : decode cX0_bind 22 = .ok (.istore_n 2, 1) := dop_61 (zb_X0_bind_0 22 rfl)
theorem dX0_bind_23 : decode cX0_bind 23 = .ok (.iload_n 2, 1) := dop_28 (zb_X0_bind_0 23 rfl)
theorem dX0_bind_24 : decode cX0_bind 24 = .ok (.aload_n 1, 1) := dop_43 (zb_X0_bind_0 24 rfl)
theorem dX0_bind_25 : decode cX0_bind 25 = .ok (.getfield 15, 3) := dop_180 (zb_X0_bind_0 25 rfl) (zb_X0_bind_0 26 rfl) (zb_X0_bind_0 27 rfl) rfl
theorem dX0_bind_28 : decode cX0_bind 28 = .ok (.if_icmp .ge 33, 3) := dop_162 (zb_X0_bind_0 28 rfl) (zb_X0_bind_0 29 rfl) (zb_X0_bind_0 30 rfl) rfl
theorem dX0_bind_31 : decode cX0_bind 31 = .ok (.aload_n 1, 1) := dop_43 (zb_X0_bind_0 31 rfl)
theorem dX0_bind_32 : decode cX0_bind 32 = .ok (.iload_n 2, 1) := dop_28 (zb_X0_bind_0 32 rfl)
theorem dX0_bind_33 : decode cX0_bind 33 = .ok (.invokevirtual 21, 3) := dop_182 (zb_X0_bind_0 33 rfl) (zb_X0_bind_0 34 rfl) (zb_X0_bind_0 35 rfl) rfl
theorem dX0_bind_36 : decode cX0_bind 36 = .ok (.istore_n 3, 1) := dop_62 (zb_X0_bind_0 36 rfl)
theorem dX0_bind_37 : decode cX0_bind 37 = .ok (.iload_n 3, 1) := dop_29 (zb_X0_bind_0 37 rfl)
theorem dX0_bind_38 : decode cX0_bind 38 = .ok (.iconst (-1), 1) := dop_2 (zb_X0_bind_0 38 rfl)
theorem ze_X0_bind_2 : (dcn cX0_bind).drop 77 = zt_X0_bind_2 := dw_n (wl := zw_X0_bind_1) ze_X0_bind_1 rfl
theorem zb_X0_bind_1 (j : Nat) {n : Nat} (e : zw_X0_bind_1[j]? = some n) : dby cX0_bind (39 + j) n := dw_b (t := zt_X0_bind_2) ze_X0_bind_1 j e
theorem dX0_bind_39 : decode cX0_bind 39 = .ok (.if_icmp .eq 16, 3) := dop_159 (zb_X0_bind_1 0 rfl) (zb_X0_bind_1 1 rfl) (zb_X0_bind_1 2 rfl) rfl
theorem dX0_bind_42 : decode cX0_bind 42 = .ok (.aload_n 0, 1) := dop_42 (zb_X0_bind_1 3 rfl)
theorem dX0_bind_43 : decode cX0_bind 43 = .ok (.aload_n 1, 1) := dop_43 (zb_X0_bind_1 4 rfl)
theorem dX0_bind_44 : decode cX0_bind 44 = .ok (.iload_n 2, 1) := dop_28 (zb_X0_bind_1 5 rfl)
theorem dX0_bind_45 : decode cX0_bind 45 = .ok (.invokevirtual 25, 3) := dop_182 (zb_X0_bind_1 6 rfl) (zb_X0_bind_1 7 rfl) (zb_X0_bind_1 8 rfl) rfl
theorem dX0_bind_48 : decode cX0_bind 48 = .ok (.bipush 12, 2) := dop_16 (zb_X0_bind_1 9 rfl) (zb_X0_bind_1 10 rfl) rfl
theorem dX0_bind_50 : decode cX0_bind 50 = .ok (.iload_n 3, 1) := dop_29 (zb_X0_bind_1 11 rfl)
theorem dX0_bind_51 : decode cX0_bind 51 = .ok (.iadd, 1) := dop_96 (zb_X0_bind_1 12 rfl)
theorem dX0_bind_52 : decode cX0_bind 52 = .ok (.invokevirtual 28, 3) := dop_182 (zb_X0_bind_1 13 rfl) (zb_X0_bind_1 14 rfl) (zb_X0_bind_1 15 rfl) rfl
theorem dX0_bind_55 : decode cX0_bind 55 = .ok (.iinc 2 1, 3) := dop_132 (zb_X0_bind_1 16 rfl) (zb_X0_bind_1 17 rfl) (zb_X0_bind_1 18 rfl) rfl
theorem dX0_bind_58 : decode cX0_bind 58 = .ok (.goto (-35), 3) := dop_167 (zb_X0_bind_1 19 rfl) (zb_X0_bind_1 20 rfl) (zb_X0_bind_1 21 rfl) rfl
theorem dX0_bind_61 : decode cX0_bind 61 = .ok (.iconst 0, 1) := dop_3 (zb_X0_bind_1 22 rfl)
theorem dX0_bind_62 : decode cX0_bind 62 = .ok (.istore_n 2, 1) := dop_61 (zb_X0_bind_1 23 rfl)
theorem dX0_bind_63 : decode cX0_bind 63 = .ok (.iload_n 2, 1) := dop_28 (zb_X0_bind_1 24 rfl)
theorem dX0_bind_64 : decode cX0_bind 64 = .ok (.bipush 16, 2) := dop_16 (zb_X0_bind_1 25 rfl) (zb_X0_bind_1 26 rfl) rfl
theorem dX0_bind_66 : decode cX0_bind 66 = .ok (.if_icmp .ge 36, 3) := dop_162 (zb_X0_bind_1 27 rfl) (zb_X0_bind_1 28 rfl) (zb_X0_bind_1 29 rfl) rfl
theorem dX0_bind_69 : decode cX0_bind 69 = .ok (.aload_n 1, 1) := dop_43 (zb_X0_bind_1 30 rfl)
theorem dX0_bind_70 : decode cX0_bind 70 = .ok (.getfield 32, 3) := dop_180 (zb_X0_bind_1 31 rfl) (zb_X0_bind_1 32 rfl) (zb_X0_bind_1 33 rfl) rfl
theorem dX0_bind_73 : decode cX0_bind 73 = .ok (.iload_n 2, 1) := dop_28 (zb_X0_bind_1 34 rfl)
theorem dX0_bind_74 : decode cX0_bind 74 = .ok (.invokestatic 35, 3) := dop_184 (zb_X0_bind_1 35 rfl) (zb_X0_bind_1 36 rfl) (zb_X0_bind_1 37 rfl) rfl
theorem ze_X0_bind_3 : (dcn cX0_bind).drop 117 = zt_X0_bind_3 := dw_n (wl := zw_X0_bind_2) ze_X0_bind_2 rfl
theorem zb_X0_bind_2 (j : Nat) {n : Nat} (e : zw_X0_bind_2[j]? = some n) : dby cX0_bind (77 + j) n := dw_b (t := zt_X0_bind_3) ze_X0_bind_2 j e
theorem dX0_bind_77 : decode cX0_bind 77 = .ok (.ifCond .eq 19, 3) := dop_153 (zb_X0_bind_2 0 rfl) (zb_X0_bind_2 1 rfl) (zb_X0_bind_2 2 rfl) rfl
theorem dX0_bind_80 : decode cX0_bind 80 = .ok (.aload_n 0, 1) := dop_42 (zb_X0_bind_2 3 rfl)
theorem dX0_bind_81 : decode cX0_bind 81 = .ok (.bipush 12, 2) := dop_16 (zb_X0_bind_2 4 rfl) (zb_X0_bind_2 5 rfl) rfl
theorem dX0_bind_83 : decode cX0_bind 83 = .ok (.iload_n 2, 1) := dop_28 (zb_X0_bind_2 6 rfl)
theorem dX0_bind_84 : decode cX0_bind 84 = .ok (.iconst 4, 1) := dop_7 (zb_X0_bind_2 7 rfl)
theorem dX0_bind_85 : decode cX0_bind 85 = .ok (.idiv, 1) := dop_108 (zb_X0_bind_2 8 rfl)
theorem dX0_bind_86 : decode cX0_bind 86 = .ok (.iadd, 1) := dop_96 (zb_X0_bind_2 9 rfl)
theorem dX0_bind_87 : decode cX0_bind 87 = .ok (.bipush 12, 2) := dop_16 (zb_X0_bind_2 10 rfl) (zb_X0_bind_2 11 rfl) rfl
theorem dX0_bind_89 : decode cX0_bind 89 = .ok (.iload_n 2, 1) := dop_28 (zb_X0_bind_2 12 rfl)
theorem dX0_bind_90 : decode cX0_bind 90 = .ok (.iconst 4, 1) := dop_7 (zb_X0_bind_2 13 rfl)
theorem dX0_bind_91 : decode cX0_bind 91 = .ok (.irem, 1) := dop_112 (zb_X0_bind_2 14 rfl)
theorem dX0_bind_92 : decode cX0_bind 92 = .ok (.iadd, 1) := dop_96 (zb_X0_bind_2 15 rfl)
theorem dX0_bind_93 : decode cX0_bind 93 = .ok (.invokevirtual 28, 3) := dop_182 (zb_X0_bind_2 16 rfl) (zb_X0_bind_2 17 rfl) (zb_X0_bind_2 18 rfl) rfl
theorem dX0_bind_96 : decode cX0_bind 96 = .ok (.iinc 2 1, 3) := dop_132 (zb_X0_bind_2 19 rfl) (zb_X0_bind_2 20 rfl) (zb_X0_bind_2 21 rfl) rfl
theorem dX0_bind_99 : decode cX0_bind 99 = .ok (.goto (-36), 3) := dop_167 (zb_X0_bind_2 22 rfl) (zb_X0_bind_2 23 rfl) (zb_X0_bind_2 24 rfl) rfl
theorem dX0_bind_102 : decode cX0_bind 102 = .ok (.iconst 0, 1) := dop_3 (zb_X0_bind_2 25 rfl)
theorem dX0_bind_103 : decode cX0_bind 103 = .ok (.istore_n 2, 1) := dop_61 (zb_X0_bind_2 26 rfl)
theorem dX0_bind_104 : decode cX0_bind 104 = .ok (.iload_n 2, 1) := dop_28 (zb_X0_bind_2 27 rfl)
theorem dX0_bind_105 : decode cX0_bind 105 = .ok (.bipush 6, 2) := dop_16 (zb_X0_bind_2 28 rfl) (zb_X0_bind_2 29 rfl) rfl
theorem dX0_bind_107 : decode cX0_bind 107 = .ok (.if_icmp .ge 28, 3) := dop_162 (zb_X0_bind_2 30 rfl) (zb_X0_bind_2 31 rfl) (zb_X0_bind_2 32 rfl) rfl
theorem dX0_bind_110 : decode cX0_bind 110 = .ok (.aload_n 1, 1) := dop_43 (zb_X0_bind_2 33 rfl)
theorem dX0_bind_111 : decode cX0_bind 111 = .ok (.getfield 39, 3) := dop_180 (zb_X0_bind_2 34 rfl) (zb_X0_bind_2 35 rfl) (zb_X0_bind_2 36 rfl) rfl
theorem dX0_bind_114 : decode cX0_bind 114 = .ok (.iload_n 2, 1) := dop_28 (zb_X0_bind_2 37 rfl)
theorem dX0_bind_115 : decode cX0_bind 115 = .ok (.iaload, 1) := dop_46 (zb_X0_bind_2 38 rfl)
theorem dX0_bind_116 : decode cX0_bind 116 = .ok (.iconst (-1), 1) := dop_2 (zb_X0_bind_2 39 rfl)
theorem zb_X0_bind_3 (j : Nat) {n : Nat} (e : zw_X0_bind_3[j]? = some n) : dby cX0_bind (117 + j) n := dw_b (t := []) ze_X0_bind_3 j e
theorem dX0_bind_117 : decode cX0_bind 117 = .ok (.if_icmp .eq 12, 3) := dop_159 (zb_X0_bind_3 0 rfl) (zb_X0_bind_3 1 rfl) (zb_X0_bind_3 2 rfl) rfl
theorem dX0_bind_120 : decode cX0_bind 120 = .ok (.aload_n 0, 1) := dop_42 (zb_X0_bind_3 3 rfl)
theorem dX0_bind_121 : decode cX0_bind 121 = .ok (.iload_n 2, 1) := dop_28 (zb_X0_bind_3 4 rfl)
theorem dX0_bind_122 : decode cX0_bind 122 = .ok (.iload_n 2, 1) := dop_28 (zb_X0_bind_3 5 rfl)
theorem dX0_bind_123 : decode cX0_bind 123 = .ok (.bipush 6, 2) := dop_16 (zb_X0_bind_3 6 rfl) (zb_X0_bind_3 7 rfl) rfl
theorem dX0_bind_125 : decode cX0_bind 125 = .ok (.iadd, 1) := dop_96 (zb_X0_bind_3 8 rfl)
theorem dX0_bind_126 : decode cX0_bind 126 = .ok (.invokevirtual 28, 3) := dop_182 (zb_X0_bind_3 9 rfl) (zb_X0_bind_3 10 rfl) (zb_X0_bind_3 11 rfl) rfl
theorem dX0_bind_129 : decode cX0_bind 129 = .ok (.iinc 2 1, 3) := dop_132 (zb_X0_bind_3 12 rfl) (zb_X0_bind_3 13 rfl) (zb_X0_bind_3 14 rfl) rfl
theorem dX0_bind_132 : decode cX0_bind 132 = .ok (.goto (-28), 3) := dop_167 (zb_X0_bind_3 15 rfl) (zb_X0_bind_3 16 rfl) (zb_X0_bind_3 17 rfl) rfl
theorem dX0_bind_135 : decode cX0_bind 135 = .ok (.return_, 1) := dop_177 (zb_X0_bind_3 18 rfl)
def zw_X0_unite_1 : List Nat := [162, 0, 29, 42, 180, 0, 9, 21, 5, 46, 21, 4, 160, 0, 11, 42, 180, 0, 9, 21, 5, 29, 79, 132, 5, 1, 167, 255, 226, 177]
def zt_X0_unite_1 : List Nat := zw_X0_unite_1 ++ []
def zw_X0_unite_0 : List Nat := [42, 180, 0, 9, 27, 46, 42, 180, 0, 9, 28, 46, 184, 0, 42, 62, 42, 180, 0, 9, 27, 46, 42, 180, 0, 9, 28, 46, 184, 0, 48, 54, 4, 3, 54, 5, 21, 5, 16, 16]
def zt_X0_unite_0 : List Nat := zw_X0_unite_0 ++ zt_X0_unite_1
theorem ze_X0_unite_0 : (dcn cX0_unite).drop 0 = zt_X0_unite_0 := by decide +kernel
theorem ze_X0_unite_1 : (dcn cX0_unite).drop 40 = zt_X0_unite_1 := dw_n (wl := zw_X0_unite_0) ze_X0_unite_0 rfl
theorem zb_X0_unite_0 (j : Nat) {n : Nat} (e : zw_X0_unite_0[j]? = some n) : dby cX0_unite (0 + j) n := dw_b (t := zt_X0_unite_1) ze_X0_unite_0 j e
theorem dX0_unite_0 : decode cX0_unite 0 = .ok (.aload_n 0, 1) := dop_42 (zb_X0_unite_0 0 rfl)
theorem dX0_unite_1 : decode cX0_unite 1 = .ok (.getfield 9, 3) := dop_180 (zb_X0_unite_0 1 rfl) (zb_X0_unite_0 2 rfl) (zb_X0_unite_0 3 rfl) rfl
theorem dX0_unite_4 : decode cX0_unite 4 = .ok (.iload_n 1, 1) := dop_27 (zb_X0_unite_0 4 rfl)
theorem dX0_unite_5 : decode cX0_unite 5 = .ok (.iaload, 1) := dop_46 (zb_X0_unite_0 5 rfl)
theorem dX0_unite_6 : decode cX0_unite 6 = .ok (.aload_n 0, 1) := dop_42 (zb_X0_unite_0 6 rfl)
theorem dX0_unite_7 : decode cX0_unite 7 = .ok (.getfield 9, 3) := dop_180 (zb_X0_unite_0 7 rfl) (zb_X0_unite_0 8 rfl) (zb_X0_unite_0 9 rfl) rfl
theorem dX0_unite_10 : decode cX0_unite 10 = .ok (.iload_n 2, 1) := dop_28 (zb_X0_unite_0 10 rfl)
theorem dX0_unite_11 : decode cX0_unite 11 = .ok (.iaload, 1) := dop_46 (zb_X0_unite_0 11 rfl)
theorem dX0_unite_12 : decode cX0_unite 12 = .ok (.invokestatic 42, 3) := dop_184 (zb_X0_unite_0 12 rfl) (zb_X0_unite_0 13 rfl) (zb_X0_unite_0 14 rfl) rfl
theorem dX0_unite_15 : decode cX0_unite 15 = .ok (.istore_n 3, 1) := dop_62 (zb_X0_unite_0 15 rfl)
theorem dX0_unite_16 : decode cX0_unite 16 = .ok (.aload_n 0, 1) := dop_42 (zb_X0_unite_0 16 rfl)
theorem dX0_unite_17 : decode cX0_unite 17 = .ok (.getfield 9, 3) := dop_180 (zb_X0_unite_0 17 rfl) (zb_X0_unite_0 18 rfl) (zb_X0_unite_0 19 rfl) rfl
theorem dX0_unite_20 : decode cX0_unite 20 = .ok (.iload_n 1, 1) := dop_27 (zb_X0_unite_0 20 rfl)
theorem dX0_unite_21 : decode cX0_unite 21 = .ok (.iaload, 1) := dop_46 (zb_X0_unite_0 21 rfl)
theorem dX0_unite_22 : decode cX0_unite 22 = .ok (.aload_n 0, 1) := dop_42 (zb_X0_unite_0 22 rfl)
theorem dX0_unite_23 : decode cX0_unite 23 = .ok (.getfield 9, 3) := dop_180 (zb_X0_unite_0 23 rfl) (zb_X0_unite_0 24 rfl) (zb_X0_unite_0 25 rfl) rfl
theorem dX0_unite_26 : decode cX0_unite 26 = .ok (.iload_n 2, 1) := dop_28 (zb_X0_unite_0 26 rfl)
theorem dX0_unite_27 : decode cX0_unite 27 = .ok (.iaload, 1) := dop_46 (zb_X0_unite_0 27 rfl)
theorem dX0_unite_28 : decode cX0_unite 28 = .ok (.invokestatic 48, 3) := dop_184 (zb_X0_unite_0 28 rfl) (zb_X0_unite_0 29 rfl) (zb_X0_unite_0 30 rfl) rfl
theorem dX0_unite_31 : decode cX0_unite 31 = .ok (.istore 4, 2) := dop_54 (zb_X0_unite_0 31 rfl) (zb_X0_unite_0 32 rfl)
theorem dX0_unite_33 : decode cX0_unite 33 = .ok (.iconst 0, 1) := dop_3 (zb_X0_unite_0 33 rfl)
theorem dX0_unite_34 : decode cX0_unite 34 = .ok (.istore 5, 2) := dop_54 (zb_X0_unite_0 34 rfl) (zb_X0_unite_0 35 rfl)
theorem dX0_unite_36 : decode cX0_unite 36 = .ok (.iload 5, 2) := dop_21 (zb_X0_unite_0 36 rfl) (zb_X0_unite_0 37 rfl)
theorem dX0_unite_38 : decode cX0_unite 38 = .ok (.bipush 16, 2) := dop_16 (zb_X0_unite_0 38 rfl) (zb_X0_unite_0 39 rfl) rfl
theorem zb_X0_unite_1 (j : Nat) {n : Nat} (e : zw_X0_unite_1[j]? = some n) : dby cX0_unite (40 + j) n := dw_b (t := []) ze_X0_unite_1 j e
theorem dX0_unite_40 : decode cX0_unite 40 = .ok (.if_icmp .ge 29, 3) := dop_162 (zb_X0_unite_1 0 rfl) (zb_X0_unite_1 1 rfl) (zb_X0_unite_1 2 rfl) rfl
theorem dX0_unite_43 : decode cX0_unite 43 = .ok (.aload_n 0, 1) := dop_42 (zb_X0_unite_1 3 rfl)
theorem dX0_unite_44 : decode cX0_unite 44 = .ok (.getfield 9, 3) := dop_180 (zb_X0_unite_1 4 rfl) (zb_X0_unite_1 5 rfl) (zb_X0_unite_1 6 rfl) rfl
theorem dX0_unite_47 : decode cX0_unite 47 = .ok (.iload 5, 2) := dop_21 (zb_X0_unite_1 7 rfl) (zb_X0_unite_1 8 rfl)
theorem dX0_unite_49 : decode cX0_unite 49 = .ok (.iaload, 1) := dop_46 (zb_X0_unite_1 9 rfl)
theorem dX0_unite_50 : decode cX0_unite 50 = .ok (.iload 4, 2) := dop_21 (zb_X0_unite_1 10 rfl) (zb_X0_unite_1 11 rfl)
theorem dX0_unite_52 : decode cX0_unite 52 = .ok (.if_icmp .ne 11, 3) := dop_160 (zb_X0_unite_1 12 rfl) (zb_X0_unite_1 13 rfl) (zb_X0_unite_1 14 rfl) rfl
theorem dX0_unite_55 : decode cX0_unite 55 = .ok (.aload_n 0, 1) := dop_42 (zb_X0_unite_1 15 rfl)
theorem dX0_unite_56 : decode cX0_unite 56 = .ok (.getfield 9, 3) := dop_180 (zb_X0_unite_1 16 rfl) (zb_X0_unite_1 17 rfl) (zb_X0_unite_1 18 rfl) rfl
theorem dX0_unite_59 : decode cX0_unite 59 = .ok (.iload 5, 2) := dop_21 (zb_X0_unite_1 19 rfl) (zb_X0_unite_1 20 rfl)
theorem dX0_unite_61 : decode cX0_unite 61 = .ok (.iload_n 3, 1) := dop_29 (zb_X0_unite_1 21 rfl)
theorem dX0_unite_62 : decode cX0_unite 62 = .ok (.iastore, 1) := dop_79 (zb_X0_unite_1 22 rfl)
theorem dX0_unite_63 : decode cX0_unite 63 = .ok (.iinc 5 1, 3) := dop_132 (zb_X0_unite_1 23 rfl) (zb_X0_unite_1 24 rfl) (zb_X0_unite_1 25 rfl) rfl
theorem dX0_unite_66 : decode cX0_unite 66 = .ok (.goto (-30), 3) := dop_167 (zb_X0_unite_1 26 rfl) (zb_X0_unite_1 27 rfl) (zb_X0_unite_1 28 rfl) rfl
theorem dX0_unite_69 : decode cX0_unite 69 = .ok (.return_, 1) := dop_177 (zb_X0_unite_1 29 rfl)
def zw_X0_areTogether_0 : List Nat := [42, 180, 0, 9, 27, 46, 42, 180, 0, 9, 28, 46, 160, 0, 7, 4, 167, 0, 4, 3, 172]
def zt_X0_areTogether_0 : List Nat := zw_X0_areTogether_0 ++ []
theorem ze_X0_areTogether_0 : (dcn cX0_areTogether).drop 0 = zt_X0_areTogether_0 := by decide +kernel
theorem zb_X0_areTogether_0 (j : Nat) {n : Nat} (e : zw_X0_areTogether_0[j]? = some n) : dby cX0_areTogether (0 + j) n := dw_b (t := []) ze_X0_areTogether_0 j e
theorem dX0_areTogether_0 : decode cX0_areTogether 0 = .ok (.aload_n 0, 1) := dop_42 (zb_X0_areTogether_0 0 rfl)
theorem dX0_areTogether_1 : decode cX0_areTogether 1 = .ok (.getfield 9, 3) := dop_180 (zb_X0_areTogether_0 1 rfl) (zb_X0_areTogether_0 2 rfl) (zb_X0_areTogether_0 3 rfl) rfl
theorem dX0_areTogether_4 : decode cX0_areTogether 4 = .ok (.iload_n 1, 1) := dop_27 (zb_X0_areTogether_0 4 rfl)
theorem dX0_areTogether_5 : decode cX0_areTogether 5 = .ok (.iaload, 1) := dop_46 (zb_X0_areTogether_0 5 rfl)
theorem dX0_areTogether_6 : decode cX0_areTogether 6 = .ok (.aload_n 0, 1) := dop_42 (zb_X0_areTogether_0 6 rfl)
theorem dX0_areTogether_7 : decode cX0_areTogether 7 = .ok (.getfield 9, 3) := dop_180 (zb_X0_areTogether_0 7 rfl) (zb_X0_areTogether_0 8 rfl) (zb_X0_areTogether_0 9 rfl) rfl
theorem dX0_areTogether_10 : decode cX0_areTogether 10 = .ok (.iload_n 2, 1) := dop_28 (zb_X0_areTogether_0 10 rfl)
theorem dX0_areTogether_11 : decode cX0_areTogether 11 = .ok (.iaload, 1) := dop_46 (zb_X0_areTogether_0 11 rfl)
theorem dX0_areTogether_12 : decode cX0_areTogether 12 = .ok (.if_icmp .ne 7, 3) := dop_160 (zb_X0_areTogether_0 12 rfl) (zb_X0_areTogether_0 13 rfl) (zb_X0_areTogether_0 14 rfl) rfl
theorem dX0_areTogether_15 : decode cX0_areTogether 15 = .ok (.iconst 1, 1) := dop_4 (zb_X0_areTogether_0 15 rfl)
theorem dX0_areTogether_16 : decode cX0_areTogether 16 = .ok (.goto 4, 3) := dop_167 (zb_X0_areTogether_0 16 rfl) (zb_X0_areTogether_0 17 rfl) (zb_X0_areTogether_0 18 rfl) rfl
theorem dX0_areTogether_19 : decode cX0_areTogether 19 = .ok (.iconst 0, 1) := dop_3 (zb_X0_areTogether_0 19 rfl)
theorem dX0_areTogether_20 : decode cX0_areTogether 20 = .ok (.ireturn, 1) := dop_172 (zb_X0_areTogether_0 20 rfl)
def zw_X0_many_0 : List Nat := [3, 61, 3, 62, 29, 16, 16, 162, 0, 30, 42, 180, 0, 9, 29, 46, 29, 160, 0, 14, 43, 29, 182, 0, 51, 153, 0, 6, 132, 2, 1, 132, 3, 1, 167, 255, 226, 28, 172]
def zt_X0_many_0 : List Nat := zw_X0_many_0 ++ []
theorem ze_X0_many_0 : (dcn cX0_many).drop 0 = zt_X0_many_0 := by decide +kernel
theorem zb_X0_many_0 (j : Nat) {n : Nat} (e : zw_X0_many_0[j]? = some n) : dby cX0_many (0 + j) n := dw_b (t := []) ze_X0_many_0 j e
theorem dX0_many_0 : decode cX0_many 0 = .ok (.iconst 0, 1) := dop_3 (zb_X0_many_0 0 rfl)
theorem dX0_many_1 : decode cX0_many 1 = .ok (.istore_n 2, 1) := dop_61 (zb_X0_many_0 1 rfl)
theorem dX0_many_2 : decode cX0_many 2 = .ok (.iconst 0, 1) := dop_3 (zb_X0_many_0 2 rfl)
theorem dX0_many_3 : decode cX0_many 3 = .ok (.istore_n 3, 1) := dop_62 (zb_X0_many_0 3 rfl)
theorem dX0_many_4 : decode cX0_many 4 = .ok (.iload_n 3, 1) := dop_29 (zb_X0_many_0 4 rfl)
theorem dX0_many_5 : decode cX0_many 5 = .ok (.bipush 16, 2) := dop_16 (zb_X0_many_0 5 rfl) (zb_X0_many_0 6 rfl) rfl
theorem dX0_many_7 : decode cX0_many 7 = .ok (.if_icmp .ge 30, 3) := dop_162 (zb_X0_many_0 7 rfl) (zb_X0_many_0 8 rfl) (zb_X0_many_0 9 rfl) rfl
theorem dX0_many_10 : decode cX0_many 10 = .ok (.aload_n 0, 1) := dop_42 (zb_X0_many_0 10 rfl)
theorem dX0_many_11 : decode cX0_many 11 = .ok (.getfield 9, 3) := dop_180 (zb_X0_many_0 11 rfl) (zb_X0_many_0 12 rfl) (zb_X0_many_0 13 rfl) rfl
theorem dX0_many_14 : decode cX0_many 14 = .ok (.iload_n 3, 1) := dop_29 (zb_X0_many_0 14 rfl)
theorem dX0_many_15 : decode cX0_many 15 = .ok (.iaload, 1) := dop_46 (zb_X0_many_0 15 rfl)
theorem dX0_many_16 : decode cX0_many 16 = .ok (.iload_n 3, 1) := dop_29 (zb_X0_many_0 16 rfl)
theorem dX0_many_17 : decode cX0_many 17 = .ok (.if_icmp .ne 14, 3) := dop_160 (zb_X0_many_0 17 rfl) (zb_X0_many_0 18 rfl) (zb_X0_many_0 19 rfl) rfl
theorem dX0_many_20 : decode cX0_many 20 = .ok (.aload_n 1, 1) := dop_43 (zb_X0_many_0 20 rfl)
theorem dX0_many_21 : decode cX0_many 21 = .ok (.iload_n 3, 1) := dop_29 (zb_X0_many_0 21 rfl)
theorem dX0_many_22 : decode cX0_many 22 = .ok (.invokevirtual 51, 3) := dop_182 (zb_X0_many_0 22 rfl) (zb_X0_many_0 23 rfl) (zb_X0_many_0 24 rfl) rfl
theorem dX0_many_25 : decode cX0_many 25 = .ok (.ifCond .eq 6, 3) := dop_153 (zb_X0_many_0 25 rfl) (zb_X0_many_0 26 rfl) (zb_X0_many_0 27 rfl) rfl
theorem dX0_many_28 : decode cX0_many 28 = .ok (.iinc 2 1, 3) := dop_132 (zb_X0_many_0 28 rfl) (zb_X0_many_0 29 rfl) (zb_X0_many_0 30 rfl) rfl
theorem dX0_many_31 : decode cX0_many 31 = .ok (.iinc 3 1, 3) := dop_132 (zb_X0_many_0 31 rfl) (zb_X0_many_0 32 rfl) (zb_X0_many_0 33 rfl) rfl
theorem dX0_many_34 : decode cX0_many 34 = .ok (.goto (-30), 3) := dop_167 (zb_X0_many_0 34 rfl) (zb_X0_many_0 35 rfl) (zb_X0_many_0 36 rfl) rfl
theorem dX0_many_37 : decode cX0_many 37 = .ok (.iload_n 2, 1) := dop_28 (zb_X0_many_0 37 rfl)
theorem dX0_many_38 : decode cX0_many 38 = .ok (.ireturn, 1) := dop_172 (zb_X0_many_0 38 rfl)
def zw_X0_greatest_0 : List Nat := [3, 61, 3, 62, 29, 16, 16, 162, 0, 20, 28, 42, 29, 43, 182, 0, 55, 184, 0, 48, 61, 132, 3, 1, 167, 255, 236, 28, 172]
def zt_X0_greatest_0 : List Nat := zw_X0_greatest_0 ++ []
theorem ze_X0_greatest_0 : (dcn cX0_greatest).drop 0 = zt_X0_greatest_0 := by decide +kernel
theorem zb_X0_greatest_0 (j : Nat) {n : Nat} (e : zw_X0_greatest_0[j]? = some n) : dby cX0_greatest (0 + j) n := dw_b (t := []) ze_X0_greatest_0 j e
theorem dX0_greatest_0 : decode cX0_greatest 0 = .ok (.iconst 0, 1) := dop_3 (zb_X0_greatest_0 0 rfl)
theorem dX0_greatest_1 : decode cX0_greatest 1 = .ok (.istore_n 2, 1) := dop_61 (zb_X0_greatest_0 1 rfl)
theorem dX0_greatest_2 : decode cX0_greatest 2 = .ok (.iconst 0, 1) := dop_3 (zb_X0_greatest_0 2 rfl)
theorem dX0_greatest_3 : decode cX0_greatest 3 = .ok (.istore_n 3, 1) := dop_62 (zb_X0_greatest_0 3 rfl)
theorem dX0_greatest_4 : decode cX0_greatest 4 = .ok (.iload_n 3, 1) := dop_29 (zb_X0_greatest_0 4 rfl)
theorem dX0_greatest_5 : decode cX0_greatest 5 = .ok (.bipush 16, 2) := dop_16 (zb_X0_greatest_0 5 rfl) (zb_X0_greatest_0 6 rfl) rfl
theorem dX0_greatest_7 : decode cX0_greatest 7 = .ok (.if_icmp .ge 20, 3) := dop_162 (zb_X0_greatest_0 7 rfl) (zb_X0_greatest_0 8 rfl) (zb_X0_greatest_0 9 rfl) rfl
theorem dX0_greatest_10 : decode cX0_greatest 10 = .ok (.iload_n 2, 1) := dop_28 (zb_X0_greatest_0 10 rfl)
theorem dX0_greatest_11 : decode cX0_greatest 11 = .ok (.aload_n 0, 1) := dop_42 (zb_X0_greatest_0 11 rfl)
theorem dX0_greatest_12 : decode cX0_greatest 12 = .ok (.iload_n 3, 1) := dop_29 (zb_X0_greatest_0 12 rfl)
theorem dX0_greatest_13 : decode cX0_greatest 13 = .ok (.aload_n 1, 1) := dop_43 (zb_X0_greatest_0 13 rfl)
theorem dX0_greatest_14 : decode cX0_greatest 14 = .ok (.invokevirtual 55, 3) := dop_182 (zb_X0_greatest_0 14 rfl) (zb_X0_greatest_0 15 rfl) (zb_X0_greatest_0 16 rfl) rfl
theorem dX0_greatest_17 : decode cX0_greatest 17 = .ok (.invokestatic 48, 3) := dop_184 (zb_X0_greatest_0 17 rfl) (zb_X0_greatest_0 18 rfl) (zb_X0_greatest_0 19 rfl) rfl
theorem dX0_greatest_20 : decode cX0_greatest 20 = .ok (.istore_n 2, 1) := dop_61 (zb_X0_greatest_0 20 rfl)
theorem dX0_greatest_21 : decode cX0_greatest 21 = .ok (.iinc 3 1, 3) := dop_132 (zb_X0_greatest_0 21 rfl) (zb_X0_greatest_0 22 rfl) (zb_X0_greatest_0 23 rfl) rfl
theorem dX0_greatest_24 : decode cX0_greatest 24 = .ok (.goto (-20), 3) := dop_167 (zb_X0_greatest_0 24 rfl) (zb_X0_greatest_0 25 rfl) (zb_X0_greatest_0 26 rfl) rfl
theorem dX0_greatest_27 : decode cX0_greatest 27 = .ok (.iload_n 2, 1) := dop_28 (zb_X0_greatest_0 27 rfl)
theorem dX0_greatest_28 : decode cX0_greatest 28 = .ok (.ireturn, 1) := dop_172 (zb_X0_greatest_0 28 rfl)
def zw_X0_sizeOf_1 : List Nat := [167, 255, 223, 29, 172]
def zt_X0_sizeOf_1 : List Nat := zw_X0_sizeOf_1 ++ []
def zw_X0_sizeOf_0 : List Nat := [3, 62, 3, 54, 4, 21, 4, 16, 16, 162, 0, 32, 42, 180, 0, 9, 21, 4, 46, 27, 160, 0, 15, 44, 21, 4, 182, 0, 51, 153, 0, 6, 132, 3, 1, 132, 4, 1]
def zt_X0_sizeOf_0 : List Nat := zw_X0_sizeOf_0 ++ zt_X0_sizeOf_1
theorem ze_X0_sizeOf_0 : (dcn cX0_sizeOf).drop 0 = zt_X0_sizeOf_0 := by decide +kernel
theorem ze_X0_sizeOf_1 : (dcn cX0_sizeOf).drop 38 = zt_X0_sizeOf_1 := dw_n (wl := zw_X0_sizeOf_0) ze_X0_sizeOf_0 rfl
theorem zb_X0_sizeOf_0 (j : Nat) {n : Nat} (e : zw_X0_sizeOf_0[j]? = some n) : dby cX0_sizeOf (0 + j) n := dw_b (t := zt_X0_sizeOf_1) ze_X0_sizeOf_0 j e
theorem dX0_sizeOf_0 : decode cX0_sizeOf 0 = .ok (.iconst 0, 1) := dop_3 (zb_X0_sizeOf_0 0 rfl)
theorem dX0_sizeOf_1 : decode cX0_sizeOf 1 = .ok (.istore_n 3, 1) := dop_62 (zb_X0_sizeOf_0 1 rfl)
theorem dX0_sizeOf_2 : decode cX0_sizeOf 2 = .ok (.iconst 0, 1) := dop_3 (zb_X0_sizeOf_0 2 rfl)
theorem dX0_sizeOf_3 : decode cX0_sizeOf 3 = .ok (.istore 4, 2) := dop_54 (zb_X0_sizeOf_0 3 rfl) (zb_X0_sizeOf_0 4 rfl)
theorem dX0_sizeOf_5 : decode cX0_sizeOf 5 = .ok (.iload 4, 2) := dop_21 (zb_X0_sizeOf_0 5 rfl) (zb_X0_sizeOf_0 6 rfl)
theorem dX0_sizeOf_7 : decode cX0_sizeOf 7 = .ok (.bipush 16, 2) := dop_16 (zb_X0_sizeOf_0 7 rfl) (zb_X0_sizeOf_0 8 rfl) rfl
theorem dX0_sizeOf_9 : decode cX0_sizeOf 9 = .ok (.if_icmp .ge 32, 3) := dop_162 (zb_X0_sizeOf_0 9 rfl) (zb_X0_sizeOf_0 10 rfl) (zb_X0_sizeOf_0 11 rfl) rfl
theorem dX0_sizeOf_12 : decode cX0_sizeOf 12 = .ok (.aload_n 0, 1) := dop_42 (zb_X0_sizeOf_0 12 rfl)
theorem dX0_sizeOf_13 : decode cX0_sizeOf 13 = .ok (.getfield 9, 3) := dop_180 (zb_X0_sizeOf_0 13 rfl) (zb_X0_sizeOf_0 14 rfl) (zb_X0_sizeOf_0 15 rfl) rfl
theorem dX0_sizeOf_16 : decode cX0_sizeOf 16 = .ok (.iload 4, 2) := dop_21 (zb_X0_sizeOf_0 16 rfl) (zb_X0_sizeOf_0 17 rfl)
theorem dX0_sizeOf_18 : decode cX0_sizeOf 18 = .ok (.iaload, 1) := dop_46 (zb_X0_sizeOf_0 18 rfl)
theorem dX0_sizeOf_19 : decode cX0_sizeOf 19 = .ok (.iload_n 1, 1) := dop_27 (zb_X0_sizeOf_0 19 rfl)
theorem dX0_sizeOf_20 : decode cX0_sizeOf 20 = .ok (.if_icmp .ne 15, 3) := dop_160 (zb_X0_sizeOf_0 20 rfl) (zb_X0_sizeOf_0 21 rfl) (zb_X0_sizeOf_0 22 rfl) rfl
theorem dX0_sizeOf_23 : decode cX0_sizeOf 23 = .ok (.aload_n 2, 1) := dop_44 (zb_X0_sizeOf_0 23 rfl)
theorem dX0_sizeOf_24 : decode cX0_sizeOf 24 = .ok (.iload 4, 2) := dop_21 (zb_X0_sizeOf_0 24 rfl) (zb_X0_sizeOf_0 25 rfl)
theorem dX0_sizeOf_26 : decode cX0_sizeOf 26 = .ok (.invokevirtual 51, 3) := dop_182 (zb_X0_sizeOf_0 26 rfl) (zb_X0_sizeOf_0 27 rfl) (zb_X0_sizeOf_0 28 rfl) rfl
theorem dX0_sizeOf_29 : decode cX0_sizeOf 29 = .ok (.ifCond .eq 6, 3) := dop_153 (zb_X0_sizeOf_0 29 rfl) (zb_X0_sizeOf_0 30 rfl) (zb_X0_sizeOf_0 31 rfl) rfl
theorem dX0_sizeOf_32 : decode cX0_sizeOf 32 = .ok (.iinc 3 1, 3) := dop_132 (zb_X0_sizeOf_0 32 rfl) (zb_X0_sizeOf_0 33 rfl) (zb_X0_sizeOf_0 34 rfl) rfl
theorem dX0_sizeOf_35 : decode cX0_sizeOf 35 = .ok (.iinc 4 1, 3) := dop_132 (zb_X0_sizeOf_0 35 rfl) (zb_X0_sizeOf_0 36 rfl) (zb_X0_sizeOf_0 37 rfl) rfl
theorem zb_X0_sizeOf_1 (j : Nat) {n : Nat} (e : zw_X0_sizeOf_1[j]? = some n) : dby cX0_sizeOf (38 + j) n := dw_b (t := []) ze_X0_sizeOf_1 j e
theorem dX0_sizeOf_38 : decode cX0_sizeOf 38 = .ok (.goto (-33), 3) := dop_167 (zb_X0_sizeOf_1 0 rfl) (zb_X0_sizeOf_1 1 rfl) (zb_X0_sizeOf_1 2 rfl) rfl
theorem dX0_sizeOf_41 : decode cX0_sizeOf 41 = .ok (.iload_n 3, 1) := dop_29 (zb_X0_sizeOf_1 3 rfl)
theorem dX0_sizeOf_42 : decode cX0_sizeOf 42 = .ok (.ireturn, 1) := dop_172 (zb_X0_sizeOf_1 4 rfl)
def zw_X1_init_0 : List Nat := [42, 183, 0, 3, 42, 43, 181, 0, 9, 42, 2, 181, 0, 15, 177]
def zt_X1_init_0 : List Nat := zw_X1_init_0 ++ []
theorem ze_X1_init_0 : (dcn cX1_init).drop 0 = zt_X1_init_0 := by decide +kernel
theorem zb_X1_init_0 (j : Nat) {n : Nat} (e : zw_X1_init_0[j]? = some n) : dby cX1_init (0 + j) n := dw_b (t := []) ze_X1_init_0 j e
theorem dX1_init_0 : decode cX1_init 0 = .ok (.aload_n 0, 1) := dop_42 (zb_X1_init_0 0 rfl)
theorem dX1_init_1 : decode cX1_init 1 = .ok (.invokespecial 3, 3) := dop_183 (zb_X1_init_0 1 rfl) (zb_X1_init_0 2 rfl) (zb_X1_init_0 3 rfl) rfl
theorem dX1_init_4 : decode cX1_init 4 = .ok (.aload_n 0, 1) := dop_42 (zb_X1_init_0 4 rfl)
theorem dX1_init_5 : decode cX1_init 5 = .ok (.aload_n 1, 1) := dop_43 (zb_X1_init_0 5 rfl)
theorem dX1_init_6 : decode cX1_init 6 = .ok (.putfield 9, 3) := dop_181 (zb_X1_init_0 6 rfl) (zb_X1_init_0 7 rfl) (zb_X1_init_0 8 rfl) rfl
theorem dX1_init_9 : decode cX1_init 9 = .ok (.aload_n 0, 1) := dop_42 (zb_X1_init_0 9 rfl)
theorem dX1_init_10 : decode cX1_init 10 = .ok (.iconst (-1), 1) := dop_2 (zb_X1_init_0 10 rfl)
theorem dX1_init_11 : decode cX1_init 11 = .ok (.putfield 15, 3) := dop_181 (zb_X1_init_0 11 rfl) (zb_X1_init_0 12 rfl) (zb_X1_init_0 13 rfl) rfl
theorem dX1_init_14 : decode cX1_init 14 = .ok (.return_, 1) := dop_177 (zb_X1_init_0 14 rfl)
def zw_X1_readOnto_3 : List Nat := [180, 0, 43, 181, 0, 15, 2, 172]
def zt_X1_readOnto_3 : List Nat := zw_X1_readOnto_3 ++ []
def zw_X1_readOnto_2 : List Nat := [180, 0, 46, 161, 0, 5, 28, 172, 29, 153, 0, 21, 42, 18, 51, 182, 0, 27, 154, 0, 6, 167, 0, 9, 132, 2, 1, 167, 255, 168, 42, 180, 0, 15, 2, 160, 0, 11, 42, 42]
def zt_X1_readOnto_2 : List Nat := zw_X1_readOnto_2 ++ zt_X1_readOnto_3
def zw_X1_readOnto_1 : List Nat := [167, 0, 27, 42, 18, 35, 182, 0, 27, 153, 0, 12, 42, 43, 182, 0, 37, 62, 167, 0, 9, 42, 43, 182, 0, 40, 62, 29, 153, 0, 19, 42, 180, 0, 43, 42, 180, 0, 9]
def zt_X1_readOnto_1 : List Nat := zw_X1_readOnto_1 ++ zt_X1_readOnto_2
def zw_X1_readOnto_0 : List Nat := [42, 2, 181, 0, 15, 42, 3, 181, 0, 19, 42, 182, 0, 22, 4, 61, 28, 17, 1, 144, 163, 0, 87, 42, 18, 25, 182, 0, 27, 153, 0, 12, 42, 43, 182, 0, 31, 62]
def zt_X1_readOnto_0 : List Nat := zw_X1_readOnto_0 ++ zt_X1_readOnto_1
theorem ze_X1_readOnto_0 : (dcn cX1_readOnto).drop 0 = zt_X1_readOnto_0 := by decide +kernel
theorem ze_X1_readOnto_1 : (dcn cX1_readOnto).drop 38 = zt_X1_readOnto_1 := dw_n (wl := zw_X1_readOnto_0) ze_X1_readOnto_0 rfl
theorem zb_X1_readOnto_0 (j : Nat) {n : Nat} (e : zw_X1_readOnto_0[j]? = some n) : dby cX1_readOnto (0 + j) n := dw_b (t := zt_X1_readOnto_1) ze_X1_readOnto_0 j e
theorem dX1_readOnto_0 : decode cX1_readOnto 0 = .ok (.aload_n 0, 1) := dop_42 (zb_X1_readOnto_0 0 rfl)
theorem dX1_readOnto_1 : decode cX1_readOnto 1 = .ok (.iconst (-1), 1) := dop_2 (zb_X1_readOnto_0 1 rfl)
theorem dX1_readOnto_2 : decode cX1_readOnto 2 = .ok (.putfield 15, 3) := dop_181 (zb_X1_readOnto_0 2 rfl) (zb_X1_readOnto_0 3 rfl) (zb_X1_readOnto_0 4 rfl) rfl
theorem dX1_readOnto_5 : decode cX1_readOnto 5 = .ok (.aload_n 0, 1) := dop_42 (zb_X1_readOnto_0 5 rfl)
theorem dX1_readOnto_6 : decode cX1_readOnto 6 = .ok (.iconst 0, 1) := dop_3 (zb_X1_readOnto_0 6 rfl)
theorem dX1_readOnto_7 : decode cX1_readOnto 7 = .ok (.putfield 19, 3) := dop_181 (zb_X1_readOnto_0 7 rfl) (zb_X1_readOnto_0 8 rfl) (zb_X1_readOnto_0 9 rfl) rfl
theorem dX1_readOnto_10 : decode cX1_readOnto 10 = .ok (.aload_n 0, 1) := dop_42 (zb_X1_readOnto_0 10 rfl)
theorem dX1_readOnto_11 : decode cX1_readOnto 11 = .ok (.invokevirtual 22, 3) := dop_182 (zb_X1_readOnto_0 11 rfl) (zb_X1_readOnto_0 12 rfl) (zb_X1_readOnto_0 13 rfl) rfl
theorem dX1_readOnto_14 : decode cX1_readOnto 14 = .ok (.iconst 1, 1) := dop_4 (zb_X1_readOnto_0 14 rfl)
theorem dX1_readOnto_15 : decode cX1_readOnto 15 = .ok (.istore_n 2, 1) := dop_61 (zb_X1_readOnto_0 15 rfl)
theorem dX1_readOnto_16 : decode cX1_readOnto 16 = .ok (.iload_n 2, 1) := dop_28 (zb_X1_readOnto_0 16 rfl)
theorem dX1_readOnto_17 : decode cX1_readOnto 17 = .ok (.sipush 400, 3) := dop_17 (zb_X1_readOnto_0 17 rfl) (zb_X1_readOnto_0 18 rfl) (zb_X1_readOnto_0 19 rfl) rfl
theorem dX1_readOnto_20 : decode cX1_readOnto 20 = .ok (.if_icmp .gt 87, 3) := dop_163 (zb_X1_readOnto_0 20 rfl) (zb_X1_readOnto_0 21 rfl) (zb_X1_readOnto_0 22 rfl) rfl
theorem dX1_readOnto_23 : decode cX1_readOnto 23 = .ok (.aload_n 0, 1) := dop_42 (zb_X1_readOnto_0 23 rfl)
theorem dX1_readOnto_24 : decode cX1_readOnto 24 = .ok (.ldc 25, 2) := dop_18 (zb_X1_readOnto_0 24 rfl) (zb_X1_readOnto_0 25 rfl)
theorem dX1_readOnto_26 : decode cX1_readOnto 26 = .ok (.invokevirtual 27, 3) := dop_182 (zb_X1_readOnto_0 26 rfl) (zb_X1_readOnto_0 27 rfl) (zb_X1_readOnto_0 28 rfl) rfl
theorem dX1_readOnto_29 : decode cX1_readOnto 29 = .ok (.ifCond .eq 12, 3) := dop_153 (zb_X1_readOnto_0 29 rfl) (zb_X1_readOnto_0 30 rfl) (zb_X1_readOnto_0 31 rfl) rfl
theorem dX1_readOnto_32 : decode cX1_readOnto 32 = .ok (.aload_n 0, 1) := dop_42 (zb_X1_readOnto_0 32 rfl)
theorem dX1_readOnto_33 : decode cX1_readOnto 33 = .ok (.aload_n 1, 1) := dop_43 (zb_X1_readOnto_0 33 rfl)
theorem dX1_readOnto_34 : decode cX1_readOnto 34 = .ok (.invokevirtual 31, 3) := dop_182 (zb_X1_readOnto_0 34 rfl) (zb_X1_readOnto_0 35 rfl) (zb_X1_readOnto_0 36 rfl) rfl
theorem dX1_readOnto_37 : decode cX1_readOnto 37 = .ok (.istore_n 3, 1) := dop_62 (zb_X1_readOnto_0 37 rfl)
theorem ze_X1_readOnto_2 : (dcn cX1_readOnto).drop 77 = zt_X1_readOnto_2 := dw_n (wl := zw_X1_readOnto_1) ze_X1_readOnto_1 rfl
theorem zb_X1_readOnto_1 (j : Nat) {n : Nat} (e : zw_X1_readOnto_1[j]? = some n) : dby cX1_readOnto (38 + j) n := dw_b (t := zt_X1_readOnto_2) ze_X1_readOnto_1 j e
theorem dX1_readOnto_38 : decode cX1_readOnto 38 = .ok (.goto 27, 3) := dop_167 (zb_X1_readOnto_1 0 rfl) (zb_X1_readOnto_1 1 rfl) (zb_X1_readOnto_1 2 rfl) rfl
theorem dX1_readOnto_41 : decode cX1_readOnto 41 = .ok (.aload_n 0, 1) := dop_42 (zb_X1_readOnto_1 3 rfl)
theorem dX1_readOnto_42 : decode cX1_readOnto 42 = .ok (.ldc 35, 2) := dop_18 (zb_X1_readOnto_1 4 rfl) (zb_X1_readOnto_1 5 rfl)
theorem dX1_readOnto_44 : decode cX1_readOnto 44 = .ok (.invokevirtual 27, 3) := dop_182 (zb_X1_readOnto_1 6 rfl) (zb_X1_readOnto_1 7 rfl) (zb_X1_readOnto_1 8 rfl) rfl
theorem dX1_readOnto_47 : decode cX1_readOnto 47 = .ok (.ifCond .eq 12, 3) := dop_153 (zb_X1_readOnto_1 9 rfl) (zb_X1_readOnto_1 10 rfl) (zb_X1_readOnto_1 11 rfl) rfl
theorem dX1_readOnto_50 : decode cX1_readOnto 50 = .ok (.aload_n 0, 1) := dop_42 (zb_X1_readOnto_1 12 rfl)
theorem dX1_readOnto_51 : decode cX1_readOnto 51 = .ok (.aload_n 1, 1) := dop_43 (zb_X1_readOnto_1 13 rfl)
theorem dX1_readOnto_52 : decode cX1_readOnto 52 = .ok (.invokevirtual 37, 3) := dop_182 (zb_X1_readOnto_1 14 rfl) (zb_X1_readOnto_1 15 rfl) (zb_X1_readOnto_1 16 rfl) rfl
theorem dX1_readOnto_55 : decode cX1_readOnto 55 = .ok (.istore_n 3, 1) := dop_62 (zb_X1_readOnto_1 17 rfl)
theorem dX1_readOnto_56 : decode cX1_readOnto 56 = .ok (.goto 9, 3) := dop_167 (zb_X1_readOnto_1 18 rfl) (zb_X1_readOnto_1 19 rfl) (zb_X1_readOnto_1 20 rfl) rfl
theorem dX1_readOnto_59 : decode cX1_readOnto 59 = .ok (.aload_n 0, 1) := dop_42 (zb_X1_readOnto_1 21 rfl)
theorem dX1_readOnto_60 : decode cX1_readOnto 60 = .ok (.aload_n 1, 1) := dop_43 (zb_X1_readOnto_1 22 rfl)
theorem dX1_readOnto_61 : decode cX1_readOnto 61 = .ok (.invokevirtual 40, 3) := dop_182 (zb_X1_readOnto_1 23 rfl) (zb_X1_readOnto_1 24 rfl) (zb_X1_readOnto_1 25 rfl) rfl
theorem dX1_readOnto_64 : decode cX1_readOnto 64 = .ok (.istore_n 3, 1) := dop_62 (zb_X1_readOnto_1 26 rfl)
theorem dX1_readOnto_65 : decode cX1_readOnto 65 = .ok (.iload_n 3, 1) := dop_29 (zb_X1_readOnto_1 27 rfl)
theorem dX1_readOnto_66 : decode cX1_readOnto 66 = .ok (.ifCond .eq 19, 3) := dop_153 (zb_X1_readOnto_1 28 rfl) (zb_X1_readOnto_1 29 rfl) (zb_X1_readOnto_1 30 rfl) rfl
theorem dX1_readOnto_69 : decode cX1_readOnto 69 = .ok (.aload_n 0, 1) := dop_42 (zb_X1_readOnto_1 31 rfl)
theorem dX1_readOnto_70 : decode cX1_readOnto 70 = .ok (.getfield 43, 3) := dop_180 (zb_X1_readOnto_1 32 rfl) (zb_X1_readOnto_1 33 rfl) (zb_X1_readOnto_1 34 rfl) rfl
theorem dX1_readOnto_73 : decode cX1_readOnto 73 = .ok (.aload_n 0, 1) := dop_42 (zb_X1_readOnto_1 35 rfl)
theorem dX1_readOnto_74 : decode cX1_readOnto 74 = .ok (.getfield 9, 3) := dop_180 (zb_X1_readOnto_1 36 rfl) (zb_X1_readOnto_1 37 rfl) (zb_X1_readOnto_1 38 rfl) rfl
theorem ze_X1_readOnto_3 : (dcn cX1_readOnto).drop 117 = zt_X1_readOnto_3 := dw_n (wl := zw_X1_readOnto_2) ze_X1_readOnto_2 rfl
theorem zb_X1_readOnto_2 (j : Nat) {n : Nat} (e : zw_X1_readOnto_2[j]? = some n) : dby cX1_readOnto (77 + j) n := dw_b (t := zt_X1_readOnto_3) ze_X1_readOnto_2 j e
theorem dX1_readOnto_77 : decode cX1_readOnto 77 = .ok (.getfield 46, 3) := dop_180 (zb_X1_readOnto_2 0 rfl) (zb_X1_readOnto_2 1 rfl) (zb_X1_readOnto_2 2 rfl) rfl
theorem dX1_readOnto_80 : decode cX1_readOnto 80 = .ok (.if_icmp .lt 5, 3) := dop_161 (zb_X1_readOnto_2 3 rfl) (zb_X1_readOnto_2 4 rfl) (zb_X1_readOnto_2 5 rfl) rfl
theorem dX1_readOnto_83 : decode cX1_readOnto 83 = .ok (.iload_n 2, 1) := dop_28 (zb_X1_readOnto_2 6 rfl)
theorem dX1_readOnto_84 : decode cX1_readOnto 84 = .ok (.ireturn, 1) := dop_172 (zb_X1_readOnto_2 7 rfl)
theorem dX1_readOnto_85 : decode cX1_readOnto 85 = .ok (.iload_n 3, 1) := dop_29 (zb_X1_readOnto_2 8 rfl)
theorem dX1_readOnto_86 : decode cX1_readOnto 86 = .ok (.ifCond .eq 21, 3) := dop_153 (zb_X1_readOnto_2 9 rfl) (zb_X1_readOnto_2 10 rfl) (zb_X1_readOnto_2 11 rfl) rfl
theorem dX1_readOnto_89 : decode cX1_readOnto 89 = .ok (.aload_n 0, 1) := dop_42 (zb_X1_readOnto_2 12 rfl)
theorem dX1_readOnto_90 : decode cX1_readOnto 90 = .ok (.ldc 51, 2) := dop_18 (zb_X1_readOnto_2 13 rfl) (zb_X1_readOnto_2 14 rfl)
theorem dX1_readOnto_92 : decode cX1_readOnto 92 = .ok (.invokevirtual 27, 3) := dop_182 (zb_X1_readOnto_2 15 rfl) (zb_X1_readOnto_2 16 rfl) (zb_X1_readOnto_2 17 rfl) rfl
theorem dX1_readOnto_95 : decode cX1_readOnto 95 = .ok (.ifCond .ne 6, 3) := dop_154 (zb_X1_readOnto_2 18 rfl) (zb_X1_readOnto_2 19 rfl) (zb_X1_readOnto_2 20 rfl) rfl
theorem dX1_readOnto_98 : decode cX1_readOnto 98 = .ok (.goto 9, 3) := dop_167 (zb_X1_readOnto_2 21 rfl) (zb_X1_readOnto_2 22 rfl) (zb_X1_readOnto_2 23 rfl) rfl
theorem dX1_readOnto_101 : decode cX1_readOnto 101 = .ok (.iinc 2 1, 3) := dop_132 (zb_X1_readOnto_2 24 rfl) (zb_X1_readOnto_2 25 rfl) (zb_X1_readOnto_2 26 rfl) rfl
theorem dX1_readOnto_104 : decode cX1_readOnto 104 = .ok (.goto (-88), 3) := dop_167 (zb_X1_readOnto_2 27 rfl) (zb_X1_readOnto_2 28 rfl) (zb_X1_readOnto_2 29 rfl) rfl
theorem dX1_readOnto_107 : decode cX1_readOnto 107 = .ok (.aload_n 0, 1) := dop_42 (zb_X1_readOnto_2 30 rfl)
theorem dX1_readOnto_108 : decode cX1_readOnto 108 = .ok (.getfield 15, 3) := dop_180 (zb_X1_readOnto_2 31 rfl) (zb_X1_readOnto_2 32 rfl) (zb_X1_readOnto_2 33 rfl) rfl
theorem dX1_readOnto_111 : decode cX1_readOnto 111 = .ok (.iconst (-1), 1) := dop_2 (zb_X1_readOnto_2 34 rfl)
theorem dX1_readOnto_112 : decode cX1_readOnto 112 = .ok (.if_icmp .ne 11, 3) := dop_160 (zb_X1_readOnto_2 35 rfl) (zb_X1_readOnto_2 36 rfl) (zb_X1_readOnto_2 37 rfl) rfl
theorem dX1_readOnto_115 : decode cX1_readOnto 115 = .ok (.aload_n 0, 1) := dop_42 (zb_X1_readOnto_2 38 rfl)
theorem dX1_readOnto_116 : decode cX1_readOnto 116 = .ok (.aload_n 0, 1) := dop_42 (zb_X1_readOnto_2 39 rfl)
theorem zb_X1_readOnto_3 (j : Nat) {n : Nat} (e : zw_X1_readOnto_3[j]? = some n) : dby cX1_readOnto (117 + j) n := dw_b (t := []) ze_X1_readOnto_3 j e
theorem dX1_readOnto_117 : decode cX1_readOnto 117 = .ok (.getfield 43, 3) := dop_180 (zb_X1_readOnto_3 0 rfl) (zb_X1_readOnto_3 1 rfl) (zb_X1_readOnto_3 2 rfl) rfl
theorem dX1_readOnto_120 : decode cX1_readOnto 120 = .ok (.putfield 15, 3) := dop_181 (zb_X1_readOnto_3 3 rfl) (zb_X1_readOnto_3 4 rfl) (zb_X1_readOnto_3 5 rfl) rfl
theorem dX1_readOnto_123 : decode cX1_readOnto 123 = .ok (.iconst (-1), 1) := dop_2 (zb_X1_readOnto_3 6 rfl)
theorem dX1_readOnto_124 : decode cX1_readOnto 124 = .ok (.ireturn, 1) := dop_172 (zb_X1_readOnto_3 7 rfl)
def zw_X1_readWeeks_2 : List Nat := [21, 5, 2, 160, 0, 10, 21, 4, 154, 0, 5, 3, 172, 28, 54, 6, 21, 6, 29, 163, 0, 18, 43, 180, 0, 63, 21, 6, 21, 5, 79, 132, 6, 1, 167, 255, 238, 4, 172]
def zt_X1_readWeeks_2 : List Nat := zw_X1_readWeeks_2 ++ []
def zw_X1_readWeeks_1 : List Nat := [159, 0, 12, 42, 18, 59, 182, 0, 27, 154, 0, 5, 3, 172, 42, 18, 61, 182, 0, 27, 54, 4, 21, 4, 153, 0, 7, 2, 167, 0, 9, 42, 3, 6, 182, 0, 53, 54, 5]
def zt_X1_readWeeks_1 : List Nat := zw_X1_readWeeks_1 ++ zt_X1_readWeeks_2
def zw_X1_readWeeks_0 : List Nat := [42, 3, 16, 31, 182, 0, 53, 61, 28, 2, 160, 0, 5, 3, 172, 42, 18, 57, 182, 0, 27, 153, 0, 13, 42, 28, 16, 31, 182, 0, 53, 167, 0, 4, 28, 62, 29, 2]
def zt_X1_readWeeks_0 : List Nat := zw_X1_readWeeks_0 ++ zt_X1_readWeeks_1
theorem ze_X1_readWeeks_0 : (dcn cX1_readWeeks).drop 0 = zt_X1_readWeeks_0 := by decide +kernel
theorem ze_X1_readWeeks_1 : (dcn cX1_readWeeks).drop 38 = zt_X1_readWeeks_1 := dw_n (wl := zw_X1_readWeeks_0) ze_X1_readWeeks_0 rfl
theorem zb_X1_readWeeks_0 (j : Nat) {n : Nat} (e : zw_X1_readWeeks_0[j]? = some n) : dby cX1_readWeeks (0 + j) n := dw_b (t := zt_X1_readWeeks_1) ze_X1_readWeeks_0 j e
theorem dX1_readWeeks_0 : decode cX1_readWeeks 0 = .ok (.aload_n 0, 1) := dop_42 (zb_X1_readWeeks_0 0 rfl)
theorem dX1_readWeeks_1 : decode cX1_readWeeks 1 = .ok (.iconst 0, 1) := dop_3 (zb_X1_readWeeks_0 1 rfl)
theorem dX1_readWeeks_2 : decode cX1_readWeeks 2 = .ok (.bipush 31, 2) := dop_16 (zb_X1_readWeeks_0 2 rfl) (zb_X1_readWeeks_0 3 rfl) rfl
theorem dX1_readWeeks_4 : decode cX1_readWeeks 4 = .ok (.invokevirtual 53, 3) := dop_182 (zb_X1_readWeeks_0 4 rfl) (zb_X1_readWeeks_0 5 rfl) (zb_X1_readWeeks_0 6 rfl) rfl
theorem dX1_readWeeks_7 : decode cX1_readWeeks 7 = .ok (.istore_n 2, 1) := dop_61 (zb_X1_readWeeks_0 7 rfl)
theorem dX1_readWeeks_8 : decode cX1_readWeeks 8 = .ok (.iload_n 2, 1) := dop_28 (zb_X1_readWeeks_0 8 rfl)
theorem dX1_readWeeks_9 : decode cX1_readWeeks 9 = .ok (.iconst (-1), 1) := dop_2 (zb_X1_readWeeks_0 9 rfl)
theorem dX1_readWeeks_10 : decode cX1_readWeeks 10 = .ok (.if_icmp .ne 5, 3) := dop_160 (zb_X1_readWeeks_0 10 rfl) (zb_X1_readWeeks_0 11 rfl) (zb_X1_readWeeks_0 12 rfl) rfl
theorem dX1_readWeeks_13 : decode cX1_readWeeks 13 = .ok (.iconst 0, 1) := dop_3 (zb_X1_readWeeks_0 13 rfl)
theorem dX1_readWeeks_14 : decode cX1_readWeeks 14 = .ok (.ireturn, 1) := dop_172 (zb_X1_readWeeks_0 14 rfl)
theorem dX1_readWeeks_15 : decode cX1_readWeeks 15 = .ok (.aload_n 0, 1) := dop_42 (zb_X1_readWeeks_0 15 rfl)
theorem dX1_readWeeks_16 : decode cX1_readWeeks 16 = .ok (.ldc 57, 2) := dop_18 (zb_X1_readWeeks_0 16 rfl) (zb_X1_readWeeks_0 17 rfl)
theorem dX1_readWeeks_18 : decode cX1_readWeeks 18 = .ok (.invokevirtual 27, 3) := dop_182 (zb_X1_readWeeks_0 18 rfl) (zb_X1_readWeeks_0 19 rfl) (zb_X1_readWeeks_0 20 rfl) rfl
theorem dX1_readWeeks_21 : decode cX1_readWeeks 21 = .ok (.ifCond .eq 13, 3) := dop_153 (zb_X1_readWeeks_0 21 rfl) (zb_X1_readWeeks_0 22 rfl) (zb_X1_readWeeks_0 23 rfl) rfl
theorem dX1_readWeeks_24 : decode cX1_readWeeks 24 = .ok (.aload_n 0, 1) := dop_42 (zb_X1_readWeeks_0 24 rfl)
theorem dX1_readWeeks_25 : decode cX1_readWeeks 25 = .ok (.iload_n 2, 1) := dop_28 (zb_X1_readWeeks_0 25 rfl)
theorem dX1_readWeeks_26 : decode cX1_readWeeks 26 = .ok (.bipush 31, 2) := dop_16 (zb_X1_readWeeks_0 26 rfl) (zb_X1_readWeeks_0 27 rfl) rfl
theorem dX1_readWeeks_28 : decode cX1_readWeeks 28 = .ok (.invokevirtual 53, 3) := dop_182 (zb_X1_readWeeks_0 28 rfl) (zb_X1_readWeeks_0 29 rfl) (zb_X1_readWeeks_0 30 rfl) rfl
theorem dX1_readWeeks_31 : decode cX1_readWeeks 31 = .ok (.goto 4, 3) := dop_167 (zb_X1_readWeeks_0 31 rfl) (zb_X1_readWeeks_0 32 rfl) (zb_X1_readWeeks_0 33 rfl) rfl
theorem dX1_readWeeks_34 : decode cX1_readWeeks 34 = .ok (.iload_n 2, 1) := dop_28 (zb_X1_readWeeks_0 34 rfl)
theorem dX1_readWeeks_35 : decode cX1_readWeeks 35 = .ok (.istore_n 3, 1) := dop_62 (zb_X1_readWeeks_0 35 rfl)
theorem dX1_readWeeks_36 : decode cX1_readWeeks 36 = .ok (.iload_n 3, 1) := dop_29 (zb_X1_readWeeks_0 36 rfl)
theorem dX1_readWeeks_37 : decode cX1_readWeeks 37 = .ok (.iconst (-1), 1) := dop_2 (zb_X1_readWeeks_0 37 rfl)
theorem ze_X1_readWeeks_2 : (dcn cX1_readWeeks).drop 77 = zt_X1_readWeeks_2 := dw_n (wl := zw_X1_readWeeks_1) ze_X1_readWeeks_1 rfl
theorem zb_X1_readWeeks_1 (j : Nat) {n : Nat} (e : zw_X1_readWeeks_1[j]? = some n) : dby cX1_readWeeks (38 + j) n := dw_b (t := zt_X1_readWeeks_2) ze_X1_readWeeks_1 j e
theorem dX1_readWeeks_38 : decode cX1_readWeeks 38 = .ok (.if_icmp .eq 12, 3) := dop_159 (zb_X1_readWeeks_1 0 rfl) (zb_X1_readWeeks_1 1 rfl) (zb_X1_readWeeks_1 2 rfl) rfl
theorem dX1_readWeeks_41 : decode cX1_readWeeks 41 = .ok (.aload_n 0, 1) := dop_42 (zb_X1_readWeeks_1 3 rfl)
theorem dX1_readWeeks_42 : decode cX1_readWeeks 42 = .ok (.ldc 59, 2) := dop_18 (zb_X1_readWeeks_1 4 rfl) (zb_X1_readWeeks_1 5 rfl)
theorem dX1_readWeeks_44 : decode cX1_readWeeks 44 = .ok (.invokevirtual 27, 3) := dop_182 (zb_X1_readWeeks_1 6 rfl) (zb_X1_readWeeks_1 7 rfl) (zb_X1_readWeeks_1 8 rfl) rfl
theorem dX1_readWeeks_47 : decode cX1_readWeeks 47 = .ok (.ifCond .ne 5, 3) := dop_154 (zb_X1_readWeeks_1 9 rfl) (zb_X1_readWeeks_1 10 rfl) (zb_X1_readWeeks_1 11 rfl) rfl
theorem dX1_readWeeks_50 : decode cX1_readWeeks 50 = .ok (.iconst 0, 1) := dop_3 (zb_X1_readWeeks_1 12 rfl)
theorem dX1_readWeeks_51 : decode cX1_readWeeks 51 = .ok (.ireturn, 1) := dop_172 (zb_X1_readWeeks_1 13 rfl)
theorem dX1_readWeeks_52 : decode cX1_readWeeks 52 = .ok (.aload_n 0, 1) := dop_42 (zb_X1_readWeeks_1 14 rfl)
theorem dX1_readWeeks_53 : decode cX1_readWeeks 53 = .ok (.ldc 61, 2) := dop_18 (zb_X1_readWeeks_1 15 rfl) (zb_X1_readWeeks_1 16 rfl)
theorem dX1_readWeeks_55 : decode cX1_readWeeks 55 = .ok (.invokevirtual 27, 3) := dop_182 (zb_X1_readWeeks_1 17 rfl) (zb_X1_readWeeks_1 18 rfl) (zb_X1_readWeeks_1 19 rfl) rfl
theorem dX1_readWeeks_58 : decode cX1_readWeeks 58 = .ok (.istore 4, 2) := dop_54 (zb_X1_readWeeks_1 20 rfl) (zb_X1_readWeeks_1 21 rfl)
theorem dX1_readWeeks_60 : decode cX1_readWeeks 60 = .ok (.iload 4, 2) := dop_21 (zb_X1_readWeeks_1 22 rfl) (zb_X1_readWeeks_1 23 rfl)
theorem dX1_readWeeks_62 : decode cX1_readWeeks 62 = .ok (.ifCond .eq 7, 3) := dop_153 (zb_X1_readWeeks_1 24 rfl) (zb_X1_readWeeks_1 25 rfl) (zb_X1_readWeeks_1 26 rfl) rfl
theorem dX1_readWeeks_65 : decode cX1_readWeeks 65 = .ok (.iconst (-1), 1) := dop_2 (zb_X1_readWeeks_1 27 rfl)
theorem dX1_readWeeks_66 : decode cX1_readWeeks 66 = .ok (.goto 9, 3) := dop_167 (zb_X1_readWeeks_1 28 rfl) (zb_X1_readWeeks_1 29 rfl) (zb_X1_readWeeks_1 30 rfl) rfl
theorem dX1_readWeeks_69 : decode cX1_readWeeks 69 = .ok (.aload_n 0, 1) := dop_42 (zb_X1_readWeeks_1 31 rfl)
theorem dX1_readWeeks_70 : decode cX1_readWeeks 70 = .ok (.iconst 0, 1) := dop_3 (zb_X1_readWeeks_1 32 rfl)
theorem dX1_readWeeks_71 : decode cX1_readWeeks 71 = .ok (.iconst 3, 1) := dop_6 (zb_X1_readWeeks_1 33 rfl)
theorem dX1_readWeeks_72 : decode cX1_readWeeks 72 = .ok (.invokevirtual 53, 3) := dop_182 (zb_X1_readWeeks_1 34 rfl) (zb_X1_readWeeks_1 35 rfl) (zb_X1_readWeeks_1 36 rfl) rfl
theorem dX1_readWeeks_75 : decode cX1_readWeeks 75 = .ok (.istore 5, 2) := dop_54 (zb_X1_readWeeks_1 37 rfl) (zb_X1_readWeeks_1 38 rfl)
theorem zb_X1_readWeeks_2 (j : Nat) {n : Nat} (e : zw_X1_readWeeks_2[j]? = some n) : dby cX1_readWeeks (77 + j) n := dw_b (t := []) ze_X1_readWeeks_2 j e
theorem dX1_readWeeks_77 : decode cX1_readWeeks 77 = .ok (.iload 5, 2) := dop_21 (zb_X1_readWeeks_2 0 rfl) (zb_X1_readWeeks_2 1 rfl)
theorem dX1_readWeeks_79 : decode cX1_readWeeks 79 = .ok (.iconst (-1), 1) := dop_2 (zb_X1_readWeeks_2 2 rfl)
theorem dX1_readWeeks_80 : decode cX1_readWeeks 80 = .ok (.if_icmp .ne 10, 3) := dop_160 (zb_X1_readWeeks_2 3 rfl) (zb_X1_readWeeks_2 4 rfl) (zb_X1_readWeeks_2 5 rfl) rfl
theorem dX1_readWeeks_83 : decode cX1_readWeeks 83 = .ok (.iload 4, 2) := dop_21 (zb_X1_readWeeks_2 6 rfl) (zb_X1_readWeeks_2 7 rfl)
theorem dX1_readWeeks_85 : decode cX1_readWeeks 85 = .ok (.ifCond .ne 5, 3) := dop_154 (zb_X1_readWeeks_2 8 rfl) (zb_X1_readWeeks_2 9 rfl) (zb_X1_readWeeks_2 10 rfl) rfl
theorem dX1_readWeeks_88 : decode cX1_readWeeks 88 = .ok (.iconst 0, 1) := dop_3 (zb_X1_readWeeks_2 11 rfl)
theorem dX1_readWeeks_89 : decode cX1_readWeeks 89 = .ok (.ireturn, 1) := dop_172 (zb_X1_readWeeks_2 12 rfl)
theorem dX1_readWeeks_90 : decode cX1_readWeeks 90 = .ok (.iload_n 2, 1) := dop_28 (zb_X1_readWeeks_2 13 rfl)
theorem dX1_readWeeks_91 : decode cX1_readWeeks 91 = .ok (.istore 6, 2) := dop_54 (zb_X1_readWeeks_2 14 rfl) (zb_X1_readWeeks_2 15 rfl)
theorem dX1_readWeeks_93 : decode cX1_readWeeks 93 = .ok (.iload 6, 2) := dop_21 (zb_X1_readWeeks_2 16 rfl) (zb_X1_readWeeks_2 17 rfl)
theorem dX1_readWeeks_95 : decode cX1_readWeeks 95 = .ok (.iload_n 3, 1) := dop_29 (zb_X1_readWeeks_2 18 rfl)
theorem dX1_readWeeks_96 : decode cX1_readWeeks 96 = .ok (.if_icmp .gt 18, 3) := dop_163 (zb_X1_readWeeks_2 19 rfl) (zb_X1_readWeeks_2 20 rfl) (zb_X1_readWeeks_2 21 rfl) rfl
theorem dX1_readWeeks_99 : decode cX1_readWeeks 99 = .ok (.aload_n 1, 1) := dop_43 (zb_X1_readWeeks_2 22 rfl)
theorem dX1_readWeeks_100 : decode cX1_readWeeks 100 = .ok (.getfield 63, 3) := dop_180 (zb_X1_readWeeks_2 23 rfl) (zb_X1_readWeeks_2 24 rfl) (zb_X1_readWeeks_2 25 rfl) rfl
theorem dX1_readWeeks_103 : decode cX1_readWeeks 103 = .ok (.iload 6, 2) := dop_21 (zb_X1_readWeeks_2 26 rfl) (zb_X1_readWeeks_2 27 rfl)
theorem dX1_readWeeks_105 : decode cX1_readWeeks 105 = .ok (.iload 5, 2) := dop_21 (zb_X1_readWeeks_2 28 rfl) (zb_X1_readWeeks_2 29 rfl)
theorem dX1_readWeeks_107 : decode cX1_readWeeks 107 = .ok (.iastore, 1) := dop_79 (zb_X1_readWeeks_2 30 rfl)
theorem dX1_readWeeks_108 : decode cX1_readWeeks 108 = .ok (.iinc 6 1, 3) := dop_132 (zb_X1_readWeeks_2 31 rfl) (zb_X1_readWeeks_2 32 rfl) (zb_X1_readWeeks_2 33 rfl) rfl
theorem dX1_readWeeks_111 : decode cX1_readWeeks 111 = .ok (.goto (-18), 3) := dop_167 (zb_X1_readWeeks_2 34 rfl) (zb_X1_readWeeks_2 35 rfl) (zb_X1_readWeeks_2 36 rfl) rfl
theorem dX1_readWeeks_114 : decode cX1_readWeeks 114 = .ok (.iconst 1, 1) := dop_4 (zb_X1_readWeeks_2 37 rfl)
theorem dX1_readWeeks_115 : decode cX1_readWeeks 115 = .ok (.ireturn, 1) := dop_172 (zb_X1_readWeeks_2 38 rfl)
def zw_X1_readShorter_2 : List Nat := [182, 0, 80, 154, 0, 10, 42, 28, 181, 0, 15, 3, 172, 43, 29, 21, 4, 182, 0, 84, 4, 172]
def zt_X1_readShorter_2 : List Nat := zw_X1_readShorter_2 ++ []
def zw_X1_readShorter_1 : List Nat := [182, 0, 72, 29, 160, 0, 5, 3, 172, 42, 3, 6, 182, 0, 53, 54, 4, 21, 4, 2, 160, 0, 5, 3, 172, 43, 29, 21, 4, 182, 0, 76, 153, 0, 5, 4, 172, 43]
def zt_X1_readShorter_1 : List Nat := zw_X1_readShorter_1 ++ zt_X1_readShorter_2
def zw_X1_readShorter_0 : List Nat := [42, 180, 0, 43, 61, 42, 18, 69, 182, 0, 27, 153, 0, 12, 42, 3, 6, 182, 0, 53, 167, 0, 4, 2, 62, 29, 2, 159, 0, 20, 42, 18, 70, 182, 0, 27, 153, 0, 11, 42]
def zt_X1_readShorter_0 : List Nat := zw_X1_readShorter_0 ++ zt_X1_readShorter_1
theorem ze_X1_readShorter_0 : (dcn cX1_readShorter).drop 0 = zt_X1_readShorter_0 := by decide +kernel
theorem ze_X1_readShorter_1 : (dcn cX1_readShorter).drop 40 = zt_X1_readShorter_1 := dw_n (wl := zw_X1_readShorter_0) ze_X1_readShorter_0 rfl
theorem zb_X1_readShorter_0 (j : Nat) {n : Nat} (e : zw_X1_readShorter_0[j]? = some n) : dby cX1_readShorter (0 + j) n := dw_b (t := zt_X1_readShorter_1) ze_X1_readShorter_0 j e
theorem dX1_readShorter_0 : decode cX1_readShorter 0 = .ok (.aload_n 0, 1) := dop_42 (zb_X1_readShorter_0 0 rfl)
theorem dX1_readShorter_1 : decode cX1_readShorter 1 = .ok (.getfield 43, 3) := dop_180 (zb_X1_readShorter_0 1 rfl) (zb_X1_readShorter_0 2 rfl) (zb_X1_readShorter_0 3 rfl) rfl
theorem dX1_readShorter_4 : decode cX1_readShorter 4 = .ok (.istore_n 2, 1) := dop_61 (zb_X1_readShorter_0 4 rfl)
theorem dX1_readShorter_5 : decode cX1_readShorter 5 = .ok (.aload_n 0, 1) := dop_42 (zb_X1_readShorter_0 5 rfl)
theorem dX1_readShorter_6 : decode cX1_readShorter 6 = .ok (.ldc 69, 2) := dop_18 (zb_X1_readShorter_0 6 rfl) (zb_X1_readShorter_0 7 rfl)
theorem dX1_readShorter_8 : decode cX1_readShorter 8 = .ok (.invokevirtual 27, 3) := dop_182 (zb_X1_readShorter_0 8 rfl) (zb_X1_readShorter_0 9 rfl) (zb_X1_readShorter_0 10 rfl) rfl
theorem dX1_readShorter_11 : decode cX1_readShorter 11 = .ok (.ifCond .eq 12, 3) := dop_153 (zb_X1_readShorter_0 11 rfl) (zb_X1_readShorter_0 12 rfl) (zb_X1_readShorter_0 13 rfl) rfl
theorem dX1_readShorter_14 : decode cX1_readShorter 14 = .ok (.aload_n 0, 1) := dop_42 (zb_X1_readShorter_0 14 rfl)
theorem dX1_readShorter_15 : decode cX1_readShorter 15 = .ok (.iconst 0, 1) := dop_3 (zb_X1_readShorter_0 15 rfl)
theorem dX1_readShorter_16 : decode cX1_readShorter 16 = .ok (.iconst 3, 1) := dop_6 (zb_X1_readShorter_0 16 rfl)
theorem dX1_readShorter_17 : decode cX1_readShorter 17 = .ok (.invokevirtual 53, 3) := dop_182 (zb_X1_readShorter_0 17 rfl) (zb_X1_readShorter_0 18 rfl) (zb_X1_readShorter_0 19 rfl) rfl
theorem dX1_readShorter_20 : decode cX1_readShorter 20 = .ok (.goto 4, 3) := dop_167 (zb_X1_readShorter_0 20 rfl) (zb_X1_readShorter_0 21 rfl) (zb_X1_readShorter_0 22 rfl) rfl
theorem dX1_readShorter_23 : decode cX1_readShorter 23 = .ok (.iconst (-1), 1) := dop_2 (zb_X1_readShorter_0 23 rfl)
theorem dX1_readShorter_24 : decode cX1_readShorter 24 = .ok (.istore_n 3, 1) := dop_62 (zb_X1_readShorter_0 24 rfl)
theorem dX1_readShorter_25 : decode cX1_readShorter 25 = .ok (.iload_n 3, 1) := dop_29 (zb_X1_readShorter_0 25 rfl)
theorem dX1_readShorter_26 : decode cX1_readShorter 26 = .ok (.iconst (-1), 1) := dop_2 (zb_X1_readShorter_0 26 rfl)
theorem dX1_readShorter_27 : decode cX1_readShorter 27 = .ok (.if_icmp .eq 20, 3) := dop_159 (zb_X1_readShorter_0 27 rfl) (zb_X1_readShorter_0 28 rfl) (zb_X1_readShorter_0 29 rfl) rfl
theorem dX1_readShorter_30 : decode cX1_readShorter 30 = .ok (.aload_n 0, 1) := dop_42 (zb_X1_readShorter_0 30 rfl)
theorem dX1_readShorter_31 : decode cX1_readShorter 31 = .ok (.ldc 70, 2) := dop_18 (zb_X1_readShorter_0 31 rfl) (zb_X1_readShorter_0 32 rfl)
theorem dX1_readShorter_33 : decode cX1_readShorter 33 = .ok (.invokevirtual 27, 3) := dop_182 (zb_X1_readShorter_0 33 rfl) (zb_X1_readShorter_0 34 rfl) (zb_X1_readShorter_0 35 rfl) rfl
theorem dX1_readShorter_36 : decode cX1_readShorter 36 = .ok (.ifCond .eq 11, 3) := dop_153 (zb_X1_readShorter_0 36 rfl) (zb_X1_readShorter_0 37 rfl) (zb_X1_readShorter_0 38 rfl) rfl
theorem dX1_readShorter_39 : decode cX1_readShorter 39 = .ok (.aload_n 0, 1) := dop_42 (zb_X1_readShorter_0 39 rfl)
theorem ze_X1_readShorter_2 : (dcn cX1_readShorter).drop 78 = zt_X1_readShorter_2 := dw_n (wl := zw_X1_readShorter_1) ze_X1_readShorter_1 rfl
theorem zb_X1_readShorter_1 (j : Nat) {n : Nat} (e : zw_X1_readShorter_1[j]? = some n) : dby cX1_readShorter (40 + j) n := dw_b (t := zt_X1_readShorter_2) ze_X1_readShorter_1 j e
theorem dX1_readShorter_40 : decode cX1_readShorter 40 = .ok (.invokevirtual 72, 3) := dop_182 (zb_X1_readShorter_1 0 rfl) (zb_X1_readShorter_1 1 rfl) (zb_X1_readShorter_1 2 rfl) rfl
theorem dX1_readShorter_43 : decode cX1_readShorter 43 = .ok (.iload_n 3, 1) := dop_29 (zb_X1_readShorter_1 3 rfl)
theorem dX1_readShorter_44 : decode cX1_readShorter 44 = .ok (.if_icmp .ne 5, 3) := dop_160 (zb_X1_readShorter_1 4 rfl) (zb_X1_readShorter_1 5 rfl) (zb_X1_readShorter_1 6 rfl) rfl
theorem dX1_readShorter_47 : decode cX1_readShorter 47 = .ok (.iconst 0, 1) := dop_3 (zb_X1_readShorter_1 7 rfl)
theorem dX1_readShorter_48 : decode cX1_readShorter 48 = .ok (.ireturn, 1) := dop_172 (zb_X1_readShorter_1 8 rfl)
theorem dX1_readShorter_49 : decode cX1_readShorter 49 = .ok (.aload_n 0, 1) := dop_42 (zb_X1_readShorter_1 9 rfl)
theorem dX1_readShorter_50 : decode cX1_readShorter 50 = .ok (.iconst 0, 1) := dop_3 (zb_X1_readShorter_1 10 rfl)
theorem dX1_readShorter_51 : decode cX1_readShorter 51 = .ok (.iconst 3, 1) := dop_6 (zb_X1_readShorter_1 11 rfl)
theorem dX1_readShorter_52 : decode cX1_readShorter 52 = .ok (.invokevirtual 53, 3) := dop_182 (zb_X1_readShorter_1 12 rfl) (zb_X1_readShorter_1 13 rfl) (zb_X1_readShorter_1 14 rfl) rfl
theorem dX1_readShorter_55 : decode cX1_readShorter 55 = .ok (.istore 4, 2) := dop_54 (zb_X1_readShorter_1 15 rfl) (zb_X1_readShorter_1 16 rfl)
theorem dX1_readShorter_57 : decode cX1_readShorter 57 = .ok (.iload 4, 2) := dop_21 (zb_X1_readShorter_1 17 rfl) (zb_X1_readShorter_1 18 rfl)
theorem dX1_readShorter_59 : decode cX1_readShorter 59 = .ok (.iconst (-1), 1) := dop_2 (zb_X1_readShorter_1 19 rfl)
theorem dX1_readShorter_60 : decode cX1_readShorter 60 = .ok (.if_icmp .ne 5, 3) := dop_160 (zb_X1_readShorter_1 20 rfl) (zb_X1_readShorter_1 21 rfl) (zb_X1_readShorter_1 22 rfl) rfl
theorem dX1_readShorter_63 : decode cX1_readShorter 63 = .ok (.iconst 0, 1) := dop_3 (zb_X1_readShorter_1 23 rfl)
theorem dX1_readShorter_64 : decode cX1_readShorter 64 = .ok (.ireturn, 1) := dop_172 (zb_X1_readShorter_1 24 rfl)
theorem dX1_readShorter_65 : decode cX1_readShorter 65 = .ok (.aload_n 1, 1) := dop_43 (zb_X1_readShorter_1 25 rfl)
theorem dX1_readShorter_66 : decode cX1_readShorter 66 = .ok (.iload_n 3, 1) := dop_29 (zb_X1_readShorter_1 26 rfl)
theorem dX1_readShorter_67 : decode cX1_readShorter 67 = .ok (.iload 4, 2) := dop_21 (zb_X1_readShorter_1 27 rfl) (zb_X1_readShorter_1 28 rfl)
theorem dX1_readShorter_69 : decode cX1_readShorter 69 = .ok (.invokevirtual 76, 3) := dop_182 (zb_X1_readShorter_1 29 rfl) (zb_X1_readShorter_1 30 rfl) (zb_X1_readShorter_1 31 rfl) rfl
theorem dX1_readShorter_72 : decode cX1_readShorter 72 = .ok (.ifCond .eq 5, 3) := dop_153 (zb_X1_readShorter_1 32 rfl) (zb_X1_readShorter_1 33 rfl) (zb_X1_readShorter_1 34 rfl) rfl
theorem dX1_readShorter_75 : decode cX1_readShorter 75 = .ok (.iconst 1, 1) := dop_4 (zb_X1_readShorter_1 35 rfl)
theorem dX1_readShorter_76 : decode cX1_readShorter 76 = .ok (.ireturn, 1) := dop_172 (zb_X1_readShorter_1 36 rfl)
theorem dX1_readShorter_77 : decode cX1_readShorter 77 = .ok (.aload_n 1, 1) := dop_43 (zb_X1_readShorter_1 37 rfl)
theorem zb_X1_readShorter_2 (j : Nat) {n : Nat} (e : zw_X1_readShorter_2[j]? = some n) : dby cX1_readShorter (78 + j) n := dw_b (t := []) ze_X1_readShorter_2 j e
theorem dX1_readShorter_78 : decode cX1_readShorter 78 = .ok (.invokevirtual 80, 3) := dop_182 (zb_X1_readShorter_2 0 rfl) (zb_X1_readShorter_2 1 rfl) (zb_X1_readShorter_2 2 rfl) rfl
theorem dX1_readShorter_81 : decode cX1_readShorter 81 = .ok (.ifCond .ne 10, 3) := dop_154 (zb_X1_readShorter_2 3 rfl) (zb_X1_readShorter_2 4 rfl) (zb_X1_readShorter_2 5 rfl) rfl
theorem dX1_readShorter_84 : decode cX1_readShorter 84 = .ok (.aload_n 0, 1) := dop_42 (zb_X1_readShorter_2 6 rfl)
theorem dX1_readShorter_85 : decode cX1_readShorter 85 = .ok (.iload_n 2, 1) := dop_28 (zb_X1_readShorter_2 7 rfl)
theorem dX1_readShorter_86 : decode cX1_readShorter 86 = .ok (.putfield 15, 3) := dop_181 (zb_X1_readShorter_2 8 rfl) (zb_X1_readShorter_2 9 rfl) (zb_X1_readShorter_2 10 rfl) rfl
theorem dX1_readShorter_89 : decode cX1_readShorter 89 = .ok (.iconst 0, 1) := dop_3 (zb_X1_readShorter_2 11 rfl)
theorem dX1_readShorter_90 : decode cX1_readShorter 90 = .ok (.ireturn, 1) := dop_172 (zb_X1_readShorter_2 12 rfl)
theorem dX1_readShorter_91 : decode cX1_readShorter 91 = .ok (.aload_n 1, 1) := dop_43 (zb_X1_readShorter_2 13 rfl)
theorem dX1_readShorter_92 : decode cX1_readShorter 92 = .ok (.iload_n 3, 1) := dop_29 (zb_X1_readShorter_2 14 rfl)
theorem dX1_readShorter_93 : decode cX1_readShorter 93 = .ok (.iload 4, 2) := dop_21 (zb_X1_readShorter_2 15 rfl) (zb_X1_readShorter_2 16 rfl)
theorem dX1_readShorter_95 : decode cX1_readShorter 95 = .ok (.invokevirtual 84, 3) := dop_182 (zb_X1_readShorter_2 17 rfl) (zb_X1_readShorter_2 18 rfl) (zb_X1_readShorter_2 19 rfl) rfl
theorem dX1_readShorter_98 : decode cX1_readShorter 98 = .ok (.iconst 1, 1) := dop_4 (zb_X1_readShorter_2 20 rfl)
theorem dX1_readShorter_99 : decode cX1_readShorter 99 = .ok (.ireturn, 1) := dop_172 (zb_X1_readShorter_2 21 rfl)
def zw_X1_readThing_1 : List Nat := [28, 182, 0, 94, 154, 0, 5, 3, 172, 42, 18, 97, 182, 0, 27, 154, 0, 5, 4, 172, 132, 3, 1, 167, 255, 225, 3, 172]
def zt_X1_readThing_1 : List Nat := zw_X1_readThing_1 ++ []
def zw_X1_readThing_0 : List Nat := [42, 3, 8, 182, 0, 53, 61, 28, 2, 160, 0, 5, 3, 172, 42, 18, 88, 182, 0, 27, 153, 0, 10, 42, 43, 28, 182, 0, 90, 172, 3, 62, 29, 16, 24, 163, 0, 31, 42, 43]
def zt_X1_readThing_0 : List Nat := zw_X1_readThing_0 ++ zt_X1_readThing_1
theorem ze_X1_readThing_0 : (dcn cX1_readThing).drop 0 = zt_X1_readThing_0 := by decide +kernel
theorem ze_X1_readThing_1 : (dcn cX1_readThing).drop 40 = zt_X1_readThing_1 := dw_n (wl := zw_X1_readThing_0) ze_X1_readThing_0 rfl
theorem zb_X1_readThing_0 (j : Nat) {n : Nat} (e : zw_X1_readThing_0[j]? = some n) : dby cX1_readThing (0 + j) n := dw_b (t := zt_X1_readThing_1) ze_X1_readThing_0 j e
theorem dX1_readThing_0 : decode cX1_readThing 0 = .ok (.aload_n 0, 1) := dop_42 (zb_X1_readThing_0 0 rfl)
theorem dX1_readThing_1 : decode cX1_readThing 1 = .ok (.iconst 0, 1) := dop_3 (zb_X1_readThing_0 1 rfl)
theorem dX1_readThing_2 : decode cX1_readThing 2 = .ok (.iconst 5, 1) := dop_8 (zb_X1_readThing_0 2 rfl)
theorem dX1_readThing_3 : decode cX1_readThing 3 = .ok (.invokevirtual 53, 3) := dop_182 (zb_X1_readThing_0 3 rfl) (zb_X1_readThing_0 4 rfl) (zb_X1_readThing_0 5 rfl) rfl
theorem dX1_readThing_6 : decode cX1_readThing 6 = .ok (.istore_n 2, 1) := dop_61 (zb_X1_readThing_0 6 rfl)
theorem dX1_readThing_7 : decode cX1_readThing 7 = .ok (.iload_n 2, 1) := dop_28 (zb_X1_readThing_0 7 rfl)
theorem dX1_readThing_8 : decode cX1_readThing 8 = .ok (.iconst (-1), 1) := dop_2 (zb_X1_readThing_0 8 rfl)
theorem dX1_readThing_9 : decode cX1_readThing 9 = .ok (.if_icmp .ne 5, 3) := dop_160 (zb_X1_readThing_0 9 rfl) (zb_X1_readThing_0 10 rfl) (zb_X1_readThing_0 11 rfl) rfl
theorem dX1_readThing_12 : decode cX1_readThing 12 = .ok (.iconst 0, 1) := dop_3 (zb_X1_readThing_0 12 rfl)
theorem dX1_readThing_13 : decode cX1_readThing 13 = .ok (.ireturn, 1) := dop_172 (zb_X1_readThing_0 13 rfl)
theorem dX1_readThing_14 : decode cX1_readThing 14 = .ok (.aload_n 0, 1) := dop_42 (zb_X1_readThing_0 14 rfl)
theorem dX1_readThing_15 : decode cX1_readThing 15 = .ok (.ldc 88, 2) := dop_18 (zb_X1_readThing_0 15 rfl) (zb_X1_readThing_0 16 rfl)
theorem dX1_readThing_17 : decode cX1_readThing 17 = .ok (.invokevirtual 27, 3) := dop_182 (zb_X1_readThing_0 17 rfl) (zb_X1_readThing_0 18 rfl) (zb_X1_readThing_0 19 rfl) rfl
theorem dX1_readThing_20 : decode cX1_readThing 20 = .ok (.ifCond .eq 10, 3) := dop_153 (zb_X1_readThing_0 20 rfl) (zb_X1_readThing_0 21 rfl) (zb_X1_readThing_0 22 rfl) rfl
theorem dX1_readThing_23 : decode cX1_readThing 23 = .ok (.aload_n 0, 1) := dop_42 (zb_X1_readThing_0 23 rfl)
theorem dX1_readThing_24 : decode cX1_readThing 24 = .ok (.aload_n 1, 1) := dop_43 (zb_X1_readThing_0 24 rfl)
theorem dX1_readThing_25 : decode cX1_readThing 25 = .ok (.iload_n 2, 1) := dop_28 (zb_X1_readThing_0 25 rfl)
theorem dX1_readThing_26 : decode cX1_readThing 26 = .ok (.invokevirtual 90, 3) := dop_182 (zb_X1_readThing_0 26 rfl) (zb_X1_readThing_0 27 rfl) (zb_X1_readThing_0 28 rfl) rfl
theorem dX1_readThing_29 : decode cX1_readThing 29 = .ok (.ireturn, 1) := dop_172 (zb_X1_readThing_0 29 rfl)
theorem dX1_readThing_30 : decode cX1_readThing 30 = .ok (.iconst 0, 1) := dop_3 (zb_X1_readThing_0 30 rfl)
theorem dX1_readThing_31 : decode cX1_readThing 31 = .ok (.istore_n 3, 1) := dop_62 (zb_X1_readThing_0 31 rfl)
theorem dX1_readThing_32 : decode cX1_readThing 32 = .ok (.iload_n 3, 1) := dop_29 (zb_X1_readThing_0 32 rfl)
theorem dX1_readThing_33 : decode cX1_readThing 33 = .ok (.bipush 24, 2) := dop_16 (zb_X1_readThing_0 33 rfl) (zb_X1_readThing_0 34 rfl) rfl
theorem dX1_readThing_35 : decode cX1_readThing 35 = .ok (.if_icmp .gt 31, 3) := dop_163 (zb_X1_readThing_0 35 rfl) (zb_X1_readThing_0 36 rfl) (zb_X1_readThing_0 37 rfl) rfl
theorem dX1_readThing_38 : decode cX1_readThing 38 = .ok (.aload_n 0, 1) := dop_42 (zb_X1_readThing_0 38 rfl)
theorem dX1_readThing_39 : decode cX1_readThing 39 = .ok (.aload_n 1, 1) := dop_43 (zb_X1_readThing_0 39 rfl)
theorem zb_X1_readThing_1 (j : Nat) {n : Nat} (e : zw_X1_readThing_1[j]? = some n) : dby cX1_readThing (40 + j) n := dw_b (t := []) ze_X1_readThing_1 j e
theorem dX1_readThing_40 : decode cX1_readThing 40 = .ok (.iload_n 2, 1) := dop_28 (zb_X1_readThing_1 0 rfl)
theorem dX1_readThing_41 : decode cX1_readThing 41 = .ok (.invokevirtual 94, 3) := dop_182 (zb_X1_readThing_1 1 rfl) (zb_X1_readThing_1 2 rfl) (zb_X1_readThing_1 3 rfl) rfl
theorem dX1_readThing_44 : decode cX1_readThing 44 = .ok (.ifCond .ne 5, 3) := dop_154 (zb_X1_readThing_1 4 rfl) (zb_X1_readThing_1 5 rfl) (zb_X1_readThing_1 6 rfl) rfl
theorem dX1_readThing_47 : decode cX1_readThing 47 = .ok (.iconst 0, 1) := dop_3 (zb_X1_readThing_1 7 rfl)
theorem dX1_readThing_48 : decode cX1_readThing 48 = .ok (.ireturn, 1) := dop_172 (zb_X1_readThing_1 8 rfl)
theorem dX1_readThing_49 : decode cX1_readThing 49 = .ok (.aload_n 0, 1) := dop_42 (zb_X1_readThing_1 9 rfl)
theorem dX1_readThing_50 : decode cX1_readThing 50 = .ok (.ldc 97, 2) := dop_18 (zb_X1_readThing_1 10 rfl) (zb_X1_readThing_1 11 rfl)
theorem dX1_readThing_52 : decode cX1_readThing 52 = .ok (.invokevirtual 27, 3) := dop_182 (zb_X1_readThing_1 12 rfl) (zb_X1_readThing_1 13 rfl) (zb_X1_readThing_1 14 rfl) rfl
theorem dX1_readThing_55 : decode cX1_readThing 55 = .ok (.ifCond .ne 5, 3) := dop_154 (zb_X1_readThing_1 15 rfl) (zb_X1_readThing_1 16 rfl) (zb_X1_readThing_1 17 rfl) rfl
theorem dX1_readThing_58 : decode cX1_readThing 58 = .ok (.iconst 1, 1) := dop_4 (zb_X1_readThing_1 18 rfl)
theorem dX1_readThing_59 : decode cX1_readThing 59 = .ok (.ireturn, 1) := dop_172 (zb_X1_readThing_1 19 rfl)
theorem dX1_readThing_60 : decode cX1_readThing 60 = .ok (.iinc 3 1, 3) := dop_132 (zb_X1_readThing_1 20 rfl) (zb_X1_readThing_1 21 rfl) (zb_X1_readThing_1 22 rfl) rfl
theorem dX1_readThing_63 : decode cX1_readThing 63 = .ok (.goto (-31), 3) := dop_167 (zb_X1_readThing_1 23 rfl) (zb_X1_readThing_1 24 rfl) (zb_X1_readThing_1 25 rfl) rfl
theorem dX1_readThing_66 : decode cX1_readThing 66 = .ok (.iconst 0, 1) := dop_3 (zb_X1_readThing_1 26 rfl)
theorem dX1_readThing_67 : decode cX1_readThing 67 = .ok (.ireturn, 1) := dop_172 (zb_X1_readThing_1 27 rfl)
def zw_X1_readCut_1 : List Nat := [2, 160, 0, 5, 3, 172, 43, 180, 0, 101, 28, 29, 79, 4, 172]
def zt_X1_readCut_1 : List Nat := zw_X1_readCut_1 ++ []
def zw_X1_readCut_0 : List Nat := [42, 18, 99, 182, 0, 27, 153, 0, 12, 43, 180, 0, 101, 28, 2, 79, 4, 172, 42, 18, 104, 182, 0, 27, 153, 0, 13, 42, 4, 16, 31, 182, 0, 53, 167, 0, 4, 2, 62, 29]
def zt_X1_readCut_0 : List Nat := zw_X1_readCut_0 ++ zt_X1_readCut_1
theorem ze_X1_readCut_0 : (dcn cX1_readCut).drop 0 = zt_X1_readCut_0 := by decide +kernel
theorem ze_X1_readCut_1 : (dcn cX1_readCut).drop 40 = zt_X1_readCut_1 := dw_n (wl := zw_X1_readCut_0) ze_X1_readCut_0 rfl
theorem zb_X1_readCut_0 (j : Nat) {n : Nat} (e : zw_X1_readCut_0[j]? = some n) : dby cX1_readCut (0 + j) n := dw_b (t := zt_X1_readCut_1) ze_X1_readCut_0 j e
theorem dX1_readCut_0 : decode cX1_readCut 0 = .ok (.aload_n 0, 1) := dop_42 (zb_X1_readCut_0 0 rfl)
theorem dX1_readCut_1 : decode cX1_readCut 1 = .ok (.ldc 99, 2) := dop_18 (zb_X1_readCut_0 1 rfl) (zb_X1_readCut_0 2 rfl)
theorem dX1_readCut_3 : decode cX1_readCut 3 = .ok (.invokevirtual 27, 3) := dop_182 (zb_X1_readCut_0 3 rfl) (zb_X1_readCut_0 4 rfl) (zb_X1_readCut_0 5 rfl) rfl
theorem dX1_readCut_6 : decode cX1_readCut 6 = .ok (.ifCond .eq 12, 3) := dop_153 (zb_X1_readCut_0 6 rfl) (zb_X1_readCut_0 7 rfl) (zb_X1_readCut_0 8 rfl) rfl
theorem dX1_readCut_9 : decode cX1_readCut 9 = .ok (.aload_n 1, 1) := dop_43 (zb_X1_readCut_0 9 rfl)
theorem dX1_readCut_10 : decode cX1_readCut 10 = .ok (.getfield 101, 3) := dop_180 (zb_X1_readCut_0 10 rfl) (zb_X1_readCut_0 11 rfl) (zb_X1_readCut_0 12 rfl) rfl
theorem dX1_readCut_13 : decode cX1_readCut 13 = .ok (.iload_n 2, 1) := dop_28 (zb_X1_readCut_0 13 rfl)
theorem dX1_readCut_14 : decode cX1_readCut 14 = .ok (.iconst (-1), 1) := dop_2 (zb_X1_readCut_0 14 rfl)
theorem dX1_readCut_15 : decode cX1_readCut 15 = .ok (.iastore, 1) := dop_79 (zb_X1_readCut_0 15 rfl)
theorem dX1_readCut_16 : decode cX1_readCut 16 = .ok (.iconst 1, 1) := dop_4 (zb_X1_readCut_0 16 rfl)
theorem dX1_readCut_17 : decode cX1_readCut 17 = .ok (.ireturn, 1) := dop_172 (zb_X1_readCut_0 17 rfl)
theorem dX1_readCut_18 : decode cX1_readCut 18 = .ok (.aload_n 0, 1) := dop_42 (zb_X1_readCut_0 18 rfl)
theorem dX1_readCut_19 : decode cX1_readCut 19 = .ok (.ldc 104, 2) := dop_18 (zb_X1_readCut_0 19 rfl) (zb_X1_readCut_0 20 rfl)
theorem dX1_readCut_21 : decode cX1_readCut 21 = .ok (.invokevirtual 27, 3) := dop_182 (zb_X1_readCut_0 21 rfl) (zb_X1_readCut_0 22 rfl) (zb_X1_readCut_0 23 rfl) rfl
theorem dX1_readCut_24 : decode cX1_readCut 24 = .ok (.ifCond .eq 13, 3) := dop_153 (zb_X1_readCut_0 24 rfl) (zb_X1_readCut_0 25 rfl) (zb_X1_readCut_0 26 rfl) rfl
theorem dX1_readCut_27 : decode cX1_readCut 27 = .ok (.aload_n 0, 1) := dop_42 (zb_X1_readCut_0 27 rfl)
theorem dX1_readCut_28 : decode cX1_readCut 28 = .ok (.iconst 1, 1) := dop_4 (zb_X1_readCut_0 28 rfl)
theorem dX1_readCut_29 : decode cX1_readCut 29 = .ok (.bipush 31, 2) := dop_16 (zb_X1_readCut_0 29 rfl) (zb_X1_readCut_0 30 rfl) rfl
theorem dX1_readCut_31 : decode cX1_readCut 31 = .ok (.invokevirtual 53, 3) := dop_182 (zb_X1_readCut_0 31 rfl) (zb_X1_readCut_0 32 rfl) (zb_X1_readCut_0 33 rfl) rfl
theorem dX1_readCut_34 : decode cX1_readCut 34 = .ok (.goto 4, 3) := dop_167 (zb_X1_readCut_0 34 rfl) (zb_X1_readCut_0 35 rfl) (zb_X1_readCut_0 36 rfl) rfl
theorem dX1_readCut_37 : decode cX1_readCut 37 = .ok (.iconst (-1), 1) := dop_2 (zb_X1_readCut_0 37 rfl)
theorem dX1_readCut_38 : decode cX1_readCut 38 = .ok (.istore_n 3, 1) := dop_62 (zb_X1_readCut_0 38 rfl)
theorem dX1_readCut_39 : decode cX1_readCut 39 = .ok (.iload_n 3, 1) := dop_29 (zb_X1_readCut_0 39 rfl)
theorem zb_X1_readCut_1 (j : Nat) {n : Nat} (e : zw_X1_readCut_1[j]? = some n) : dby cX1_readCut (40 + j) n := dw_b (t := []) ze_X1_readCut_1 j e
theorem dX1_readCut_40 : decode cX1_readCut 40 = .ok (.iconst (-1), 1) := dop_2 (zb_X1_readCut_1 0 rfl)
theorem dX1_readCut_41 : decode cX1_readCut 41 = .ok (.if_icmp .ne 5, 3) := dop_160 (zb_X1_readCut_1 1 rfl) (zb_X1_readCut_1 2 rfl) (zb_X1_readCut_1 3 rfl) rfl
theorem dX1_readCut_44 : decode cX1_readCut 44 = .ok (.iconst 0, 1) := dop_3 (zb_X1_readCut_1 4 rfl)
theorem dX1_readCut_45 : decode cX1_readCut 45 = .ok (.ireturn, 1) := dop_172 (zb_X1_readCut_1 5 rfl)
theorem dX1_readCut_46 : decode cX1_readCut 46 = .ok (.aload_n 1, 1) := dop_43 (zb_X1_readCut_1 6 rfl)
theorem dX1_readCut_47 : decode cX1_readCut 47 = .ok (.getfield 101, 3) := dop_180 (zb_X1_readCut_1 7 rfl) (zb_X1_readCut_1 8 rfl) (zb_X1_readCut_1 9 rfl) rfl
theorem dX1_readCut_50 : decode cX1_readCut 50 = .ok (.iload_n 2, 1) := dop_28 (zb_X1_readCut_1 10 rfl)
theorem dX1_readCut_51 : decode cX1_readCut 51 = .ok (.iload_n 3, 1) := dop_29 (zb_X1_readCut_1 11 rfl)
theorem dX1_readCut_52 : decode cX1_readCut 52 = .ok (.iastore, 1) := dop_79 (zb_X1_readCut_1 12 rfl)
theorem dX1_readCut_53 : decode cX1_readCut 53 = .ok (.iconst 1, 1) := dop_4 (zb_X1_readCut_1 13 rfl)
theorem dX1_readCut_54 : decode cX1_readCut 54 = .ok (.ireturn, 1) := dop_172 (zb_X1_readCut_1 14 rfl)
def zw_X1_readMeasure_2 : List Nat := [182, 0, 27, 153, 0, 9, 5, 54, 5, 167, 0, 10, 42, 18, 115, 182, 0, 27, 87, 43, 28, 29, 21, 4, 21, 5, 182, 0, 117, 4, 172]
def zt_X1_readMeasure_2 : List Nat := zw_X1_readMeasure_2 ++ []
def zw_X1_readMeasure_1 : List Nat := [3, 172, 42, 4, 16, 99, 182, 0, 53, 54, 4, 21, 4, 2, 160, 0, 5, 3, 172, 3, 54, 5, 42, 18, 111, 182, 0, 27, 153, 0, 9, 4, 54, 5, 167, 0, 25, 42, 18, 113]
def zt_X1_readMeasure_1 : List Nat := zw_X1_readMeasure_1 ++ zt_X1_readMeasure_2
def zw_X1_readMeasure_0 : List Nat := [43, 182, 0, 106, 153, 0, 12, 42, 18, 104, 182, 0, 27, 154, 0, 5, 3, 172, 42, 3, 16, 31, 182, 0, 53, 62, 29, 2, 159, 0, 12, 42, 18, 109, 182, 0, 27, 154, 0, 5]
def zt_X1_readMeasure_0 : List Nat := zw_X1_readMeasure_0 ++ zt_X1_readMeasure_1
theorem ze_X1_readMeasure_0 : (dcn cX1_readMeasure).drop 0 = zt_X1_readMeasure_0 := by decide +kernel
theorem ze_X1_readMeasure_1 : (dcn cX1_readMeasure).drop 40 = zt_X1_readMeasure_1 := dw_n (wl := zw_X1_readMeasure_0) ze_X1_readMeasure_0 rfl
theorem zb_X1_readMeasure_0 (j : Nat) {n : Nat} (e : zw_X1_readMeasure_0[j]? = some n) : dby cX1_readMeasure (0 + j) n := dw_b (t := zt_X1_readMeasure_1) ze_X1_readMeasure_0 j e
theorem dX1_readMeasure_0 : decode cX1_readMeasure 0 = .ok (.aload_n 1, 1) := dop_43 (zb_X1_readMeasure_0 0 rfl)
theorem dX1_readMeasure_1 : decode cX1_readMeasure 1 = .ok (.invokevirtual 106, 3) := dop_182 (zb_X1_readMeasure_0 1 rfl) (zb_X1_readMeasure_0 2 rfl) (zb_X1_readMeasure_0 3 rfl) rfl
theorem dX1_readMeasure_4 : decode cX1_readMeasure 4 = .ok (.ifCond .eq 12, 3) := dop_153 (zb_X1_readMeasure_0 4 rfl) (zb_X1_readMeasure_0 5 rfl) (zb_X1_readMeasure_0 6 rfl) rfl
theorem dX1_readMeasure_7 : decode cX1_readMeasure 7 = .ok (.aload_n 0, 1) := dop_42 (zb_X1_readMeasure_0 7 rfl)
theorem dX1_readMeasure_8 : decode cX1_readMeasure 8 = .ok (.ldc 104, 2) := dop_18 (zb_X1_readMeasure_0 8 rfl) (zb_X1_readMeasure_0 9 rfl)
theorem dX1_readMeasure_10 : decode cX1_readMeasure 10 = .ok (.invokevirtual 27, 3) := dop_182 (zb_X1_readMeasure_0 10 rfl) (zb_X1_readMeasure_0 11 rfl) (zb_X1_readMeasure_0 12 rfl) rfl
theorem dX1_readMeasure_13 : decode cX1_readMeasure 13 = .ok (.ifCond .ne 5, 3) := dop_154 (zb_X1_readMeasure_0 13 rfl) (zb_X1_readMeasure_0 14 rfl) (zb_X1_readMeasure_0 15 rfl) rfl
theorem dX1_readMeasure_16 : decode cX1_readMeasure 16 = .ok (.iconst 0, 1) := dop_3 (zb_X1_readMeasure_0 16 rfl)
theorem dX1_readMeasure_17 : decode cX1_readMeasure 17 = .ok (.ireturn, 1) := dop_172 (zb_X1_readMeasure_0 17 rfl)
theorem dX1_readMeasure_18 : decode cX1_readMeasure 18 = .ok (.aload_n 0, 1) := dop_42 (zb_X1_readMeasure_0 18 rfl)
theorem dX1_readMeasure_19 : decode cX1_readMeasure 19 = .ok (.iconst 0, 1) := dop_3 (zb_X1_readMeasure_0 19 rfl)
theorem dX1_readMeasure_20 : decode cX1_readMeasure 20 = .ok (.bipush 31, 2) := dop_16 (zb_X1_readMeasure_0 20 rfl) (zb_X1_readMeasure_0 21 rfl) rfl
theorem dX1_readMeasure_22 : decode cX1_readMeasure 22 = .ok (.invokevirtual 53, 3) := dop_182 (zb_X1_readMeasure_0 22 rfl) (zb_X1_readMeasure_0 23 rfl) (zb_X1_readMeasure_0 24 rfl) rfl
theorem dX1_readMeasure_25 : decode cX1_readMeasure 25 = .ok (.istore_n 3, 1) := dop_62 (zb_X1_readMeasure_0 25 rfl)
theorem dX1_readMeasure_26 : decode cX1_readMeasure 26 = .ok (.iload_n 3, 1) := dop_29 (zb_X1_readMeasure_0 26 rfl)
theorem dX1_readMeasure_27 : decode cX1_readMeasure 27 = .ok (.iconst (-1), 1) := dop_2 (zb_X1_readMeasure_0 27 rfl)
theorem dX1_readMeasure_28 : decode cX1_readMeasure 28 = .ok (.if_icmp .eq 12, 3) := dop_159 (zb_X1_readMeasure_0 28 rfl) (zb_X1_readMeasure_0 29 rfl) (zb_X1_readMeasure_0 30 rfl) rfl
theorem dX1_readMeasure_31 : decode cX1_readMeasure 31 = .ok (.aload_n 0, 1) := dop_42 (zb_X1_readMeasure_0 31 rfl)
theorem dX1_readMeasure_32 : decode cX1_readMeasure 32 = .ok (.ldc 109, 2) := dop_18 (zb_X1_readMeasure_0 32 rfl) (zb_X1_readMeasure_0 33 rfl)
theorem dX1_readMeasure_34 : decode cX1_readMeasure 34 = .ok (.invokevirtual 27, 3) := dop_182 (zb_X1_readMeasure_0 34 rfl) (zb_X1_readMeasure_0 35 rfl) (zb_X1_readMeasure_0 36 rfl) rfl
theorem dX1_readMeasure_37 : decode cX1_readMeasure 37 = .ok (.ifCond .ne 5, 3) := dop_154 (zb_X1_readMeasure_0 37 rfl) (zb_X1_readMeasure_0 38 rfl) (zb_X1_readMeasure_0 39 rfl) rfl
theorem ze_X1_readMeasure_2 : (dcn cX1_readMeasure).drop 80 = zt_X1_readMeasure_2 := dw_n (wl := zw_X1_readMeasure_1) ze_X1_readMeasure_1 rfl
theorem zb_X1_readMeasure_1 (j : Nat) {n : Nat} (e : zw_X1_readMeasure_1[j]? = some n) : dby cX1_readMeasure (40 + j) n := dw_b (t := zt_X1_readMeasure_2) ze_X1_readMeasure_1 j e
theorem dX1_readMeasure_40 : decode cX1_readMeasure 40 = .ok (.iconst 0, 1) := dop_3 (zb_X1_readMeasure_1 0 rfl)
theorem dX1_readMeasure_41 : decode cX1_readMeasure 41 = .ok (.ireturn, 1) := dop_172 (zb_X1_readMeasure_1 1 rfl)
theorem dX1_readMeasure_42 : decode cX1_readMeasure 42 = .ok (.aload_n 0, 1) := dop_42 (zb_X1_readMeasure_1 2 rfl)
theorem dX1_readMeasure_43 : decode cX1_readMeasure 43 = .ok (.iconst 1, 1) := dop_4 (zb_X1_readMeasure_1 3 rfl)
theorem dX1_readMeasure_44 : decode cX1_readMeasure 44 = .ok (.bipush 99, 2) := dop_16 (zb_X1_readMeasure_1 4 rfl) (zb_X1_readMeasure_1 5 rfl) rfl
theorem dX1_readMeasure_46 : decode cX1_readMeasure 46 = .ok (.invokevirtual 53, 3) := dop_182 (zb_X1_readMeasure_1 6 rfl) (zb_X1_readMeasure_1 7 rfl) (zb_X1_readMeasure_1 8 rfl) rfl
theorem dX1_readMeasure_49 : decode cX1_readMeasure 49 = .ok (.istore 4, 2) := dop_54 (zb_X1_readMeasure_1 9 rfl) (zb_X1_readMeasure_1 10 rfl)
theorem dX1_readMeasure_51 : decode cX1_readMeasure 51 = .ok (.iload 4, 2) := dop_21 (zb_X1_readMeasure_1 11 rfl) (zb_X1_readMeasure_1 12 rfl)
theorem dX1_readMeasure_53 : decode cX1_readMeasure 53 = .ok (.iconst (-1), 1) := dop_2 (zb_X1_readMeasure_1 13 rfl)
theorem dX1_readMeasure_54 : decode cX1_readMeasure 54 = .ok (.if_icmp .ne 5, 3) := dop_160 (zb_X1_readMeasure_1 14 rfl) (zb_X1_readMeasure_1 15 rfl) (zb_X1_readMeasure_1 16 rfl) rfl
theorem dX1_readMeasure_57 : decode cX1_readMeasure 57 = .ok (.iconst 0, 1) := dop_3 (zb_X1_readMeasure_1 17 rfl)
theorem dX1_readMeasure_58 : decode cX1_readMeasure 58 = .ok (.ireturn, 1) := dop_172 (zb_X1_readMeasure_1 18 rfl)
theorem dX1_readMeasure_59 : decode cX1_readMeasure 59 = .ok (.iconst 0, 1) := dop_3 (zb_X1_readMeasure_1 19 rfl)
theorem dX1_readMeasure_60 : decode cX1_readMeasure 60 = .ok (.istore 5, 2) := dop_54 (zb_X1_readMeasure_1 20 rfl) (zb_X1_readMeasure_1 21 rfl)
theorem dX1_readMeasure_62 : decode cX1_readMeasure 62 = .ok (.aload_n 0, 1) := dop_42 (zb_X1_readMeasure_1 22 rfl)
theorem dX1_readMeasure_63 : decode cX1_readMeasure 63 = .ok (.ldc 111, 2) := dop_18 (zb_X1_readMeasure_1 23 rfl) (zb_X1_readMeasure_1 24 rfl)
theorem dX1_readMeasure_65 : decode cX1_readMeasure 65 = .ok (.invokevirtual 27, 3) := dop_182 (zb_X1_readMeasure_1 25 rfl) (zb_X1_readMeasure_1 26 rfl) (zb_X1_readMeasure_1 27 rfl) rfl
theorem dX1_readMeasure_68 : decode cX1_readMeasure 68 = .ok (.ifCond .eq 9, 3) := dop_153 (zb_X1_readMeasure_1 28 rfl) (zb_X1_readMeasure_1 29 rfl) (zb_X1_readMeasure_1 30 rfl) rfl
theorem dX1_readMeasure_71 : decode cX1_readMeasure 71 = .ok (.iconst 1, 1) := dop_4 (zb_X1_readMeasure_1 31 rfl)
theorem dX1_readMeasure_72 : decode cX1_readMeasure 72 = .ok (.istore 5, 2) := dop_54 (zb_X1_readMeasure_1 32 rfl) (zb_X1_readMeasure_1 33 rfl)
theorem dX1_readMeasure_74 : decode cX1_readMeasure 74 = .ok (.goto 25, 3) := dop_167 (zb_X1_readMeasure_1 34 rfl) (zb_X1_readMeasure_1 35 rfl) (zb_X1_readMeasure_1 36 rfl) rfl
theorem dX1_readMeasure_77 : decode cX1_readMeasure 77 = .ok (.aload_n 0, 1) := dop_42 (zb_X1_readMeasure_1 37 rfl)
theorem dX1_readMeasure_78 : decode cX1_readMeasure 78 = .ok (.ldc 113, 2) := dop_18 (zb_X1_readMeasure_1 38 rfl) (zb_X1_readMeasure_1 39 rfl)
theorem zb_X1_readMeasure_2 (j : Nat) {n : Nat} (e : zw_X1_readMeasure_2[j]? = some n) : dby cX1_readMeasure (80 + j) n := dw_b (t := []) ze_X1_readMeasure_2 j e
theorem dX1_readMeasure_80 : decode cX1_readMeasure 80 = .ok (.invokevirtual 27, 3) := dop_182 (zb_X1_readMeasure_2 0 rfl) (zb_X1_readMeasure_2 1 rfl) (zb_X1_readMeasure_2 2 rfl) rfl
theorem dX1_readMeasure_83 : decode cX1_readMeasure 83 = .ok (.ifCond .eq 9, 3) := dop_153 (zb_X1_readMeasure_2 3 rfl) (zb_X1_readMeasure_2 4 rfl) (zb_X1_readMeasure_2 5 rfl) rfl
theorem dX1_readMeasure_86 : decode cX1_readMeasure 86 = .ok (.iconst 2, 1) := dop_5 (zb_X1_readMeasure_2 6 rfl)
theorem dX1_readMeasure_87 : decode cX1_readMeasure 87 = .ok (.istore 5, 2) := dop_54 (zb_X1_readMeasure_2 7 rfl) (zb_X1_readMeasure_2 8 rfl)
theorem dX1_readMeasure_89 : decode cX1_readMeasure 89 = .ok (.goto 10, 3) := dop_167 (zb_X1_readMeasure_2 9 rfl) (zb_X1_readMeasure_2 10 rfl) (zb_X1_readMeasure_2 11 rfl) rfl
theorem dX1_readMeasure_92 : decode cX1_readMeasure 92 = .ok (.aload_n 0, 1) := dop_42 (zb_X1_readMeasure_2 12 rfl)
theorem dX1_readMeasure_93 : decode cX1_readMeasure 93 = .ok (.ldc 115, 2) := dop_18 (zb_X1_readMeasure_2 13 rfl) (zb_X1_readMeasure_2 14 rfl)
theorem dX1_readMeasure_95 : decode cX1_readMeasure 95 = .ok (.invokevirtual 27, 3) := dop_182 (zb_X1_readMeasure_2 15 rfl) (zb_X1_readMeasure_2 16 rfl) (zb_X1_readMeasure_2 17 rfl) rfl
theorem dX1_readMeasure_98 : decode cX1_readMeasure 98 = .ok (.pop, 1) := dop_87 (zb_X1_readMeasure_2 18 rfl)
theorem dX1_readMeasure_99 : decode cX1_readMeasure 99 = .ok (.aload_n 1, 1) := dop_43 (zb_X1_readMeasure_2 19 rfl)
theorem dX1_readMeasure_100 : decode cX1_readMeasure 100 = .ok (.iload_n 2, 1) := dop_28 (zb_X1_readMeasure_2 20 rfl)
theorem dX1_readMeasure_101 : decode cX1_readMeasure 101 = .ok (.iload_n 3, 1) := dop_29 (zb_X1_readMeasure_2 21 rfl)
theorem dX1_readMeasure_102 : decode cX1_readMeasure 102 = .ok (.iload 4, 2) := dop_21 (zb_X1_readMeasure_2 22 rfl) (zb_X1_readMeasure_2 23 rfl)
theorem dX1_readMeasure_104 : decode cX1_readMeasure 104 = .ok (.iload 5, 2) := dop_21 (zb_X1_readMeasure_2 24 rfl) (zb_X1_readMeasure_2 25 rfl)
theorem dX1_readMeasure_106 : decode cX1_readMeasure 106 = .ok (.invokevirtual 117, 3) := dop_182 (zb_X1_readMeasure_2 26 rfl) (zb_X1_readMeasure_2 27 rfl) (zb_X1_readMeasure_2 28 rfl) rfl
theorem dX1_readMeasure_109 : decode cX1_readMeasure 109 = .ok (.iconst 1, 1) := dop_4 (zb_X1_readMeasure_2 29 rfl)
theorem dX1_readMeasure_110 : decode cX1_readMeasure 110 = .ok (.ireturn, 1) := dop_172 (zb_X1_readMeasure_2 30 rfl)
def zw_X1_take_0 : List Nat := [42, 43, 182, 0, 121, 154, 0, 5, 3, 172, 42, 182, 0, 22, 4, 172]
def zt_X1_take_0 : List Nat := zw_X1_take_0 ++ []
theorem ze_X1_take_0 : (dcn cX1_take).drop 0 = zt_X1_take_0 := by decide +kernel
theorem zb_X1_take_0 (j : Nat) {n : Nat} (e : zw_X1_take_0[j]? = some n) : dby cX1_take (0 + j) n := dw_b (t := []) ze_X1_take_0 j e
theorem dX1_take_0 : decode cX1_take 0 = .ok (.aload_n 0, 1) := dop_42 (zb_X1_take_0 0 rfl)
theorem dX1_take_1 : decode cX1_take 1 = .ok (.aload_n 1, 1) := dop_43 (zb_X1_take_0 1 rfl)
theorem dX1_take_2 : decode cX1_take 2 = .ok (.invokevirtual 121, 3) := dop_182 (zb_X1_take_0 2 rfl) (zb_X1_take_0 3 rfl) (zb_X1_take_0 4 rfl) rfl
theorem dX1_take_5 : decode cX1_take 5 = .ok (.ifCond .ne 5, 3) := dop_154 (zb_X1_take_0 5 rfl) (zb_X1_take_0 6 rfl) (zb_X1_take_0 7 rfl) rfl
theorem dX1_take_8 : decode cX1_take 8 = .ok (.iconst 0, 1) := dop_3 (zb_X1_take_0 8 rfl)
theorem dX1_take_9 : decode cX1_take 9 = .ok (.ireturn, 1) := dop_172 (zb_X1_take_0 9 rfl)
theorem dX1_take_10 : decode cX1_take 10 = .ok (.aload_n 0, 1) := dop_42 (zb_X1_take_0 10 rfl)
theorem dX1_take_11 : decode cX1_take 11 = .ok (.invokevirtual 22, 3) := dop_182 (zb_X1_take_0 11 rfl) (zb_X1_take_0 12 rfl) (zb_X1_take_0 13 rfl) rfl
theorem dX1_take_14 : decode cX1_take 14 = .ok (.iconst 1, 1) := dop_4 (zb_X1_take_0 14 rfl)
theorem dX1_take_15 : decode cX1_take 15 = .ok (.ireturn, 1) := dop_172 (zb_X1_take_0 15 rfl)
def zw_X1_stands_1 : List Nat := [96, 46, 43, 28, 182, 0, 131, 159, 0, 5, 3, 172, 132, 2, 1, 167, 255, 221, 4, 172]
def zt_X1_stands_1 : List Nat := zw_X1_stands_1 ++ []
def zw_X1_stands_0 : List Nat := [42, 180, 0, 19, 42, 180, 0, 43, 100, 43, 182, 0, 124, 159, 0, 5, 3, 172, 3, 61, 28, 43, 182, 0, 124, 162, 0, 33, 42, 180, 0, 9, 180, 0, 128, 42, 180, 0, 43, 28]
def zt_X1_stands_0 : List Nat := zw_X1_stands_0 ++ zt_X1_stands_1
theorem ze_X1_stands_0 : (dcn cX1_stands).drop 0 = zt_X1_stands_0 := by decide +kernel
theorem ze_X1_stands_1 : (dcn cX1_stands).drop 40 = zt_X1_stands_1 := dw_n (wl := zw_X1_stands_0) ze_X1_stands_0 rfl
theorem zb_X1_stands_0 (j : Nat) {n : Nat} (e : zw_X1_stands_0[j]? = some n) : dby cX1_stands (0 + j) n := dw_b (t := zt_X1_stands_1) ze_X1_stands_0 j e
theorem dX1_stands_0 : decode cX1_stands 0 = .ok (.aload_n 0, 1) := dop_42 (zb_X1_stands_0 0 rfl)
theorem dX1_stands_1 : decode cX1_stands 1 = .ok (.getfield 19, 3) := dop_180 (zb_X1_stands_0 1 rfl) (zb_X1_stands_0 2 rfl) (zb_X1_stands_0 3 rfl) rfl
theorem dX1_stands_4 : decode cX1_stands 4 = .ok (.aload_n 0, 1) := dop_42 (zb_X1_stands_0 4 rfl)
theorem dX1_stands_5 : decode cX1_stands 5 = .ok (.getfield 43, 3) := dop_180 (zb_X1_stands_0 5 rfl) (zb_X1_stands_0 6 rfl) (zb_X1_stands_0 7 rfl) rfl
theorem dX1_stands_8 : decode cX1_stands 8 = .ok (.isub, 1) := dop_100 (zb_X1_stands_0 8 rfl)
theorem dX1_stands_9 : decode cX1_stands 9 = .ok (.aload_n 1, 1) := dop_43 (zb_X1_stands_0 9 rfl)
theorem dX1_stands_10 : decode cX1_stands 10 = .ok (.invokevirtual 124, 3) := dop_182 (zb_X1_stands_0 10 rfl) (zb_X1_stands_0 11 rfl) (zb_X1_stands_0 12 rfl) rfl
theorem dX1_stands_13 : decode cX1_stands 13 = .ok (.if_icmp .eq 5, 3) := dop_159 (zb_X1_stands_0 13 rfl) (zb_X1_stands_0 14 rfl) (zb_X1_stands_0 15 rfl) rfl
theorem dX1_stands_16 : decode cX1_stands 16 = .ok (.iconst 0, 1) := dop_3 (zb_X1_stands_0 16 rfl)
theorem dX1_stands_17 : decode cX1_stands 17 = .ok (.ireturn, 1) := dop_172 (zb_X1_stands_0 17 rfl)
theorem dX1_stands_18 : decode cX1_stands 18 = .ok (.iconst 0, 1) := dop_3 (zb_X1_stands_0 18 rfl)
theorem dX1_stands_19 : decode cX1_stands 19 = .ok (.istore_n 2, 1) := dop_61 (zb_X1_stands_0 19 rfl)
theorem dX1_stands_20 : decode cX1_stands 20 = .ok (.iload_n 2, 1) := dop_28 (zb_X1_stands_0 20 rfl)
theorem dX1_stands_21 : decode cX1_stands 21 = .ok (.aload_n 1, 1) := dop_43 (zb_X1_stands_0 21 rfl)
theorem dX1_stands_22 : decode cX1_stands 22 = .ok (.invokevirtual 124, 3) := dop_182 (zb_X1_stands_0 22 rfl) (zb_X1_stands_0 23 rfl) (zb_X1_stands_0 24 rfl) rfl
theorem dX1_stands_25 : decode cX1_stands 25 = .ok (.if_icmp .ge 33, 3) := dop_162 (zb_X1_stands_0 25 rfl) (zb_X1_stands_0 26 rfl) (zb_X1_stands_0 27 rfl) rfl
theorem dX1_stands_28 : decode cX1_stands 28 = .ok (.aload_n 0, 1) := dop_42 (zb_X1_stands_0 28 rfl)
theorem dX1_stands_29 : decode cX1_stands 29 = .ok (.getfield 9, 3) := dop_180 (zb_X1_stands_0 29 rfl) (zb_X1_stands_0 30 rfl) (zb_X1_stands_0 31 rfl) rfl
theorem dX1_stands_32 : decode cX1_stands 32 = .ok (.getfield 128, 3) := dop_180 (zb_X1_stands_0 32 rfl) (zb_X1_stands_0 33 rfl) (zb_X1_stands_0 34 rfl) rfl
theorem dX1_stands_35 : decode cX1_stands 35 = .ok (.aload_n 0, 1) := dop_42 (zb_X1_stands_0 35 rfl)
theorem dX1_stands_36 : decode cX1_stands 36 = .ok (.getfield 43, 3) := dop_180 (zb_X1_stands_0 36 rfl) (zb_X1_stands_0 37 rfl) (zb_X1_stands_0 38 rfl) rfl
theorem dX1_stands_39 : decode cX1_stands 39 = .ok (.iload_n 2, 1) := dop_28 (zb_X1_stands_0 39 rfl)
theorem zb_X1_stands_1 (j : Nat) {n : Nat} (e : zw_X1_stands_1[j]? = some n) : dby cX1_stands (40 + j) n := dw_b (t := []) ze_X1_stands_1 j e
theorem dX1_stands_40 : decode cX1_stands 40 = .ok (.iadd, 1) := dop_96 (zb_X1_stands_1 0 rfl)
theorem dX1_stands_41 : decode cX1_stands 41 = .ok (.iaload, 1) := dop_46 (zb_X1_stands_1 1 rfl)
theorem dX1_stands_42 : decode cX1_stands 42 = .ok (.aload_n 1, 1) := dop_43 (zb_X1_stands_1 2 rfl)
theorem dX1_stands_43 : decode cX1_stands 43 = .ok (.iload_n 2, 1) := dop_28 (zb_X1_stands_1 3 rfl)
theorem dX1_stands_44 : decode cX1_stands 44 = .ok (.invokevirtual 131, 3) := dop_182 (zb_X1_stands_1 4 rfl) (zb_X1_stands_1 5 rfl) (zb_X1_stands_1 6 rfl) rfl
theorem dX1_stands_47 : decode cX1_stands 47 = .ok (.if_icmp .eq 5, 3) := dop_159 (zb_X1_stands_1 7 rfl) (zb_X1_stands_1 8 rfl) (zb_X1_stands_1 9 rfl) rfl
theorem dX1_stands_50 : decode cX1_stands 50 = .ok (.iconst 0, 1) := dop_3 (zb_X1_stands_1 10 rfl)
theorem dX1_stands_51 : decode cX1_stands 51 = .ok (.ireturn, 1) := dop_172 (zb_X1_stands_1 11 rfl)
theorem dX1_stands_52 : decode cX1_stands 52 = .ok (.iinc 2 1, 3) := dop_132 (zb_X1_stands_1 12 rfl) (zb_X1_stands_1 13 rfl) (zb_X1_stands_1 14 rfl) rfl
theorem dX1_stands_55 : decode cX1_stands 55 = .ok (.goto (-35), 3) := dop_167 (zb_X1_stands_1 15 rfl) (zb_X1_stands_1 16 rfl) (zb_X1_stands_1 17 rfl) rfl
theorem dX1_stands_58 : decode cX1_stands 58 = .ok (.iconst 1, 1) := dop_4 (zb_X1_stands_1 18 rfl)
theorem dX1_stands_59 : decode cX1_stands 59 = .ok (.ireturn, 1) := dop_172 (zb_X1_stands_1 19 rfl)
def zw_X1_takeNumber_0 : List Nat := [42, 182, 0, 72, 62, 29, 27, 28, 184, 0, 135, 154, 0, 5, 2, 172, 42, 182, 0, 22, 29, 172]
def zt_X1_takeNumber_0 : List Nat := zw_X1_takeNumber_0 ++ []
theorem ze_X1_takeNumber_0 : (dcn cX1_takeNumber).drop 0 = zt_X1_takeNumber_0 := by decide +kernel
theorem zb_X1_takeNumber_0 (j : Nat) {n : Nat} (e : zw_X1_takeNumber_0[j]? = some n) : dby cX1_takeNumber (0 + j) n := dw_b (t := []) ze_X1_takeNumber_0 j e
theorem dX1_takeNumber_0 : decode cX1_takeNumber 0 = .ok (.aload_n 0, 1) := dop_42 (zb_X1_takeNumber_0 0 rfl)
theorem dX1_takeNumber_1 : decode cX1_takeNumber 1 = .ok (.invokevirtual 72, 3) := dop_182 (zb_X1_takeNumber_0 1 rfl) (zb_X1_takeNumber_0 2 rfl) (zb_X1_takeNumber_0 3 rfl) rfl
theorem dX1_takeNumber_4 : decode cX1_takeNumber 4 = .ok (.istore_n 3, 1) := dop_62 (zb_X1_takeNumber_0 4 rfl)
theorem dX1_takeNumber_5 : decode cX1_takeNumber 5 = .ok (.iload_n 3, 1) := dop_29 (zb_X1_takeNumber_0 5 rfl)
theorem dX1_takeNumber_6 : decode cX1_takeNumber 6 = .ok (.iload_n 1, 1) := dop_27 (zb_X1_takeNumber_0 6 rfl)
theorem dX1_takeNumber_7 : decode cX1_takeNumber 7 = .ok (.iload_n 2, 1) := dop_28 (zb_X1_takeNumber_0 7 rfl)
theorem dX1_takeNumber_8 : decode cX1_takeNumber 8 = .ok (.invokestatic 135, 3) := dop_184 (zb_X1_takeNumber_0 8 rfl) (zb_X1_takeNumber_0 9 rfl) (zb_X1_takeNumber_0 10 rfl) rfl
theorem dX1_takeNumber_11 : decode cX1_takeNumber 11 = .ok (.ifCond .ne 5, 3) := dop_154 (zb_X1_takeNumber_0 11 rfl) (zb_X1_takeNumber_0 12 rfl) (zb_X1_takeNumber_0 13 rfl) rfl
theorem dX1_takeNumber_14 : decode cX1_takeNumber 14 = .ok (.iconst (-1), 1) := dop_2 (zb_X1_takeNumber_0 14 rfl)
theorem dX1_takeNumber_15 : decode cX1_takeNumber 15 = .ok (.ireturn, 1) := dop_172 (zb_X1_takeNumber_0 15 rfl)
theorem dX1_takeNumber_16 : decode cX1_takeNumber 16 = .ok (.aload_n 0, 1) := dop_42 (zb_X1_takeNumber_0 16 rfl)
theorem dX1_takeNumber_17 : decode cX1_takeNumber 17 = .ok (.invokevirtual 22, 3) := dop_182 (zb_X1_takeNumber_0 17 rfl) (zb_X1_takeNumber_0 18 rfl) (zb_X1_takeNumber_0 19 rfl) rfl
theorem dX1_takeNumber_20 : decode cX1_takeNumber 20 = .ok (.iload_n 3, 1) := dop_29 (zb_X1_takeNumber_0 20 rfl)
theorem dX1_takeNumber_21 : decode cX1_takeNumber 21 = .ok (.ireturn, 1) := dop_172 (zb_X1_takeNumber_0 21 rfl)
def zw_X1_value_2 : List Nat := [167, 255, 221, 27, 172]
def zt_X1_value_2 : List Nat := zw_X1_value_2 ++ []
def zw_X1_value_1 : List Nat := [180, 0, 43, 61, 28, 42, 180, 0, 19, 162, 0, 33, 17, 3, 232, 16, 10, 27, 104, 42, 180, 0, 9, 180, 0, 128, 28, 46, 96, 16, 48, 100, 184, 0, 143, 60, 132, 2, 1]
def zt_X1_value_1 : List Nat := zw_X1_value_1 ++ zt_X1_value_2
def zw_X1_value_0 : List Nat := [42, 180, 0, 43, 42, 180, 0, 9, 180, 0, 46, 162, 0, 22, 42, 180, 0, 9, 180, 0, 128, 42, 180, 0, 43, 46, 184, 0, 139, 5, 159, 0, 5, 2, 172, 3, 60, 42]
def zt_X1_value_0 : List Nat := zw_X1_value_0 ++ zt_X1_value_1
theorem ze_X1_value_0 : (dcn cX1_value).drop 0 = zt_X1_value_0 := by decide +kernel
theorem ze_X1_value_1 : (dcn cX1_value).drop 38 = zt_X1_value_1 := dw_n (wl := zw_X1_value_0) ze_X1_value_0 rfl
theorem zb_X1_value_0 (j : Nat) {n : Nat} (e : zw_X1_value_0[j]? = some n) : dby cX1_value (0 + j) n := dw_b (t := zt_X1_value_1) ze_X1_value_0 j e
theorem dX1_value_0 : decode cX1_value 0 = .ok (.aload_n 0, 1) := dop_42 (zb_X1_value_0 0 rfl)
theorem dX1_value_1 : decode cX1_value 1 = .ok (.getfield 43, 3) := dop_180 (zb_X1_value_0 1 rfl) (zb_X1_value_0 2 rfl) (zb_X1_value_0 3 rfl) rfl
theorem dX1_value_4 : decode cX1_value 4 = .ok (.aload_n 0, 1) := dop_42 (zb_X1_value_0 4 rfl)
theorem dX1_value_5 : decode cX1_value 5 = .ok (.getfield 9, 3) := dop_180 (zb_X1_value_0 5 rfl) (zb_X1_value_0 6 rfl) (zb_X1_value_0 7 rfl) rfl
theorem dX1_value_8 : decode cX1_value 8 = .ok (.getfield 46, 3) := dop_180 (zb_X1_value_0 8 rfl) (zb_X1_value_0 9 rfl) (zb_X1_value_0 10 rfl) rfl
theorem dX1_value_11 : decode cX1_value 11 = .ok (.if_icmp .ge 22, 3) := dop_162 (zb_X1_value_0 11 rfl) (zb_X1_value_0 12 rfl) (zb_X1_value_0 13 rfl) rfl
theorem dX1_value_14 : decode cX1_value 14 = .ok (.aload_n 0, 1) := dop_42 (zb_X1_value_0 14 rfl)
theorem dX1_value_15 : decode cX1_value 15 = .ok (.getfield 9, 3) := dop_180 (zb_X1_value_0 15 rfl) (zb_X1_value_0 16 rfl) (zb_X1_value_0 17 rfl) rfl
theorem dX1_value_18 : decode cX1_value 18 = .ok (.getfield 128, 3) := dop_180 (zb_X1_value_0 18 rfl) (zb_X1_value_0 19 rfl) (zb_X1_value_0 20 rfl) rfl
theorem dX1_value_21 : decode cX1_value 21 = .ok (.aload_n 0, 1) := dop_42 (zb_X1_value_0 21 rfl)
theorem dX1_value_22 : decode cX1_value 22 = .ok (.getfield 43, 3) := dop_180 (zb_X1_value_0 22 rfl) (zb_X1_value_0 23 rfl) (zb_X1_value_0 24 rfl) rfl
theorem dX1_value_25 : decode cX1_value 25 = .ok (.iaload, 1) := dop_46 (zb_X1_value_0 25 rfl)
theorem dX1_value_26 : decode cX1_value 26 = .ok (.invokestatic 139, 3) := dop_184 (zb_X1_value_0 26 rfl) (zb_X1_value_0 27 rfl) (zb_X1_value_0 28 rfl) rfl
theorem dX1_value_29 : decode cX1_value 29 = .ok (.iconst 2, 1) := dop_5 (zb_X1_value_0 29 rfl)
theorem dX1_value_30 : decode cX1_value 30 = .ok (.if_icmp .eq 5, 3) := dop_159 (zb_X1_value_0 30 rfl) (zb_X1_value_0 31 rfl) (zb_X1_value_0 32 rfl) rfl
theorem dX1_value_33 : decode cX1_value 33 = .ok (.iconst (-1), 1) := dop_2 (zb_X1_value_0 33 rfl)
theorem dX1_value_34 : decode cX1_value 34 = .ok (.ireturn, 1) := dop_172 (zb_X1_value_0 34 rfl)
theorem dX1_value_35 : decode cX1_value 35 = .ok (.iconst 0, 1) := dop_3 (zb_X1_value_0 35 rfl)
theorem dX1_value_36 : decode cX1_value 36 = .ok (.istore_n 1, 1) := dop_60 (zb_X1_value_0 36 rfl)
theorem dX1_value_37 : decode cX1_value 37 = .ok (.aload_n 0, 1) := dop_42 (zb_X1_value_0 37 rfl)
theorem ze_X1_value_2 : (dcn cX1_value).drop 77 = zt_X1_value_2 := dw_n (wl := zw_X1_value_1) ze_X1_value_1 rfl
theorem zb_X1_value_1 (j : Nat) {n : Nat} (e : zw_X1_value_1[j]? = some n) : dby cX1_value (38 + j) n := dw_b (t := zt_X1_value_2) ze_X1_value_1 j e
theorem dX1_value_38 : decode cX1_value 38 = .ok (.getfield 43, 3) := dop_180 (zb_X1_value_1 0 rfl) (zb_X1_value_1 1 rfl) (zb_X1_value_1 2 rfl) rfl
theorem dX1_value_41 : decode cX1_value 41 = .ok (.istore_n 2, 1) := dop_61 (zb_X1_value_1 3 rfl)
theorem dX1_value_42 : decode cX1_value 42 = .ok (.iload_n 2, 1) := dop_28 (zb_X1_value_1 4 rfl)
theorem dX1_value_43 : decode cX1_value 43 = .ok (.aload_n 0, 1) := dop_42 (zb_X1_value_1 5 rfl)
theorem dX1_value_44 : decode cX1_value 44 = .ok (.getfield 19, 3) := dop_180 (zb_X1_value_1 6 rfl) (zb_X1_value_1 7 rfl) (zb_X1_value_1 8 rfl) rfl
theorem dX1_value_47 : decode cX1_value 47 = .ok (.if_icmp .ge 33, 3) := dop_162 (zb_X1_value_1 9 rfl) (zb_X1_value_1 10 rfl) (zb_X1_value_1 11 rfl) rfl
theorem dX1_value_50 : decode cX1_value 50 = .ok (.sipush 1000, 3) := dop_17 (zb_X1_value_1 12 rfl) (zb_X1_value_1 13 rfl) (zb_X1_value_1 14 rfl) rfl
theorem dX1_value_53 : decode cX1_value 53 = .ok (.bipush 10, 2) := dop_16 (zb_X1_value_1 15 rfl) (zb_X1_value_1 16 rfl) rfl
theorem dX1_value_55 : decode cX1_value 55 = .ok (.iload_n 1, 1) := dop_27 (zb_X1_value_1 17 rfl)
theorem dX1_value_56 : decode cX1_value 56 = .ok (.imul, 1) := dop_104 (zb_X1_value_1 18 rfl)
theorem dX1_value_57 : decode cX1_value 57 = .ok (.aload_n 0, 1) := dop_42 (zb_X1_value_1 19 rfl)
theorem dX1_value_58 : decode cX1_value 58 = .ok (.getfield 9, 3) := dop_180 (zb_X1_value_1 20 rfl) (zb_X1_value_1 21 rfl) (zb_X1_value_1 22 rfl) rfl
theorem dX1_value_61 : decode cX1_value 61 = .ok (.getfield 128, 3) := dop_180 (zb_X1_value_1 23 rfl) (zb_X1_value_1 24 rfl) (zb_X1_value_1 25 rfl) rfl
theorem dX1_value_64 : decode cX1_value 64 = .ok (.iload_n 2, 1) := dop_28 (zb_X1_value_1 26 rfl)
theorem dX1_value_65 : decode cX1_value 65 = .ok (.iaload, 1) := dop_46 (zb_X1_value_1 27 rfl)
theorem dX1_value_66 : decode cX1_value 66 = .ok (.iadd, 1) := dop_96 (zb_X1_value_1 28 rfl)
theorem dX1_value_67 : decode cX1_value 67 = .ok (.bipush 48, 2) := dop_16 (zb_X1_value_1 29 rfl) (zb_X1_value_1 30 rfl) rfl
theorem dX1_value_69 : decode cX1_value 69 = .ok (.isub, 1) := dop_100 (zb_X1_value_1 31 rfl)
theorem dX1_value_70 : decode cX1_value 70 = .ok (.invokestatic 143, 3) := dop_184 (zb_X1_value_1 32 rfl) (zb_X1_value_1 33 rfl) (zb_X1_value_1 34 rfl) rfl
theorem dX1_value_73 : decode cX1_value 73 = .ok (.istore_n 1, 1) := dop_60 (zb_X1_value_1 35 rfl)
theorem dX1_value_74 : decode cX1_value 74 = .ok (.iinc 2 1, 3) := dop_132 (zb_X1_value_1 36 rfl) (zb_X1_value_1 37 rfl) (zb_X1_value_1 38 rfl) rfl
theorem zb_X1_value_2 (j : Nat) {n : Nat} (e : zw_X1_value_2[j]? = some n) : dby cX1_value (77 + j) n := dw_b (t := []) ze_X1_value_2 j e
theorem dX1_value_77 : decode cX1_value 77 = .ok (.goto (-35), 3) := dop_167 (zb_X1_value_2 0 rfl) (zb_X1_value_2 1 rfl) (zb_X1_value_2 2 rfl) rfl
theorem dX1_value_80 : decode cX1_value 80 = .ok (.iload_n 1, 1) := dop_27 (zb_X1_value_2 3 rfl)
theorem dX1_value_81 : decode cX1_value 81 = .ok (.ireturn, 1) := dop_172 (zb_X1_value_2 4 rfl)
def zw_X1_advance_3 : List Nat := [42, 180, 0, 9, 180, 0, 128, 42, 180, 0, 19, 46, 184, 0, 139, 27, 160, 0, 16, 42, 89, 180, 0, 19, 4, 96, 181, 0, 19, 167, 255, 209, 177]
def zt_X1_advance_3 : List Nat := zw_X1_advance_3 ++ []
def zw_X1_advance_2 : List Nat := [180, 0, 128, 42, 180, 0, 43, 46, 184, 0, 139, 60, 42, 89, 180, 0, 19, 4, 96, 181, 0, 19, 27, 153, 0, 49, 42, 180, 0, 19, 42, 180, 0, 9, 180, 0, 46, 162, 0, 35]
def zt_X1_advance_2 : List Nat := zw_X1_advance_2 ++ zt_X1_advance_3
def zw_X1_advance_1 : List Nat := [89, 180, 0, 43, 4, 96, 181, 0, 43, 167, 255, 215, 42, 42, 180, 0, 43, 181, 0, 19, 42, 180, 0, 43, 42, 180, 0, 9, 180, 0, 46, 161, 0, 4, 177, 42, 180, 0, 9]
def zt_X1_advance_1 : List Nat := zw_X1_advance_1 ++ zt_X1_advance_2
def zw_X1_advance_0 : List Nat := [42, 42, 180, 0, 19, 181, 0, 43, 42, 180, 0, 43, 42, 180, 0, 9, 180, 0, 46, 162, 0, 33, 42, 180, 0, 9, 180, 0, 128, 42, 180, 0, 43, 46, 16, 32, 160, 0, 16, 42]
def zt_X1_advance_0 : List Nat := zw_X1_advance_0 ++ zt_X1_advance_1
theorem ze_X1_advance_0 : (dcn cX1_advance).drop 0 = zt_X1_advance_0 := by decide +kernel
theorem ze_X1_advance_1 : (dcn cX1_advance).drop 40 = zt_X1_advance_1 := dw_n (wl := zw_X1_advance_0) ze_X1_advance_0 rfl
theorem zb_X1_advance_0 (j : Nat) {n : Nat} (e : zw_X1_advance_0[j]? = some n) : dby cX1_advance (0 + j) n := dw_b (t := zt_X1_advance_1) ze_X1_advance_0 j e
theorem dX1_advance_0 : decode cX1_advance 0 = .ok (.aload_n 0, 1) := dop_42 (zb_X1_advance_0 0 rfl)
theorem dX1_advance_1 : decode cX1_advance 1 = .ok (.aload_n 0, 1) := dop_42 (zb_X1_advance_0 1 rfl)
theorem dX1_advance_2 : decode cX1_advance 2 = .ok (.getfield 19, 3) := dop_180 (zb_X1_advance_0 2 rfl) (zb_X1_advance_0 3 rfl) (zb_X1_advance_0 4 rfl) rfl
theorem dX1_advance_5 : decode cX1_advance 5 = .ok (.putfield 43, 3) := dop_181 (zb_X1_advance_0 5 rfl) (zb_X1_advance_0 6 rfl) (zb_X1_advance_0 7 rfl) rfl
theorem dX1_advance_8 : decode cX1_advance 8 = .ok (.aload_n 0, 1) := dop_42 (zb_X1_advance_0 8 rfl)
theorem dX1_advance_9 : decode cX1_advance 9 = .ok (.getfield 43, 3) := dop_180 (zb_X1_advance_0 9 rfl) (zb_X1_advance_0 10 rfl) (zb_X1_advance_0 11 rfl) rfl
theorem dX1_advance_12 : decode cX1_advance 12 = .ok (.aload_n 0, 1) := dop_42 (zb_X1_advance_0 12 rfl)
theorem dX1_advance_13 : decode cX1_advance 13 = .ok (.getfield 9, 3) := dop_180 (zb_X1_advance_0 13 rfl) (zb_X1_advance_0 14 rfl) (zb_X1_advance_0 15 rfl) rfl
theorem dX1_advance_16 : decode cX1_advance 16 = .ok (.getfield 46, 3) := dop_180 (zb_X1_advance_0 16 rfl) (zb_X1_advance_0 17 rfl) (zb_X1_advance_0 18 rfl) rfl
theorem dX1_advance_19 : decode cX1_advance 19 = .ok (.if_icmp .ge 33, 3) := dop_162 (zb_X1_advance_0 19 rfl) (zb_X1_advance_0 20 rfl) (zb_X1_advance_0 21 rfl) rfl
theorem dX1_advance_22 : decode cX1_advance 22 = .ok (.aload_n 0, 1) := dop_42 (zb_X1_advance_0 22 rfl)
theorem dX1_advance_23 : decode cX1_advance 23 = .ok (.getfield 9, 3) := dop_180 (zb_X1_advance_0 23 rfl) (zb_X1_advance_0 24 rfl) (zb_X1_advance_0 25 rfl) rfl
theorem dX1_advance_26 : decode cX1_advance 26 = .ok (.getfield 128, 3) := dop_180 (zb_X1_advance_0 26 rfl) (zb_X1_advance_0 27 rfl) (zb_X1_advance_0 28 rfl) rfl
theorem dX1_advance_29 : decode cX1_advance 29 = .ok (.aload_n 0, 1) := dop_42 (zb_X1_advance_0 29 rfl)
theorem dX1_advance_30 : decode cX1_advance 30 = .ok (.getfield 43, 3) := dop_180 (zb_X1_advance_0 30 rfl) (zb_X1_advance_0 31 rfl) (zb_X1_advance_0 32 rfl) rfl
theorem dX1_advance_33 : decode cX1_advance 33 = .ok (.iaload, 1) := dop_46 (zb_X1_advance_0 33 rfl)
theorem dX1_advance_34 : decode cX1_advance 34 = .ok (.bipush 32, 2) := dop_16 (zb_X1_advance_0 34 rfl) (zb_X1_advance_0 35 rfl) rfl
theorem dX1_advance_36 : decode cX1_advance 36 = .ok (.if_icmp .ne 16, 3) := dop_160 (zb_X1_advance_0 36 rfl) (zb_X1_advance_0 37 rfl) (zb_X1_advance_0 38 rfl) rfl
theorem dX1_advance_39 : decode cX1_advance 39 = .ok (.aload_n 0, 1) := dop_42 (zb_X1_advance_0 39 rfl)
theorem ze_X1_advance_2 : (dcn cX1_advance).drop 79 = zt_X1_advance_2 := dw_n (wl := zw_X1_advance_1) ze_X1_advance_1 rfl
theorem zb_X1_advance_1 (j : Nat) {n : Nat} (e : zw_X1_advance_1[j]? = some n) : dby cX1_advance (40 + j) n := dw_b (t := zt_X1_advance_2) ze_X1_advance_1 j e
theorem dX1_advance_40 : decode cX1_advance 40 = .ok (.dup, 1) := dop_89 (zb_X1_advance_1 0 rfl)
theorem dX1_advance_41 : decode cX1_advance 41 = .ok (.getfield 43, 3) := dop_180 (zb_X1_advance_1 1 rfl) (zb_X1_advance_1 2 rfl) (zb_X1_advance_1 3 rfl) rfl
theorem dX1_advance_44 : decode cX1_advance 44 = .ok (.iconst 1, 1) := dop_4 (zb_X1_advance_1 4 rfl)
theorem dX1_advance_45 : decode cX1_advance 45 = .ok (.iadd, 1) := dop_96 (zb_X1_advance_1 5 rfl)
theorem dX1_advance_46 : decode cX1_advance 46 = .ok (.putfield 43, 3) := dop_181 (zb_X1_advance_1 6 rfl) (zb_X1_advance_1 7 rfl) (zb_X1_advance_1 8 rfl) rfl
theorem dX1_advance_49 : decode cX1_advance 49 = .ok (.goto (-41), 3) := dop_167 (zb_X1_advance_1 9 rfl) (zb_X1_advance_1 10 rfl) (zb_X1_advance_1 11 rfl) rfl
theorem dX1_advance_52 : decode cX1_advance 52 = .ok (.aload_n 0, 1) := dop_42 (zb_X1_advance_1 12 rfl)
theorem dX1_advance_53 : decode cX1_advance 53 = .ok (.aload_n 0, 1) := dop_42 (zb_X1_advance_1 13 rfl)
theorem dX1_advance_54 : decode cX1_advance 54 = .ok (.getfield 43, 3) := dop_180 (zb_X1_advance_1 14 rfl) (zb_X1_advance_1 15 rfl) (zb_X1_advance_1 16 rfl) rfl
theorem dX1_advance_57 : decode cX1_advance 57 = .ok (.putfield 19, 3) := dop_181 (zb_X1_advance_1 17 rfl) (zb_X1_advance_1 18 rfl) (zb_X1_advance_1 19 rfl) rfl
theorem dX1_advance_60 : decode cX1_advance 60 = .ok (.aload_n 0, 1) := dop_42 (zb_X1_advance_1 20 rfl)
theorem dX1_advance_61 : decode cX1_advance 61 = .ok (.getfield 43, 3) := dop_180 (zb_X1_advance_1 21 rfl) (zb_X1_advance_1 22 rfl) (zb_X1_advance_1 23 rfl) rfl
theorem dX1_advance_64 : decode cX1_advance 64 = .ok (.aload_n 0, 1) := dop_42 (zb_X1_advance_1 24 rfl)
theorem dX1_advance_65 : decode cX1_advance 65 = .ok (.getfield 9, 3) := dop_180 (zb_X1_advance_1 25 rfl) (zb_X1_advance_1 26 rfl) (zb_X1_advance_1 27 rfl) rfl
theorem dX1_advance_68 : decode cX1_advance 68 = .ok (.getfield 46, 3) := dop_180 (zb_X1_advance_1 28 rfl) (zb_X1_advance_1 29 rfl) (zb_X1_advance_1 30 rfl) rfl
theorem dX1_advance_71 : decode cX1_advance 71 = .ok (.if_icmp .lt 4, 3) := dop_161 (zb_X1_advance_1 31 rfl) (zb_X1_advance_1 32 rfl) (zb_X1_advance_1 33 rfl) rfl
theorem dX1_advance_74 : decode cX1_advance 74 = .ok (.return_, 1) := dop_177 (zb_X1_advance_1 34 rfl)
theorem dX1_advance_75 : decode cX1_advance 75 = .ok (.aload_n 0, 1) := dop_42 (zb_X1_advance_1 35 rfl)
theorem dX1_advance_76 : decode cX1_advance 76 = .ok (.getfield 9, 3) := dop_180 (zb_X1_advance_1 36 rfl) (zb_X1_advance_1 37 rfl) (zb_X1_advance_1 38 rfl) rfl
theorem ze_X1_advance_3 : (dcn cX1_advance).drop 119 = zt_X1_advance_3 := dw_n (wl := zw_X1_advance_2) ze_X1_advance_2 rfl
theorem zb_X1_advance_2 (j : Nat) {n : Nat} (e : zw_X1_advance_2[j]? = some n) : dby cX1_advance (79 + j) n := dw_b (t := zt_X1_advance_3) ze_X1_advance_2 j e
theorem dX1_advance_79 : decode cX1_advance 79 = .ok (.getfield 128, 3) := dop_180 (zb_X1_advance_2 0 rfl) (zb_X1_advance_2 1 rfl) (zb_X1_advance_2 2 rfl) rfl
theorem dX1_advance_82 : decode cX1_advance 82 = .ok (.aload_n 0, 1) := dop_42 (zb_X1_advance_2 3 rfl)
theorem dX1_advance_83 : decode cX1_advance 83 = .ok (.getfield 43, 3) := dop_180 (zb_X1_advance_2 4 rfl) (zb_X1_advance_2 5 rfl) (zb_X1_advance_2 6 rfl) rfl
theorem dX1_advance_86 : decode cX1_advance 86 = .ok (.iaload, 1) := dop_46 (zb_X1_advance_2 7 rfl)
theorem dX1_advance_87 : decode cX1_advance 87 = .ok (.invokestatic 139, 3) := dop_184 (zb_X1_advance_2 8 rfl) (zb_X1_advance_2 9 rfl) (zb_X1_advance_2 10 rfl) rfl
theorem dX1_advance_90 : decode cX1_advance 90 = .ok (.istore_n 1, 1) := dop_60 (zb_X1_advance_2 11 rfl)
theorem dX1_advance_91 : decode cX1_advance 91 = .ok (.aload_n 0, 1) := dop_42 (zb_X1_advance_2 12 rfl)
theorem dX1_advance_92 : decode cX1_advance 92 = .ok (.dup, 1) := dop_89 (zb_X1_advance_2 13 rfl)
theorem dX1_advance_93 : decode cX1_advance 93 = .ok (.getfield 19, 3) := dop_180 (zb_X1_advance_2 14 rfl) (zb_X1_advance_2 15 rfl) (zb_X1_advance_2 16 rfl) rfl
theorem dX1_advance_96 : decode cX1_advance 96 = .ok (.iconst 1, 1) := dop_4 (zb_X1_advance_2 17 rfl)
theorem dX1_advance_97 : decode cX1_advance 97 = .ok (.iadd, 1) := dop_96 (zb_X1_advance_2 18 rfl)
theorem dX1_advance_98 : decode cX1_advance 98 = .ok (.putfield 19, 3) := dop_181 (zb_X1_advance_2 19 rfl) (zb_X1_advance_2 20 rfl) (zb_X1_advance_2 21 rfl) rfl
theorem dX1_advance_101 : decode cX1_advance 101 = .ok (.iload_n 1, 1) := dop_27 (zb_X1_advance_2 22 rfl)
theorem dX1_advance_102 : decode cX1_advance 102 = .ok (.ifCond .eq 49, 3) := dop_153 (zb_X1_advance_2 23 rfl) (zb_X1_advance_2 24 rfl) (zb_X1_advance_2 25 rfl) rfl
theorem dX1_advance_105 : decode cX1_advance 105 = .ok (.aload_n 0, 1) := dop_42 (zb_X1_advance_2 26 rfl)
theorem dX1_advance_106 : decode cX1_advance 106 = .ok (.getfield 19, 3) := dop_180 (zb_X1_advance_2 27 rfl) (zb_X1_advance_2 28 rfl) (zb_X1_advance_2 29 rfl) rfl
theorem dX1_advance_109 : decode cX1_advance 109 = .ok (.aload_n 0, 1) := dop_42 (zb_X1_advance_2 30 rfl)
theorem dX1_advance_110 : decode cX1_advance 110 = .ok (.getfield 9, 3) := dop_180 (zb_X1_advance_2 31 rfl) (zb_X1_advance_2 32 rfl) (zb_X1_advance_2 33 rfl) rfl
theorem dX1_advance_113 : decode cX1_advance 113 = .ok (.getfield 46, 3) := dop_180 (zb_X1_advance_2 34 rfl) (zb_X1_advance_2 35 rfl) (zb_X1_advance_2 36 rfl) rfl
theorem dX1_advance_116 : decode cX1_advance 116 = .ok (.if_icmp .ge 35, 3) := dop_162 (zb_X1_advance_2 37 rfl) (zb_X1_advance_2 38 rfl) (zb_X1_advance_2 39 rfl) rfl
theorem zb_X1_advance_3 (j : Nat) {n : Nat} (e : zw_X1_advance_3[j]? = some n) : dby cX1_advance (119 + j) n := dw_b (t := []) ze_X1_advance_3 j e
theorem dX1_advance_119 : decode cX1_advance 119 = .ok (.aload_n 0, 1) := dop_42 (zb_X1_advance_3 0 rfl)
theorem dX1_advance_120 : decode cX1_advance 120 = .ok (.getfield 9, 3) := dop_180 (zb_X1_advance_3 1 rfl) (zb_X1_advance_3 2 rfl) (zb_X1_advance_3 3 rfl) rfl
theorem dX1_advance_123 : decode cX1_advance 123 = .ok (.getfield 128, 3) := dop_180 (zb_X1_advance_3 4 rfl) (zb_X1_advance_3 5 rfl) (zb_X1_advance_3 6 rfl) rfl
theorem dX1_advance_126 : decode cX1_advance 126 = .ok (.aload_n 0, 1) := dop_42 (zb_X1_advance_3 7 rfl)
theorem dX1_advance_127 : decode cX1_advance 127 = .ok (.getfield 19, 3) := dop_180 (zb_X1_advance_3 8 rfl) (zb_X1_advance_3 9 rfl) (zb_X1_advance_3 10 rfl) rfl
theorem dX1_advance_130 : decode cX1_advance 130 = .ok (.iaload, 1) := dop_46 (zb_X1_advance_3 11 rfl)
theorem dX1_advance_131 : decode cX1_advance 131 = .ok (.invokestatic 139, 3) := dop_184 (zb_X1_advance_3 12 rfl) (zb_X1_advance_3 13 rfl) (zb_X1_advance_3 14 rfl) rfl
theorem dX1_advance_134 : decode cX1_advance 134 = .ok (.iload_n 1, 1) := dop_27 (zb_X1_advance_3 15 rfl)
theorem dX1_advance_135 : decode cX1_advance 135 = .ok (.if_icmp .ne 16, 3) := dop_160 (zb_X1_advance_3 16 rfl) (zb_X1_advance_3 17 rfl) (zb_X1_advance_3 18 rfl) rfl
theorem dX1_advance_138 : decode cX1_advance 138 = .ok (.aload_n 0, 1) := dop_42 (zb_X1_advance_3 19 rfl)
theorem dX1_advance_139 : decode cX1_advance 139 = .ok (.dup, 1) := dop_89 (zb_X1_advance_3 20 rfl)
theorem dX1_advance_140 : decode cX1_advance 140 = .ok (.getfield 19, 3) := dop_180 (zb_X1_advance_3 21 rfl) (zb_X1_advance_3 22 rfl) (zb_X1_advance_3 23 rfl) rfl
theorem dX1_advance_143 : decode cX1_advance 143 = .ok (.iconst 1, 1) := dop_4 (zb_X1_advance_3 24 rfl)
theorem dX1_advance_144 : decode cX1_advance 144 = .ok (.iadd, 1) := dop_96 (zb_X1_advance_3 25 rfl)
theorem dX1_advance_145 : decode cX1_advance 145 = .ok (.putfield 19, 3) := dop_181 (zb_X1_advance_3 26 rfl) (zb_X1_advance_3 27 rfl) (zb_X1_advance_3 28 rfl) rfl
theorem dX1_advance_148 : decode cX1_advance 148 = .ok (.goto (-47), 3) := dop_167 (zb_X1_advance_3 29 rfl) (zb_X1_advance_3 30 rfl) (zb_X1_advance_3 31 rfl) rfl
theorem dX1_advance_151 : decode cX1_advance 151 = .ok (.return_, 1) := dop_177 (zb_X1_advance_3 32 rfl)
def zw_X1_familyOf_0 : List Nat := [26, 16, 97, 161, 0, 11, 26, 16, 122, 163, 0, 5, 4, 172, 26, 16, 48, 161, 0, 13, 26, 16, 57, 163, 0, 7, 5, 167, 0, 4, 3, 172]
def zt_X1_familyOf_0 : List Nat := zw_X1_familyOf_0 ++ []
theorem ze_X1_familyOf_0 : (dcn cX1_familyOf).drop 0 = zt_X1_familyOf_0 := by decide +kernel
theorem zb_X1_familyOf_0 (j : Nat) {n : Nat} (e : zw_X1_familyOf_0[j]? = some n) : dby cX1_familyOf (0 + j) n := dw_b (t := []) ze_X1_familyOf_0 j e
theorem dX1_familyOf_0 : decode cX1_familyOf 0 = .ok (.iload_n 0, 1) := dop_26 (zb_X1_familyOf_0 0 rfl)
theorem dX1_familyOf_1 : decode cX1_familyOf 1 = .ok (.bipush 97, 2) := dop_16 (zb_X1_familyOf_0 1 rfl) (zb_X1_familyOf_0 2 rfl) rfl
theorem dX1_familyOf_3 : decode cX1_familyOf 3 = .ok (.if_icmp .lt 11, 3) := dop_161 (zb_X1_familyOf_0 3 rfl) (zb_X1_familyOf_0 4 rfl) (zb_X1_familyOf_0 5 rfl) rfl
theorem dX1_familyOf_6 : decode cX1_familyOf 6 = .ok (.iload_n 0, 1) := dop_26 (zb_X1_familyOf_0 6 rfl)
theorem dX1_familyOf_7 : decode cX1_familyOf 7 = .ok (.bipush 122, 2) := dop_16 (zb_X1_familyOf_0 7 rfl) (zb_X1_familyOf_0 8 rfl) rfl
theorem dX1_familyOf_9 : decode cX1_familyOf 9 = .ok (.if_icmp .gt 5, 3) := dop_163 (zb_X1_familyOf_0 9 rfl) (zb_X1_familyOf_0 10 rfl) (zb_X1_familyOf_0 11 rfl) rfl
theorem dX1_familyOf_12 : decode cX1_familyOf 12 = .ok (.iconst 1, 1) := dop_4 (zb_X1_familyOf_0 12 rfl)
theorem dX1_familyOf_13 : decode cX1_familyOf 13 = .ok (.ireturn, 1) := dop_172 (zb_X1_familyOf_0 13 rfl)
theorem dX1_familyOf_14 : decode cX1_familyOf 14 = .ok (.iload_n 0, 1) := dop_26 (zb_X1_familyOf_0 14 rfl)
theorem dX1_familyOf_15 : decode cX1_familyOf 15 = .ok (.bipush 48, 2) := dop_16 (zb_X1_familyOf_0 15 rfl) (zb_X1_familyOf_0 16 rfl) rfl
theorem dX1_familyOf_17 : decode cX1_familyOf 17 = .ok (.if_icmp .lt 13, 3) := dop_161 (zb_X1_familyOf_0 17 rfl) (zb_X1_familyOf_0 18 rfl) (zb_X1_familyOf_0 19 rfl) rfl
theorem dX1_familyOf_20 : decode cX1_familyOf 20 = .ok (.iload_n 0, 1) := dop_26 (zb_X1_familyOf_0 20 rfl)
theorem dX1_familyOf_21 : decode cX1_familyOf 21 = .ok (.bipush 57, 2) := dop_16 (zb_X1_familyOf_0 21 rfl) (zb_X1_familyOf_0 22 rfl) rfl
theorem dX1_familyOf_23 : decode cX1_familyOf 23 = .ok (.if_icmp .gt 7, 3) := dop_163 (zb_X1_familyOf_0 23 rfl) (zb_X1_familyOf_0 24 rfl) (zb_X1_familyOf_0 25 rfl) rfl
theorem dX1_familyOf_26 : decode cX1_familyOf 26 = .ok (.iconst 2, 1) := dop_5 (zb_X1_familyOf_0 26 rfl)
theorem dX1_familyOf_27 : decode cX1_familyOf 27 = .ok (.goto 4, 3) := dop_167 (zb_X1_familyOf_0 27 rfl) (zb_X1_familyOf_0 28 rfl) (zb_X1_familyOf_0 29 rfl) rfl
theorem dX1_familyOf_30 : decode cX1_familyOf 30 = .ok (.iconst 0, 1) := dop_3 (zb_X1_familyOf_0 30 rfl)
theorem dX1_familyOf_31 : decode cX1_familyOf 31 = .ok (.ireturn, 1) := dop_172 (zb_X1_familyOf_0 31 rfl)
theorem dX2_init_0 : decode cX2_init 0 = .ok (.aload_n 0, 1) := by decide +kernel
theorem dX2_init_1 : decode cX2_init 1 = .ok (.invokespecial 1, 3) := by decide +kernel
theorem dX2_init_4 : decode cX2_init 4 = .ok (.return_, 1) := by decide +kernel
def zw_X2_clear_0 : List Nat := [42, 10, 181, 0, 7, 42, 9, 181, 0, 13, 42, 4, 181, 0, 16, 177]
def zt_X2_clear_0 : List Nat := zw_X2_clear_0 ++ []
theorem ze_X2_clear_0 : (dcn cX2_clear).drop 0 = zt_X2_clear_0 := by decide +kernel
theorem zb_X2_clear_0 (j : Nat) {n : Nat} (e : zw_X2_clear_0[j]? = some n) : dby cX2_clear (0 + j) n := dw_b (t := []) ze_X2_clear_0 j e
theorem dX2_clear_0 : decode cX2_clear 0 = .ok (.aload_n 0, 1) := dop_42 (zb_X2_clear_0 0 rfl)
theorem dX2_clear_1 : decode cX2_clear 1 = .ok (.lconst 1, 1) := dop_10 (zb_X2_clear_0 1 rfl)
theorem dX2_clear_2 : decode cX2_clear 2 = .ok (.putfield 7, 3) := dop_181 (zb_X2_clear_0 2 rfl) (zb_X2_clear_0 3 rfl) (zb_X2_clear_0 4 rfl) rfl
theorem dX2_clear_5 : decode cX2_clear 5 = .ok (.aload_n 0, 1) := dop_42 (zb_X2_clear_0 5 rfl)
theorem dX2_clear_6 : decode cX2_clear 6 = .ok (.lconst 0, 1) := dop_9 (zb_X2_clear_0 6 rfl)
theorem dX2_clear_7 : decode cX2_clear 7 = .ok (.putfield 13, 3) := dop_181 (zb_X2_clear_0 7 rfl) (zb_X2_clear_0 8 rfl) (zb_X2_clear_0 9 rfl) rfl
theorem dX2_clear_10 : decode cX2_clear 10 = .ok (.aload_n 0, 1) := dop_42 (zb_X2_clear_0 10 rfl)
theorem dX2_clear_11 : decode cX2_clear 11 = .ok (.iconst 1, 1) := dop_4 (zb_X2_clear_0 11 rfl)
theorem dX2_clear_12 : decode cX2_clear 12 = .ok (.putfield 16, 3) := dop_181 (zb_X2_clear_0 12 rfl) (zb_X2_clear_0 13 rfl) (zb_X2_clear_0 14 rfl) rfl
theorem dX2_clear_15 : decode cX2_clear 15 = .ok (.return_, 1) := dop_177 (zb_X2_clear_0 15 rfl)
def zw_X2_put_0 : List Nat := [42, 31, 181, 0, 7, 42, 33, 181, 0, 13, 42, 21, 5, 181, 0, 16, 177]
def zt_X2_put_0 : List Nat := zw_X2_put_0 ++ []
theorem ze_X2_put_0 : (dcn cX2_put).drop 0 = zt_X2_put_0 := by decide +kernel
theorem zb_X2_put_0 (j : Nat) {n : Nat} (e : zw_X2_put_0[j]? = some n) : dby cX2_put (0 + j) n := dw_b (t := []) ze_X2_put_0 j e
theorem dX2_put_0 : decode cX2_put 0 = .ok (.aload_n 0, 1) := dop_42 (zb_X2_put_0 0 rfl)
theorem dX2_put_1 : decode cX2_put 1 = .ok (.lload_n 1, 1) := dop_31 (zb_X2_put_0 1 rfl)
theorem dX2_put_2 : decode cX2_put 2 = .ok (.putfield 7, 3) := dop_181 (zb_X2_put_0 2 rfl) (zb_X2_put_0 3 rfl) (zb_X2_put_0 4 rfl) rfl
theorem dX2_put_5 : decode cX2_put 5 = .ok (.aload_n 0, 1) := dop_42 (zb_X2_put_0 5 rfl)
theorem dX2_put_6 : decode cX2_put 6 = .ok (.lload_n 3, 1) := dop_33 (zb_X2_put_0 6 rfl)
theorem dX2_put_7 : decode cX2_put 7 = .ok (.putfield 13, 3) := dop_181 (zb_X2_put_0 7 rfl) (zb_X2_put_0 8 rfl) (zb_X2_put_0 9 rfl) rfl
theorem dX2_put_10 : decode cX2_put 10 = .ok (.aload_n 0, 1) := dop_42 (zb_X2_put_0 10 rfl)
theorem dX2_put_11 : decode cX2_put 11 = .ok (.iload 5, 2) := dop_21 (zb_X2_put_0 11 rfl) (zb_X2_put_0 12 rfl)
theorem dX2_put_13 : decode cX2_put 13 = .ok (.putfield 16, 3) := dop_181 (zb_X2_put_0 13 rfl) (zb_X2_put_0 14 rfl) (zb_X2_put_0 15 rfl) rfl
theorem dX2_put_16 : decode cX2_put 16 = .ok (.return_, 1) := dop_177 (zb_X2_put_0 16 rfl)
def zw_X2_lessen_1 : List Nat := [21, 5, 182, 0, 20, 177]
def zt_X2_lessen_1 : List Nat := zw_X2_lessen_1 ++ []
def zw_X2_lessen_0 : List Nat := [42, 180, 0, 7, 33, 105, 55, 6, 31, 42, 180, 0, 13, 105, 55, 8, 22, 8, 22, 6, 148, 155, 0, 16, 22, 8, 22, 6, 148, 154, 0, 16, 21, 5, 153, 0, 11, 42, 31, 33]
def zt_X2_lessen_0 : List Nat := zw_X2_lessen_0 ++ zt_X2_lessen_1
theorem ze_X2_lessen_0 : (dcn cX2_lessen).drop 0 = zt_X2_lessen_0 := by decide +kernel
theorem ze_X2_lessen_1 : (dcn cX2_lessen).drop 40 = zt_X2_lessen_1 := dw_n (wl := zw_X2_lessen_0) ze_X2_lessen_0 rfl
theorem zb_X2_lessen_0 (j : Nat) {n : Nat} (e : zw_X2_lessen_0[j]? = some n) : dby cX2_lessen (0 + j) n := dw_b (t := zt_X2_lessen_1) ze_X2_lessen_0 j e
theorem dX2_lessen_0 : decode cX2_lessen 0 = .ok (.aload_n 0, 1) := dop_42 (zb_X2_lessen_0 0 rfl)
theorem dX2_lessen_1 : decode cX2_lessen 1 = .ok (.getfield 7, 3) := dop_180 (zb_X2_lessen_0 1 rfl) (zb_X2_lessen_0 2 rfl) (zb_X2_lessen_0 3 rfl) rfl
theorem dX2_lessen_4 : decode cX2_lessen 4 = .ok (.lload_n 3, 1) := dop_33 (zb_X2_lessen_0 4 rfl)
theorem dX2_lessen_5 : decode cX2_lessen 5 = .ok (.lmul, 1) := dop_105 (zb_X2_lessen_0 5 rfl)
theorem dX2_lessen_6 : decode cX2_lessen 6 = .ok (.lstore 6, 2) := dop_55 (zb_X2_lessen_0 6 rfl) (zb_X2_lessen_0 7 rfl)
theorem dX2_lessen_8 : decode cX2_lessen 8 = .ok (.lload_n 1, 1) := dop_31 (zb_X2_lessen_0 8 rfl)
theorem dX2_lessen_9 : decode cX2_lessen 9 = .ok (.aload_n 0, 1) := dop_42 (zb_X2_lessen_0 9 rfl)
theorem dX2_lessen_10 : decode cX2_lessen 10 = .ok (.getfield 13, 3) := dop_180 (zb_X2_lessen_0 10 rfl) (zb_X2_lessen_0 11 rfl) (zb_X2_lessen_0 12 rfl) rfl
theorem dX2_lessen_13 : decode cX2_lessen 13 = .ok (.lmul, 1) := dop_105 (zb_X2_lessen_0 13 rfl)
theorem dX2_lessen_14 : decode cX2_lessen 14 = .ok (.lstore 8, 2) := dop_55 (zb_X2_lessen_0 14 rfl) (zb_X2_lessen_0 15 rfl)
theorem dX2_lessen_16 : decode cX2_lessen 16 = .ok (.lload 8, 2) := dop_22 (zb_X2_lessen_0 16 rfl) (zb_X2_lessen_0 17 rfl)
theorem dX2_lessen_18 : decode cX2_lessen 18 = .ok (.lload 6, 2) := dop_22 (zb_X2_lessen_0 18 rfl) (zb_X2_lessen_0 19 rfl)
theorem dX2_lessen_20 : decode cX2_lessen 20 = .ok (.lcmp, 1) := dop_148 (zb_X2_lessen_0 20 rfl)
theorem dX2_lessen_21 : decode cX2_lessen 21 = .ok (.ifCond .lt 16, 3) := dop_155 (zb_X2_lessen_0 21 rfl) (zb_X2_lessen_0 22 rfl) (zb_X2_lessen_0 23 rfl) rfl
theorem dX2_lessen_24 : decode cX2_lessen 24 = .ok (.lload 8, 2) := dop_22 (zb_X2_lessen_0 24 rfl) (zb_X2_lessen_0 25 rfl)
theorem dX2_lessen_26 : decode cX2_lessen 26 = .ok (.lload 6, 2) := dop_22 (zb_X2_lessen_0 26 rfl) (zb_X2_lessen_0 27 rfl)
theorem dX2_lessen_28 : decode cX2_lessen 28 = .ok (.lcmp, 1) := dop_148 (zb_X2_lessen_0 28 rfl)
theorem dX2_lessen_29 : decode cX2_lessen 29 = .ok (.ifCond .ne 16, 3) := dop_154 (zb_X2_lessen_0 29 rfl) (zb_X2_lessen_0 30 rfl) (zb_X2_lessen_0 31 rfl) rfl
theorem dX2_lessen_32 : decode cX2_lessen 32 = .ok (.iload 5, 2) := dop_21 (zb_X2_lessen_0 32 rfl) (zb_X2_lessen_0 33 rfl)
theorem dX2_lessen_34 : decode cX2_lessen 34 = .ok (.ifCond .eq 11, 3) := dop_153 (zb_X2_lessen_0 34 rfl) (zb_X2_lessen_0 35 rfl) (zb_X2_lessen_0 36 rfl) rfl
theorem dX2_lessen_37 : decode cX2_lessen 37 = .ok (.aload_n 0, 1) := dop_42 (zb_X2_lessen_0 37 rfl)
theorem dX2_lessen_38 : decode cX2_lessen 38 = .ok (.lload_n 1, 1) := dop_31 (zb_X2_lessen_0 38 rfl)
theorem dX2_lessen_39 : decode cX2_lessen 39 = .ok (.lload_n 3, 1) := dop_33 (zb_X2_lessen_0 39 rfl)
theorem zb_X2_lessen_1 (j : Nat) {n : Nat} (e : zw_X2_lessen_1[j]? = some n) : dby cX2_lessen (40 + j) n := dw_b (t := []) ze_X2_lessen_1 j e
theorem dX2_lessen_40 : decode cX2_lessen 40 = .ok (.iload 5, 2) := dop_21 (zb_X2_lessen_1 0 rfl) (zb_X2_lessen_1 1 rfl)
theorem dX2_lessen_42 : decode cX2_lessen 42 = .ok (.invokevirtual 20, 3) := dop_182 (zb_X2_lessen_1 2 rfl) (zb_X2_lessen_1 3 rfl) (zb_X2_lessen_1 4 rfl) rfl
theorem dX2_lessen_45 : decode cX2_lessen 45 = .ok (.return_, 1) := dop_177 (zb_X2_lessen_1 5 rfl)
def zw_X2_isBelowOne_1 : List Nat := [4, 167, 0, 4, 3, 172]
def zt_X2_isBelowOne_1 : List Nat := zw_X2_isBelowOne_1 ++ []
def zw_X2_isBelowOne_0 : List Nat := [42, 180, 0, 13, 9, 148, 153, 0, 38, 42, 180, 0, 7, 42, 180, 0, 13, 148, 155, 0, 22, 42, 180, 0, 7, 42, 180, 0, 13, 148, 154, 0, 14, 42, 180, 0, 16, 153, 0, 7]
def zt_X2_isBelowOne_0 : List Nat := zw_X2_isBelowOne_0 ++ zt_X2_isBelowOne_1
theorem ze_X2_isBelowOne_0 : (dcn cX2_isBelowOne).drop 0 = zt_X2_isBelowOne_0 := by decide +kernel
theorem ze_X2_isBelowOne_1 : (dcn cX2_isBelowOne).drop 40 = zt_X2_isBelowOne_1 := dw_n (wl := zw_X2_isBelowOne_0) ze_X2_isBelowOne_0 rfl
theorem zb_X2_isBelowOne_0 (j : Nat) {n : Nat} (e : zw_X2_isBelowOne_0[j]? = some n) : dby cX2_isBelowOne (0 + j) n := dw_b (t := zt_X2_isBelowOne_1) ze_X2_isBelowOne_0 j e
theorem dX2_isBelowOne_0 : decode cX2_isBelowOne 0 = .ok (.aload_n 0, 1) := dop_42 (zb_X2_isBelowOne_0 0 rfl)
theorem dX2_isBelowOne_1 : decode cX2_isBelowOne 1 = .ok (.getfield 13, 3) := dop_180 (zb_X2_isBelowOne_0 1 rfl) (zb_X2_isBelowOne_0 2 rfl) (zb_X2_isBelowOne_0 3 rfl) rfl
theorem dX2_isBelowOne_4 : decode cX2_isBelowOne 4 = .ok (.lconst 0, 1) := dop_9 (zb_X2_isBelowOne_0 4 rfl)
theorem dX2_isBelowOne_5 : decode cX2_isBelowOne 5 = .ok (.lcmp, 1) := dop_148 (zb_X2_isBelowOne_0 5 rfl)
theorem dX2_isBelowOne_6 : decode cX2_isBelowOne 6 = .ok (.ifCond .eq 38, 3) := dop_153 (zb_X2_isBelowOne_0 6 rfl) (zb_X2_isBelowOne_0 7 rfl) (zb_X2_isBelowOne_0 8 rfl) rfl
theorem dX2_isBelowOne_9 : decode cX2_isBelowOne 9 = .ok (.aload_n 0, 1) := dop_42 (zb_X2_isBelowOne_0 9 rfl)
theorem dX2_isBelowOne_10 : decode cX2_isBelowOne 10 = .ok (.getfield 7, 3) := dop_180 (zb_X2_isBelowOne_0 10 rfl) (zb_X2_isBelowOne_0 11 rfl) (zb_X2_isBelowOne_0 12 rfl) rfl
theorem dX2_isBelowOne_13 : decode cX2_isBelowOne 13 = .ok (.aload_n 0, 1) := dop_42 (zb_X2_isBelowOne_0 13 rfl)
theorem dX2_isBelowOne_14 : decode cX2_isBelowOne 14 = .ok (.getfield 13, 3) := dop_180 (zb_X2_isBelowOne_0 14 rfl) (zb_X2_isBelowOne_0 15 rfl) (zb_X2_isBelowOne_0 16 rfl) rfl
theorem dX2_isBelowOne_17 : decode cX2_isBelowOne 17 = .ok (.lcmp, 1) := dop_148 (zb_X2_isBelowOne_0 17 rfl)
theorem dX2_isBelowOne_18 : decode cX2_isBelowOne 18 = .ok (.ifCond .lt 22, 3) := dop_155 (zb_X2_isBelowOne_0 18 rfl) (zb_X2_isBelowOne_0 19 rfl) (zb_X2_isBelowOne_0 20 rfl) rfl
theorem dX2_isBelowOne_21 : decode cX2_isBelowOne 21 = .ok (.aload_n 0, 1) := dop_42 (zb_X2_isBelowOne_0 21 rfl)
theorem dX2_isBelowOne_22 : decode cX2_isBelowOne 22 = .ok (.getfield 7, 3) := dop_180 (zb_X2_isBelowOne_0 22 rfl) (zb_X2_isBelowOne_0 23 rfl) (zb_X2_isBelowOne_0 24 rfl) rfl
theorem dX2_isBelowOne_25 : decode cX2_isBelowOne 25 = .ok (.aload_n 0, 1) := dop_42 (zb_X2_isBelowOne_0 25 rfl)
theorem dX2_isBelowOne_26 : decode cX2_isBelowOne 26 = .ok (.getfield 13, 3) := dop_180 (zb_X2_isBelowOne_0 26 rfl) (zb_X2_isBelowOne_0 27 rfl) (zb_X2_isBelowOne_0 28 rfl) rfl
theorem dX2_isBelowOne_29 : decode cX2_isBelowOne 29 = .ok (.lcmp, 1) := dop_148 (zb_X2_isBelowOne_0 29 rfl)
theorem dX2_isBelowOne_30 : decode cX2_isBelowOne 30 = .ok (.ifCond .ne 14, 3) := dop_154 (zb_X2_isBelowOne_0 30 rfl) (zb_X2_isBelowOne_0 31 rfl) (zb_X2_isBelowOne_0 32 rfl) rfl
theorem dX2_isBelowOne_33 : decode cX2_isBelowOne 33 = .ok (.aload_n 0, 1) := dop_42 (zb_X2_isBelowOne_0 33 rfl)
theorem dX2_isBelowOne_34 : decode cX2_isBelowOne 34 = .ok (.getfield 16, 3) := dop_180 (zb_X2_isBelowOne_0 34 rfl) (zb_X2_isBelowOne_0 35 rfl) (zb_X2_isBelowOne_0 36 rfl) rfl
theorem dX2_isBelowOne_37 : decode cX2_isBelowOne 37 = .ok (.ifCond .eq 7, 3) := dop_153 (zb_X2_isBelowOne_0 37 rfl) (zb_X2_isBelowOne_0 38 rfl) (zb_X2_isBelowOne_0 39 rfl) rfl
theorem zb_X2_isBelowOne_1 (j : Nat) {n : Nat} (e : zw_X2_isBelowOne_1[j]? = some n) : dby cX2_isBelowOne (40 + j) n := dw_b (t := []) ze_X2_isBelowOne_1 j e
theorem dX2_isBelowOne_40 : decode cX2_isBelowOne 40 = .ok (.iconst 1, 1) := dop_4 (zb_X2_isBelowOne_1 0 rfl)
theorem dX2_isBelowOne_41 : decode cX2_isBelowOne 41 = .ok (.goto 4, 3) := dop_167 (zb_X2_isBelowOne_1 1 rfl) (zb_X2_isBelowOne_1 2 rfl) (zb_X2_isBelowOne_1 3 rfl) rfl
theorem dX2_isBelowOne_44 : decode cX2_isBelowOne 44 = .ok (.iconst 0, 1) := dop_3 (zb_X2_isBelowOne_1 4 rfl)
theorem dX2_isBelowOne_45 : decode cX2_isBelowOne 45 = .ok (.ireturn, 1) := dop_172 (zb_X2_isBelowOne_1 5 rfl)
def zw_X2_contradicts_1 : List Nat := [154, 0, 10, 43, 180, 0, 16, 153, 0, 7, 4, 167, 0, 4, 3, 172]
def zt_X2_contradicts_1 : List Nat := zw_X2_contradicts_1 ++ []
def zw_X2_contradicts_0 : List Nat := [42, 180, 0, 7, 43, 180, 0, 7, 105, 65, 42, 180, 0, 13, 43, 180, 0, 13, 105, 55, 4, 32, 22, 4, 148, 155, 0, 24, 32, 22, 4, 148, 154, 0, 21, 42, 180, 0, 16]
def zt_X2_contradicts_0 : List Nat := zw_X2_contradicts_0 ++ zt_X2_contradicts_1
theorem ze_X2_contradicts_0 : (dcn cX2_contradicts).drop 0 = zt_X2_contradicts_0 := by decide +kernel
theorem ze_X2_contradicts_1 : (dcn cX2_contradicts).drop 39 = zt_X2_contradicts_1 := dw_n (wl := zw_X2_contradicts_0) ze_X2_contradicts_0 rfl
theorem zb_X2_contradicts_0 (j : Nat) {n : Nat} (e : zw_X2_contradicts_0[j]? = some n) : dby cX2_contradicts (0 + j) n := dw_b (t := zt_X2_contradicts_1) ze_X2_contradicts_0 j e
theorem dX2_contradicts_0 : decode cX2_contradicts 0 = .ok (.aload_n 0, 1) := dop_42 (zb_X2_contradicts_0 0 rfl)
theorem dX2_contradicts_1 : decode cX2_contradicts 1 = .ok (.getfield 7, 3) := dop_180 (zb_X2_contradicts_0 1 rfl) (zb_X2_contradicts_0 2 rfl) (zb_X2_contradicts_0 3 rfl) rfl
theorem dX2_contradicts_4 : decode cX2_contradicts 4 = .ok (.aload_n 1, 1) := dop_43 (zb_X2_contradicts_0 4 rfl)
theorem dX2_contradicts_5 : decode cX2_contradicts 5 = .ok (.getfield 7, 3) := dop_180 (zb_X2_contradicts_0 5 rfl) (zb_X2_contradicts_0 6 rfl) (zb_X2_contradicts_0 7 rfl) rfl
theorem dX2_contradicts_8 : decode cX2_contradicts 8 = .ok (.lmul, 1) := dop_105 (zb_X2_contradicts_0 8 rfl)
theorem dX2_contradicts_9 : decode cX2_contradicts 9 = .ok (.lstore_n 2, 1) := dop_65 (zb_X2_contradicts_0 9 rfl)
theorem dX2_contradicts_10 : decode cX2_contradicts 10 = .ok (.aload_n 0, 1) := dop_42 (zb_X2_contradicts_0 10 rfl)
theorem dX2_contradicts_11 : decode cX2_contradicts 11 = .ok (.getfield 13, 3) := dop_180 (zb_X2_contradicts_0 11 rfl) (zb_X2_contradicts_0 12 rfl) (zb_X2_contradicts_0 13 rfl) rfl
theorem dX2_contradicts_14 : decode cX2_contradicts 14 = .ok (.aload_n 1, 1) := dop_43 (zb_X2_contradicts_0 14 rfl)
theorem dX2_contradicts_15 : decode cX2_contradicts 15 = .ok (.getfield 13, 3) := dop_180 (zb_X2_contradicts_0 15 rfl) (zb_X2_contradicts_0 16 rfl) (zb_X2_contradicts_0 17 rfl) rfl
theorem dX2_contradicts_18 : decode cX2_contradicts 18 = .ok (.lmul, 1) := dop_105 (zb_X2_contradicts_0 18 rfl)
theorem dX2_contradicts_19 : decode cX2_contradicts 19 = .ok (.lstore 4, 2) := dop_55 (zb_X2_contradicts_0 19 rfl) (zb_X2_contradicts_0 20 rfl)
theorem dX2_contradicts_21 : decode cX2_contradicts 21 = .ok (.lload_n 2, 1) := dop_32 (zb_X2_contradicts_0 21 rfl)
theorem dX2_contradicts_22 : decode cX2_contradicts 22 = .ok (.lload 4, 2) := dop_22 (zb_X2_contradicts_0 22 rfl) (zb_X2_contradicts_0 23 rfl)
theorem dX2_contradicts_24 : decode cX2_contradicts 24 = .ok (.lcmp, 1) := dop_148 (zb_X2_contradicts_0 24 rfl)
theorem dX2_contradicts_25 : decode cX2_contradicts 25 = .ok (.ifCond .lt 24, 3) := dop_155 (zb_X2_contradicts_0 25 rfl) (zb_X2_contradicts_0 26 rfl) (zb_X2_contradicts_0 27 rfl) rfl
theorem dX2_contradicts_28 : decode cX2_contradicts 28 = .ok (.lload_n 2, 1) := dop_32 (zb_X2_contradicts_0 28 rfl)
theorem dX2_contradicts_29 : decode cX2_contradicts 29 = .ok (.lload 4, 2) := dop_22 (zb_X2_contradicts_0 29 rfl) (zb_X2_contradicts_0 30 rfl)
theorem dX2_contradicts_31 : decode cX2_contradicts 31 = .ok (.lcmp, 1) := dop_148 (zb_X2_contradicts_0 31 rfl)
theorem dX2_contradicts_32 : decode cX2_contradicts 32 = .ok (.ifCond .ne 21, 3) := dop_154 (zb_X2_contradicts_0 32 rfl) (zb_X2_contradicts_0 33 rfl) (zb_X2_contradicts_0 34 rfl) rfl
theorem dX2_contradicts_35 : decode cX2_contradicts 35 = .ok (.aload_n 0, 1) := dop_42 (zb_X2_contradicts_0 35 rfl)
theorem dX2_contradicts_36 : decode cX2_contradicts 36 = .ok (.getfield 16, 3) := dop_180 (zb_X2_contradicts_0 36 rfl) (zb_X2_contradicts_0 37 rfl) (zb_X2_contradicts_0 38 rfl) rfl
theorem zb_X2_contradicts_1 (j : Nat) {n : Nat} (e : zw_X2_contradicts_1[j]? = some n) : dby cX2_contradicts (39 + j) n := dw_b (t := []) ze_X2_contradicts_1 j e
theorem dX2_contradicts_39 : decode cX2_contradicts 39 = .ok (.ifCond .ne 10, 3) := dop_154 (zb_X2_contradicts_1 0 rfl) (zb_X2_contradicts_1 1 rfl) (zb_X2_contradicts_1 2 rfl) rfl
theorem dX2_contradicts_42 : decode cX2_contradicts 42 = .ok (.aload_n 1, 1) := dop_43 (zb_X2_contradicts_1 3 rfl)
theorem dX2_contradicts_43 : decode cX2_contradicts 43 = .ok (.getfield 16, 3) := dop_180 (zb_X2_contradicts_1 4 rfl) (zb_X2_contradicts_1 5 rfl) (zb_X2_contradicts_1 6 rfl) rfl
theorem dX2_contradicts_46 : decode cX2_contradicts 46 = .ok (.ifCond .eq 7, 3) := dop_153 (zb_X2_contradicts_1 7 rfl) (zb_X2_contradicts_1 8 rfl) (zb_X2_contradicts_1 9 rfl) rfl
theorem dX2_contradicts_49 : decode cX2_contradicts 49 = .ok (.iconst 1, 1) := dop_4 (zb_X2_contradicts_1 10 rfl)
theorem dX2_contradicts_50 : decode cX2_contradicts 50 = .ok (.goto 4, 3) := dop_167 (zb_X2_contradicts_1 11 rfl) (zb_X2_contradicts_1 12 rfl) (zb_X2_contradicts_1 13 rfl) rfl
theorem dX2_contradicts_53 : decode cX2_contradicts 53 = .ok (.iconst 0, 1) := dop_3 (zb_X2_contradicts_1 14 rfl)
theorem dX2_contradicts_54 : decode cX2_contradicts 54 = .ok (.ireturn, 1) := dop_172 (zb_X2_contradicts_1 15 rfl)
def zw_X3_init_0 : List Nat := [42, 183, 0, 3, 42, 43, 181, 0, 9, 177]
def zt_X3_init_0 : List Nat := zw_X3_init_0 ++ []
theorem ze_X3_init_0 : (dcn cX3_init).drop 0 = zt_X3_init_0 := by decide +kernel
theorem zb_X3_init_0 (j : Nat) {n : Nat} (e : zw_X3_init_0[j]? = some n) : dby cX3_init (0 + j) n := dw_b (t := []) ze_X3_init_0 j e
theorem dX3_init_0 : decode cX3_init 0 = .ok (.aload_n 0, 1) := dop_42 (zb_X3_init_0 0 rfl)
theorem dX3_init_1 : decode cX3_init 1 = .ok (.invokespecial 3, 3) := dop_183 (zb_X3_init_0 1 rfl) (zb_X3_init_0 2 rfl) (zb_X3_init_0 3 rfl) rfl
theorem dX3_init_4 : decode cX3_init 4 = .ok (.aload_n 0, 1) := dop_42 (zb_X3_init_0 4 rfl)
theorem dX3_init_5 : decode cX3_init 5 = .ok (.aload_n 1, 1) := dop_43 (zb_X3_init_0 5 rfl)
theorem dX3_init_6 : decode cX3_init 6 = .ok (.putfield 9, 3) := dop_181 (zb_X3_init_0 6 rfl) (zb_X3_init_0 7 rfl) (zb_X3_init_0 8 rfl) rfl
theorem dX3_init_9 : decode cX3_init 9 = .ok (.return_, 1) := dop_177 (zb_X3_init_0 9 rfl)
def zw_X3_leaveOut_1 : List Nat := [154, 0, 6, 21, 5, 62, 132, 4, 1, 167, 255, 214, 29, 172]
def zt_X3_leaveOut_1 : List Nat := zw_X3_leaveOut_1 ++ []
def zw_X3_leaveOut_0 : List Nat := [28, 62, 3, 54, 4, 21, 4, 16, 24, 162, 0, 41, 29, 4, 21, 4, 120, 2, 130, 126, 54, 5, 21, 5, 29, 159, 0, 19, 42, 180, 0, 9, 43, 21, 5, 182, 0, 15]
def zt_X3_leaveOut_0 : List Nat := zw_X3_leaveOut_0 ++ zt_X3_leaveOut_1
theorem ze_X3_leaveOut_0 : (dcn cX3_leaveOut).drop 0 = zt_X3_leaveOut_0 := by decide +kernel
theorem ze_X3_leaveOut_1 : (dcn cX3_leaveOut).drop 38 = zt_X3_leaveOut_1 := dw_n (wl := zw_X3_leaveOut_0) ze_X3_leaveOut_0 rfl
theorem zb_X3_leaveOut_0 (j : Nat) {n : Nat} (e : zw_X3_leaveOut_0[j]? = some n) : dby cX3_leaveOut (0 + j) n := dw_b (t := zt_X3_leaveOut_1) ze_X3_leaveOut_0 j e
theorem dX3_leaveOut_0 : decode cX3_leaveOut 0 = .ok (.iload_n 2, 1) := dop_28 (zb_X3_leaveOut_0 0 rfl)
theorem dX3_leaveOut_1 : decode cX3_leaveOut 1 = .ok (.istore_n 3, 1) := dop_62 (zb_X3_leaveOut_0 1 rfl)
theorem dX3_leaveOut_2 : decode cX3_leaveOut 2 = .ok (.iconst 0, 1) := dop_3 (zb_X3_leaveOut_0 2 rfl)
theorem dX3_leaveOut_3 : decode cX3_leaveOut 3 = .ok (.istore 4, 2) := dop_54 (zb_X3_leaveOut_0 3 rfl) (zb_X3_leaveOut_0 4 rfl)
theorem dX3_leaveOut_5 : decode cX3_leaveOut 5 = .ok (.iload 4, 2) := dop_21 (zb_X3_leaveOut_0 5 rfl) (zb_X3_leaveOut_0 6 rfl)
theorem dX3_leaveOut_7 : decode cX3_leaveOut 7 = .ok (.bipush 24, 2) := dop_16 (zb_X3_leaveOut_0 7 rfl) (zb_X3_leaveOut_0 8 rfl) rfl
theorem dX3_leaveOut_9 : decode cX3_leaveOut 9 = .ok (.if_icmp .ge 41, 3) := dop_162 (zb_X3_leaveOut_0 9 rfl) (zb_X3_leaveOut_0 10 rfl) (zb_X3_leaveOut_0 11 rfl) rfl
theorem dX3_leaveOut_12 : decode cX3_leaveOut 12 = .ok (.iload_n 3, 1) := dop_29 (zb_X3_leaveOut_0 12 rfl)
theorem dX3_leaveOut_13 : decode cX3_leaveOut 13 = .ok (.iconst 1, 1) := dop_4 (zb_X3_leaveOut_0 13 rfl)
theorem dX3_leaveOut_14 : decode cX3_leaveOut 14 = .ok (.iload 4, 2) := dop_21 (zb_X3_leaveOut_0 14 rfl) (zb_X3_leaveOut_0 15 rfl)
theorem dX3_leaveOut_16 : decode cX3_leaveOut 16 = .ok (.ishl, 1) := dop_120 (zb_X3_leaveOut_0 16 rfl)
theorem dX3_leaveOut_17 : decode cX3_leaveOut 17 = .ok (.iconst (-1), 1) := dop_2 (zb_X3_leaveOut_0 17 rfl)
theorem dX3_leaveOut_18 : decode cX3_leaveOut 18 = .ok (.ixor, 1) := dop_130 (zb_X3_leaveOut_0 18 rfl)
theorem dX3_leaveOut_19 : decode cX3_leaveOut 19 = .ok (.iand, 1) := dop_126 (zb_X3_leaveOut_0 19 rfl)
theorem dX3_leaveOut_20 : decode cX3_leaveOut 20 = .ok (.istore 5, 2) := dop_54 (zb_X3_leaveOut_0 20 rfl) (zb_X3_leaveOut_0 21 rfl)
theorem dX3_leaveOut_22 : decode cX3_leaveOut 22 = .ok (.iload 5, 2) := dop_21 (zb_X3_leaveOut_0 22 rfl) (zb_X3_leaveOut_0 23 rfl)
theorem dX3_leaveOut_24 : decode cX3_leaveOut 24 = .ok (.iload_n 3, 1) := dop_29 (zb_X3_leaveOut_0 24 rfl)
theorem dX3_leaveOut_25 : decode cX3_leaveOut 25 = .ok (.if_icmp .eq 19, 3) := dop_159 (zb_X3_leaveOut_0 25 rfl) (zb_X3_leaveOut_0 26 rfl) (zb_X3_leaveOut_0 27 rfl) rfl
theorem dX3_leaveOut_28 : decode cX3_leaveOut 28 = .ok (.aload_n 0, 1) := dop_42 (zb_X3_leaveOut_0 28 rfl)
theorem dX3_leaveOut_29 : decode cX3_leaveOut 29 = .ok (.getfield 9, 3) := dop_180 (zb_X3_leaveOut_0 29 rfl) (zb_X3_leaveOut_0 30 rfl) (zb_X3_leaveOut_0 31 rfl) rfl
theorem dX3_leaveOut_32 : decode cX3_leaveOut 32 = .ok (.aload_n 1, 1) := dop_43 (zb_X3_leaveOut_0 32 rfl)
theorem dX3_leaveOut_33 : decode cX3_leaveOut 33 = .ok (.iload 5, 2) := dop_21 (zb_X3_leaveOut_0 33 rfl) (zb_X3_leaveOut_0 34 rfl)
theorem dX3_leaveOut_35 : decode cX3_leaveOut 35 = .ok (.invokevirtual 15, 3) := dop_182 (zb_X3_leaveOut_0 35 rfl) (zb_X3_leaveOut_0 36 rfl) (zb_X3_leaveOut_0 37 rfl) rfl
theorem zb_X3_leaveOut_1 (j : Nat) {n : Nat} (e : zw_X3_leaveOut_1[j]? = some n) : dby cX3_leaveOut (38 + j) n := dw_b (t := []) ze_X3_leaveOut_1 j e
theorem dX3_leaveOut_38 : decode cX3_leaveOut 38 = .ok (.ifCond .ne 6, 3) := dop_154 (zb_X3_leaveOut_1 0 rfl) (zb_X3_leaveOut_1 1 rfl) (zb_X3_leaveOut_1 2 rfl) rfl
theorem dX3_leaveOut_41 : decode cX3_leaveOut 41 = .ok (.iload 5, 2) := dop_21 (zb_X3_leaveOut_1 3 rfl) (zb_X3_leaveOut_1 4 rfl)
theorem dX3_leaveOut_43 : decode cX3_leaveOut 43 = .ok (.istore_n 3, 1) := dop_62 (zb_X3_leaveOut_1 5 rfl)
theorem dX3_leaveOut_44 : decode cX3_leaveOut 44 = .ok (.iinc 4 1, 3) := dop_132 (zb_X3_leaveOut_1 6 rfl) (zb_X3_leaveOut_1 7 rfl) (zb_X3_leaveOut_1 8 rfl) rfl
theorem dX3_leaveOut_47 : decode cX3_leaveOut 47 = .ok (.goto (-42), 3) := dop_167 (zb_X3_leaveOut_1 9 rfl) (zb_X3_leaveOut_1 10 rfl) (zb_X3_leaveOut_1 11 rfl) rfl
theorem dX3_leaveOut_50 : decode cX3_leaveOut 50 = .ok (.iload_n 3, 1) := dop_29 (zb_X3_leaveOut_1 12 rfl)
theorem dX3_leaveOut_51 : decode cX3_leaveOut 51 = .ok (.ireturn, 1) := dop_172 (zb_X3_leaveOut_1 13 rfl)
def zw_X3_search_5 : List Nat := [167, 0, 4, 3, 172]
def zt_X3_search_5 : List Nat := zw_X3_search_5 ++ []
def zw_X3_search_4 : List Nat := [182, 0, 48, 153, 0, 22, 21, 6, 154, 0, 17, 42, 43, 4, 21, 4, 120, 4, 21, 5, 120, 128, 182, 0, 44, 132, 3, 1, 167, 255, 167, 42, 180, 0, 25, 158, 0, 7, 4]
def zt_X3_search_4 : List Nat := zw_X3_search_4 ++ zt_X3_search_5
def zw_X3_search_3 : List Nat := [21, 4, 159, 0, 19, 28, 21, 5, 184, 0, 40, 153, 0, 14, 21, 5, 21, 4, 162, 0, 7, 4, 167, 0, 4, 3, 54, 6, 28, 21, 4, 184, 0, 40, 153, 0, 31, 43, 21, 5]
def zt_X3_search_3 : List Nat := zw_X3_search_3 ++ zt_X3_search_4
def zw_X3_search_2 : List Nat := [167, 255, 231, 42, 180, 0, 25, 158, 0, 5, 4, 172, 42, 5, 181, 0, 21, 3, 62, 29, 17, 2, 64, 162, 0, 88, 29, 16, 24, 108, 54, 4, 29, 16, 24, 112, 54, 5, 21, 5]
def zt_X3_search_2 : List Nat := zw_X3_search_2 ++ zt_X3_search_3
def zw_X3_search_1 : List Nat := [180, 0, 31, 182, 0, 36, 61, 42, 4, 181, 0, 21, 3, 62, 29, 16, 24, 162, 0, 25, 28, 29, 184, 0, 40, 153, 0, 11, 42, 43, 4, 29, 120, 182, 0, 44, 132, 3, 1]
def zt_X3_search_1 : List Nat := zw_X3_search_1 ++ zt_X3_search_2
def zw_X3_search_0 : List Nat := [42, 3, 181, 0, 21, 42, 4, 181, 0, 25, 42, 3, 181, 0, 28, 42, 180, 0, 9, 43, 43, 180, 0, 31, 182, 0, 15, 153, 0, 5, 4, 172, 42, 3, 181, 0, 25, 42, 43, 43]
def zt_X3_search_0 : List Nat := zw_X3_search_0 ++ zt_X3_search_1
theorem ze_X3_search_0 : (dcn cX3_search).drop 0 = zt_X3_search_0 := by decide +kernel
theorem ze_X3_search_1 : (dcn cX3_search).drop 40 = zt_X3_search_1 := dw_n (wl := zw_X3_search_0) ze_X3_search_0 rfl
theorem zb_X3_search_0 (j : Nat) {n : Nat} (e : zw_X3_search_0[j]? = some n) : dby cX3_search (0 + j) n := dw_b (t := zt_X3_search_1) ze_X3_search_0 j e
theorem dX3_search_0 : decode cX3_search 0 = .ok (.aload_n 0, 1) := dop_42 (zb_X3_search_0 0 rfl)
theorem dX3_search_1 : decode cX3_search 1 = .ok (.iconst 0, 1) := dop_3 (zb_X3_search_0 1 rfl)
theorem dX3_search_2 : decode cX3_search 2 = .ok (.putfield 21, 3) := dop_181 (zb_X3_search_0 2 rfl) (zb_X3_search_0 3 rfl) (zb_X3_search_0 4 rfl) rfl
theorem dX3_search_5 : decode cX3_search 5 = .ok (.aload_n 0, 1) := dop_42 (zb_X3_search_0 5 rfl)
theorem dX3_search_6 : decode cX3_search 6 = .ok (.iconst 1, 1) := dop_4 (zb_X3_search_0 6 rfl)
theorem dX3_search_7 : decode cX3_search 7 = .ok (.putfield 25, 3) := dop_181 (zb_X3_search_0 7 rfl) (zb_X3_search_0 8 rfl) (zb_X3_search_0 9 rfl) rfl
theorem dX3_search_10 : decode cX3_search 10 = .ok (.aload_n 0, 1) := dop_42 (zb_X3_search_0 10 rfl)
theorem dX3_search_11 : decode cX3_search 11 = .ok (.iconst 0, 1) := dop_3 (zb_X3_search_0 11 rfl)
theorem dX3_search_12 : decode cX3_search 12 = .ok (.putfield 28, 3) := dop_181 (zb_X3_search_0 12 rfl) (zb_X3_search_0 13 rfl) (zb_X3_search_0 14 rfl) rfl
theorem dX3_search_15 : decode cX3_search 15 = .ok (.aload_n 0, 1) := dop_42 (zb_X3_search_0 15 rfl)
theorem dX3_search_16 : decode cX3_search 16 = .ok (.getfield 9, 3) := dop_180 (zb_X3_search_0 16 rfl) (zb_X3_search_0 17 rfl) (zb_X3_search_0 18 rfl) rfl
theorem dX3_search_19 : decode cX3_search 19 = .ok (.aload_n 1, 1) := dop_43 (zb_X3_search_0 19 rfl)
theorem dX3_search_20 : decode cX3_search 20 = .ok (.aload_n 1, 1) := dop_43 (zb_X3_search_0 20 rfl)
theorem dX3_search_21 : decode cX3_search 21 = .ok (.getfield 31, 3) := dop_180 (zb_X3_search_0 21 rfl) (zb_X3_search_0 22 rfl) (zb_X3_search_0 23 rfl) rfl
theorem dX3_search_24 : decode cX3_search 24 = .ok (.invokevirtual 15, 3) := dop_182 (zb_X3_search_0 24 rfl) (zb_X3_search_0 25 rfl) (zb_X3_search_0 26 rfl) rfl
theorem dX3_search_27 : decode cX3_search 27 = .ok (.ifCond .eq 5, 3) := dop_153 (zb_X3_search_0 27 rfl) (zb_X3_search_0 28 rfl) (zb_X3_search_0 29 rfl) rfl
theorem dX3_search_30 : decode cX3_search 30 = .ok (.iconst 1, 1) := dop_4 (zb_X3_search_0 30 rfl)
theorem dX3_search_31 : decode cX3_search 31 = .ok (.ireturn, 1) := dop_172 (zb_X3_search_0 31 rfl)
theorem dX3_search_32 : decode cX3_search 32 = .ok (.aload_n 0, 1) := dop_42 (zb_X3_search_0 32 rfl)
theorem dX3_search_33 : decode cX3_search 33 = .ok (.iconst 0, 1) := dop_3 (zb_X3_search_0 33 rfl)
theorem dX3_search_34 : decode cX3_search 34 = .ok (.putfield 25, 3) := dop_181 (zb_X3_search_0 34 rfl) (zb_X3_search_0 35 rfl) (zb_X3_search_0 36 rfl) rfl
theorem dX3_search_37 : decode cX3_search 37 = .ok (.aload_n 0, 1) := dop_42 (zb_X3_search_0 37 rfl)
theorem dX3_search_38 : decode cX3_search 38 = .ok (.aload_n 1, 1) := dop_43 (zb_X3_search_0 38 rfl)
theorem dX3_search_39 : decode cX3_search 39 = .ok (.aload_n 1, 1) := dop_43 (zb_X3_search_0 39 rfl)
theorem ze_X3_search_2 : (dcn cX3_search).drop 79 = zt_X3_search_2 := dw_n (wl := zw_X3_search_1) ze_X3_search_1 rfl
theorem zb_X3_search_1 (j : Nat) {n : Nat} (e : zw_X3_search_1[j]? = some n) : dby cX3_search (40 + j) n := dw_b (t := zt_X3_search_2) ze_X3_search_1 j e
theorem dX3_search_40 : decode cX3_search 40 = .ok (.getfield 31, 3) := dop_180 (zb_X3_search_1 0 rfl) (zb_X3_search_1 1 rfl) (zb_X3_search_1 2 rfl) rfl
theorem dX3_search_43 : decode cX3_search 43 = .ok (.invokevirtual 36, 3) := dop_182 (zb_X3_search_1 3 rfl) (zb_X3_search_1 4 rfl) (zb_X3_search_1 5 rfl) rfl
theorem dX3_search_46 : decode cX3_search 46 = .ok (.istore_n 2, 1) := dop_61 (zb_X3_search_1 6 rfl)
theorem dX3_search_47 : decode cX3_search 47 = .ok (.aload_n 0, 1) := dop_42 (zb_X3_search_1 7 rfl)
theorem dX3_search_48 : decode cX3_search 48 = .ok (.iconst 1, 1) := dop_4 (zb_X3_search_1 8 rfl)
theorem dX3_search_49 : decode cX3_search 49 = .ok (.putfield 21, 3) := dop_181 (zb_X3_search_1 9 rfl) (zb_X3_search_1 10 rfl) (zb_X3_search_1 11 rfl) rfl
theorem dX3_search_52 : decode cX3_search 52 = .ok (.iconst 0, 1) := dop_3 (zb_X3_search_1 12 rfl)
theorem dX3_search_53 : decode cX3_search 53 = .ok (.istore_n 3, 1) := dop_62 (zb_X3_search_1 13 rfl)
theorem dX3_search_54 : decode cX3_search 54 = .ok (.iload_n 3, 1) := dop_29 (zb_X3_search_1 14 rfl)
theorem dX3_search_55 : decode cX3_search 55 = .ok (.bipush 24, 2) := dop_16 (zb_X3_search_1 15 rfl) (zb_X3_search_1 16 rfl) rfl
theorem dX3_search_57 : decode cX3_search 57 = .ok (.if_icmp .ge 25, 3) := dop_162 (zb_X3_search_1 17 rfl) (zb_X3_search_1 18 rfl) (zb_X3_search_1 19 rfl) rfl
theorem dX3_search_60 : decode cX3_search 60 = .ok (.iload_n 2, 1) := dop_28 (zb_X3_search_1 20 rfl)
theorem dX3_search_61 : decode cX3_search 61 = .ok (.iload_n 3, 1) := dop_29 (zb_X3_search_1 21 rfl)
theorem dX3_search_62 : decode cX3_search 62 = .ok (.invokestatic 40, 3) := dop_184 (zb_X3_search_1 22 rfl) (zb_X3_search_1 23 rfl) (zb_X3_search_1 24 rfl) rfl
theorem dX3_search_65 : decode cX3_search 65 = .ok (.ifCond .eq 11, 3) := dop_153 (zb_X3_search_1 25 rfl) (zb_X3_search_1 26 rfl) (zb_X3_search_1 27 rfl) rfl
theorem dX3_search_68 : decode cX3_search 68 = .ok (.aload_n 0, 1) := dop_42 (zb_X3_search_1 28 rfl)
theorem dX3_search_69 : decode cX3_search 69 = .ok (.aload_n 1, 1) := dop_43 (zb_X3_search_1 29 rfl)
theorem dX3_search_70 : decode cX3_search 70 = .ok (.iconst 1, 1) := dop_4 (zb_X3_search_1 30 rfl)
theorem dX3_search_71 : decode cX3_search 71 = .ok (.iload_n 3, 1) := dop_29 (zb_X3_search_1 31 rfl)
theorem dX3_search_72 : decode cX3_search 72 = .ok (.ishl, 1) := dop_120 (zb_X3_search_1 32 rfl)
theorem dX3_search_73 : decode cX3_search 73 = .ok (.invokevirtual 44, 3) := dop_182 (zb_X3_search_1 33 rfl) (zb_X3_search_1 34 rfl) (zb_X3_search_1 35 rfl) rfl
theorem dX3_search_76 : decode cX3_search 76 = .ok (.iinc 3 1, 3) := dop_132 (zb_X3_search_1 36 rfl) (zb_X3_search_1 37 rfl) (zb_X3_search_1 38 rfl) rfl
theorem ze_X3_search_3 : (dcn cX3_search).drop 119 = zt_X3_search_3 := dw_n (wl := zw_X3_search_2) ze_X3_search_2 rfl
theorem zb_X3_search_2 (j : Nat) {n : Nat} (e : zw_X3_search_2[j]? = some n) : dby cX3_search (79 + j) n := dw_b (t := zt_X3_search_3) ze_X3_search_2 j e
theorem dX3_search_79 : decode cX3_search 79 = .ok (.goto (-25), 3) := dop_167 (zb_X3_search_2 0 rfl) (zb_X3_search_2 1 rfl) (zb_X3_search_2 2 rfl) rfl
theorem dX3_search_82 : decode cX3_search 82 = .ok (.aload_n 0, 1) := dop_42 (zb_X3_search_2 3 rfl)
theorem dX3_search_83 : decode cX3_search 83 = .ok (.getfield 25, 3) := dop_180 (zb_X3_search_2 4 rfl) (zb_X3_search_2 5 rfl) (zb_X3_search_2 6 rfl) rfl
theorem dX3_search_86 : decode cX3_search 86 = .ok (.ifCond .le 5, 3) := dop_158 (zb_X3_search_2 7 rfl) (zb_X3_search_2 8 rfl) (zb_X3_search_2 9 rfl) rfl
theorem dX3_search_89 : decode cX3_search 89 = .ok (.iconst 1, 1) := dop_4 (zb_X3_search_2 10 rfl)
theorem dX3_search_90 : decode cX3_search 90 = .ok (.ireturn, 1) := dop_172 (zb_X3_search_2 11 rfl)
theorem dX3_search_91 : decode cX3_search 91 = .ok (.aload_n 0, 1) := dop_42 (zb_X3_search_2 12 rfl)
theorem dX3_search_92 : decode cX3_search 92 = .ok (.iconst 2, 1) := dop_5 (zb_X3_search_2 13 rfl)
theorem dX3_search_93 : decode cX3_search 93 = .ok (.putfield 21, 3) := dop_181 (zb_X3_search_2 14 rfl) (zb_X3_search_2 15 rfl) (zb_X3_search_2 16 rfl) rfl
theorem dX3_search_96 : decode cX3_search 96 = .ok (.iconst 0, 1) := dop_3 (zb_X3_search_2 17 rfl)
theorem dX3_search_97 : decode cX3_search 97 = .ok (.istore_n 3, 1) := dop_62 (zb_X3_search_2 18 rfl)
theorem dX3_search_98 : decode cX3_search 98 = .ok (.iload_n 3, 1) := dop_29 (zb_X3_search_2 19 rfl)
theorem dX3_search_99 : decode cX3_search 99 = .ok (.sipush 576, 3) := dop_17 (zb_X3_search_2 20 rfl) (zb_X3_search_2 21 rfl) (zb_X3_search_2 22 rfl) rfl
theorem dX3_search_102 : decode cX3_search 102 = .ok (.if_icmp .ge 88, 3) := dop_162 (zb_X3_search_2 23 rfl) (zb_X3_search_2 24 rfl) (zb_X3_search_2 25 rfl) rfl
theorem dX3_search_105 : decode cX3_search 105 = .ok (.iload_n 3, 1) := dop_29 (zb_X3_search_2 26 rfl)
theorem dX3_search_106 : decode cX3_search 106 = .ok (.bipush 24, 2) := dop_16 (zb_X3_search_2 27 rfl) (zb_X3_search_2 28 rfl) rfl
theorem dX3_search_108 : decode cX3_search 108 = .ok (.idiv, 1) := dop_108 (zb_X3_search_2 29 rfl)
theorem dX3_search_109 : decode cX3_search 109 = .ok (.istore 4, 2) := dop_54 (zb_X3_search_2 30 rfl) (zb_X3_search_2 31 rfl)
theorem dX3_search_111 : decode cX3_search 111 = .ok (.iload_n 3, 1) := dop_29 (zb_X3_search_2 32 rfl)
theorem dX3_search_112 : decode cX3_search 112 = .ok (.bipush 24, 2) := dop_16 (zb_X3_search_2 33 rfl) (zb_X3_search_2 34 rfl) rfl
theorem dX3_search_114 : decode cX3_search 114 = .ok (.irem, 1) := dop_112 (zb_X3_search_2 35 rfl)
theorem dX3_search_115 : decode cX3_search 115 = .ok (.istore 5, 2) := dop_54 (zb_X3_search_2 36 rfl) (zb_X3_search_2 37 rfl)
theorem dX3_search_117 : decode cX3_search 117 = .ok (.iload 5, 2) := dop_21 (zb_X3_search_2 38 rfl) (zb_X3_search_2 39 rfl)
theorem ze_X3_search_4 : (dcn cX3_search).drop 159 = zt_X3_search_4 := dw_n (wl := zw_X3_search_3) ze_X3_search_3 rfl
theorem zb_X3_search_3 (j : Nat) {n : Nat} (e : zw_X3_search_3[j]? = some n) : dby cX3_search (119 + j) n := dw_b (t := zt_X3_search_4) ze_X3_search_3 j e
theorem dX3_search_119 : decode cX3_search 119 = .ok (.iload 4, 2) := dop_21 (zb_X3_search_3 0 rfl) (zb_X3_search_3 1 rfl)
theorem dX3_search_121 : decode cX3_search 121 = .ok (.if_icmp .eq 19, 3) := dop_159 (zb_X3_search_3 2 rfl) (zb_X3_search_3 3 rfl) (zb_X3_search_3 4 rfl) rfl
theorem dX3_search_124 : decode cX3_search 124 = .ok (.iload_n 2, 1) := dop_28 (zb_X3_search_3 5 rfl)
theorem dX3_search_125 : decode cX3_search 125 = .ok (.iload 5, 2) := dop_21 (zb_X3_search_3 6 rfl) (zb_X3_search_3 7 rfl)
theorem dX3_search_127 : decode cX3_search 127 = .ok (.invokestatic 40, 3) := dop_184 (zb_X3_search_3 8 rfl) (zb_X3_search_3 9 rfl) (zb_X3_search_3 10 rfl) rfl
theorem dX3_search_130 : decode cX3_search 130 = .ok (.ifCond .eq 14, 3) := dop_153 (zb_X3_search_3 11 rfl) (zb_X3_search_3 12 rfl) (zb_X3_search_3 13 rfl) rfl
theorem dX3_search_133 : decode cX3_search 133 = .ok (.iload 5, 2) := dop_21 (zb_X3_search_3 14 rfl) (zb_X3_search_3 15 rfl)
theorem dX3_search_135 : decode cX3_search 135 = .ok (.iload 4, 2) := dop_21 (zb_X3_search_3 16 rfl) (zb_X3_search_3 17 rfl)
theorem dX3_search_137 : decode cX3_search 137 = .ok (.if_icmp .ge 7, 3) := dop_162 (zb_X3_search_3 18 rfl) (zb_X3_search_3 19 rfl) (zb_X3_search_3 20 rfl) rfl
theorem dX3_search_140 : decode cX3_search 140 = .ok (.iconst 1, 1) := dop_4 (zb_X3_search_3 21 rfl)
theorem dX3_search_141 : decode cX3_search 141 = .ok (.goto 4, 3) := dop_167 (zb_X3_search_3 22 rfl) (zb_X3_search_3 23 rfl) (zb_X3_search_3 24 rfl) rfl
theorem dX3_search_144 : decode cX3_search 144 = .ok (.iconst 0, 1) := dop_3 (zb_X3_search_3 25 rfl)
theorem dX3_search_145 : decode cX3_search 145 = .ok (.istore 6, 2) := dop_54 (zb_X3_search_3 26 rfl) (zb_X3_search_3 27 rfl)
theorem dX3_search_147 : decode cX3_search 147 = .ok (.iload_n 2, 1) := dop_28 (zb_X3_search_3 28 rfl)
theorem dX3_search_148 : decode cX3_search 148 = .ok (.iload 4, 2) := dop_21 (zb_X3_search_3 29 rfl) (zb_X3_search_3 30 rfl)
theorem dX3_search_150 : decode cX3_search 150 = .ok (.invokestatic 40, 3) := dop_184 (zb_X3_search_3 31 rfl) (zb_X3_search_3 32 rfl) (zb_X3_search_3 33 rfl) rfl
theorem dX3_search_153 : decode cX3_search 153 = .ok (.ifCond .eq 31, 3) := dop_153 (zb_X3_search_3 34 rfl) (zb_X3_search_3 35 rfl) (zb_X3_search_3 36 rfl) rfl
theorem dX3_search_156 : decode cX3_search 156 = .ok (.aload_n 1, 1) := dop_43 (zb_X3_search_3 37 rfl)
theorem dX3_search_157 : decode cX3_search 157 = .ok (.iload 5, 2) := dop_21 (zb_X3_search_3 38 rfl) (zb_X3_search_3 39 rfl)
theorem ze_X3_search_5 : (dcn cX3_search).drop 198 = zt_X3_search_5 := dw_n (wl := zw_X3_search_4) ze_X3_search_4 rfl
theorem zb_X3_search_4 (j : Nat) {n : Nat} (e : zw_X3_search_4[j]? = some n) : dby cX3_search (159 + j) n := dw_b (t := zt_X3_search_5) ze_X3_search_4 j e
theorem dX3_search_159 : decode cX3_search 159 = .ok (.invokevirtual 48, 3) := dop_182 (zb_X3_search_4 0 rfl) (zb_X3_search_4 1 rfl) (zb_X3_search_4 2 rfl) rfl
theorem dX3_search_162 : decode cX3_search 162 = .ok (.ifCond .eq 22, 3) := dop_153 (zb_X3_search_4 3 rfl) (zb_X3_search_4 4 rfl) (zb_X3_search_4 5 rfl) rfl
theorem dX3_search_165 : decode cX3_search 165 = .ok (.iload 6, 2) := dop_21 (zb_X3_search_4 6 rfl) (zb_X3_search_4 7 rfl)
theorem dX3_search_167 : decode cX3_search 167 = .ok (.ifCond .ne 17, 3) := dop_154 (zb_X3_search_4 8 rfl) (zb_X3_search_4 9 rfl) (zb_X3_search_4 10 rfl) rfl
theorem dX3_search_170 : decode cX3_search 170 = .ok (.aload_n 0, 1) := dop_42 (zb_X3_search_4 11 rfl)
theorem dX3_search_171 : decode cX3_search 171 = .ok (.aload_n 1, 1) := dop_43 (zb_X3_search_4 12 rfl)
theorem dX3_search_172 : decode cX3_search 172 = .ok (.iconst 1, 1) := dop_4 (zb_X3_search_4 13 rfl)
theorem dX3_search_173 : decode cX3_search 173 = .ok (.iload 4, 2) := dop_21 (zb_X3_search_4 14 rfl) (zb_X3_search_4 15 rfl)
theorem dX3_search_175 : decode cX3_search 175 = .ok (.ishl, 1) := dop_120 (zb_X3_search_4 16 rfl)
theorem dX3_search_176 : decode cX3_search 176 = .ok (.iconst 1, 1) := dop_4 (zb_X3_search_4 17 rfl)
theorem dX3_search_177 : decode cX3_search 177 = .ok (.iload 5, 2) := dop_21 (zb_X3_search_4 18 rfl) (zb_X3_search_4 19 rfl)
theorem dX3_search_179 : decode cX3_search 179 = .ok (.ishl, 1) := dop_120 (zb_X3_search_4 20 rfl)
theorem dX3_search_180 : decode cX3_search 180 = .ok (.ior, 1) := dop_128 (zb_X3_search_4 21 rfl)
theorem dX3_search_181 : decode cX3_search 181 = .ok (.invokevirtual 44, 3) := dop_182 (zb_X3_search_4 22 rfl) (zb_X3_search_4 23 rfl) (zb_X3_search_4 24 rfl) rfl
theorem dX3_search_184 : decode cX3_search 184 = .ok (.iinc 3 1, 3) := dop_132 (zb_X3_search_4 25 rfl) (zb_X3_search_4 26 rfl) (zb_X3_search_4 27 rfl) rfl
theorem dX3_search_187 : decode cX3_search 187 = .ok (.goto (-89), 3) := dop_167 (zb_X3_search_4 28 rfl) (zb_X3_search_4 29 rfl) (zb_X3_search_4 30 rfl) rfl
theorem dX3_search_190 : decode cX3_search 190 = .ok (.aload_n 0, 1) := dop_42 (zb_X3_search_4 31 rfl)
theorem dX3_search_191 : decode cX3_search 191 = .ok (.getfield 25, 3) := dop_180 (zb_X3_search_4 32 rfl) (zb_X3_search_4 33 rfl) (zb_X3_search_4 34 rfl) rfl
theorem dX3_search_194 : decode cX3_search 194 = .ok (.ifCond .le 7, 3) := dop_158 (zb_X3_search_4 35 rfl) (zb_X3_search_4 36 rfl) (zb_X3_search_4 37 rfl) rfl
theorem dX3_search_197 : decode cX3_search 197 = .ok (.iconst 1, 1) := dop_4 (zb_X3_search_4 38 rfl)
theorem zb_X3_search_5 (j : Nat) {n : Nat} (e : zw_X3_search_5[j]? = some n) : dby cX3_search (198 + j) n := dw_b (t := []) ze_X3_search_5 j e
theorem dX3_search_198 : decode cX3_search 198 = .ok (.goto 4, 3) := dop_167 (zb_X3_search_5 0 rfl) (zb_X3_search_5 1 rfl) (zb_X3_search_5 2 rfl) rfl
theorem dX3_search_201 : decode cX3_search 201 = .ok (.iconst 0, 1) := dop_3 (zb_X3_search_5 3 rfl)
theorem dX3_search_202 : decode cX3_search 202 = .ok (.ireturn, 1) := dop_172 (zb_X3_search_5 4 rfl)
def zw_X3_strike_1 : List Nat := [167, 0, 11, 42, 180, 0, 28, 28, 184, 0, 52, 181, 0, 28, 177]
def zt_X3_strike_1 : List Nat := zw_X3_strike_1 ++ []
def zw_X3_strike_0 : List Nat := [42, 180, 0, 9, 43, 43, 180, 0, 31, 28, 2, 130, 126, 182, 0, 15, 153, 0, 36, 42, 89, 180, 0, 25, 4, 96, 181, 0, 25, 42, 42, 180, 0, 28, 154, 0, 7, 28]
def zt_X3_strike_0 : List Nat := zw_X3_strike_0 ++ zt_X3_strike_1
theorem ze_X3_strike_0 : (dcn cX3_strike).drop 0 = zt_X3_strike_0 := by decide +kernel
theorem ze_X3_strike_1 : (dcn cX3_strike).drop 38 = zt_X3_strike_1 := dw_n (wl := zw_X3_strike_0) ze_X3_strike_0 rfl
theorem zb_X3_strike_0 (j : Nat) {n : Nat} (e : zw_X3_strike_0[j]? = some n) : dby cX3_strike (0 + j) n := dw_b (t := zt_X3_strike_1) ze_X3_strike_0 j e
theorem dX3_strike_0 : decode cX3_strike 0 = .ok (.aload_n 0, 1) := dop_42 (zb_X3_strike_0 0 rfl)
theorem dX3_strike_1 : decode cX3_strike 1 = .ok (.getfield 9, 3) := dop_180 (zb_X3_strike_0 1 rfl) (zb_X3_strike_0 2 rfl) (zb_X3_strike_0 3 rfl) rfl
theorem dX3_strike_4 : decode cX3_strike 4 = .ok (.aload_n 1, 1) := dop_43 (zb_X3_strike_0 4 rfl)
theorem dX3_strike_5 : decode cX3_strike 5 = .ok (.aload_n 1, 1) := dop_43 (zb_X3_strike_0 5 rfl)
theorem dX3_strike_6 : decode cX3_strike 6 = .ok (.getfield 31, 3) := dop_180 (zb_X3_strike_0 6 rfl) (zb_X3_strike_0 7 rfl) (zb_X3_strike_0 8 rfl) rfl
theorem dX3_strike_9 : decode cX3_strike 9 = .ok (.iload_n 2, 1) := dop_28 (zb_X3_strike_0 9 rfl)
theorem dX3_strike_10 : decode cX3_strike 10 = .ok (.iconst (-1), 1) := dop_2 (zb_X3_strike_0 10 rfl)
theorem dX3_strike_11 : decode cX3_strike 11 = .ok (.ixor, 1) := dop_130 (zb_X3_strike_0 11 rfl)
theorem dX3_strike_12 : decode cX3_strike 12 = .ok (.iand, 1) := dop_126 (zb_X3_strike_0 12 rfl)
theorem dX3_strike_13 : decode cX3_strike 13 = .ok (.invokevirtual 15, 3) := dop_182 (zb_X3_strike_0 13 rfl) (zb_X3_strike_0 14 rfl) (zb_X3_strike_0 15 rfl) rfl
theorem dX3_strike_16 : decode cX3_strike 16 = .ok (.ifCond .eq 36, 3) := dop_153 (zb_X3_strike_0 16 rfl) (zb_X3_strike_0 17 rfl) (zb_X3_strike_0 18 rfl) rfl
theorem dX3_strike_19 : decode cX3_strike 19 = .ok (.aload_n 0, 1) := dop_42 (zb_X3_strike_0 19 rfl)
theorem dX3_strike_20 : decode cX3_strike 20 = .ok (.dup, 1) := dop_89 (zb_X3_strike_0 20 rfl)
theorem dX3_strike_21 : decode cX3_strike 21 = .ok (.getfield 25, 3) := dop_180 (zb_X3_strike_0 21 rfl) (zb_X3_strike_0 22 rfl) (zb_X3_strike_0 23 rfl) rfl
theorem dX3_strike_24 : decode cX3_strike 24 = .ok (.iconst 1, 1) := dop_4 (zb_X3_strike_0 24 rfl)
theorem dX3_strike_25 : decode cX3_strike 25 = .ok (.iadd, 1) := dop_96 (zb_X3_strike_0 25 rfl)
theorem dX3_strike_26 : decode cX3_strike 26 = .ok (.putfield 25, 3) := dop_181 (zb_X3_strike_0 26 rfl) (zb_X3_strike_0 27 rfl) (zb_X3_strike_0 28 rfl) rfl
theorem dX3_strike_29 : decode cX3_strike 29 = .ok (.aload_n 0, 1) := dop_42 (zb_X3_strike_0 29 rfl)
theorem dX3_strike_30 : decode cX3_strike 30 = .ok (.aload_n 0, 1) := dop_42 (zb_X3_strike_0 30 rfl)
theorem dX3_strike_31 : decode cX3_strike 31 = .ok (.getfield 28, 3) := dop_180 (zb_X3_strike_0 31 rfl) (zb_X3_strike_0 32 rfl) (zb_X3_strike_0 33 rfl) rfl
theorem dX3_strike_34 : decode cX3_strike 34 = .ok (.ifCond .ne 7, 3) := dop_154 (zb_X3_strike_0 34 rfl) (zb_X3_strike_0 35 rfl) (zb_X3_strike_0 36 rfl) rfl
theorem dX3_strike_37 : decode cX3_strike 37 = .ok (.iload_n 2, 1) := dop_28 (zb_X3_strike_0 37 rfl)
theorem zb_X3_strike_1 (j : Nat) {n : Nat} (e : zw_X3_strike_1[j]? = some n) : dby cX3_strike (38 + j) n := dw_b (t := []) ze_X3_strike_1 j e
theorem dX3_strike_38 : decode cX3_strike 38 = .ok (.goto 11, 3) := dop_167 (zb_X3_strike_1 0 rfl) (zb_X3_strike_1 1 rfl) (zb_X3_strike_1 2 rfl) rfl
theorem dX3_strike_41 : decode cX3_strike 41 = .ok (.aload_n 0, 1) := dop_42 (zb_X3_strike_1 3 rfl)
theorem dX3_strike_42 : decode cX3_strike 42 = .ok (.getfield 28, 3) := dop_180 (zb_X3_strike_1 4 rfl) (zb_X3_strike_1 5 rfl) (zb_X3_strike_1 6 rfl) rfl
theorem dX3_strike_45 : decode cX3_strike 45 = .ok (.iload_n 2, 1) := dop_28 (zb_X3_strike_1 7 rfl)
theorem dX3_strike_46 : decode cX3_strike 46 = .ok (.invokestatic 52, 3) := dop_184 (zb_X3_strike_1 8 rfl) (zb_X3_strike_1 9 rfl) (zb_X3_strike_1 10 rfl) rfl
theorem dX3_strike_49 : decode cX3_strike 49 = .ok (.putfield 28, 3) := dop_181 (zb_X3_strike_1 11 rfl) (zb_X3_strike_1 12 rfl) (zb_X3_strike_1 13 rfl) rfl
theorem dX3_strike_52 : decode cX3_strike 52 = .ok (.return_, 1) := dop_177 (zb_X3_strike_1 14 rfl)
def zw_X4_init_2 : List Nat := [180, 0, 30, 16, 100, 184, 0, 33, 177]
def zt_X4_init_2 : List Nat := zw_X4_init_2 ++ []
def zw_X4_init_1 : List Nat := [188, 10, 181, 0, 24, 42, 16, 24, 188, 10, 181, 0, 27, 42, 16, 16, 188, 10, 181, 0, 30, 42, 180, 0, 9, 2, 184, 0, 33, 42, 180, 0, 15, 2, 184, 0, 33, 42]
def zt_X4_init_1 : List Nat := zw_X4_init_1 ++ zt_X4_init_2
def zw_X4_init_0 : List Nat := [42, 183, 0, 3, 42, 16, 32, 188, 10, 181, 0, 9, 42, 16, 6, 188, 10, 181, 0, 15, 42, 16, 24, 188, 10, 181, 0, 18, 42, 16, 24, 188, 10, 181, 0, 21, 42, 16, 24]
def zt_X4_init_0 : List Nat := zw_X4_init_0 ++ zt_X4_init_1
theorem ze_X4_init_0 : (dcn cX4_init).drop 0 = zt_X4_init_0 := by decide +kernel
theorem ze_X4_init_1 : (dcn cX4_init).drop 39 = zt_X4_init_1 := dw_n (wl := zw_X4_init_0) ze_X4_init_0 rfl
theorem zb_X4_init_0 (j : Nat) {n : Nat} (e : zw_X4_init_0[j]? = some n) : dby cX4_init (0 + j) n := dw_b (t := zt_X4_init_1) ze_X4_init_0 j e
theorem dX4_init_0 : decode cX4_init 0 = .ok (.aload_n 0, 1) := dop_42 (zb_X4_init_0 0 rfl)
theorem dX4_init_1 : decode cX4_init 1 = .ok (.invokespecial 3, 3) := dop_183 (zb_X4_init_0 1 rfl) (zb_X4_init_0 2 rfl) (zb_X4_init_0 3 rfl) rfl
theorem dX4_init_4 : decode cX4_init 4 = .ok (.aload_n 0, 1) := dop_42 (zb_X4_init_0 4 rfl)
theorem dX4_init_5 : decode cX4_init 5 = .ok (.bipush 32, 2) := dop_16 (zb_X4_init_0 5 rfl) (zb_X4_init_0 6 rfl) rfl
theorem dX4_init_7 : decode cX4_init 7 = .ok (.newarray .int, 2) := dop_188_10 (zb_X4_init_0 7 rfl) (zb_X4_init_0 8 rfl)
theorem dX4_init_9 : decode cX4_init 9 = .ok (.putfield 9, 3) := dop_181 (zb_X4_init_0 9 rfl) (zb_X4_init_0 10 rfl) (zb_X4_init_0 11 rfl) rfl
theorem dX4_init_12 : decode cX4_init 12 = .ok (.aload_n 0, 1) := dop_42 (zb_X4_init_0 12 rfl)
theorem dX4_init_13 : decode cX4_init 13 = .ok (.bipush 6, 2) := dop_16 (zb_X4_init_0 13 rfl) (zb_X4_init_0 14 rfl) rfl
theorem dX4_init_15 : decode cX4_init 15 = .ok (.newarray .int, 2) := dop_188_10 (zb_X4_init_0 15 rfl) (zb_X4_init_0 16 rfl)
theorem dX4_init_17 : decode cX4_init 17 = .ok (.putfield 15, 3) := dop_181 (zb_X4_init_0 17 rfl) (zb_X4_init_0 18 rfl) (zb_X4_init_0 19 rfl) rfl
theorem dX4_init_20 : decode cX4_init 20 = .ok (.aload_n 0, 1) := dop_42 (zb_X4_init_0 20 rfl)
theorem dX4_init_21 : decode cX4_init 21 = .ok (.bipush 24, 2) := dop_16 (zb_X4_init_0 21 rfl) (zb_X4_init_0 22 rfl) rfl
theorem dX4_init_23 : decode cX4_init 23 = .ok (.newarray .int, 2) := dop_188_10 (zb_X4_init_0 23 rfl) (zb_X4_init_0 24 rfl)
theorem dX4_init_25 : decode cX4_init 25 = .ok (.putfield 18, 3) := dop_181 (zb_X4_init_0 25 rfl) (zb_X4_init_0 26 rfl) (zb_X4_init_0 27 rfl) rfl
theorem dX4_init_28 : decode cX4_init 28 = .ok (.aload_n 0, 1) := dop_42 (zb_X4_init_0 28 rfl)
theorem dX4_init_29 : decode cX4_init 29 = .ok (.bipush 24, 2) := dop_16 (zb_X4_init_0 29 rfl) (zb_X4_init_0 30 rfl) rfl
theorem dX4_init_31 : decode cX4_init 31 = .ok (.newarray .int, 2) := dop_188_10 (zb_X4_init_0 31 rfl) (zb_X4_init_0 32 rfl)
theorem dX4_init_33 : decode cX4_init 33 = .ok (.putfield 21, 3) := dop_181 (zb_X4_init_0 33 rfl) (zb_X4_init_0 34 rfl) (zb_X4_init_0 35 rfl) rfl
theorem dX4_init_36 : decode cX4_init 36 = .ok (.aload_n 0, 1) := dop_42 (zb_X4_init_0 36 rfl)
theorem dX4_init_37 : decode cX4_init 37 = .ok (.bipush 24, 2) := dop_16 (zb_X4_init_0 37 rfl) (zb_X4_init_0 38 rfl) rfl
theorem ze_X4_init_2 : (dcn cX4_init).drop 77 = zt_X4_init_2 := dw_n (wl := zw_X4_init_1) ze_X4_init_1 rfl
theorem zb_X4_init_1 (j : Nat) {n : Nat} (e : zw_X4_init_1[j]? = some n) : dby cX4_init (39 + j) n := dw_b (t := zt_X4_init_2) ze_X4_init_1 j e
theorem dX4_init_39 : decode cX4_init 39 = .ok (.newarray .int, 2) := dop_188_10 (zb_X4_init_1 0 rfl) (zb_X4_init_1 1 rfl)
theorem dX4_init_41 : decode cX4_init 41 = .ok (.putfield 24, 3) := dop_181 (zb_X4_init_1 2 rfl) (zb_X4_init_1 3 rfl) (zb_X4_init_1 4 rfl) rfl
theorem dX4_init_44 : decode cX4_init 44 = .ok (.aload_n 0, 1) := dop_42 (zb_X4_init_1 5 rfl)
theorem dX4_init_45 : decode cX4_init 45 = .ok (.bipush 24, 2) := dop_16 (zb_X4_init_1 6 rfl) (zb_X4_init_1 7 rfl) rfl
theorem dX4_init_47 : decode cX4_init 47 = .ok (.newarray .int, 2) := dop_188_10 (zb_X4_init_1 8 rfl) (zb_X4_init_1 9 rfl)
theorem dX4_init_49 : decode cX4_init 49 = .ok (.putfield 27, 3) := dop_181 (zb_X4_init_1 10 rfl) (zb_X4_init_1 11 rfl) (zb_X4_init_1 12 rfl) rfl
theorem dX4_init_52 : decode cX4_init 52 = .ok (.aload_n 0, 1) := dop_42 (zb_X4_init_1 13 rfl)
theorem dX4_init_53 : decode cX4_init 53 = .ok (.bipush 16, 2) := dop_16 (zb_X4_init_1 14 rfl) (zb_X4_init_1 15 rfl) rfl
theorem dX4_init_55 : decode cX4_init 55 = .ok (.newarray .int, 2) := dop_188_10 (zb_X4_init_1 16 rfl) (zb_X4_init_1 17 rfl)
theorem dX4_init_57 : decode cX4_init 57 = .ok (.putfield 30, 3) := dop_181 (zb_X4_init_1 18 rfl) (zb_X4_init_1 19 rfl) (zb_X4_init_1 20 rfl) rfl
theorem dX4_init_60 : decode cX4_init 60 = .ok (.aload_n 0, 1) := dop_42 (zb_X4_init_1 21 rfl)
theorem dX4_init_61 : decode cX4_init 61 = .ok (.getfield 9, 3) := dop_180 (zb_X4_init_1 22 rfl) (zb_X4_init_1 23 rfl) (zb_X4_init_1 24 rfl) rfl
theorem dX4_init_64 : decode cX4_init 64 = .ok (.iconst (-1), 1) := dop_2 (zb_X4_init_1 25 rfl)
theorem dX4_init_65 : decode cX4_init 65 = .ok (.invokestatic 33, 3) := dop_184 (zb_X4_init_1 26 rfl) (zb_X4_init_1 27 rfl) (zb_X4_init_1 28 rfl) rfl
theorem dX4_init_68 : decode cX4_init 68 = .ok (.aload_n 0, 1) := dop_42 (zb_X4_init_1 29 rfl)
theorem dX4_init_69 : decode cX4_init 69 = .ok (.getfield 15, 3) := dop_180 (zb_X4_init_1 30 rfl) (zb_X4_init_1 31 rfl) (zb_X4_init_1 32 rfl) rfl
theorem dX4_init_72 : decode cX4_init 72 = .ok (.iconst (-1), 1) := dop_2 (zb_X4_init_1 33 rfl)
theorem dX4_init_73 : decode cX4_init 73 = .ok (.invokestatic 33, 3) := dop_184 (zb_X4_init_1 34 rfl) (zb_X4_init_1 35 rfl) (zb_X4_init_1 36 rfl) rfl
theorem dX4_init_76 : decode cX4_init 76 = .ok (.aload_n 0, 1) := dop_42 (zb_X4_init_1 37 rfl)
theorem zb_X4_init_2 (j : Nat) {n : Nat} (e : zw_X4_init_2[j]? = some n) : dby cX4_init (77 + j) n := dw_b (t := []) ze_X4_init_2 j e
theorem dX4_init_77 : decode cX4_init 77 = .ok (.getfield 30, 3) := dop_180 (zb_X4_init_2 0 rfl) (zb_X4_init_2 1 rfl) (zb_X4_init_2 2 rfl) rfl
theorem dX4_init_80 : decode cX4_init 80 = .ok (.bipush 100, 2) := dop_16 (zb_X4_init_2 3 rfl) (zb_X4_init_2 4 rfl) rfl
theorem dX4_init_82 : decode cX4_init 82 = .ok (.invokestatic 33, 3) := dop_184 (zb_X4_init_2 5 rfl) (zb_X4_init_2 6 rfl) (zb_X4_init_2 7 rfl) rfl
theorem dX4_init_85 : decode cX4_init 85 = .ok (.return_, 1) := dop_177 (zb_X4_init_2 8 rfl)
def zw_X4_copyFrom_3 : List Nat := [181, 0, 49, 42, 43, 180, 0, 52, 181, 0, 52, 177]
def zt_X4_copyFrom_3 : List Nat := zw_X4_copyFrom_3 ++ []
def zw_X4_copyFrom_2 : List Nat := [42, 180, 0, 27, 3, 16, 24, 184, 0, 39, 43, 180, 0, 30, 3, 42, 180, 0, 30, 3, 16, 16, 184, 0, 39, 42, 43, 180, 0, 45, 181, 0, 45, 42, 43, 180, 0, 49]
def zt_X4_copyFrom_2 : List Nat := zw_X4_copyFrom_2 ++ zt_X4_copyFrom_3
def zw_X4_copyFrom_1 : List Nat := [16, 24, 184, 0, 39, 43, 180, 0, 21, 3, 42, 180, 0, 21, 3, 16, 24, 184, 0, 39, 43, 180, 0, 24, 3, 42, 180, 0, 24, 3, 16, 24, 184, 0, 39, 43, 180, 0, 27, 3]
def zt_X4_copyFrom_1 : List Nat := zw_X4_copyFrom_1 ++ zt_X4_copyFrom_2
def zw_X4_copyFrom_0 : List Nat := [43, 180, 0, 9, 3, 42, 180, 0, 9, 3, 16, 32, 184, 0, 39, 43, 180, 0, 15, 3, 42, 180, 0, 15, 3, 16, 6, 184, 0, 39, 43, 180, 0, 18, 3, 42, 180, 0, 18, 3]
def zt_X4_copyFrom_0 : List Nat := zw_X4_copyFrom_0 ++ zt_X4_copyFrom_1
theorem ze_X4_copyFrom_0 : (dcn cX4_copyFrom).drop 0 = zt_X4_copyFrom_0 := by decide +kernel
theorem ze_X4_copyFrom_1 : (dcn cX4_copyFrom).drop 40 = zt_X4_copyFrom_1 := dw_n (wl := zw_X4_copyFrom_0) ze_X4_copyFrom_0 rfl
theorem zb_X4_copyFrom_0 (j : Nat) {n : Nat} (e : zw_X4_copyFrom_0[j]? = some n) : dby cX4_copyFrom (0 + j) n := dw_b (t := zt_X4_copyFrom_1) ze_X4_copyFrom_0 j e
theorem dX4_copyFrom_0 : decode cX4_copyFrom 0 = .ok (.aload_n 1, 1) := dop_43 (zb_X4_copyFrom_0 0 rfl)
theorem dX4_copyFrom_1 : decode cX4_copyFrom 1 = .ok (.getfield 9, 3) := dop_180 (zb_X4_copyFrom_0 1 rfl) (zb_X4_copyFrom_0 2 rfl) (zb_X4_copyFrom_0 3 rfl) rfl
theorem dX4_copyFrom_4 : decode cX4_copyFrom 4 = .ok (.iconst 0, 1) := dop_3 (zb_X4_copyFrom_0 4 rfl)
theorem dX4_copyFrom_5 : decode cX4_copyFrom 5 = .ok (.aload_n 0, 1) := dop_42 (zb_X4_copyFrom_0 5 rfl)
theorem dX4_copyFrom_6 : decode cX4_copyFrom 6 = .ok (.getfield 9, 3) := dop_180 (zb_X4_copyFrom_0 6 rfl) (zb_X4_copyFrom_0 7 rfl) (zb_X4_copyFrom_0 8 rfl) rfl
theorem dX4_copyFrom_9 : decode cX4_copyFrom 9 = .ok (.iconst 0, 1) := dop_3 (zb_X4_copyFrom_0 9 rfl)
theorem dX4_copyFrom_10 : decode cX4_copyFrom 10 = .ok (.bipush 32, 2) := dop_16 (zb_X4_copyFrom_0 10 rfl) (zb_X4_copyFrom_0 11 rfl) rfl
theorem dX4_copyFrom_12 : decode cX4_copyFrom 12 = .ok (.invokestatic 39, 3) := dop_184 (zb_X4_copyFrom_0 12 rfl) (zb_X4_copyFrom_0 13 rfl) (zb_X4_copyFrom_0 14 rfl) rfl
theorem dX4_copyFrom_15 : decode cX4_copyFrom 15 = .ok (.aload_n 1, 1) := dop_43 (zb_X4_copyFrom_0 15 rfl)
theorem dX4_copyFrom_16 : decode cX4_copyFrom 16 = .ok (.getfield 15, 3) := dop_180 (zb_X4_copyFrom_0 16 rfl) (zb_X4_copyFrom_0 17 rfl) (zb_X4_copyFrom_0 18 rfl) rfl
theorem dX4_copyFrom_19 : decode cX4_copyFrom 19 = .ok (.iconst 0, 1) := dop_3 (zb_X4_copyFrom_0 19 rfl)
theorem dX4_copyFrom_20 : decode cX4_copyFrom 20 = .ok (.aload_n 0, 1) := dop_42 (zb_X4_copyFrom_0 20 rfl)
theorem dX4_copyFrom_21 : decode cX4_copyFrom 21 = .ok (.getfield 15, 3) := dop_180 (zb_X4_copyFrom_0 21 rfl) (zb_X4_copyFrom_0 22 rfl) (zb_X4_copyFrom_0 23 rfl) rfl
theorem dX4_copyFrom_24 : decode cX4_copyFrom 24 = .ok (.iconst 0, 1) := dop_3 (zb_X4_copyFrom_0 24 rfl)
theorem dX4_copyFrom_25 : decode cX4_copyFrom 25 = .ok (.bipush 6, 2) := dop_16 (zb_X4_copyFrom_0 25 rfl) (zb_X4_copyFrom_0 26 rfl) rfl
theorem dX4_copyFrom_27 : decode cX4_copyFrom 27 = .ok (.invokestatic 39, 3) := dop_184 (zb_X4_copyFrom_0 27 rfl) (zb_X4_copyFrom_0 28 rfl) (zb_X4_copyFrom_0 29 rfl) rfl
theorem dX4_copyFrom_30 : decode cX4_copyFrom 30 = .ok (.aload_n 1, 1) := dop_43 (zb_X4_copyFrom_0 30 rfl)
theorem dX4_copyFrom_31 : decode cX4_copyFrom 31 = .ok (.getfield 18, 3) := dop_180 (zb_X4_copyFrom_0 31 rfl) (zb_X4_copyFrom_0 32 rfl) (zb_X4_copyFrom_0 33 rfl) rfl
theorem dX4_copyFrom_34 : decode cX4_copyFrom 34 = .ok (.iconst 0, 1) := dop_3 (zb_X4_copyFrom_0 34 rfl)
theorem dX4_copyFrom_35 : decode cX4_copyFrom 35 = .ok (.aload_n 0, 1) := dop_42 (zb_X4_copyFrom_0 35 rfl)
theorem dX4_copyFrom_36 : decode cX4_copyFrom 36 = .ok (.getfield 18, 3) := dop_180 (zb_X4_copyFrom_0 36 rfl) (zb_X4_copyFrom_0 37 rfl) (zb_X4_copyFrom_0 38 rfl) rfl
theorem dX4_copyFrom_39 : decode cX4_copyFrom 39 = .ok (.iconst 0, 1) := dop_3 (zb_X4_copyFrom_0 39 rfl)
theorem ze_X4_copyFrom_2 : (dcn cX4_copyFrom).drop 80 = zt_X4_copyFrom_2 := dw_n (wl := zw_X4_copyFrom_1) ze_X4_copyFrom_1 rfl
theorem zb_X4_copyFrom_1 (j : Nat) {n : Nat} (e : zw_X4_copyFrom_1[j]? = some n) : dby cX4_copyFrom (40 + j) n := dw_b (t := zt_X4_copyFrom_2) ze_X4_copyFrom_1 j e
theorem dX4_copyFrom_40 : decode cX4_copyFrom 40 = .ok (.bipush 24, 2) := dop_16 (zb_X4_copyFrom_1 0 rfl) (zb_X4_copyFrom_1 1 rfl) rfl
theorem dX4_copyFrom_42 : decode cX4_copyFrom 42 = .ok (.invokestatic 39, 3) := dop_184 (zb_X4_copyFrom_1 2 rfl) (zb_X4_copyFrom_1 3 rfl) (zb_X4_copyFrom_1 4 rfl) rfl
theorem dX4_copyFrom_45 : decode cX4_copyFrom 45 = .ok (.aload_n 1, 1) := dop_43 (zb_X4_copyFrom_1 5 rfl)
theorem dX4_copyFrom_46 : decode cX4_copyFrom 46 = .ok (.getfield 21, 3) := dop_180 (zb_X4_copyFrom_1 6 rfl) (zb_X4_copyFrom_1 7 rfl) (zb_X4_copyFrom_1 8 rfl) rfl
theorem dX4_copyFrom_49 : decode cX4_copyFrom 49 = .ok (.iconst 0, 1) := dop_3 (zb_X4_copyFrom_1 9 rfl)
theorem dX4_copyFrom_50 : decode cX4_copyFrom 50 = .ok (.aload_n 0, 1) := dop_42 (zb_X4_copyFrom_1 10 rfl)
theorem dX4_copyFrom_51 : decode cX4_copyFrom 51 = .ok (.getfield 21, 3) := dop_180 (zb_X4_copyFrom_1 11 rfl) (zb_X4_copyFrom_1 12 rfl) (zb_X4_copyFrom_1 13 rfl) rfl
theorem dX4_copyFrom_54 : decode cX4_copyFrom 54 = .ok (.iconst 0, 1) := dop_3 (zb_X4_copyFrom_1 14 rfl)
theorem dX4_copyFrom_55 : decode cX4_copyFrom 55 = .ok (.bipush 24, 2) := dop_16 (zb_X4_copyFrom_1 15 rfl) (zb_X4_copyFrom_1 16 rfl) rfl
theorem dX4_copyFrom_57 : decode cX4_copyFrom 57 = .ok (.invokestatic 39, 3) := dop_184 (zb_X4_copyFrom_1 17 rfl) (zb_X4_copyFrom_1 18 rfl) (zb_X4_copyFrom_1 19 rfl) rfl
theorem dX4_copyFrom_60 : decode cX4_copyFrom 60 = .ok (.aload_n 1, 1) := dop_43 (zb_X4_copyFrom_1 20 rfl)
theorem dX4_copyFrom_61 : decode cX4_copyFrom 61 = .ok (.getfield 24, 3) := dop_180 (zb_X4_copyFrom_1 21 rfl) (zb_X4_copyFrom_1 22 rfl) (zb_X4_copyFrom_1 23 rfl) rfl
theorem dX4_copyFrom_64 : decode cX4_copyFrom 64 = .ok (.iconst 0, 1) := dop_3 (zb_X4_copyFrom_1 24 rfl)
theorem dX4_copyFrom_65 : decode cX4_copyFrom 65 = .ok (.aload_n 0, 1) := dop_42 (zb_X4_copyFrom_1 25 rfl)
theorem dX4_copyFrom_66 : decode cX4_copyFrom 66 = .ok (.getfield 24, 3) := dop_180 (zb_X4_copyFrom_1 26 rfl) (zb_X4_copyFrom_1 27 rfl) (zb_X4_copyFrom_1 28 rfl) rfl
theorem dX4_copyFrom_69 : decode cX4_copyFrom 69 = .ok (.iconst 0, 1) := dop_3 (zb_X4_copyFrom_1 29 rfl)
theorem dX4_copyFrom_70 : decode cX4_copyFrom 70 = .ok (.bipush 24, 2) := dop_16 (zb_X4_copyFrom_1 30 rfl) (zb_X4_copyFrom_1 31 rfl) rfl
theorem dX4_copyFrom_72 : decode cX4_copyFrom 72 = .ok (.invokestatic 39, 3) := dop_184 (zb_X4_copyFrom_1 32 rfl) (zb_X4_copyFrom_1 33 rfl) (zb_X4_copyFrom_1 34 rfl) rfl
theorem dX4_copyFrom_75 : decode cX4_copyFrom 75 = .ok (.aload_n 1, 1) := dop_43 (zb_X4_copyFrom_1 35 rfl)
theorem dX4_copyFrom_76 : decode cX4_copyFrom 76 = .ok (.getfield 27, 3) := dop_180 (zb_X4_copyFrom_1 36 rfl) (zb_X4_copyFrom_1 37 rfl) (zb_X4_copyFrom_1 38 rfl) rfl
theorem dX4_copyFrom_79 : decode cX4_copyFrom 79 = .ok (.iconst 0, 1) := dop_3 (zb_X4_copyFrom_1 39 rfl)
theorem ze_X4_copyFrom_3 : (dcn cX4_copyFrom).drop 118 = zt_X4_copyFrom_3 := dw_n (wl := zw_X4_copyFrom_2) ze_X4_copyFrom_2 rfl
theorem zb_X4_copyFrom_2 (j : Nat) {n : Nat} (e : zw_X4_copyFrom_2[j]? = some n) : dby cX4_copyFrom (80 + j) n := dw_b (t := zt_X4_copyFrom_3) ze_X4_copyFrom_2 j e
theorem dX4_copyFrom_80 : decode cX4_copyFrom 80 = .ok (.aload_n 0, 1) := dop_42 (zb_X4_copyFrom_2 0 rfl)
theorem dX4_copyFrom_81 : decode cX4_copyFrom 81 = .ok (.getfield 27, 3) := dop_180 (zb_X4_copyFrom_2 1 rfl) (zb_X4_copyFrom_2 2 rfl) (zb_X4_copyFrom_2 3 rfl) rfl
theorem dX4_copyFrom_84 : decode cX4_copyFrom 84 = .ok (.iconst 0, 1) := dop_3 (zb_X4_copyFrom_2 4 rfl)
theorem dX4_copyFrom_85 : decode cX4_copyFrom 85 = .ok (.bipush 24, 2) := dop_16 (zb_X4_copyFrom_2 5 rfl) (zb_X4_copyFrom_2 6 rfl) rfl
theorem dX4_copyFrom_87 : decode cX4_copyFrom 87 = .ok (.invokestatic 39, 3) := dop_184 (zb_X4_copyFrom_2 7 rfl) (zb_X4_copyFrom_2 8 rfl) (zb_X4_copyFrom_2 9 rfl) rfl
theorem dX4_copyFrom_90 : decode cX4_copyFrom 90 = .ok (.aload_n 1, 1) := dop_43 (zb_X4_copyFrom_2 10 rfl)
theorem dX4_copyFrom_91 : decode cX4_copyFrom 91 = .ok (.getfield 30, 3) := dop_180 (zb_X4_copyFrom_2 11 rfl) (zb_X4_copyFrom_2 12 rfl) (zb_X4_copyFrom_2 13 rfl) rfl
theorem dX4_copyFrom_94 : decode cX4_copyFrom 94 = .ok (.iconst 0, 1) := dop_3 (zb_X4_copyFrom_2 14 rfl)
theorem dX4_copyFrom_95 : decode cX4_copyFrom 95 = .ok (.aload_n 0, 1) := dop_42 (zb_X4_copyFrom_2 15 rfl)
theorem dX4_copyFrom_96 : decode cX4_copyFrom 96 = .ok (.getfield 30, 3) := dop_180 (zb_X4_copyFrom_2 16 rfl) (zb_X4_copyFrom_2 17 rfl) (zb_X4_copyFrom_2 18 rfl) rfl
theorem dX4_copyFrom_99 : decode cX4_copyFrom 99 = .ok (.iconst 0, 1) := dop_3 (zb_X4_copyFrom_2 19 rfl)
theorem dX4_copyFrom_100 : decode cX4_copyFrom 100 = .ok (.bipush 16, 2) := dop_16 (zb_X4_copyFrom_2 20 rfl) (zb_X4_copyFrom_2 21 rfl) rfl
theorem dX4_copyFrom_102 : decode cX4_copyFrom 102 = .ok (.invokestatic 39, 3) := dop_184 (zb_X4_copyFrom_2 22 rfl) (zb_X4_copyFrom_2 23 rfl) (zb_X4_copyFrom_2 24 rfl) rfl
theorem dX4_copyFrom_105 : decode cX4_copyFrom 105 = .ok (.aload_n 0, 1) := dop_42 (zb_X4_copyFrom_2 25 rfl)
theorem dX4_copyFrom_106 : decode cX4_copyFrom 106 = .ok (.aload_n 1, 1) := dop_43 (zb_X4_copyFrom_2 26 rfl)
theorem dX4_copyFrom_107 : decode cX4_copyFrom 107 = .ok (.getfield 45, 3) := dop_180 (zb_X4_copyFrom_2 27 rfl) (zb_X4_copyFrom_2 28 rfl) (zb_X4_copyFrom_2 29 rfl) rfl
theorem dX4_copyFrom_110 : decode cX4_copyFrom 110 = .ok (.putfield 45, 3) := dop_181 (zb_X4_copyFrom_2 30 rfl) (zb_X4_copyFrom_2 31 rfl) (zb_X4_copyFrom_2 32 rfl) rfl
theorem dX4_copyFrom_113 : decode cX4_copyFrom 113 = .ok (.aload_n 0, 1) := dop_42 (zb_X4_copyFrom_2 33 rfl)
theorem dX4_copyFrom_114 : decode cX4_copyFrom 114 = .ok (.aload_n 1, 1) := dop_43 (zb_X4_copyFrom_2 34 rfl)
theorem dX4_copyFrom_115 : decode cX4_copyFrom 115 = .ok (.getfield 49, 3) := dop_180 (zb_X4_copyFrom_2 35 rfl) (zb_X4_copyFrom_2 36 rfl) (zb_X4_copyFrom_2 37 rfl) rfl
theorem zb_X4_copyFrom_3 (j : Nat) {n : Nat} (e : zw_X4_copyFrom_3[j]? = some n) : dby cX4_copyFrom (118 + j) n := dw_b (t := []) ze_X4_copyFrom_3 j e
theorem dX4_copyFrom_118 : decode cX4_copyFrom 118 = .ok (.putfield 49, 3) := dop_181 (zb_X4_copyFrom_3 0 rfl) (zb_X4_copyFrom_3 1 rfl) (zb_X4_copyFrom_3 2 rfl) rfl
theorem dX4_copyFrom_121 : decode cX4_copyFrom 121 = .ok (.aload_n 0, 1) := dop_42 (zb_X4_copyFrom_3 3 rfl)
theorem dX4_copyFrom_122 : decode cX4_copyFrom 122 = .ok (.aload_n 1, 1) := dop_43 (zb_X4_copyFrom_3 4 rfl)
theorem dX4_copyFrom_123 : decode cX4_copyFrom 123 = .ok (.getfield 52, 3) := dop_180 (zb_X4_copyFrom_3 5 rfl) (zb_X4_copyFrom_3 6 rfl) (zb_X4_copyFrom_3 7 rfl) rfl
theorem dX4_copyFrom_126 : decode cX4_copyFrom 126 = .ok (.putfield 52, 3) := dop_181 (zb_X4_copyFrom_3 8 rfl) (zb_X4_copyFrom_3 9 rfl) (zb_X4_copyFrom_3 10 rfl) rfl
theorem dX4_copyFrom_129 : decode cX4_copyFrom 129 = .ok (.return_, 1) := dop_177 (zb_X4_copyFrom_3 11 rfl)
def zw_X4_hasRoom_0 : List Nat := [42, 180, 0, 45, 16, 24, 162, 0, 7, 4, 167, 0, 4, 3, 172]
def zt_X4_hasRoom_0 : List Nat := zw_X4_hasRoom_0 ++ []
theorem ze_X4_hasRoom_0 : (dcn cX4_hasRoom).drop 0 = zt_X4_hasRoom_0 := by decide +kernel
theorem zb_X4_hasRoom_0 (j : Nat) {n : Nat} (e : zw_X4_hasRoom_0[j]? = some n) : dby cX4_hasRoom (0 + j) n := dw_b (t := []) ze_X4_hasRoom_0 j e
theorem dX4_hasRoom_0 : decode cX4_hasRoom 0 = .ok (.aload_n 0, 1) := dop_42 (zb_X4_hasRoom_0 0 rfl)
theorem dX4_hasRoom_1 : decode cX4_hasRoom 1 = .ok (.getfield 45, 3) := dop_180 (zb_X4_hasRoom_0 1 rfl) (zb_X4_hasRoom_0 2 rfl) (zb_X4_hasRoom_0 3 rfl) rfl
theorem dX4_hasRoom_4 : decode cX4_hasRoom 4 = .ok (.bipush 24, 2) := dop_16 (zb_X4_hasRoom_0 4 rfl) (zb_X4_hasRoom_0 5 rfl) rfl
theorem dX4_hasRoom_6 : decode cX4_hasRoom 6 = .ok (.if_icmp .ge 7, 3) := dop_162 (zb_X4_hasRoom_0 6 rfl) (zb_X4_hasRoom_0 7 rfl) (zb_X4_hasRoom_0 8 rfl) rfl
theorem dX4_hasRoom_9 : decode cX4_hasRoom 9 = .ok (.iconst 1, 1) := dop_4 (zb_X4_hasRoom_0 9 rfl)
theorem dX4_hasRoom_10 : decode cX4_hasRoom 10 = .ok (.goto 4, 3) := dop_167 (zb_X4_hasRoom_0 10 rfl) (zb_X4_hasRoom_0 11 rfl) (zb_X4_hasRoom_0 12 rfl) rfl
theorem dX4_hasRoom_13 : decode cX4_hasRoom 13 = .ok (.iconst 0, 1) := dop_3 (zb_X4_hasRoom_0 13 rfl)
theorem dX4_hasRoom_14 : decode cX4_hasRoom 14 = .ok (.ireturn, 1) := dop_172 (zb_X4_hasRoom_0 14 rfl)
def zw_X4_addEntry_1 : List Nat := [180, 0, 27, 42, 180, 0, 45, 21, 4, 79, 42, 89, 180, 0, 49, 4, 42, 180, 0, 45, 120, 128, 181, 0, 49, 42, 89, 180, 0, 45, 4, 96, 181, 0, 45, 177]
def zt_X4_addEntry_1 : List Nat := zw_X4_addEntry_1 ++ []
def zw_X4_addEntry_0 : List Nat := [42, 182, 0, 55, 154, 0, 4, 177, 42, 180, 0, 18, 42, 180, 0, 45, 27, 79, 42, 180, 0, 21, 42, 180, 0, 45, 28, 79, 42, 180, 0, 24, 42, 180, 0, 45, 29, 79, 42]
def zt_X4_addEntry_0 : List Nat := zw_X4_addEntry_0 ++ zt_X4_addEntry_1
theorem ze_X4_addEntry_0 : (dcn cX4_addEntry).drop 0 = zt_X4_addEntry_0 := by decide +kernel
theorem ze_X4_addEntry_1 : (dcn cX4_addEntry).drop 39 = zt_X4_addEntry_1 := dw_n (wl := zw_X4_addEntry_0) ze_X4_addEntry_0 rfl
theorem zb_X4_addEntry_0 (j : Nat) {n : Nat} (e : zw_X4_addEntry_0[j]? = some n) : dby cX4_addEntry (0 + j) n := dw_b (t := zt_X4_addEntry_1) ze_X4_addEntry_0 j e
theorem dX4_addEntry_0 : decode cX4_addEntry 0 = .ok (.aload_n 0, 1) := dop_42 (zb_X4_addEntry_0 0 rfl)
theorem dX4_addEntry_1 : decode cX4_addEntry 1 = .ok (.invokevirtual 55, 3) := dop_182 (zb_X4_addEntry_0 1 rfl) (zb_X4_addEntry_0 2 rfl) (zb_X4_addEntry_0 3 rfl) rfl
theorem dX4_addEntry_4 : decode cX4_addEntry 4 = .ok (.ifCond .ne 4, 3) := dop_154 (zb_X4_addEntry_0 4 rfl) (zb_X4_addEntry_0 5 rfl) (zb_X4_addEntry_0 6 rfl) rfl
theorem dX4_addEntry_7 : decode cX4_addEntry 7 = .ok (.return_, 1) := dop_177 (zb_X4_addEntry_0 7 rfl)
theorem dX4_addEntry_8 : decode cX4_addEntry 8 = .ok (.aload_n 0, 1) := dop_42 (zb_X4_addEntry_0 8 rfl)
theorem dX4_addEntry_9 : decode cX4_addEntry 9 = .ok (.getfield 18, 3) := dop_180 (zb_X4_addEntry_0 9 rfl) (zb_X4_addEntry_0 10 rfl) (zb_X4_addEntry_0 11 rfl) rfl
theorem dX4_addEntry_12 : decode cX4_addEntry 12 = .ok (.aload_n 0, 1) := dop_42 (zb_X4_addEntry_0 12 rfl)
theorem dX4_addEntry_13 : decode cX4_addEntry 13 = .ok (.getfield 45, 3) := dop_180 (zb_X4_addEntry_0 13 rfl) (zb_X4_addEntry_0 14 rfl) (zb_X4_addEntry_0 15 rfl) rfl
theorem dX4_addEntry_16 : decode cX4_addEntry 16 = .ok (.iload_n 1, 1) := dop_27 (zb_X4_addEntry_0 16 rfl)
theorem dX4_addEntry_17 : decode cX4_addEntry 17 = .ok (.iastore, 1) := dop_79 (zb_X4_addEntry_0 17 rfl)
theorem dX4_addEntry_18 : decode cX4_addEntry 18 = .ok (.aload_n 0, 1) := dop_42 (zb_X4_addEntry_0 18 rfl)
theorem dX4_addEntry_19 : decode cX4_addEntry 19 = .ok (.getfield 21, 3) := dop_180 (zb_X4_addEntry_0 19 rfl) (zb_X4_addEntry_0 20 rfl) (zb_X4_addEntry_0 21 rfl) rfl
theorem dX4_addEntry_22 : decode cX4_addEntry 22 = .ok (.aload_n 0, 1) := dop_42 (zb_X4_addEntry_0 22 rfl)
theorem dX4_addEntry_23 : decode cX4_addEntry 23 = .ok (.getfield 45, 3) := dop_180 (zb_X4_addEntry_0 23 rfl) (zb_X4_addEntry_0 24 rfl) (zb_X4_addEntry_0 25 rfl) rfl
theorem dX4_addEntry_26 : decode cX4_addEntry 26 = .ok (.iload_n 2, 1) := dop_28 (zb_X4_addEntry_0 26 rfl)
theorem dX4_addEntry_27 : decode cX4_addEntry 27 = .ok (.iastore, 1) := dop_79 (zb_X4_addEntry_0 27 rfl)
theorem dX4_addEntry_28 : decode cX4_addEntry 28 = .ok (.aload_n 0, 1) := dop_42 (zb_X4_addEntry_0 28 rfl)
theorem dX4_addEntry_29 : decode cX4_addEntry 29 = .ok (.getfield 24, 3) := dop_180 (zb_X4_addEntry_0 29 rfl) (zb_X4_addEntry_0 30 rfl) (zb_X4_addEntry_0 31 rfl) rfl
theorem dX4_addEntry_32 : decode cX4_addEntry 32 = .ok (.aload_n 0, 1) := dop_42 (zb_X4_addEntry_0 32 rfl)
theorem dX4_addEntry_33 : decode cX4_addEntry 33 = .ok (.getfield 45, 3) := dop_180 (zb_X4_addEntry_0 33 rfl) (zb_X4_addEntry_0 34 rfl) (zb_X4_addEntry_0 35 rfl) rfl
theorem dX4_addEntry_36 : decode cX4_addEntry 36 = .ok (.iload_n 3, 1) := dop_29 (zb_X4_addEntry_0 36 rfl)
theorem dX4_addEntry_37 : decode cX4_addEntry 37 = .ok (.iastore, 1) := dop_79 (zb_X4_addEntry_0 37 rfl)
theorem dX4_addEntry_38 : decode cX4_addEntry 38 = .ok (.aload_n 0, 1) := dop_42 (zb_X4_addEntry_0 38 rfl)
theorem zb_X4_addEntry_1 (j : Nat) {n : Nat} (e : zw_X4_addEntry_1[j]? = some n) : dby cX4_addEntry (39 + j) n := dw_b (t := []) ze_X4_addEntry_1 j e
theorem dX4_addEntry_39 : decode cX4_addEntry 39 = .ok (.getfield 27, 3) := dop_180 (zb_X4_addEntry_1 0 rfl) (zb_X4_addEntry_1 1 rfl) (zb_X4_addEntry_1 2 rfl) rfl
theorem dX4_addEntry_42 : decode cX4_addEntry 42 = .ok (.aload_n 0, 1) := dop_42 (zb_X4_addEntry_1 3 rfl)
theorem dX4_addEntry_43 : decode cX4_addEntry 43 = .ok (.getfield 45, 3) := dop_180 (zb_X4_addEntry_1 4 rfl) (zb_X4_addEntry_1 5 rfl) (zb_X4_addEntry_1 6 rfl) rfl
theorem dX4_addEntry_46 : decode cX4_addEntry 46 = .ok (.iload 4, 2) := dop_21 (zb_X4_addEntry_1 7 rfl) (zb_X4_addEntry_1 8 rfl)
theorem dX4_addEntry_48 : decode cX4_addEntry 48 = .ok (.iastore, 1) := dop_79 (zb_X4_addEntry_1 9 rfl)
theorem dX4_addEntry_49 : decode cX4_addEntry 49 = .ok (.aload_n 0, 1) := dop_42 (zb_X4_addEntry_1 10 rfl)
theorem dX4_addEntry_50 : decode cX4_addEntry 50 = .ok (.dup, 1) := dop_89 (zb_X4_addEntry_1 11 rfl)
theorem dX4_addEntry_51 : decode cX4_addEntry 51 = .ok (.getfield 49, 3) := dop_180 (zb_X4_addEntry_1 12 rfl) (zb_X4_addEntry_1 13 rfl) (zb_X4_addEntry_1 14 rfl) rfl
theorem dX4_addEntry_54 : decode cX4_addEntry 54 = .ok (.iconst 1, 1) := dop_4 (zb_X4_addEntry_1 15 rfl)
theorem dX4_addEntry_55 : decode cX4_addEntry 55 = .ok (.aload_n 0, 1) := dop_42 (zb_X4_addEntry_1 16 rfl)
theorem dX4_addEntry_56 : decode cX4_addEntry 56 = .ok (.getfield 45, 3) := dop_180 (zb_X4_addEntry_1 17 rfl) (zb_X4_addEntry_1 18 rfl) (zb_X4_addEntry_1 19 rfl) rfl
theorem dX4_addEntry_59 : decode cX4_addEntry 59 = .ok (.ishl, 1) := dop_120 (zb_X4_addEntry_1 20 rfl)
theorem dX4_addEntry_60 : decode cX4_addEntry 60 = .ok (.ior, 1) := dop_128 (zb_X4_addEntry_1 21 rfl)
theorem dX4_addEntry_61 : decode cX4_addEntry 61 = .ok (.putfield 49, 3) := dop_181 (zb_X4_addEntry_1 22 rfl) (zb_X4_addEntry_1 23 rfl) (zb_X4_addEntry_1 24 rfl) rfl
theorem dX4_addEntry_64 : decode cX4_addEntry 64 = .ok (.aload_n 0, 1) := dop_42 (zb_X4_addEntry_1 25 rfl)
theorem dX4_addEntry_65 : decode cX4_addEntry 65 = .ok (.dup, 1) := dop_89 (zb_X4_addEntry_1 26 rfl)
theorem dX4_addEntry_66 : decode cX4_addEntry 66 = .ok (.getfield 45, 3) := dop_180 (zb_X4_addEntry_1 27 rfl) (zb_X4_addEntry_1 28 rfl) (zb_X4_addEntry_1 29 rfl) rfl
theorem dX4_addEntry_69 : decode cX4_addEntry 69 = .ok (.iconst 1, 1) := dop_4 (zb_X4_addEntry_1 30 rfl)
theorem dX4_addEntry_70 : decode cX4_addEntry 70 = .ok (.iadd, 1) := dop_96 (zb_X4_addEntry_1 31 rfl)
theorem dX4_addEntry_71 : decode cX4_addEntry 71 = .ok (.putfield 45, 3) := dop_181 (zb_X4_addEntry_1 32 rfl) (zb_X4_addEntry_1 33 rfl) (zb_X4_addEntry_1 34 rfl) rfl
theorem dX4_addEntry_74 : decode cX4_addEntry 74 = .ok (.return_, 1) := dop_177 (zb_X4_addEntry_1 35 rfl)
def zw_X4_isCounting_0 : List Nat := [42, 180, 0, 49, 27, 184, 0, 59, 172]
def zt_X4_isCounting_0 : List Nat := zw_X4_isCounting_0 ++ []
theorem ze_X4_isCounting_0 : (dcn cX4_isCounting).drop 0 = zt_X4_isCounting_0 := by decide +kernel
theorem zb_X4_isCounting_0 (j : Nat) {n : Nat} (e : zw_X4_isCounting_0[j]? = some n) : dby cX4_isCounting (0 + j) n := dw_b (t := []) ze_X4_isCounting_0 j e
theorem dX4_isCounting_0 : decode cX4_isCounting 0 = .ok (.aload_n 0, 1) := dop_42 (zb_X4_isCounting_0 0 rfl)
theorem dX4_isCounting_1 : decode cX4_isCounting 1 = .ok (.getfield 49, 3) := dop_180 (zb_X4_isCounting_0 1 rfl) (zb_X4_isCounting_0 2 rfl) (zb_X4_isCounting_0 3 rfl) rfl
theorem dX4_isCounting_4 : decode cX4_isCounting 4 = .ok (.iload_n 1, 1) := dop_27 (zb_X4_isCounting_0 4 rfl)
theorem dX4_isCounting_5 : decode cX4_isCounting 5 = .ok (.invokestatic 59, 3) := dop_184 (zb_X4_isCounting_0 5 rfl) (zb_X4_isCounting_0 6 rfl) (zb_X4_isCounting_0 7 rfl) rfl
theorem dX4_isCounting_8 : decode cX4_isCounting 8 = .ok (.ireturn, 1) := dop_172 (zb_X4_isCounting_0 8 rfl)
def zw_X4_setCounting_0 : List Nat := [4, 27, 120, 62, 42, 28, 153, 0, 12, 42, 180, 0, 49, 29, 128, 167, 0, 11, 42, 180, 0, 49, 29, 2, 130, 126, 181, 0, 49, 177]
def zt_X4_setCounting_0 : List Nat := zw_X4_setCounting_0 ++ []
theorem ze_X4_setCounting_0 : (dcn cX4_setCounting).drop 0 = zt_X4_setCounting_0 := by decide +kernel
theorem zb_X4_setCounting_0 (j : Nat) {n : Nat} (e : zw_X4_setCounting_0[j]? = some n) : dby cX4_setCounting (0 + j) n := dw_b (t := []) ze_X4_setCounting_0 j e
theorem dX4_setCounting_0 : decode cX4_setCounting 0 = .ok (.iconst 1, 1) := dop_4 (zb_X4_setCounting_0 0 rfl)
theorem dX4_setCounting_1 : decode cX4_setCounting 1 = .ok (.iload_n 1, 1) := dop_27 (zb_X4_setCounting_0 1 rfl)
theorem dX4_setCounting_2 : decode cX4_setCounting 2 = .ok (.ishl, 1) := dop_120 (zb_X4_setCounting_0 2 rfl)
theorem dX4_setCounting_3 : decode cX4_setCounting 3 = .ok (.istore_n 3, 1) := dop_62 (zb_X4_setCounting_0 3 rfl)
theorem dX4_setCounting_4 : decode cX4_setCounting 4 = .ok (.aload_n 0, 1) := dop_42 (zb_X4_setCounting_0 4 rfl)
theorem dX4_setCounting_5 : decode cX4_setCounting 5 = .ok (.iload_n 2, 1) := dop_28 (zb_X4_setCounting_0 5 rfl)
theorem dX4_setCounting_6 : decode cX4_setCounting 6 = .ok (.ifCond .eq 12, 3) := dop_153 (zb_X4_setCounting_0 6 rfl) (zb_X4_setCounting_0 7 rfl) (zb_X4_setCounting_0 8 rfl) rfl
theorem dX4_setCounting_9 : decode cX4_setCounting 9 = .ok (.aload_n 0, 1) := dop_42 (zb_X4_setCounting_0 9 rfl)
theorem dX4_setCounting_10 : decode cX4_setCounting 10 = .ok (.getfield 49, 3) := dop_180 (zb_X4_setCounting_0 10 rfl) (zb_X4_setCounting_0 11 rfl) (zb_X4_setCounting_0 12 rfl) rfl
theorem dX4_setCounting_13 : decode cX4_setCounting 13 = .ok (.iload_n 3, 1) := dop_29 (zb_X4_setCounting_0 13 rfl)
theorem dX4_setCounting_14 : decode cX4_setCounting 14 = .ok (.ior, 1) := dop_128 (zb_X4_setCounting_0 14 rfl)
theorem dX4_setCounting_15 : decode cX4_setCounting 15 = .ok (.goto 11, 3) := dop_167 (zb_X4_setCounting_0 15 rfl) (zb_X4_setCounting_0 16 rfl) (zb_X4_setCounting_0 17 rfl) rfl
theorem dX4_setCounting_18 : decode cX4_setCounting 18 = .ok (.aload_n 0, 1) := dop_42 (zb_X4_setCounting_0 18 rfl)
theorem dX4_setCounting_19 : decode cX4_setCounting 19 = .ok (.getfield 49, 3) := dop_180 (zb_X4_setCounting_0 19 rfl) (zb_X4_setCounting_0 20 rfl) (zb_X4_setCounting_0 21 rfl) rfl
theorem dX4_setCounting_22 : decode cX4_setCounting 22 = .ok (.iload_n 3, 1) := dop_29 (zb_X4_setCounting_0 22 rfl)
theorem dX4_setCounting_23 : decode cX4_setCounting 23 = .ok (.iconst (-1), 1) := dop_2 (zb_X4_setCounting_0 23 rfl)
theorem dX4_setCounting_24 : decode cX4_setCounting 24 = .ok (.ixor, 1) := dop_130 (zb_X4_setCounting_0 24 rfl)
theorem dX4_setCounting_25 : decode cX4_setCounting 25 = .ok (.iand, 1) := dop_126 (zb_X4_setCounting_0 25 rfl)
theorem dX4_setCounting_26 : decode cX4_setCounting 26 = .ok (.putfield 49, 3) := dop_181 (zb_X4_setCounting_0 26 rfl) (zb_X4_setCounting_0 27 rfl) (zb_X4_setCounting_0 28 rfl) rfl
theorem dX4_setCounting_29 : decode cX4_setCounting 29 = .ok (.return_, 1) := dop_177 (zb_X4_setCounting_0 29 rfl)
def zw_X4_isShorter_0 : List Nat := [42, 180, 0, 52, 27, 7, 104, 28, 96, 184, 0, 59, 172]
def zt_X4_isShorter_0 : List Nat := zw_X4_isShorter_0 ++ []
theorem ze_X4_isShorter_0 : (dcn cX4_isShorter).drop 0 = zt_X4_isShorter_0 := by decide +kernel
theorem zb_X4_isShorter_0 (j : Nat) {n : Nat} (e : zw_X4_isShorter_0[j]? = some n) : dby cX4_isShorter (0 + j) n := dw_b (t := []) ze_X4_isShorter_0 j e
theorem dX4_isShorter_0 : decode cX4_isShorter 0 = .ok (.aload_n 0, 1) := dop_42 (zb_X4_isShorter_0 0 rfl)
theorem dX4_isShorter_1 : decode cX4_isShorter 1 = .ok (.getfield 52, 3) := dop_180 (zb_X4_isShorter_0 1 rfl) (zb_X4_isShorter_0 2 rfl) (zb_X4_isShorter_0 3 rfl) rfl
theorem dX4_isShorter_4 : decode cX4_isShorter 4 = .ok (.iload_n 1, 1) := dop_27 (zb_X4_isShorter_0 4 rfl)
theorem dX4_isShorter_5 : decode cX4_isShorter 5 = .ok (.iconst 4, 1) := dop_7 (zb_X4_isShorter_0 5 rfl)
theorem dX4_isShorter_6 : decode cX4_isShorter 6 = .ok (.imul, 1) := dop_104 (zb_X4_isShorter_0 6 rfl)
theorem dX4_isShorter_7 : decode cX4_isShorter 7 = .ok (.iload_n 2, 1) := dop_28 (zb_X4_isShorter_0 7 rfl)
theorem dX4_isShorter_8 : decode cX4_isShorter 8 = .ok (.iadd, 1) := dop_96 (zb_X4_isShorter_0 8 rfl)
theorem dX4_isShorter_9 : decode cX4_isShorter 9 = .ok (.invokestatic 59, 3) := dop_184 (zb_X4_isShorter_0 9 rfl) (zb_X4_isShorter_0 10 rfl) (zb_X4_isShorter_0 11 rfl) rfl
theorem dX4_isShorter_12 : decode cX4_isShorter 12 = .ok (.ireturn, 1) := dop_172 (zb_X4_isShorter_0 12 rfl)
def zw_X4_shorters_0 : List Nat := [42, 180, 0, 52, 184, 0, 63, 172]
def zt_X4_shorters_0 : List Nat := zw_X4_shorters_0 ++ []
theorem ze_X4_shorters_0 : (dcn cX4_shorters).drop 0 = zt_X4_shorters_0 := by decide +kernel
theorem zb_X4_shorters_0 (j : Nat) {n : Nat} (e : zw_X4_shorters_0[j]? = some n) : dby cX4_shorters (0 + j) n := dw_b (t := []) ze_X4_shorters_0 j e
theorem dX4_shorters_0 : decode cX4_shorters 0 = .ok (.aload_n 0, 1) := dop_42 (zb_X4_shorters_0 0 rfl)
theorem dX4_shorters_1 : decode cX4_shorters 1 = .ok (.getfield 52, 3) := dop_180 (zb_X4_shorters_0 1 rfl) (zb_X4_shorters_0 2 rfl) (zb_X4_shorters_0 3 rfl) rfl
theorem dX4_shorters_4 : decode cX4_shorters 4 = .ok (.invokestatic 63, 3) := dop_184 (zb_X4_shorters_0 4 rfl) (zb_X4_shorters_0 5 rfl) (zb_X4_shorters_0 6 rfl) rfl
theorem dX4_shorters_7 : decode cX4_shorters 7 = .ok (.ireturn, 1) := dop_172 (zb_X4_shorters_0 7 rfl)
def zw_X4_hasRoomForShorter_0 : List Nat := [42, 182, 0, 69, 16, 6, 162, 0, 7, 4, 167, 0, 4, 3, 172]
def zt_X4_hasRoomForShorter_0 : List Nat := zw_X4_hasRoomForShorter_0 ++ []
theorem ze_X4_hasRoomForShorter_0 : (dcn cX4_hasRoomForShorter).drop 0 = zt_X4_hasRoomForShorter_0 := by decide +kernel
theorem zb_X4_hasRoomForShorter_0 (j : Nat) {n : Nat} (e : zw_X4_hasRoomForShorter_0[j]? = some n) : dby cX4_hasRoomForShorter (0 + j) n := dw_b (t := []) ze_X4_hasRoomForShorter_0 j e
theorem dX4_hasRoomForShorter_0 : decode cX4_hasRoomForShorter 0 = .ok (.aload_n 0, 1) := dop_42 (zb_X4_hasRoomForShorter_0 0 rfl)
theorem dX4_hasRoomForShorter_1 : decode cX4_hasRoomForShorter 1 = .ok (.invokevirtual 69, 3) := dop_182 (zb_X4_hasRoomForShorter_0 1 rfl) (zb_X4_hasRoomForShorter_0 2 rfl) (zb_X4_hasRoomForShorter_0 3 rfl) rfl
theorem dX4_hasRoomForShorter_4 : decode cX4_hasRoomForShorter 4 = .ok (.bipush 6, 2) := dop_16 (zb_X4_hasRoomForShorter_0 4 rfl) (zb_X4_hasRoomForShorter_0 5 rfl) rfl
theorem dX4_hasRoomForShorter_6 : decode cX4_hasRoomForShorter 6 = .ok (.if_icmp .ge 7, 3) := dop_162 (zb_X4_hasRoomForShorter_0 6 rfl) (zb_X4_hasRoomForShorter_0 7 rfl) (zb_X4_hasRoomForShorter_0 8 rfl) rfl
theorem dX4_hasRoomForShorter_9 : decode cX4_hasRoomForShorter 9 = .ok (.iconst 1, 1) := dop_4 (zb_X4_hasRoomForShorter_0 9 rfl)
theorem dX4_hasRoomForShorter_10 : decode cX4_hasRoomForShorter 10 = .ok (.goto 4, 3) := dop_167 (zb_X4_hasRoomForShorter_0 10 rfl) (zb_X4_hasRoomForShorter_0 11 rfl) (zb_X4_hasRoomForShorter_0 12 rfl) rfl
theorem dX4_hasRoomForShorter_13 : decode cX4_hasRoomForShorter 13 = .ok (.iconst 0, 1) := dop_3 (zb_X4_hasRoomForShorter_0 13 rfl)
theorem dX4_hasRoomForShorter_14 : decode cX4_hasRoomForShorter 14 = .ok (.ireturn, 1) := dop_172 (zb_X4_hasRoomForShorter_0 14 rfl)
def zw_X4_addShorter_0 : List Nat := [42, 89, 180, 0, 52, 4, 27, 7, 104, 28, 96, 120, 128, 181, 0, 52, 177]
def zt_X4_addShorter_0 : List Nat := zw_X4_addShorter_0 ++ []
theorem ze_X4_addShorter_0 : (dcn cX4_addShorter).drop 0 = zt_X4_addShorter_0 := by decide +kernel
theorem zb_X4_addShorter_0 (j : Nat) {n : Nat} (e : zw_X4_addShorter_0[j]? = some n) : dby cX4_addShorter (0 + j) n := dw_b (t := []) ze_X4_addShorter_0 j e
theorem dX4_addShorter_0 : decode cX4_addShorter 0 = .ok (.aload_n 0, 1) := dop_42 (zb_X4_addShorter_0 0 rfl)
theorem dX4_addShorter_1 : decode cX4_addShorter 1 = .ok (.dup, 1) := dop_89 (zb_X4_addShorter_0 1 rfl)
theorem dX4_addShorter_2 : decode cX4_addShorter 2 = .ok (.getfield 52, 3) := dop_180 (zb_X4_addShorter_0 2 rfl) (zb_X4_addShorter_0 3 rfl) (zb_X4_addShorter_0 4 rfl) rfl
theorem dX4_addShorter_5 : decode cX4_addShorter 5 = .ok (.iconst 1, 1) := dop_4 (zb_X4_addShorter_0 5 rfl)
theorem dX4_addShorter_6 : decode cX4_addShorter 6 = .ok (.iload_n 1, 1) := dop_27 (zb_X4_addShorter_0 6 rfl)
theorem dX4_addShorter_7 : decode cX4_addShorter 7 = .ok (.iconst 4, 1) := dop_7 (zb_X4_addShorter_0 7 rfl)
theorem dX4_addShorter_8 : decode cX4_addShorter 8 = .ok (.imul, 1) := dop_104 (zb_X4_addShorter_0 8 rfl)
theorem dX4_addShorter_9 : decode cX4_addShorter 9 = .ok (.iload_n 2, 1) := dop_28 (zb_X4_addShorter_0 9 rfl)
theorem dX4_addShorter_10 : decode cX4_addShorter 10 = .ok (.iadd, 1) := dop_96 (zb_X4_addShorter_0 10 rfl)
theorem dX4_addShorter_11 : decode cX4_addShorter 11 = .ok (.ishl, 1) := dop_120 (zb_X4_addShorter_0 11 rfl)
theorem dX4_addShorter_12 : decode cX4_addShorter 12 = .ok (.ior, 1) := dop_128 (zb_X4_addShorter_0 12 rfl)
theorem dX4_addShorter_13 : decode cX4_addShorter 13 = .ok (.putfield 52, 3) := dop_181 (zb_X4_addShorter_0 13 rfl) (zb_X4_addShorter_0 14 rfl) (zb_X4_addShorter_0 15 rfl) rfl
theorem dX4_addShorter_16 : decode cX4_addShorter 16 = .ok (.return_, 1) := dop_177 (zb_X4_addShorter_0 16 rfl)
def zw_X4_isThere_1 : List Nat := [16, 6, 100, 46, 2, 159, 0, 7, 4, 167, 0, 4, 3, 172]
def zt_X4_isThere_1 : List Nat := zw_X4_isThere_1 ++ []
def zw_X4_isThere_0 : List Nat := [27, 3, 16, 15, 184, 0, 73, 154, 0, 5, 3, 172, 27, 16, 6, 161, 0, 13, 27, 16, 12, 162, 0, 7, 4, 167, 0, 4, 3, 61, 28, 153, 0, 16, 42, 180, 0, 15, 27]
def zt_X4_isThere_0 : List Nat := zw_X4_isThere_0 ++ zt_X4_isThere_1
theorem ze_X4_isThere_0 : (dcn cX4_isThere).drop 0 = zt_X4_isThere_0 := by decide +kernel
theorem ze_X4_isThere_1 : (dcn cX4_isThere).drop 39 = zt_X4_isThere_1 := dw_n (wl := zw_X4_isThere_0) ze_X4_isThere_0 rfl
theorem zb_X4_isThere_0 (j : Nat) {n : Nat} (e : zw_X4_isThere_0[j]? = some n) : dby cX4_isThere (0 + j) n := dw_b (t := zt_X4_isThere_1) ze_X4_isThere_0 j e
theorem dX4_isThere_0 : decode cX4_isThere 0 = .ok (.iload_n 1, 1) := dop_27 (zb_X4_isThere_0 0 rfl)
theorem dX4_isThere_1 : decode cX4_isThere 1 = .ok (.iconst 0, 1) := dop_3 (zb_X4_isThere_0 1 rfl)
theorem dX4_isThere_2 : decode cX4_isThere 2 = .ok (.bipush 15, 2) := dop_16 (zb_X4_isThere_0 2 rfl) (zb_X4_isThere_0 3 rfl) rfl
theorem dX4_isThere_4 : decode cX4_isThere 4 = .ok (.invokestatic 73, 3) := dop_184 (zb_X4_isThere_0 4 rfl) (zb_X4_isThere_0 5 rfl) (zb_X4_isThere_0 6 rfl) rfl
theorem dX4_isThere_7 : decode cX4_isThere 7 = .ok (.ifCond .ne 5, 3) := dop_154 (zb_X4_isThere_0 7 rfl) (zb_X4_isThere_0 8 rfl) (zb_X4_isThere_0 9 rfl) rfl
theorem dX4_isThere_10 : decode cX4_isThere 10 = .ok (.iconst 0, 1) := dop_3 (zb_X4_isThere_0 10 rfl)
theorem dX4_isThere_11 : decode cX4_isThere 11 = .ok (.ireturn, 1) := dop_172 (zb_X4_isThere_0 11 rfl)
theorem dX4_isThere_12 : decode cX4_isThere 12 = .ok (.iload_n 1, 1) := dop_27 (zb_X4_isThere_0 12 rfl)
theorem dX4_isThere_13 : decode cX4_isThere 13 = .ok (.bipush 6, 2) := dop_16 (zb_X4_isThere_0 13 rfl) (zb_X4_isThere_0 14 rfl) rfl
theorem dX4_isThere_15 : decode cX4_isThere 15 = .ok (.if_icmp .lt 13, 3) := dop_161 (zb_X4_isThere_0 15 rfl) (zb_X4_isThere_0 16 rfl) (zb_X4_isThere_0 17 rfl) rfl
theorem dX4_isThere_18 : decode cX4_isThere 18 = .ok (.iload_n 1, 1) := dop_27 (zb_X4_isThere_0 18 rfl)
theorem dX4_isThere_19 : decode cX4_isThere 19 = .ok (.bipush 12, 2) := dop_16 (zb_X4_isThere_0 19 rfl) (zb_X4_isThere_0 20 rfl) rfl
theorem dX4_isThere_21 : decode cX4_isThere 21 = .ok (.if_icmp .ge 7, 3) := dop_162 (zb_X4_isThere_0 21 rfl) (zb_X4_isThere_0 22 rfl) (zb_X4_isThere_0 23 rfl) rfl
theorem dX4_isThere_24 : decode cX4_isThere 24 = .ok (.iconst 1, 1) := dop_4 (zb_X4_isThere_0 24 rfl)
theorem dX4_isThere_25 : decode cX4_isThere 25 = .ok (.goto 4, 3) := dop_167 (zb_X4_isThere_0 25 rfl) (zb_X4_isThere_0 26 rfl) (zb_X4_isThere_0 27 rfl) rfl
theorem dX4_isThere_28 : decode cX4_isThere 28 = .ok (.iconst 0, 1) := dop_3 (zb_X4_isThere_0 28 rfl)
theorem dX4_isThere_29 : decode cX4_isThere 29 = .ok (.istore_n 2, 1) := dop_61 (zb_X4_isThere_0 29 rfl)
theorem dX4_isThere_30 : decode cX4_isThere 30 = .ok (.iload_n 2, 1) := dop_28 (zb_X4_isThere_0 30 rfl)
theorem dX4_isThere_31 : decode cX4_isThere 31 = .ok (.ifCond .eq 16, 3) := dop_153 (zb_X4_isThere_0 31 rfl) (zb_X4_isThere_0 32 rfl) (zb_X4_isThere_0 33 rfl) rfl
theorem dX4_isThere_34 : decode cX4_isThere 34 = .ok (.aload_n 0, 1) := dop_42 (zb_X4_isThere_0 34 rfl)
theorem dX4_isThere_35 : decode cX4_isThere 35 = .ok (.getfield 15, 3) := dop_180 (zb_X4_isThere_0 35 rfl) (zb_X4_isThere_0 36 rfl) (zb_X4_isThere_0 37 rfl) rfl
theorem dX4_isThere_38 : decode cX4_isThere 38 = .ok (.iload_n 1, 1) := dop_27 (zb_X4_isThere_0 38 rfl)
theorem zb_X4_isThere_1 (j : Nat) {n : Nat} (e : zw_X4_isThere_1[j]? = some n) : dby cX4_isThere (39 + j) n := dw_b (t := []) ze_X4_isThere_1 j e
theorem dX4_isThere_39 : decode cX4_isThere 39 = .ok (.bipush 6, 2) := dop_16 (zb_X4_isThere_1 0 rfl) (zb_X4_isThere_1 1 rfl) rfl
theorem dX4_isThere_41 : decode cX4_isThere 41 = .ok (.isub, 1) := dop_100 (zb_X4_isThere_1 2 rfl)
theorem dX4_isThere_42 : decode cX4_isThere 42 = .ok (.iaload, 1) := dop_46 (zb_X4_isThere_1 3 rfl)
theorem dX4_isThere_43 : decode cX4_isThere 43 = .ok (.iconst (-1), 1) := dop_2 (zb_X4_isThere_1 4 rfl)
theorem dX4_isThere_44 : decode cX4_isThere 44 = .ok (.if_icmp .eq 7, 3) := dop_159 (zb_X4_isThere_1 5 rfl) (zb_X4_isThere_1 6 rfl) (zb_X4_isThere_1 7 rfl) rfl
theorem dX4_isThere_47 : decode cX4_isThere 47 = .ok (.iconst 1, 1) := dop_4 (zb_X4_isThere_1 8 rfl)
theorem dX4_isThere_48 : decode cX4_isThere 48 = .ok (.goto 4, 3) := dop_167 (zb_X4_isThere_1 9 rfl) (zb_X4_isThere_1 10 rfl) (zb_X4_isThere_1 11 rfl) rfl
theorem dX4_isThere_51 : decode cX4_isThere 51 = .ok (.iconst 0, 1) := dop_3 (zb_X4_isThere_1 12 rfl)
theorem dX4_isThere_52 : decode cX4_isThere 52 = .ok (.ireturn, 1) := dop_172 (zb_X4_isThere_1 13 rfl)
def zw_X4_lengthIn_0 : List Nat := [42, 180, 0, 15, 27, 46, 62, 29, 2, 159, 0, 15, 28, 29, 161, 0, 10, 27, 16, 6, 96, 167, 0, 4, 27, 172]
def zt_X4_lengthIn_0 : List Nat := zw_X4_lengthIn_0 ++ []
theorem ze_X4_lengthIn_0 : (dcn cX4_lengthIn).drop 0 = zt_X4_lengthIn_0 := by decide +kernel
theorem zb_X4_lengthIn_0 (j : Nat) {n : Nat} (e : zw_X4_lengthIn_0[j]? = some n) : dby cX4_lengthIn (0 + j) n := dw_b (t := []) ze_X4_lengthIn_0 j e
theorem dX4_lengthIn_0 : decode cX4_lengthIn 0 = .ok (.aload_n 0, 1) := dop_42 (zb_X4_lengthIn_0 0 rfl)
theorem dX4_lengthIn_1 : decode cX4_lengthIn 1 = .ok (.getfield 15, 3) := dop_180 (zb_X4_lengthIn_0 1 rfl) (zb_X4_lengthIn_0 2 rfl) (zb_X4_lengthIn_0 3 rfl) rfl
theorem dX4_lengthIn_4 : decode cX4_lengthIn 4 = .ok (.iload_n 1, 1) := dop_27 (zb_X4_lengthIn_0 4 rfl)
theorem dX4_lengthIn_5 : decode cX4_lengthIn 5 = .ok (.iaload, 1) := dop_46 (zb_X4_lengthIn_0 5 rfl)
theorem dX4_lengthIn_6 : decode cX4_lengthIn 6 = .ok (.istore_n 3, 1) := dop_62 (zb_X4_lengthIn_0 6 rfl)
theorem dX4_lengthIn_7 : decode cX4_lengthIn 7 = .ok (.iload_n 3, 1) := dop_29 (zb_X4_lengthIn_0 7 rfl)
theorem dX4_lengthIn_8 : decode cX4_lengthIn 8 = .ok (.iconst (-1), 1) := dop_2 (zb_X4_lengthIn_0 8 rfl)
theorem dX4_lengthIn_9 : decode cX4_lengthIn 9 = .ok (.if_icmp .eq 15, 3) := dop_159 (zb_X4_lengthIn_0 9 rfl) (zb_X4_lengthIn_0 10 rfl) (zb_X4_lengthIn_0 11 rfl) rfl
theorem dX4_lengthIn_12 : decode cX4_lengthIn 12 = .ok (.iload_n 2, 1) := dop_28 (zb_X4_lengthIn_0 12 rfl)
theorem dX4_lengthIn_13 : decode cX4_lengthIn 13 = .ok (.iload_n 3, 1) := dop_29 (zb_X4_lengthIn_0 13 rfl)
theorem dX4_lengthIn_14 : decode cX4_lengthIn 14 = .ok (.if_icmp .lt 10, 3) := dop_161 (zb_X4_lengthIn_0 14 rfl) (zb_X4_lengthIn_0 15 rfl) (zb_X4_lengthIn_0 16 rfl) rfl
theorem dX4_lengthIn_17 : decode cX4_lengthIn 17 = .ok (.iload_n 1, 1) := dop_27 (zb_X4_lengthIn_0 17 rfl)
theorem dX4_lengthIn_18 : decode cX4_lengthIn 18 = .ok (.bipush 6, 2) := dop_16 (zb_X4_lengthIn_0 18 rfl) (zb_X4_lengthIn_0 19 rfl) rfl
theorem dX4_lengthIn_20 : decode cX4_lengthIn 20 = .ok (.iadd, 1) := dop_96 (zb_X4_lengthIn_0 20 rfl)
theorem dX4_lengthIn_21 : decode cX4_lengthIn 21 = .ok (.goto 4, 3) := dop_167 (zb_X4_lengthIn_0 21 rfl) (zb_X4_lengthIn_0 22 rfl) (zb_X4_lengthIn_0 23 rfl) rfl
theorem dX4_lengthIn_24 : decode cX4_lengthIn 24 = .ok (.iload_n 1, 1) := dop_27 (zb_X4_lengthIn_0 24 rfl)
theorem dX4_lengthIn_25 : decode cX4_lengthIn 25 = .ok (.ireturn, 1) := dop_172 (zb_X4_lengthIn_0 25 rfl)
def zw_X4_lengthOf_0 : List Nat := [42, 42, 180, 0, 18, 27, 46, 42, 180, 0, 21, 27, 46, 182, 0, 77, 172]
def zt_X4_lengthOf_0 : List Nat := zw_X4_lengthOf_0 ++ []
theorem ze_X4_lengthOf_0 : (dcn cX4_lengthOf).drop 0 = zt_X4_lengthOf_0 := by decide +kernel
theorem zb_X4_lengthOf_0 (j : Nat) {n : Nat} (e : zw_X4_lengthOf_0[j]? = some n) : dby cX4_lengthOf (0 + j) n := dw_b (t := []) ze_X4_lengthOf_0 j e
theorem dX4_lengthOf_0 : decode cX4_lengthOf 0 = .ok (.aload_n 0, 1) := dop_42 (zb_X4_lengthOf_0 0 rfl)
theorem dX4_lengthOf_1 : decode cX4_lengthOf 1 = .ok (.aload_n 0, 1) := dop_42 (zb_X4_lengthOf_0 1 rfl)
theorem dX4_lengthOf_2 : decode cX4_lengthOf 2 = .ok (.getfield 18, 3) := dop_180 (zb_X4_lengthOf_0 2 rfl) (zb_X4_lengthOf_0 3 rfl) (zb_X4_lengthOf_0 4 rfl) rfl
theorem dX4_lengthOf_5 : decode cX4_lengthOf 5 = .ok (.iload_n 1, 1) := dop_27 (zb_X4_lengthOf_0 5 rfl)
theorem dX4_lengthOf_6 : decode cX4_lengthOf 6 = .ok (.iaload, 1) := dop_46 (zb_X4_lengthOf_0 6 rfl)
theorem dX4_lengthOf_7 : decode cX4_lengthOf 7 = .ok (.aload_n 0, 1) := dop_42 (zb_X4_lengthOf_0 7 rfl)
theorem dX4_lengthOf_8 : decode cX4_lengthOf 8 = .ok (.getfield 21, 3) := dop_180 (zb_X4_lengthOf_0 8 rfl) (zb_X4_lengthOf_0 9 rfl) (zb_X4_lengthOf_0 10 rfl) rfl
theorem dX4_lengthOf_11 : decode cX4_lengthOf 11 = .ok (.iload_n 1, 1) := dop_27 (zb_X4_lengthOf_0 11 rfl)
theorem dX4_lengthOf_12 : decode cX4_lengthOf 12 = .ok (.iaload, 1) := dop_46 (zb_X4_lengthOf_0 12 rfl)
theorem dX4_lengthOf_13 : decode cX4_lengthOf 13 = .ok (.invokevirtual 77, 3) := dop_182 (zb_X4_lengthOf_0 13 rfl) (zb_X4_lengthOf_0 14 rfl) (zb_X4_lengthOf_0 15 rfl) rfl
theorem dX4_lengthOf_16 : decode cX4_lengthOf 16 = .ok (.ireturn, 1) := dop_172 (zb_X4_lengthOf_0 16 rfl)
def zw_X4_keeperOf_0 : List Nat := [42, 180, 0, 9, 42, 180, 0, 21, 27, 46, 46, 172]
def zt_X4_keeperOf_0 : List Nat := zw_X4_keeperOf_0 ++ []
theorem ze_X4_keeperOf_0 : (dcn cX4_keeperOf).drop 0 = zt_X4_keeperOf_0 := by decide +kernel
theorem zb_X4_keeperOf_0 (j : Nat) {n : Nat} (e : zw_X4_keeperOf_0[j]? = some n) : dby cX4_keeperOf (0 + j) n := dw_b (t := []) ze_X4_keeperOf_0 j e
theorem dX4_keeperOf_0 : decode cX4_keeperOf 0 = .ok (.aload_n 0, 1) := dop_42 (zb_X4_keeperOf_0 0 rfl)
theorem dX4_keeperOf_1 : decode cX4_keeperOf 1 = .ok (.getfield 9, 3) := dop_180 (zb_X4_keeperOf_0 1 rfl) (zb_X4_keeperOf_0 2 rfl) (zb_X4_keeperOf_0 3 rfl) rfl
theorem dX4_keeperOf_4 : decode cX4_keeperOf 4 = .ok (.aload_n 0, 1) := dop_42 (zb_X4_keeperOf_0 4 rfl)
theorem dX4_keeperOf_5 : decode cX4_keeperOf 5 = .ok (.getfield 21, 3) := dop_180 (zb_X4_keeperOf_0 5 rfl) (zb_X4_keeperOf_0 6 rfl) (zb_X4_keeperOf_0 7 rfl) rfl
theorem dX4_keeperOf_8 : decode cX4_keeperOf 8 = .ok (.iload_n 1, 1) := dop_27 (zb_X4_keeperOf_0 8 rfl)
theorem dX4_keeperOf_9 : decode cX4_keeperOf 9 = .ok (.iaload, 1) := dop_46 (zb_X4_keeperOf_0 9 rfl)
theorem dX4_keeperOf_10 : decode cX4_keeperOf 10 = .ok (.iaload, 1) := dop_46 (zb_X4_keeperOf_0 10 rfl)
theorem dX4_keeperOf_11 : decode cX4_keeperOf 11 = .ok (.ireturn, 1) := dop_172 (zb_X4_keeperOf_0 11 rfl)
def zw_X4_leastHalves_0 : List Nat := [5, 42, 180, 0, 24, 27, 46, 104, 42, 180, 0, 27, 27, 46, 5, 160, 0, 7, 4, 167, 0, 4, 3, 100, 172]
def zt_X4_leastHalves_0 : List Nat := zw_X4_leastHalves_0 ++ []
theorem ze_X4_leastHalves_0 : (dcn cX4_leastHalves).drop 0 = zt_X4_leastHalves_0 := by decide +kernel
theorem zb_X4_leastHalves_0 (j : Nat) {n : Nat} (e : zw_X4_leastHalves_0[j]? = some n) : dby cX4_leastHalves (0 + j) n := dw_b (t := []) ze_X4_leastHalves_0 j e
theorem dX4_leastHalves_0 : decode cX4_leastHalves 0 = .ok (.iconst 2, 1) := dop_5 (zb_X4_leastHalves_0 0 rfl)
theorem dX4_leastHalves_1 : decode cX4_leastHalves 1 = .ok (.aload_n 0, 1) := dop_42 (zb_X4_leastHalves_0 1 rfl)
theorem dX4_leastHalves_2 : decode cX4_leastHalves 2 = .ok (.getfield 24, 3) := dop_180 (zb_X4_leastHalves_0 2 rfl) (zb_X4_leastHalves_0 3 rfl) (zb_X4_leastHalves_0 4 rfl) rfl
theorem dX4_leastHalves_5 : decode cX4_leastHalves 5 = .ok (.iload_n 1, 1) := dop_27 (zb_X4_leastHalves_0 5 rfl)
theorem dX4_leastHalves_6 : decode cX4_leastHalves 6 = .ok (.iaload, 1) := dop_46 (zb_X4_leastHalves_0 6 rfl)
theorem dX4_leastHalves_7 : decode cX4_leastHalves 7 = .ok (.imul, 1) := dop_104 (zb_X4_leastHalves_0 7 rfl)
theorem dX4_leastHalves_8 : decode cX4_leastHalves 8 = .ok (.aload_n 0, 1) := dop_42 (zb_X4_leastHalves_0 8 rfl)
theorem dX4_leastHalves_9 : decode cX4_leastHalves 9 = .ok (.getfield 27, 3) := dop_180 (zb_X4_leastHalves_0 9 rfl) (zb_X4_leastHalves_0 10 rfl) (zb_X4_leastHalves_0 11 rfl) rfl
theorem dX4_leastHalves_12 : decode cX4_leastHalves 12 = .ok (.iload_n 1, 1) := dop_27 (zb_X4_leastHalves_0 12 rfl)
theorem dX4_leastHalves_13 : decode cX4_leastHalves 13 = .ok (.iaload, 1) := dop_46 (zb_X4_leastHalves_0 13 rfl)
theorem dX4_leastHalves_14 : decode cX4_leastHalves 14 = .ok (.iconst 2, 1) := dop_5 (zb_X4_leastHalves_0 14 rfl)
theorem dX4_leastHalves_15 : decode cX4_leastHalves 15 = .ok (.if_icmp .ne 7, 3) := dop_160 (zb_X4_leastHalves_0 15 rfl) (zb_X4_leastHalves_0 16 rfl) (zb_X4_leastHalves_0 17 rfl) rfl
theorem dX4_leastHalves_18 : decode cX4_leastHalves 18 = .ok (.iconst 1, 1) := dop_4 (zb_X4_leastHalves_0 18 rfl)
theorem dX4_leastHalves_19 : decode cX4_leastHalves 19 = .ok (.goto 4, 3) := dop_167 (zb_X4_leastHalves_0 19 rfl) (zb_X4_leastHalves_0 20 rfl) (zb_X4_leastHalves_0 21 rfl) rfl
theorem dX4_leastHalves_22 : decode cX4_leastHalves 22 = .ok (.iconst 0, 1) := dop_3 (zb_X4_leastHalves_0 22 rfl)
theorem dX4_leastHalves_23 : decode cX4_leastHalves 23 = .ok (.isub, 1) := dop_100 (zb_X4_leastHalves_0 23 rfl)
theorem dX4_leastHalves_24 : decode cX4_leastHalves 24 = .ok (.ireturn, 1) := dop_172 (zb_X4_leastHalves_0 24 rfl)
def zw_X4_endHalves_0 : List Nat := [42, 180, 0, 27, 27, 46, 154, 0, 12, 5, 42, 180, 0, 24, 27, 46, 104, 172, 42, 27, 182, 0, 81, 5, 96, 172]
def zt_X4_endHalves_0 : List Nat := zw_X4_endHalves_0 ++ []
theorem ze_X4_endHalves_0 : (dcn cX4_endHalves).drop 0 = zt_X4_endHalves_0 := by decide +kernel
theorem zb_X4_endHalves_0 (j : Nat) {n : Nat} (e : zw_X4_endHalves_0[j]? = some n) : dby cX4_endHalves (0 + j) n := dw_b (t := []) ze_X4_endHalves_0 j e
theorem dX4_endHalves_0 : decode cX4_endHalves 0 = .ok (.aload_n 0, 1) := dop_42 (zb_X4_endHalves_0 0 rfl)
theorem dX4_endHalves_1 : decode cX4_endHalves 1 = .ok (.getfield 27, 3) := dop_180 (zb_X4_endHalves_0 1 rfl) (zb_X4_endHalves_0 2 rfl) (zb_X4_endHalves_0 3 rfl) rfl
theorem dX4_endHalves_4 : decode cX4_endHalves 4 = .ok (.iload_n 1, 1) := dop_27 (zb_X4_endHalves_0 4 rfl)
theorem dX4_endHalves_5 : decode cX4_endHalves 5 = .ok (.iaload, 1) := dop_46 (zb_X4_endHalves_0 5 rfl)
theorem dX4_endHalves_6 : decode cX4_endHalves 6 = .ok (.ifCond .ne 12, 3) := dop_154 (zb_X4_endHalves_0 6 rfl) (zb_X4_endHalves_0 7 rfl) (zb_X4_endHalves_0 8 rfl) rfl
theorem dX4_endHalves_9 : decode cX4_endHalves 9 = .ok (.iconst 2, 1) := dop_5 (zb_X4_endHalves_0 9 rfl)
theorem dX4_endHalves_10 : decode cX4_endHalves 10 = .ok (.aload_n 0, 1) := dop_42 (zb_X4_endHalves_0 10 rfl)
theorem dX4_endHalves_11 : decode cX4_endHalves 11 = .ok (.getfield 24, 3) := dop_180 (zb_X4_endHalves_0 11 rfl) (zb_X4_endHalves_0 12 rfl) (zb_X4_endHalves_0 13 rfl) rfl
theorem dX4_endHalves_14 : decode cX4_endHalves 14 = .ok (.iload_n 1, 1) := dop_27 (zb_X4_endHalves_0 14 rfl)
theorem dX4_endHalves_15 : decode cX4_endHalves 15 = .ok (.iaload, 1) := dop_46 (zb_X4_endHalves_0 15 rfl)
theorem dX4_endHalves_16 : decode cX4_endHalves 16 = .ok (.imul, 1) := dop_104 (zb_X4_endHalves_0 16 rfl)
theorem dX4_endHalves_17 : decode cX4_endHalves 17 = .ok (.ireturn, 1) := dop_172 (zb_X4_endHalves_0 17 rfl)
theorem dX4_endHalves_18 : decode cX4_endHalves 18 = .ok (.aload_n 0, 1) := dop_42 (zb_X4_endHalves_0 18 rfl)
theorem dX4_endHalves_19 : decode cX4_endHalves 19 = .ok (.iload_n 1, 1) := dop_27 (zb_X4_endHalves_0 19 rfl)
theorem dX4_endHalves_20 : decode cX4_endHalves 20 = .ok (.invokevirtual 81, 3) := dop_182 (zb_X4_endHalves_0 20 rfl) (zb_X4_endHalves_0 21 rfl) (zb_X4_endHalves_0 22 rfl) rfl
theorem dX4_endHalves_23 : decode cX4_endHalves 23 = .ok (.iconst 2, 1) := dop_5 (zb_X4_endHalves_0 23 rfl)
theorem dX4_endHalves_24 : decode cX4_endHalves 24 = .ok (.iadd, 1) := dop_96 (zb_X4_endHalves_0 24 rfl)
theorem dX4_endHalves_25 : decode cX4_endHalves 25 = .ok (.ireturn, 1) := dop_172 (zb_X4_endHalves_0 25 rfl)
def zw_X4_wholeFeet_0 : List Nat := [42, 180, 0, 30, 27, 46, 133, 42, 180, 0, 30, 16, 12, 28, 96, 46, 133, 184, 0, 84, 136, 172]
def zt_X4_wholeFeet_0 : List Nat := zw_X4_wholeFeet_0 ++ []
theorem ze_X4_wholeFeet_0 : (dcn cX4_wholeFeet).drop 0 = zt_X4_wholeFeet_0 := by decide +kernel
theorem zb_X4_wholeFeet_0 (j : Nat) {n : Nat} (e : zw_X4_wholeFeet_0[j]? = some n) : dby cX4_wholeFeet (0 + j) n := dw_b (t := []) ze_X4_wholeFeet_0 j e
theorem dX4_wholeFeet_0 : decode cX4_wholeFeet 0 = .ok (.aload_n 0, 1) := dop_42 (zb_X4_wholeFeet_0 0 rfl)
theorem dX4_wholeFeet_1 : decode cX4_wholeFeet 1 = .ok (.getfield 30, 3) := dop_180 (zb_X4_wholeFeet_0 1 rfl) (zb_X4_wholeFeet_0 2 rfl) (zb_X4_wholeFeet_0 3 rfl) rfl
theorem dX4_wholeFeet_4 : decode cX4_wholeFeet 4 = .ok (.iload_n 1, 1) := dop_27 (zb_X4_wholeFeet_0 4 rfl)
theorem dX4_wholeFeet_5 : decode cX4_wholeFeet 5 = .ok (.iaload, 1) := dop_46 (zb_X4_wholeFeet_0 5 rfl)
theorem dX4_wholeFeet_6 : decode cX4_wholeFeet 6 = .ok (.i2l, 1) := dop_133 (zb_X4_wholeFeet_0 6 rfl)
theorem dX4_wholeFeet_7 : decode cX4_wholeFeet 7 = .ok (.aload_n 0, 1) := dop_42 (zb_X4_wholeFeet_0 7 rfl)
theorem dX4_wholeFeet_8 : decode cX4_wholeFeet 8 = .ok (.getfield 30, 3) := dop_180 (zb_X4_wholeFeet_0 8 rfl) (zb_X4_wholeFeet_0 9 rfl) (zb_X4_wholeFeet_0 10 rfl) rfl
theorem dX4_wholeFeet_11 : decode cX4_wholeFeet 11 = .ok (.bipush 12, 2) := dop_16 (zb_X4_wholeFeet_0 11 rfl) (zb_X4_wholeFeet_0 12 rfl) rfl
theorem dX4_wholeFeet_13 : decode cX4_wholeFeet 13 = .ok (.iload_n 2, 1) := dop_28 (zb_X4_wholeFeet_0 13 rfl)
theorem dX4_wholeFeet_14 : decode cX4_wholeFeet 14 = .ok (.iadd, 1) := dop_96 (zb_X4_wholeFeet_0 14 rfl)
theorem dX4_wholeFeet_15 : decode cX4_wholeFeet 15 = .ok (.iaload, 1) := dop_46 (zb_X4_wholeFeet_0 15 rfl)
theorem dX4_wholeFeet_16 : decode cX4_wholeFeet 16 = .ok (.i2l, 1) := dop_133 (zb_X4_wholeFeet_0 16 rfl)
theorem dX4_wholeFeet_17 : decode cX4_wholeFeet 17 = .ok (.invokestatic 84, 3) := dop_184 (zb_X4_wholeFeet_0 17 rfl) (zb_X4_wholeFeet_0 18 rfl) (zb_X4_wholeFeet_0 19 rfl) rfl
theorem dX4_wholeFeet_20 : decode cX4_wholeFeet 20 = .ok (.l2i, 1) := dop_136 (zb_X4_wholeFeet_0 20 rfl)
theorem dX4_wholeFeet_21 : decode cX4_wholeFeet 21 = .ok (.ireturn, 1) := dop_172 (zb_X4_wholeFeet_0 21 rfl)
def zw_X4_isSoByWorld_2 : List Nat := [21, 4, 21, 5, 161, 0, 14, 21, 4, 21, 6, 162, 0, 7, 4, 167, 0, 4, 3, 172]
def zt_X4_isSoByWorld_2 : List Nat := zw_X4_isSoByWorld_2 ++ []
def zw_X4_isSoByWorld_1 : List Nat := [182, 0, 81, 29, 104, 54, 5, 42, 27, 182, 0, 94, 29, 104, 54, 6, 42, 180, 0, 27, 27, 46, 154, 0, 18, 21, 4, 21, 6, 160, 0, 7, 4, 167, 0, 26, 3, 167, 0, 22]
def zt_X4_isSoByWorld_1 : List Nat := zw_X4_isSoByWorld_1 ++ zt_X4_isSoByWorld_2
def zw_X4_isSoByWorld_0 : List Nat := [42, 27, 182, 0, 88, 61, 28, 2, 160, 0, 5, 4, 172, 42, 180, 0, 30, 16, 12, 28, 96, 46, 62, 5, 42, 180, 0, 30, 42, 27, 182, 0, 91, 46, 104, 54, 4, 42, 27]
def zt_X4_isSoByWorld_0 : List Nat := zw_X4_isSoByWorld_0 ++ zt_X4_isSoByWorld_1
theorem ze_X4_isSoByWorld_0 : (dcn cX4_isSoByWorld).drop 0 = zt_X4_isSoByWorld_0 := by decide +kernel
theorem ze_X4_isSoByWorld_1 : (dcn cX4_isSoByWorld).drop 39 = zt_X4_isSoByWorld_1 := dw_n (wl := zw_X4_isSoByWorld_0) ze_X4_isSoByWorld_0 rfl
theorem zb_X4_isSoByWorld_0 (j : Nat) {n : Nat} (e : zw_X4_isSoByWorld_0[j]? = some n) : dby cX4_isSoByWorld (0 + j) n := dw_b (t := zt_X4_isSoByWorld_1) ze_X4_isSoByWorld_0 j e
theorem dX4_isSoByWorld_0 : decode cX4_isSoByWorld 0 = .ok (.aload_n 0, 1) := dop_42 (zb_X4_isSoByWorld_0 0 rfl)
theorem dX4_isSoByWorld_1 : decode cX4_isSoByWorld 1 = .ok (.iload_n 1, 1) := dop_27 (zb_X4_isSoByWorld_0 1 rfl)
theorem dX4_isSoByWorld_2 : decode cX4_isSoByWorld 2 = .ok (.invokevirtual 88, 3) := dop_182 (zb_X4_isSoByWorld_0 2 rfl) (zb_X4_isSoByWorld_0 3 rfl) (zb_X4_isSoByWorld_0 4 rfl) rfl
theorem dX4_isSoByWorld_5 : decode cX4_isSoByWorld 5 = .ok (.istore_n 2, 1) := dop_61 (zb_X4_isSoByWorld_0 5 rfl)
theorem dX4_isSoByWorld_6 : decode cX4_isSoByWorld 6 = .ok (.iload_n 2, 1) := dop_28 (zb_X4_isSoByWorld_0 6 rfl)
theorem dX4_isSoByWorld_7 : decode cX4_isSoByWorld 7 = .ok (.iconst (-1), 1) := dop_2 (zb_X4_isSoByWorld_0 7 rfl)
theorem dX4_isSoByWorld_8 : decode cX4_isSoByWorld 8 = .ok (.if_icmp .ne 5, 3) := dop_160 (zb_X4_isSoByWorld_0 8 rfl) (zb_X4_isSoByWorld_0 9 rfl) (zb_X4_isSoByWorld_0 10 rfl) rfl
theorem dX4_isSoByWorld_11 : decode cX4_isSoByWorld 11 = .ok (.iconst 1, 1) := dop_4 (zb_X4_isSoByWorld_0 11 rfl)
theorem dX4_isSoByWorld_12 : decode cX4_isSoByWorld 12 = .ok (.ireturn, 1) := dop_172 (zb_X4_isSoByWorld_0 12 rfl)
theorem dX4_isSoByWorld_13 : decode cX4_isSoByWorld 13 = .ok (.aload_n 0, 1) := dop_42 (zb_X4_isSoByWorld_0 13 rfl)
theorem dX4_isSoByWorld_14 : decode cX4_isSoByWorld 14 = .ok (.getfield 30, 3) := dop_180 (zb_X4_isSoByWorld_0 14 rfl) (zb_X4_isSoByWorld_0 15 rfl) (zb_X4_isSoByWorld_0 16 rfl) rfl
theorem dX4_isSoByWorld_17 : decode cX4_isSoByWorld 17 = .ok (.bipush 12, 2) := dop_16 (zb_X4_isSoByWorld_0 17 rfl) (zb_X4_isSoByWorld_0 18 rfl) rfl
theorem dX4_isSoByWorld_19 : decode cX4_isSoByWorld 19 = .ok (.iload_n 2, 1) := dop_28 (zb_X4_isSoByWorld_0 19 rfl)
theorem dX4_isSoByWorld_20 : decode cX4_isSoByWorld 20 = .ok (.iadd, 1) := dop_96 (zb_X4_isSoByWorld_0 20 rfl)
theorem dX4_isSoByWorld_21 : decode cX4_isSoByWorld 21 = .ok (.iaload, 1) := dop_46 (zb_X4_isSoByWorld_0 21 rfl)
theorem dX4_isSoByWorld_22 : decode cX4_isSoByWorld 22 = .ok (.istore_n 3, 1) := dop_62 (zb_X4_isSoByWorld_0 22 rfl)
theorem dX4_isSoByWorld_23 : decode cX4_isSoByWorld 23 = .ok (.iconst 2, 1) := dop_5 (zb_X4_isSoByWorld_0 23 rfl)
theorem dX4_isSoByWorld_24 : decode cX4_isSoByWorld 24 = .ok (.aload_n 0, 1) := dop_42 (zb_X4_isSoByWorld_0 24 rfl)
theorem dX4_isSoByWorld_25 : decode cX4_isSoByWorld 25 = .ok (.getfield 30, 3) := dop_180 (zb_X4_isSoByWorld_0 25 rfl) (zb_X4_isSoByWorld_0 26 rfl) (zb_X4_isSoByWorld_0 27 rfl) rfl
theorem dX4_isSoByWorld_28 : decode cX4_isSoByWorld 28 = .ok (.aload_n 0, 1) := dop_42 (zb_X4_isSoByWorld_0 28 rfl)
theorem dX4_isSoByWorld_29 : decode cX4_isSoByWorld 29 = .ok (.iload_n 1, 1) := dop_27 (zb_X4_isSoByWorld_0 29 rfl)
theorem dX4_isSoByWorld_30 : decode cX4_isSoByWorld 30 = .ok (.invokevirtual 91, 3) := dop_182 (zb_X4_isSoByWorld_0 30 rfl) (zb_X4_isSoByWorld_0 31 rfl) (zb_X4_isSoByWorld_0 32 rfl) rfl
theorem dX4_isSoByWorld_33 : decode cX4_isSoByWorld 33 = .ok (.iaload, 1) := dop_46 (zb_X4_isSoByWorld_0 33 rfl)
theorem dX4_isSoByWorld_34 : decode cX4_isSoByWorld 34 = .ok (.imul, 1) := dop_104 (zb_X4_isSoByWorld_0 34 rfl)
theorem dX4_isSoByWorld_35 : decode cX4_isSoByWorld 35 = .ok (.istore 4, 2) := dop_54 (zb_X4_isSoByWorld_0 35 rfl) (zb_X4_isSoByWorld_0 36 rfl)
theorem dX4_isSoByWorld_37 : decode cX4_isSoByWorld 37 = .ok (.aload_n 0, 1) := dop_42 (zb_X4_isSoByWorld_0 37 rfl)
theorem dX4_isSoByWorld_38 : decode cX4_isSoByWorld 38 = .ok (.iload_n 1, 1) := dop_27 (zb_X4_isSoByWorld_0 38 rfl)
theorem ze_X4_isSoByWorld_2 : (dcn cX4_isSoByWorld).drop 79 = zt_X4_isSoByWorld_2 := dw_n (wl := zw_X4_isSoByWorld_1) ze_X4_isSoByWorld_1 rfl
theorem zb_X4_isSoByWorld_1 (j : Nat) {n : Nat} (e : zw_X4_isSoByWorld_1[j]? = some n) : dby cX4_isSoByWorld (39 + j) n := dw_b (t := zt_X4_isSoByWorld_2) ze_X4_isSoByWorld_1 j e
theorem dX4_isSoByWorld_39 : decode cX4_isSoByWorld 39 = .ok (.invokevirtual 81, 3) := dop_182 (zb_X4_isSoByWorld_1 0 rfl) (zb_X4_isSoByWorld_1 1 rfl) (zb_X4_isSoByWorld_1 2 rfl) rfl
theorem dX4_isSoByWorld_42 : decode cX4_isSoByWorld 42 = .ok (.iload_n 3, 1) := dop_29 (zb_X4_isSoByWorld_1 3 rfl)
theorem dX4_isSoByWorld_43 : decode cX4_isSoByWorld 43 = .ok (.imul, 1) := dop_104 (zb_X4_isSoByWorld_1 4 rfl)
theorem dX4_isSoByWorld_44 : decode cX4_isSoByWorld 44 = .ok (.istore 5, 2) := dop_54 (zb_X4_isSoByWorld_1 5 rfl) (zb_X4_isSoByWorld_1 6 rfl)
theorem dX4_isSoByWorld_46 : decode cX4_isSoByWorld 46 = .ok (.aload_n 0, 1) := dop_42 (zb_X4_isSoByWorld_1 7 rfl)
theorem dX4_isSoByWorld_47 : decode cX4_isSoByWorld 47 = .ok (.iload_n 1, 1) := dop_27 (zb_X4_isSoByWorld_1 8 rfl)
theorem dX4_isSoByWorld_48 : decode cX4_isSoByWorld 48 = .ok (.invokevirtual 94, 3) := dop_182 (zb_X4_isSoByWorld_1 9 rfl) (zb_X4_isSoByWorld_1 10 rfl) (zb_X4_isSoByWorld_1 11 rfl) rfl
theorem dX4_isSoByWorld_51 : decode cX4_isSoByWorld 51 = .ok (.iload_n 3, 1) := dop_29 (zb_X4_isSoByWorld_1 12 rfl)
theorem dX4_isSoByWorld_52 : decode cX4_isSoByWorld 52 = .ok (.imul, 1) := dop_104 (zb_X4_isSoByWorld_1 13 rfl)
theorem dX4_isSoByWorld_53 : decode cX4_isSoByWorld 53 = .ok (.istore 6, 2) := dop_54 (zb_X4_isSoByWorld_1 14 rfl) (zb_X4_isSoByWorld_1 15 rfl)
theorem dX4_isSoByWorld_55 : decode cX4_isSoByWorld 55 = .ok (.aload_n 0, 1) := dop_42 (zb_X4_isSoByWorld_1 16 rfl)
theorem dX4_isSoByWorld_56 : decode cX4_isSoByWorld 56 = .ok (.getfield 27, 3) := dop_180 (zb_X4_isSoByWorld_1 17 rfl) (zb_X4_isSoByWorld_1 18 rfl) (zb_X4_isSoByWorld_1 19 rfl) rfl
theorem dX4_isSoByWorld_59 : decode cX4_isSoByWorld 59 = .ok (.iload_n 1, 1) := dop_27 (zb_X4_isSoByWorld_1 20 rfl)
theorem dX4_isSoByWorld_60 : decode cX4_isSoByWorld 60 = .ok (.iaload, 1) := dop_46 (zb_X4_isSoByWorld_1 21 rfl)
theorem dX4_isSoByWorld_61 : decode cX4_isSoByWorld 61 = .ok (.ifCond .ne 18, 3) := dop_154 (zb_X4_isSoByWorld_1 22 rfl) (zb_X4_isSoByWorld_1 23 rfl) (zb_X4_isSoByWorld_1 24 rfl) rfl
theorem dX4_isSoByWorld_64 : decode cX4_isSoByWorld 64 = .ok (.iload 4, 2) := dop_21 (zb_X4_isSoByWorld_1 25 rfl) (zb_X4_isSoByWorld_1 26 rfl)
theorem dX4_isSoByWorld_66 : decode cX4_isSoByWorld 66 = .ok (.iload 6, 2) := dop_21 (zb_X4_isSoByWorld_1 27 rfl) (zb_X4_isSoByWorld_1 28 rfl)
theorem dX4_isSoByWorld_68 : decode cX4_isSoByWorld 68 = .ok (.if_icmp .ne 7, 3) := dop_160 (zb_X4_isSoByWorld_1 29 rfl) (zb_X4_isSoByWorld_1 30 rfl) (zb_X4_isSoByWorld_1 31 rfl) rfl
theorem dX4_isSoByWorld_71 : decode cX4_isSoByWorld 71 = .ok (.iconst 1, 1) := dop_4 (zb_X4_isSoByWorld_1 32 rfl)
theorem dX4_isSoByWorld_72 : decode cX4_isSoByWorld 72 = .ok (.goto 26, 3) := dop_167 (zb_X4_isSoByWorld_1 33 rfl) (zb_X4_isSoByWorld_1 34 rfl) (zb_X4_isSoByWorld_1 35 rfl) rfl
theorem dX4_isSoByWorld_75 : decode cX4_isSoByWorld 75 = .ok (.iconst 0, 1) := dop_3 (zb_X4_isSoByWorld_1 36 rfl)
theorem dX4_isSoByWorld_76 : decode cX4_isSoByWorld 76 = .ok (.goto 22, 3) := dop_167 (zb_X4_isSoByWorld_1 37 rfl) (zb_X4_isSoByWorld_1 38 rfl) (zb_X4_isSoByWorld_1 39 rfl) rfl
theorem zb_X4_isSoByWorld_2 (j : Nat) {n : Nat} (e : zw_X4_isSoByWorld_2[j]? = some n) : dby cX4_isSoByWorld (79 + j) n := dw_b (t := []) ze_X4_isSoByWorld_2 j e
theorem dX4_isSoByWorld_79 : decode cX4_isSoByWorld 79 = .ok (.iload 4, 2) := dop_21 (zb_X4_isSoByWorld_2 0 rfl) (zb_X4_isSoByWorld_2 1 rfl)
theorem dX4_isSoByWorld_81 : decode cX4_isSoByWorld 81 = .ok (.iload 5, 2) := dop_21 (zb_X4_isSoByWorld_2 2 rfl) (zb_X4_isSoByWorld_2 3 rfl)
theorem dX4_isSoByWorld_83 : decode cX4_isSoByWorld 83 = .ok (.if_icmp .lt 14, 3) := dop_161 (zb_X4_isSoByWorld_2 4 rfl) (zb_X4_isSoByWorld_2 5 rfl) (zb_X4_isSoByWorld_2 6 rfl) rfl
theorem dX4_isSoByWorld_86 : decode cX4_isSoByWorld 86 = .ok (.iload 4, 2) := dop_21 (zb_X4_isSoByWorld_2 7 rfl) (zb_X4_isSoByWorld_2 8 rfl)
theorem dX4_isSoByWorld_88 : decode cX4_isSoByWorld 88 = .ok (.iload 6, 2) := dop_21 (zb_X4_isSoByWorld_2 9 rfl) (zb_X4_isSoByWorld_2 10 rfl)
theorem dX4_isSoByWorld_90 : decode cX4_isSoByWorld 90 = .ok (.if_icmp .ge 7, 3) := dop_162 (zb_X4_isSoByWorld_2 11 rfl) (zb_X4_isSoByWorld_2 12 rfl) (zb_X4_isSoByWorld_2 13 rfl) rfl
theorem dX4_isSoByWorld_93 : decode cX4_isSoByWorld 93 = .ok (.iconst 1, 1) := dop_4 (zb_X4_isSoByWorld_2 14 rfl)
theorem dX4_isSoByWorld_94 : decode cX4_isSoByWorld 94 = .ok (.goto 4, 3) := dop_167 (zb_X4_isSoByWorld_2 15 rfl) (zb_X4_isSoByWorld_2 16 rfl) (zb_X4_isSoByWorld_2 17 rfl) rfl
theorem dX4_isSoByWorld_97 : decode cX4_isSoByWorld 97 = .ok (.iconst 0, 1) := dop_3 (zb_X4_isSoByWorld_2 18 rfl)
theorem dX4_isSoByWorld_98 : decode cX4_isSoByWorld 98 = .ok (.ireturn, 1) := dop_172 (zb_X4_isSoByWorld_2 19 rfl)
def zw_X4_hasShortersByWorld_1 : List Nat := [153, 0, 10, 28, 29, 161, 0, 5, 3, 172, 132, 1, 1, 167, 255, 205, 4, 172]
def zt_X4_hasShortersByWorld_1 : List Nat := zw_X4_hasShortersByWorld_1 ++ []
def zw_X4_hasShortersByWorld_0 : List Nat := [3, 60, 27, 16, 16, 162, 0, 51, 42, 180, 0, 30, 16, 12, 27, 7, 108, 96, 46, 61, 42, 180, 0, 30, 16, 12, 27, 7, 112, 96, 46, 62, 42, 180, 0, 52, 27, 184, 0, 59]
def zt_X4_hasShortersByWorld_0 : List Nat := zw_X4_hasShortersByWorld_0 ++ zt_X4_hasShortersByWorld_1
theorem ze_X4_hasShortersByWorld_0 : (dcn cX4_hasShortersByWorld).drop 0 = zt_X4_hasShortersByWorld_0 := by decide +kernel
theorem ze_X4_hasShortersByWorld_1 : (dcn cX4_hasShortersByWorld).drop 40 = zt_X4_hasShortersByWorld_1 := dw_n (wl := zw_X4_hasShortersByWorld_0) ze_X4_hasShortersByWorld_0 rfl
theorem zb_X4_hasShortersByWorld_0 (j : Nat) {n : Nat} (e : zw_X4_hasShortersByWorld_0[j]? = some n) : dby cX4_hasShortersByWorld (0 + j) n := dw_b (t := zt_X4_hasShortersByWorld_1) ze_X4_hasShortersByWorld_0 j e
theorem dX4_hasShortersByWorld_0 : decode cX4_hasShortersByWorld 0 = .ok (.iconst 0, 1) := dop_3 (zb_X4_hasShortersByWorld_0 0 rfl)
theorem dX4_hasShortersByWorld_1 : decode cX4_hasShortersByWorld 1 = .ok (.istore_n 1, 1) := dop_60 (zb_X4_hasShortersByWorld_0 1 rfl)
theorem dX4_hasShortersByWorld_2 : decode cX4_hasShortersByWorld 2 = .ok (.iload_n 1, 1) := dop_27 (zb_X4_hasShortersByWorld_0 2 rfl)
theorem dX4_hasShortersByWorld_3 : decode cX4_hasShortersByWorld 3 = .ok (.bipush 16, 2) := dop_16 (zb_X4_hasShortersByWorld_0 3 rfl) (zb_X4_hasShortersByWorld_0 4 rfl) rfl
theorem dX4_hasShortersByWorld_5 : decode cX4_hasShortersByWorld 5 = .ok (.if_icmp .ge 51, 3) := dop_162 (zb_X4_hasShortersByWorld_0 5 rfl) (zb_X4_hasShortersByWorld_0 6 rfl) (zb_X4_hasShortersByWorld_0 7 rfl) rfl
theorem dX4_hasShortersByWorld_8 : decode cX4_hasShortersByWorld 8 = .ok (.aload_n 0, 1) := dop_42 (zb_X4_hasShortersByWorld_0 8 rfl)
theorem dX4_hasShortersByWorld_9 : decode cX4_hasShortersByWorld 9 = .ok (.getfield 30, 3) := dop_180 (zb_X4_hasShortersByWorld_0 9 rfl) (zb_X4_hasShortersByWorld_0 10 rfl) (zb_X4_hasShortersByWorld_0 11 rfl) rfl
theorem dX4_hasShortersByWorld_12 : decode cX4_hasShortersByWorld 12 = .ok (.bipush 12, 2) := dop_16 (zb_X4_hasShortersByWorld_0 12 rfl) (zb_X4_hasShortersByWorld_0 13 rfl) rfl
theorem dX4_hasShortersByWorld_14 : decode cX4_hasShortersByWorld 14 = .ok (.iload_n 1, 1) := dop_27 (zb_X4_hasShortersByWorld_0 14 rfl)
theorem dX4_hasShortersByWorld_15 : decode cX4_hasShortersByWorld 15 = .ok (.iconst 4, 1) := dop_7 (zb_X4_hasShortersByWorld_0 15 rfl)
theorem dX4_hasShortersByWorld_16 : decode cX4_hasShortersByWorld 16 = .ok (.idiv, 1) := dop_108 (zb_X4_hasShortersByWorld_0 16 rfl)
theorem dX4_hasShortersByWorld_17 : decode cX4_hasShortersByWorld 17 = .ok (.iadd, 1) := dop_96 (zb_X4_hasShortersByWorld_0 17 rfl)
theorem dX4_hasShortersByWorld_18 : decode cX4_hasShortersByWorld 18 = .ok (.iaload, 1) := dop_46 (zb_X4_hasShortersByWorld_0 18 rfl)
theorem dX4_hasShortersByWorld_19 : decode cX4_hasShortersByWorld 19 = .ok (.istore_n 2, 1) := dop_61 (zb_X4_hasShortersByWorld_0 19 rfl)
theorem dX4_hasShortersByWorld_20 : decode cX4_hasShortersByWorld 20 = .ok (.aload_n 0, 1) := dop_42 (zb_X4_hasShortersByWorld_0 20 rfl)
theorem dX4_hasShortersByWorld_21 : decode cX4_hasShortersByWorld 21 = .ok (.getfield 30, 3) := dop_180 (zb_X4_hasShortersByWorld_0 21 rfl) (zb_X4_hasShortersByWorld_0 22 rfl) (zb_X4_hasShortersByWorld_0 23 rfl) rfl
theorem dX4_hasShortersByWorld_24 : decode cX4_hasShortersByWorld 24 = .ok (.bipush 12, 2) := dop_16 (zb_X4_hasShortersByWorld_0 24 rfl) (zb_X4_hasShortersByWorld_0 25 rfl) rfl
theorem dX4_hasShortersByWorld_26 : decode cX4_hasShortersByWorld 26 = .ok (.iload_n 1, 1) := dop_27 (zb_X4_hasShortersByWorld_0 26 rfl)
theorem dX4_hasShortersByWorld_27 : decode cX4_hasShortersByWorld 27 = .ok (.iconst 4, 1) := dop_7 (zb_X4_hasShortersByWorld_0 27 rfl)
theorem dX4_hasShortersByWorld_28 : decode cX4_hasShortersByWorld 28 = .ok (.irem, 1) := dop_112 (zb_X4_hasShortersByWorld_0 28 rfl)
theorem dX4_hasShortersByWorld_29 : decode cX4_hasShortersByWorld 29 = .ok (.iadd, 1) := dop_96 (zb_X4_hasShortersByWorld_0 29 rfl)
theorem dX4_hasShortersByWorld_30 : decode cX4_hasShortersByWorld 30 = .ok (.iaload, 1) := dop_46 (zb_X4_hasShortersByWorld_0 30 rfl)
theorem dX4_hasShortersByWorld_31 : decode cX4_hasShortersByWorld 31 = .ok (.istore_n 3, 1) := dop_62 (zb_X4_hasShortersByWorld_0 31 rfl)
theorem dX4_hasShortersByWorld_32 : decode cX4_hasShortersByWorld 32 = .ok (.aload_n 0, 1) := dop_42 (zb_X4_hasShortersByWorld_0 32 rfl)
theorem dX4_hasShortersByWorld_33 : decode cX4_hasShortersByWorld 33 = .ok (.getfield 52, 3) := dop_180 (zb_X4_hasShortersByWorld_0 33 rfl) (zb_X4_hasShortersByWorld_0 34 rfl) (zb_X4_hasShortersByWorld_0 35 rfl) rfl
theorem dX4_hasShortersByWorld_36 : decode cX4_hasShortersByWorld 36 = .ok (.iload_n 1, 1) := dop_27 (zb_X4_hasShortersByWorld_0 36 rfl)
theorem dX4_hasShortersByWorld_37 : decode cX4_hasShortersByWorld 37 = .ok (.invokestatic 59, 3) := dop_184 (zb_X4_hasShortersByWorld_0 37 rfl) (zb_X4_hasShortersByWorld_0 38 rfl) (zb_X4_hasShortersByWorld_0 39 rfl) rfl
theorem zb_X4_hasShortersByWorld_1 (j : Nat) {n : Nat} (e : zw_X4_hasShortersByWorld_1[j]? = some n) : dby cX4_hasShortersByWorld (40 + j) n := dw_b (t := []) ze_X4_hasShortersByWorld_1 j e
theorem dX4_hasShortersByWorld_40 : decode cX4_hasShortersByWorld 40 = .ok (.ifCond .eq 10, 3) := dop_153 (zb_X4_hasShortersByWorld_1 0 rfl) (zb_X4_hasShortersByWorld_1 1 rfl) (zb_X4_hasShortersByWorld_1 2 rfl) rfl
theorem dX4_hasShortersByWorld_43 : decode cX4_hasShortersByWorld 43 = .ok (.iload_n 2, 1) := dop_28 (zb_X4_hasShortersByWorld_1 3 rfl)
theorem dX4_hasShortersByWorld_44 : decode cX4_hasShortersByWorld 44 = .ok (.iload_n 3, 1) := dop_29 (zb_X4_hasShortersByWorld_1 4 rfl)
theorem dX4_hasShortersByWorld_45 : decode cX4_hasShortersByWorld 45 = .ok (.if_icmp .lt 5, 3) := dop_161 (zb_X4_hasShortersByWorld_1 5 rfl) (zb_X4_hasShortersByWorld_1 6 rfl) (zb_X4_hasShortersByWorld_1 7 rfl) rfl
theorem dX4_hasShortersByWorld_48 : decode cX4_hasShortersByWorld 48 = .ok (.iconst 0, 1) := dop_3 (zb_X4_hasShortersByWorld_1 8 rfl)
theorem dX4_hasShortersByWorld_49 : decode cX4_hasShortersByWorld 49 = .ok (.ireturn, 1) := dop_172 (zb_X4_hasShortersByWorld_1 9 rfl)
theorem dX4_hasShortersByWorld_50 : decode cX4_hasShortersByWorld 50 = .ok (.iinc 1 1, 3) := dop_132 (zb_X4_hasShortersByWorld_1 10 rfl) (zb_X4_hasShortersByWorld_1 11 rfl) (zb_X4_hasShortersByWorld_1 12 rfl) rfl
theorem dX4_hasShortersByWorld_53 : decode cX4_hasShortersByWorld 53 = .ok (.goto (-51), 3) := dop_167 (zb_X4_hasShortersByWorld_1 13 rfl) (zb_X4_hasShortersByWorld_1 14 rfl) (zb_X4_hasShortersByWorld_1 15 rfl) rfl
theorem dX4_hasShortersByWorld_56 : decode cX4_hasShortersByWorld 56 = .ok (.iconst 1, 1) := dop_4 (zb_X4_hasShortersByWorld_1 16 rfl)
theorem dX4_hasShortersByWorld_57 : decode cX4_hasShortersByWorld 57 = .ok (.ireturn, 1) := dop_172 (zb_X4_hasShortersByWorld_1 17 rfl)
def zw_X4_hasCutsByWorld_1 : List Nat := [132, 1, 1, 167, 255, 217, 4, 172]
def zt_X4_hasCutsByWorld_1 : List Nat := zw_X4_hasCutsByWorld_1 ++ []
def zw_X4_hasCutsByWorld_0 : List Nat := [3, 60, 27, 16, 6, 162, 0, 39, 42, 180, 0, 15, 27, 46, 2, 159, 0, 23, 42, 180, 0, 30, 27, 16, 6, 96, 46, 42, 180, 0, 30, 27, 46, 164, 0, 5, 3, 172]
def zt_X4_hasCutsByWorld_0 : List Nat := zw_X4_hasCutsByWorld_0 ++ zt_X4_hasCutsByWorld_1
theorem ze_X4_hasCutsByWorld_0 : (dcn cX4_hasCutsByWorld).drop 0 = zt_X4_hasCutsByWorld_0 := by decide +kernel
theorem ze_X4_hasCutsByWorld_1 : (dcn cX4_hasCutsByWorld).drop 38 = zt_X4_hasCutsByWorld_1 := dw_n (wl := zw_X4_hasCutsByWorld_0) ze_X4_hasCutsByWorld_0 rfl
theorem zb_X4_hasCutsByWorld_0 (j : Nat) {n : Nat} (e : zw_X4_hasCutsByWorld_0[j]? = some n) : dby cX4_hasCutsByWorld (0 + j) n := dw_b (t := zt_X4_hasCutsByWorld_1) ze_X4_hasCutsByWorld_0 j e
theorem dX4_hasCutsByWorld_0 : decode cX4_hasCutsByWorld 0 = .ok (.iconst 0, 1) := dop_3 (zb_X4_hasCutsByWorld_0 0 rfl)
theorem dX4_hasCutsByWorld_1 : decode cX4_hasCutsByWorld 1 = .ok (.istore_n 1, 1) := dop_60 (zb_X4_hasCutsByWorld_0 1 rfl)
theorem dX4_hasCutsByWorld_2 : decode cX4_hasCutsByWorld 2 = .ok (.iload_n 1, 1) := dop_27 (zb_X4_hasCutsByWorld_0 2 rfl)
theorem dX4_hasCutsByWorld_3 : decode cX4_hasCutsByWorld 3 = .ok (.bipush 6, 2) := dop_16 (zb_X4_hasCutsByWorld_0 3 rfl) (zb_X4_hasCutsByWorld_0 4 rfl) rfl
theorem dX4_hasCutsByWorld_5 : decode cX4_hasCutsByWorld 5 = .ok (.if_icmp .ge 39, 3) := dop_162 (zb_X4_hasCutsByWorld_0 5 rfl) (zb_X4_hasCutsByWorld_0 6 rfl) (zb_X4_hasCutsByWorld_0 7 rfl) rfl
theorem dX4_hasCutsByWorld_8 : decode cX4_hasCutsByWorld 8 = .ok (.aload_n 0, 1) := dop_42 (zb_X4_hasCutsByWorld_0 8 rfl)
theorem dX4_hasCutsByWorld_9 : decode cX4_hasCutsByWorld 9 = .ok (.getfield 15, 3) := dop_180 (zb_X4_hasCutsByWorld_0 9 rfl) (zb_X4_hasCutsByWorld_0 10 rfl) (zb_X4_hasCutsByWorld_0 11 rfl) rfl
theorem dX4_hasCutsByWorld_12 : decode cX4_hasCutsByWorld 12 = .ok (.iload_n 1, 1) := dop_27 (zb_X4_hasCutsByWorld_0 12 rfl)
theorem dX4_hasCutsByWorld_13 : decode cX4_hasCutsByWorld 13 = .ok (.iaload, 1) := dop_46 (zb_X4_hasCutsByWorld_0 13 rfl)
theorem dX4_hasCutsByWorld_14 : decode cX4_hasCutsByWorld 14 = .ok (.iconst (-1), 1) := dop_2 (zb_X4_hasCutsByWorld_0 14 rfl)
theorem dX4_hasCutsByWorld_15 : decode cX4_hasCutsByWorld 15 = .ok (.if_icmp .eq 23, 3) := dop_159 (zb_X4_hasCutsByWorld_0 15 rfl) (zb_X4_hasCutsByWorld_0 16 rfl) (zb_X4_hasCutsByWorld_0 17 rfl) rfl
theorem dX4_hasCutsByWorld_18 : decode cX4_hasCutsByWorld 18 = .ok (.aload_n 0, 1) := dop_42 (zb_X4_hasCutsByWorld_0 18 rfl)
theorem dX4_hasCutsByWorld_19 : decode cX4_hasCutsByWorld 19 = .ok (.getfield 30, 3) := dop_180 (zb_X4_hasCutsByWorld_0 19 rfl) (zb_X4_hasCutsByWorld_0 20 rfl) (zb_X4_hasCutsByWorld_0 21 rfl) rfl
theorem dX4_hasCutsByWorld_22 : decode cX4_hasCutsByWorld 22 = .ok (.iload_n 1, 1) := dop_27 (zb_X4_hasCutsByWorld_0 22 rfl)
theorem dX4_hasCutsByWorld_23 : decode cX4_hasCutsByWorld 23 = .ok (.bipush 6, 2) := dop_16 (zb_X4_hasCutsByWorld_0 23 rfl) (zb_X4_hasCutsByWorld_0 24 rfl) rfl
theorem dX4_hasCutsByWorld_25 : decode cX4_hasCutsByWorld 25 = .ok (.iadd, 1) := dop_96 (zb_X4_hasCutsByWorld_0 25 rfl)
theorem dX4_hasCutsByWorld_26 : decode cX4_hasCutsByWorld 26 = .ok (.iaload, 1) := dop_46 (zb_X4_hasCutsByWorld_0 26 rfl)
theorem dX4_hasCutsByWorld_27 : decode cX4_hasCutsByWorld 27 = .ok (.aload_n 0, 1) := dop_42 (zb_X4_hasCutsByWorld_0 27 rfl)
theorem dX4_hasCutsByWorld_28 : decode cX4_hasCutsByWorld 28 = .ok (.getfield 30, 3) := dop_180 (zb_X4_hasCutsByWorld_0 28 rfl) (zb_X4_hasCutsByWorld_0 29 rfl) (zb_X4_hasCutsByWorld_0 30 rfl) rfl
theorem dX4_hasCutsByWorld_31 : decode cX4_hasCutsByWorld 31 = .ok (.iload_n 1, 1) := dop_27 (zb_X4_hasCutsByWorld_0 31 rfl)
theorem dX4_hasCutsByWorld_32 : decode cX4_hasCutsByWorld 32 = .ok (.iaload, 1) := dop_46 (zb_X4_hasCutsByWorld_0 32 rfl)
theorem dX4_hasCutsByWorld_33 : decode cX4_hasCutsByWorld 33 = .ok (.if_icmp .le 5, 3) := dop_164 (zb_X4_hasCutsByWorld_0 33 rfl) (zb_X4_hasCutsByWorld_0 34 rfl) (zb_X4_hasCutsByWorld_0 35 rfl) rfl
theorem dX4_hasCutsByWorld_36 : decode cX4_hasCutsByWorld 36 = .ok (.iconst 0, 1) := dop_3 (zb_X4_hasCutsByWorld_0 36 rfl)
theorem dX4_hasCutsByWorld_37 : decode cX4_hasCutsByWorld 37 = .ok (.ireturn, 1) := dop_172 (zb_X4_hasCutsByWorld_0 37 rfl)
theorem zb_X4_hasCutsByWorld_1 (j : Nat) {n : Nat} (e : zw_X4_hasCutsByWorld_1[j]? = some n) : dby cX4_hasCutsByWorld (38 + j) n := dw_b (t := []) ze_X4_hasCutsByWorld_1 j e
theorem dX4_hasCutsByWorld_38 : decode cX4_hasCutsByWorld 38 = .ok (.iinc 1 1, 3) := dop_132 (zb_X4_hasCutsByWorld_1 0 rfl) (zb_X4_hasCutsByWorld_1 1 rfl) (zb_X4_hasCutsByWorld_1 2 rfl) rfl
theorem dX4_hasCutsByWorld_41 : decode cX4_hasCutsByWorld 41 = .ok (.goto (-39), 3) := dop_167 (zb_X4_hasCutsByWorld_1 3 rfl) (zb_X4_hasCutsByWorld_1 4 rfl) (zb_X4_hasCutsByWorld_1 5 rfl) rfl
theorem dX4_hasCutsByWorld_44 : decode cX4_hasCutsByWorld 44 = .ok (.iconst 1, 1) := dop_4 (zb_X4_hasCutsByWorld_1 6 rfl)
theorem dX4_hasCutsByWorld_45 : decode cX4_hasCutsByWorld 45 = .ok (.ireturn, 1) := dop_172 (zb_X4_hasCutsByWorld_1 7 rfl)
def zw_X5_init_0 : List Nat := [42, 183, 0, 3, 42, 16, 32, 188, 10, 181, 0, 9, 177]
def zt_X5_init_0 : List Nat := zw_X5_init_0 ++ []
theorem ze_X5_init_0 : (dcn cX5_init).drop 0 = zt_X5_init_0 := by decide +kernel
theorem zb_X5_init_0 (j : Nat) {n : Nat} (e : zw_X5_init_0[j]? = some n) : dby cX5_init (0 + j) n := dw_b (t := []) ze_X5_init_0 j e
theorem dX5_init_0 : decode cX5_init 0 = .ok (.aload_n 0, 1) := dop_42 (zb_X5_init_0 0 rfl)
theorem dX5_init_1 : decode cX5_init 1 = .ok (.invokespecial 3, 3) := dop_183 (zb_X5_init_0 1 rfl) (zb_X5_init_0 2 rfl) (zb_X5_init_0 3 rfl) rfl
theorem dX5_init_4 : decode cX5_init 4 = .ok (.aload_n 0, 1) := dop_42 (zb_X5_init_0 4 rfl)
theorem dX5_init_5 : decode cX5_init 5 = .ok (.bipush 32, 2) := dop_16 (zb_X5_init_0 5 rfl) (zb_X5_init_0 6 rfl) rfl
theorem dX5_init_7 : decode cX5_init 7 = .ok (.newarray .int, 2) := dop_188_10 (zb_X5_init_0 7 rfl) (zb_X5_init_0 8 rfl)
theorem dX5_init_9 : decode cX5_init 9 = .ok (.putfield 9, 3) := dop_181 (zb_X5_init_0 9 rfl) (zb_X5_init_0 10 rfl) (zb_X5_init_0 11 rfl) rfl
theorem dX5_init_12 : decode cX5_init 12 = .ok (.return_, 1) := dop_177 (zb_X5_init_0 12 rfl)
def zw_X5_draw_1 : List Nat := [181, 0, 16, 177]
def zt_X5_draw_1 : List Nat := zw_X5_draw_1 ++ []
def zw_X5_draw_0 : List Nat := [27, 61, 3, 62, 29, 16, 32, 162, 0, 31, 28, 17, 4, 79, 104, 17, 48, 57, 96, 18, 15, 112, 61, 42, 180, 0, 9, 29, 28, 7, 112, 79, 132, 3, 1, 167, 255, 225, 42, 4]
def zt_X5_draw_0 : List Nat := zw_X5_draw_0 ++ zt_X5_draw_1
theorem ze_X5_draw_0 : (dcn cX5_draw).drop 0 = zt_X5_draw_0 := by decide +kernel
theorem ze_X5_draw_1 : (dcn cX5_draw).drop 40 = zt_X5_draw_1 := dw_n (wl := zw_X5_draw_0) ze_X5_draw_0 rfl
theorem zb_X5_draw_0 (j : Nat) {n : Nat} (e : zw_X5_draw_0[j]? = some n) : dby cX5_draw (0 + j) n := dw_b (t := zt_X5_draw_1) ze_X5_draw_0 j e
theorem dX5_draw_0 : decode cX5_draw 0 = .ok (.iload_n 1, 1) := dop_27 (zb_X5_draw_0 0 rfl)
theorem dX5_draw_1 : decode cX5_draw 1 = .ok (.istore_n 2, 1) := dop_61 (zb_X5_draw_0 1 rfl)
theorem dX5_draw_2 : decode cX5_draw 2 = .ok (.iconst 0, 1) := dop_3 (zb_X5_draw_0 2 rfl)
theorem dX5_draw_3 : decode cX5_draw 3 = .ok (.istore_n 3, 1) := dop_62 (zb_X5_draw_0 3 rfl)
theorem dX5_draw_4 : decode cX5_draw 4 = .ok (.iload_n 3, 1) := dop_29 (zb_X5_draw_0 4 rfl)
theorem dX5_draw_5 : decode cX5_draw 5 = .ok (.bipush 32, 2) := dop_16 (zb_X5_draw_0 5 rfl) (zb_X5_draw_0 6 rfl) rfl
theorem dX5_draw_7 : decode cX5_draw 7 = .ok (.if_icmp .ge 31, 3) := dop_162 (zb_X5_draw_0 7 rfl) (zb_X5_draw_0 8 rfl) (zb_X5_draw_0 9 rfl) rfl
theorem dX5_draw_10 : decode cX5_draw 10 = .ok (.iload_n 2, 1) := dop_28 (zb_X5_draw_0 10 rfl)
theorem dX5_draw_11 : decode cX5_draw 11 = .ok (.sipush 1103, 3) := dop_17 (zb_X5_draw_0 11 rfl) (zb_X5_draw_0 12 rfl) (zb_X5_draw_0 13 rfl) rfl
theorem dX5_draw_14 : decode cX5_draw 14 = .ok (.imul, 1) := dop_104 (zb_X5_draw_0 14 rfl)
theorem dX5_draw_15 : decode cX5_draw 15 = .ok (.sipush 12345, 3) := dop_17 (zb_X5_draw_0 15 rfl) (zb_X5_draw_0 16 rfl) (zb_X5_draw_0 17 rfl) rfl
theorem dX5_draw_18 : decode cX5_draw 18 = .ok (.iadd, 1) := dop_96 (zb_X5_draw_0 18 rfl)
theorem dX5_draw_19 : decode cX5_draw 19 = .ok (.ldc 15, 2) := dop_18 (zb_X5_draw_0 19 rfl) (zb_X5_draw_0 20 rfl)
theorem dX5_draw_21 : decode cX5_draw 21 = .ok (.irem, 1) := dop_112 (zb_X5_draw_0 21 rfl)
theorem dX5_draw_22 : decode cX5_draw 22 = .ok (.istore_n 2, 1) := dop_61 (zb_X5_draw_0 22 rfl)
theorem dX5_draw_23 : decode cX5_draw 23 = .ok (.aload_n 0, 1) := dop_42 (zb_X5_draw_0 23 rfl)
theorem dX5_draw_24 : decode cX5_draw 24 = .ok (.getfield 9, 3) := dop_180 (zb_X5_draw_0 24 rfl) (zb_X5_draw_0 25 rfl) (zb_X5_draw_0 26 rfl) rfl
theorem dX5_draw_27 : decode cX5_draw 27 = .ok (.iload_n 3, 1) := dop_29 (zb_X5_draw_0 27 rfl)
theorem dX5_draw_28 : decode cX5_draw 28 = .ok (.iload_n 2, 1) := dop_28 (zb_X5_draw_0 28 rfl)
theorem dX5_draw_29 : decode cX5_draw 29 = .ok (.iconst 4, 1) := dop_7 (zb_X5_draw_0 29 rfl)
theorem dX5_draw_30 : decode cX5_draw 30 = .ok (.irem, 1) := dop_112 (zb_X5_draw_0 30 rfl)
theorem dX5_draw_31 : decode cX5_draw 31 = .ok (.iastore, 1) := dop_79 (zb_X5_draw_0 31 rfl)
theorem dX5_draw_32 : decode cX5_draw 32 = .ok (.iinc 3 1, 3) := dop_132 (zb_X5_draw_0 32 rfl) (zb_X5_draw_0 33 rfl) (zb_X5_draw_0 34 rfl) rfl
theorem dX5_draw_35 : decode cX5_draw 35 = .ok (.goto (-31), 3) := dop_167 (zb_X5_draw_0 35 rfl) (zb_X5_draw_0 36 rfl) (zb_X5_draw_0 37 rfl) rfl
theorem dX5_draw_38 : decode cX5_draw 38 = .ok (.aload_n 0, 1) := dop_42 (zb_X5_draw_0 38 rfl)
theorem dX5_draw_39 : decode cX5_draw 39 = .ok (.iconst 1, 1) := dop_4 (zb_X5_draw_0 39 rfl)
theorem zb_X5_draw_1 (j : Nat) {n : Nat} (e : zw_X5_draw_1[j]? = some n) : dby cX5_draw (40 + j) n := dw_b (t := []) ze_X5_draw_1 j e
theorem dX5_draw_40 : decode cX5_draw 40 = .ok (.putfield 16, 3) := dop_181 (zb_X5_draw_1 0 rfl) (zb_X5_draw_1 1 rfl) (zb_X5_draw_1 2 rfl) rfl
theorem dX5_draw_43 : decode cX5_draw 43 = .ok (.return_, 1) := dop_177 (zb_X5_draw_1 3 rfl)
def zw_X5_bestTrade_2 : List Nat := [181, 0, 20, 42, 21, 6, 181, 0, 24, 132, 6, 1, 167, 255, 208, 132, 4, 1, 167, 255, 175, 29, 172]
def zt_X5_bestTrade_2 : List Nat := zw_X5_bestTrade_2 ++ []
def zw_X5_bestTrade_1 : List Nat := [54, 6, 21, 6, 16, 32, 162, 0, 47, 43, 28, 42, 180, 0, 9, 21, 6, 46, 182, 0, 27, 21, 5, 100, 54, 7, 21, 7, 29, 164, 0, 18, 21, 7, 62, 42, 21, 4]
def zt_X5_bestTrade_1 : List Nat := zw_X5_bestTrade_1 ++ zt_X5_bestTrade_2
def zw_X5_bestTrade_0 : List Nat := [3, 62, 42, 2, 181, 0, 20, 42, 2, 181, 0, 24, 3, 54, 4, 21, 4, 16, 32, 162, 0, 80, 43, 28, 42, 180, 0, 9, 21, 4, 46, 182, 0, 27, 54, 5, 21, 4, 4, 96]
def zt_X5_bestTrade_0 : List Nat := zw_X5_bestTrade_0 ++ zt_X5_bestTrade_1
theorem ze_X5_bestTrade_0 : (dcn cX5_bestTrade).drop 0 = zt_X5_bestTrade_0 := by decide +kernel
theorem ze_X5_bestTrade_1 : (dcn cX5_bestTrade).drop 40 = zt_X5_bestTrade_1 := dw_n (wl := zw_X5_bestTrade_0) ze_X5_bestTrade_0 rfl
theorem zb_X5_bestTrade_0 (j : Nat) {n : Nat} (e : zw_X5_bestTrade_0[j]? = some n) : dby cX5_bestTrade (0 + j) n := dw_b (t := zt_X5_bestTrade_1) ze_X5_bestTrade_0 j e
theorem dX5_bestTrade_0 : decode cX5_bestTrade 0 = .ok (.iconst 0, 1) := dop_3 (zb_X5_bestTrade_0 0 rfl)
theorem dX5_bestTrade_1 : decode cX5_bestTrade 1 = .ok (.istore_n 3, 1) := dop_62 (zb_X5_bestTrade_0 1 rfl)
theorem dX5_bestTrade_2 : decode cX5_bestTrade 2 = .ok (.aload_n 0, 1) := dop_42 (zb_X5_bestTrade_0 2 rfl)
theorem dX5_bestTrade_3 : decode cX5_bestTrade 3 = .ok (.iconst (-1), 1) := dop_2 (zb_X5_bestTrade_0 3 rfl)
theorem dX5_bestTrade_4 : decode cX5_bestTrade 4 = .ok (.putfield 20, 3) := dop_181 (zb_X5_bestTrade_0 4 rfl) (zb_X5_bestTrade_0 5 rfl) (zb_X5_bestTrade_0 6 rfl) rfl
theorem dX5_bestTrade_7 : decode cX5_bestTrade 7 = .ok (.aload_n 0, 1) := dop_42 (zb_X5_bestTrade_0 7 rfl)
theorem dX5_bestTrade_8 : decode cX5_bestTrade 8 = .ok (.iconst (-1), 1) := dop_2 (zb_X5_bestTrade_0 8 rfl)
theorem dX5_bestTrade_9 : decode cX5_bestTrade 9 = .ok (.putfield 24, 3) := dop_181 (zb_X5_bestTrade_0 9 rfl) (zb_X5_bestTrade_0 10 rfl) (zb_X5_bestTrade_0 11 rfl) rfl
theorem dX5_bestTrade_12 : decode cX5_bestTrade 12 = .ok (.iconst 0, 1) := dop_3 (zb_X5_bestTrade_0 12 rfl)
theorem dX5_bestTrade_13 : decode cX5_bestTrade 13 = .ok (.istore 4, 2) := dop_54 (zb_X5_bestTrade_0 13 rfl) (zb_X5_bestTrade_0 14 rfl)
theorem dX5_bestTrade_15 : decode cX5_bestTrade 15 = .ok (.iload 4, 2) := dop_21 (zb_X5_bestTrade_0 15 rfl) (zb_X5_bestTrade_0 16 rfl)
theorem dX5_bestTrade_17 : decode cX5_bestTrade 17 = .ok (.bipush 32, 2) := dop_16 (zb_X5_bestTrade_0 17 rfl) (zb_X5_bestTrade_0 18 rfl) rfl
theorem dX5_bestTrade_19 : decode cX5_bestTrade 19 = .ok (.if_icmp .ge 80, 3) := dop_162 (zb_X5_bestTrade_0 19 rfl) (zb_X5_bestTrade_0 20 rfl) (zb_X5_bestTrade_0 21 rfl) rfl
theorem dX5_bestTrade_22 : decode cX5_bestTrade 22 = .ok (.aload_n 1, 1) := dop_43 (zb_X5_bestTrade_0 22 rfl)
theorem dX5_bestTrade_23 : decode cX5_bestTrade 23 = .ok (.iload_n 2, 1) := dop_28 (zb_X5_bestTrade_0 23 rfl)
theorem dX5_bestTrade_24 : decode cX5_bestTrade 24 = .ok (.aload_n 0, 1) := dop_42 (zb_X5_bestTrade_0 24 rfl)
theorem dX5_bestTrade_25 : decode cX5_bestTrade 25 = .ok (.getfield 9, 3) := dop_180 (zb_X5_bestTrade_0 25 rfl) (zb_X5_bestTrade_0 26 rfl) (zb_X5_bestTrade_0 27 rfl) rfl
theorem dX5_bestTrade_28 : decode cX5_bestTrade 28 = .ok (.iload 4, 2) := dop_21 (zb_X5_bestTrade_0 28 rfl) (zb_X5_bestTrade_0 29 rfl)
theorem dX5_bestTrade_30 : decode cX5_bestTrade 30 = .ok (.iaload, 1) := dop_46 (zb_X5_bestTrade_0 30 rfl)
theorem dX5_bestTrade_31 : decode cX5_bestTrade 31 = .ok (.invokevirtual 27, 3) := dop_182 (zb_X5_bestTrade_0 31 rfl) (zb_X5_bestTrade_0 32 rfl) (zb_X5_bestTrade_0 33 rfl) rfl
theorem dX5_bestTrade_34 : decode cX5_bestTrade 34 = .ok (.istore 5, 2) := dop_54 (zb_X5_bestTrade_0 34 rfl) (zb_X5_bestTrade_0 35 rfl)
theorem dX5_bestTrade_36 : decode cX5_bestTrade 36 = .ok (.iload 4, 2) := dop_21 (zb_X5_bestTrade_0 36 rfl) (zb_X5_bestTrade_0 37 rfl)
theorem dX5_bestTrade_38 : decode cX5_bestTrade 38 = .ok (.iconst 1, 1) := dop_4 (zb_X5_bestTrade_0 38 rfl)
theorem dX5_bestTrade_39 : decode cX5_bestTrade 39 = .ok (.iadd, 1) := dop_96 (zb_X5_bestTrade_0 39 rfl)
theorem ze_X5_bestTrade_2 : (dcn cX5_bestTrade).drop 78 = zt_X5_bestTrade_2 := dw_n (wl := zw_X5_bestTrade_1) ze_X5_bestTrade_1 rfl
theorem zb_X5_bestTrade_1 (j : Nat) {n : Nat} (e : zw_X5_bestTrade_1[j]? = some n) : dby cX5_bestTrade (40 + j) n := dw_b (t := zt_X5_bestTrade_2) ze_X5_bestTrade_1 j e
theorem dX5_bestTrade_40 : decode cX5_bestTrade 40 = .ok (.istore 6, 2) := dop_54 (zb_X5_bestTrade_1 0 rfl) (zb_X5_bestTrade_1 1 rfl)
theorem dX5_bestTrade_42 : decode cX5_bestTrade 42 = .ok (.iload 6, 2) := dop_21 (zb_X5_bestTrade_1 2 rfl) (zb_X5_bestTrade_1 3 rfl)
theorem dX5_bestTrade_44 : decode cX5_bestTrade 44 = .ok (.bipush 32, 2) := dop_16 (zb_X5_bestTrade_1 4 rfl) (zb_X5_bestTrade_1 5 rfl) rfl
theorem dX5_bestTrade_46 : decode cX5_bestTrade 46 = .ok (.if_icmp .ge 47, 3) := dop_162 (zb_X5_bestTrade_1 6 rfl) (zb_X5_bestTrade_1 7 rfl) (zb_X5_bestTrade_1 8 rfl) rfl
theorem dX5_bestTrade_49 : decode cX5_bestTrade 49 = .ok (.aload_n 1, 1) := dop_43 (zb_X5_bestTrade_1 9 rfl)
theorem dX5_bestTrade_50 : decode cX5_bestTrade 50 = .ok (.iload_n 2, 1) := dop_28 (zb_X5_bestTrade_1 10 rfl)
theorem dX5_bestTrade_51 : decode cX5_bestTrade 51 = .ok (.aload_n 0, 1) := dop_42 (zb_X5_bestTrade_1 11 rfl)
theorem dX5_bestTrade_52 : decode cX5_bestTrade 52 = .ok (.getfield 9, 3) := dop_180 (zb_X5_bestTrade_1 12 rfl) (zb_X5_bestTrade_1 13 rfl) (zb_X5_bestTrade_1 14 rfl) rfl
theorem dX5_bestTrade_55 : decode cX5_bestTrade 55 = .ok (.iload 6, 2) := dop_21 (zb_X5_bestTrade_1 15 rfl) (zb_X5_bestTrade_1 16 rfl)
theorem dX5_bestTrade_57 : decode cX5_bestTrade 57 = .ok (.iaload, 1) := dop_46 (zb_X5_bestTrade_1 17 rfl)
theorem dX5_bestTrade_58 : decode cX5_bestTrade 58 = .ok (.invokevirtual 27, 3) := dop_182 (zb_X5_bestTrade_1 18 rfl) (zb_X5_bestTrade_1 19 rfl) (zb_X5_bestTrade_1 20 rfl) rfl
theorem dX5_bestTrade_61 : decode cX5_bestTrade 61 = .ok (.iload 5, 2) := dop_21 (zb_X5_bestTrade_1 21 rfl) (zb_X5_bestTrade_1 22 rfl)
theorem dX5_bestTrade_63 : decode cX5_bestTrade 63 = .ok (.isub, 1) := dop_100 (zb_X5_bestTrade_1 23 rfl)
theorem dX5_bestTrade_64 : decode cX5_bestTrade 64 = .ok (.istore 7, 2) := dop_54 (zb_X5_bestTrade_1 24 rfl) (zb_X5_bestTrade_1 25 rfl)
theorem dX5_bestTrade_66 : decode cX5_bestTrade 66 = .ok (.iload 7, 2) := dop_21 (zb_X5_bestTrade_1 26 rfl) (zb_X5_bestTrade_1 27 rfl)
theorem dX5_bestTrade_68 : decode cX5_bestTrade 68 = .ok (.iload_n 3, 1) := dop_29 (zb_X5_bestTrade_1 28 rfl)
theorem dX5_bestTrade_69 : decode cX5_bestTrade 69 = .ok (.if_icmp .le 18, 3) := dop_164 (zb_X5_bestTrade_1 29 rfl) (zb_X5_bestTrade_1 30 rfl) (zb_X5_bestTrade_1 31 rfl) rfl
theorem dX5_bestTrade_72 : decode cX5_bestTrade 72 = .ok (.iload 7, 2) := dop_21 (zb_X5_bestTrade_1 32 rfl) (zb_X5_bestTrade_1 33 rfl)
theorem dX5_bestTrade_74 : decode cX5_bestTrade 74 = .ok (.istore_n 3, 1) := dop_62 (zb_X5_bestTrade_1 34 rfl)
theorem dX5_bestTrade_75 : decode cX5_bestTrade 75 = .ok (.aload_n 0, 1) := dop_42 (zb_X5_bestTrade_1 35 rfl)
theorem dX5_bestTrade_76 : decode cX5_bestTrade 76 = .ok (.iload 4, 2) := dop_21 (zb_X5_bestTrade_1 36 rfl) (zb_X5_bestTrade_1 37 rfl)
theorem zb_X5_bestTrade_2 (j : Nat) {n : Nat} (e : zw_X5_bestTrade_2[j]? = some n) : dby cX5_bestTrade (78 + j) n := dw_b (t := []) ze_X5_bestTrade_2 j e
theorem dX5_bestTrade_78 : decode cX5_bestTrade 78 = .ok (.putfield 20, 3) := dop_181 (zb_X5_bestTrade_2 0 rfl) (zb_X5_bestTrade_2 1 rfl) (zb_X5_bestTrade_2 2 rfl) rfl
theorem dX5_bestTrade_81 : decode cX5_bestTrade 81 = .ok (.aload_n 0, 1) := dop_42 (zb_X5_bestTrade_2 3 rfl)
theorem dX5_bestTrade_82 : decode cX5_bestTrade 82 = .ok (.iload 6, 2) := dop_21 (zb_X5_bestTrade_2 4 rfl) (zb_X5_bestTrade_2 5 rfl)
theorem dX5_bestTrade_84 : decode cX5_bestTrade 84 = .ok (.putfield 24, 3) := dop_181 (zb_X5_bestTrade_2 6 rfl) (zb_X5_bestTrade_2 7 rfl) (zb_X5_bestTrade_2 8 rfl) rfl
theorem dX5_bestTrade_87 : decode cX5_bestTrade 87 = .ok (.iinc 6 1, 3) := dop_132 (zb_X5_bestTrade_2 9 rfl) (zb_X5_bestTrade_2 10 rfl) (zb_X5_bestTrade_2 11 rfl) rfl
theorem dX5_bestTrade_90 : decode cX5_bestTrade 90 = .ok (.goto (-48), 3) := dop_167 (zb_X5_bestTrade_2 12 rfl) (zb_X5_bestTrade_2 13 rfl) (zb_X5_bestTrade_2 14 rfl) rfl
theorem dX5_bestTrade_93 : decode cX5_bestTrade 93 = .ok (.iinc 4 1, 3) := dop_132 (zb_X5_bestTrade_2 15 rfl) (zb_X5_bestTrade_2 16 rfl) (zb_X5_bestTrade_2 17 rfl) rfl
theorem dX5_bestTrade_96 : decode cX5_bestTrade 96 = .ok (.goto (-81), 3) := dop_167 (zb_X5_bestTrade_2 18 rfl) (zb_X5_bestTrade_2 19 rfl) (zb_X5_bestTrade_2 20 rfl) rfl
theorem dX5_bestTrade_99 : decode cX5_bestTrade 99 = .ok (.iload_n 3, 1) := dop_29 (zb_X5_bestTrade_2 21 rfl)
theorem dX5_bestTrade_100 : decode cX5_bestTrade 100 = .ok (.ireturn, 1) := dop_172 (zb_X5_bestTrade_2 22 rfl)
def zw_X6_init_0 : List Nat := [42, 183, 0, 3, 42, 6, 188, 10, 181, 0, 9, 42, 16, 12, 188, 10, 181, 0, 15, 42, 43, 181, 0, 18, 177]
def zt_X6_init_0 : List Nat := zw_X6_init_0 ++ []
theorem ze_X6_init_0 : (dcn cX6_init).drop 0 = zt_X6_init_0 := by decide +kernel
theorem zb_X6_init_0 (j : Nat) {n : Nat} (e : zw_X6_init_0[j]? = some n) : dby cX6_init (0 + j) n := dw_b (t := []) ze_X6_init_0 j e
theorem dX6_init_0 : decode cX6_init 0 = .ok (.aload_n 0, 1) := dop_42 (zb_X6_init_0 0 rfl)
theorem dX6_init_1 : decode cX6_init 1 = .ok (.invokespecial 3, 3) := dop_183 (zb_X6_init_0 1 rfl) (zb_X6_init_0 2 rfl) (zb_X6_init_0 3 rfl) rfl
theorem dX6_init_4 : decode cX6_init 4 = .ok (.aload_n 0, 1) := dop_42 (zb_X6_init_0 4 rfl)
theorem dX6_init_5 : decode cX6_init 5 = .ok (.iconst 3, 1) := dop_6 (zb_X6_init_0 5 rfl)
theorem dX6_init_6 : decode cX6_init 6 = .ok (.newarray .int, 2) := dop_188_10 (zb_X6_init_0 6 rfl) (zb_X6_init_0 7 rfl)
theorem dX6_init_8 : decode cX6_init 8 = .ok (.putfield 9, 3) := dop_181 (zb_X6_init_0 8 rfl) (zb_X6_init_0 9 rfl) (zb_X6_init_0 10 rfl) rfl
theorem dX6_init_11 : decode cX6_init 11 = .ok (.aload_n 0, 1) := dop_42 (zb_X6_init_0 11 rfl)
theorem dX6_init_12 : decode cX6_init 12 = .ok (.bipush 12, 2) := dop_16 (zb_X6_init_0 12 rfl) (zb_X6_init_0 13 rfl) rfl
theorem dX6_init_14 : decode cX6_init 14 = .ok (.newarray .int, 2) := dop_188_10 (zb_X6_init_0 14 rfl) (zb_X6_init_0 15 rfl)
theorem dX6_init_16 : decode cX6_init 16 = .ok (.putfield 15, 3) := dop_181 (zb_X6_init_0 16 rfl) (zb_X6_init_0 17 rfl) (zb_X6_init_0 18 rfl) rfl
theorem dX6_init_19 : decode cX6_init 19 = .ok (.aload_n 0, 1) := dop_42 (zb_X6_init_0 19 rfl)
theorem dX6_init_20 : decode cX6_init 20 = .ok (.aload_n 1, 1) := dop_43 (zb_X6_init_0 20 rfl)
theorem dX6_init_21 : decode cX6_init 21 = .ok (.putfield 18, 3) := dop_181 (zb_X6_init_0 21 rfl) (zb_X6_init_0 22 rfl) (zb_X6_init_0 23 rfl) rfl
theorem dX6_init_24 : decode cX6_init 24 = .ok (.return_, 1) := dop_177 (zb_X6_init_0 24 rfl)
def zw_X6_seek_2 : List Nat := [43, 180, 0, 48, 182, 0, 51, 153, 0, 8, 42, 29, 182, 0, 57, 132, 3, 1, 167, 255, 192, 4, 172]
def zt_X6_seek_2 : List Nat := zw_X6_seek_2 ++ []
def zw_X6_seek_1 : List Nat := [54, 4, 21, 4, 42, 180, 0, 36, 162, 0, 27, 43, 180, 0, 39, 42, 180, 0, 9, 21, 4, 46, 29, 21, 4, 184, 0, 44, 79, 132, 4, 1, 167, 255, 226, 42, 180, 0, 18, 43]
def zt_X6_seek_1 : List Nat := zw_X6_seek_1 ++ zt_X6_seek_2
def zw_X6_seek_0 : List Nat := [42, 3, 181, 0, 22, 42, 180, 0, 15, 3, 184, 0, 26, 42, 43, 182, 0, 32, 154, 0, 5, 3, 172, 4, 5, 42, 180, 0, 36, 104, 120, 61, 3, 62, 29, 28, 162, 0, 65, 3]
def zt_X6_seek_0 : List Nat := zw_X6_seek_0 ++ zt_X6_seek_1
theorem ze_X6_seek_0 : (dcn cX6_seek).drop 0 = zt_X6_seek_0 := by decide +kernel
theorem ze_X6_seek_1 : (dcn cX6_seek).drop 40 = zt_X6_seek_1 := dw_n (wl := zw_X6_seek_0) ze_X6_seek_0 rfl
theorem zb_X6_seek_0 (j : Nat) {n : Nat} (e : zw_X6_seek_0[j]? = some n) : dby cX6_seek (0 + j) n := dw_b (t := zt_X6_seek_1) ze_X6_seek_0 j e
theorem dX6_seek_0 : decode cX6_seek 0 = .ok (.aload_n 0, 1) := dop_42 (zb_X6_seek_0 0 rfl)
theorem dX6_seek_1 : decode cX6_seek 1 = .ok (.iconst 0, 1) := dop_3 (zb_X6_seek_0 1 rfl)
theorem dX6_seek_2 : decode cX6_seek 2 = .ok (.putfield 22, 3) := dop_181 (zb_X6_seek_0 2 rfl) (zb_X6_seek_0 3 rfl) (zb_X6_seek_0 4 rfl) rfl
theorem dX6_seek_5 : decode cX6_seek 5 = .ok (.aload_n 0, 1) := dop_42 (zb_X6_seek_0 5 rfl)
theorem dX6_seek_6 : decode cX6_seek 6 = .ok (.getfield 15, 3) := dop_180 (zb_X6_seek_0 6 rfl) (zb_X6_seek_0 7 rfl) (zb_X6_seek_0 8 rfl) rfl
theorem dX6_seek_9 : decode cX6_seek 9 = .ok (.iconst 0, 1) := dop_3 (zb_X6_seek_0 9 rfl)
theorem dX6_seek_10 : decode cX6_seek 10 = .ok (.invokestatic 26, 3) := dop_184 (zb_X6_seek_0 10 rfl) (zb_X6_seek_0 11 rfl) (zb_X6_seek_0 12 rfl) rfl
theorem dX6_seek_13 : decode cX6_seek 13 = .ok (.aload_n 0, 1) := dop_42 (zb_X6_seek_0 13 rfl)
theorem dX6_seek_14 : decode cX6_seek 14 = .ok (.aload_n 1, 1) := dop_43 (zb_X6_seek_0 14 rfl)
theorem dX6_seek_15 : decode cX6_seek 15 = .ok (.invokevirtual 32, 3) := dop_182 (zb_X6_seek_0 15 rfl) (zb_X6_seek_0 16 rfl) (zb_X6_seek_0 17 rfl) rfl
theorem dX6_seek_18 : decode cX6_seek 18 = .ok (.ifCond .ne 5, 3) := dop_154 (zb_X6_seek_0 18 rfl) (zb_X6_seek_0 19 rfl) (zb_X6_seek_0 20 rfl) rfl
theorem dX6_seek_21 : decode cX6_seek 21 = .ok (.iconst 0, 1) := dop_3 (zb_X6_seek_0 21 rfl)
theorem dX6_seek_22 : decode cX6_seek 22 = .ok (.ireturn, 1) := dop_172 (zb_X6_seek_0 22 rfl)
theorem dX6_seek_23 : decode cX6_seek 23 = .ok (.iconst 1, 1) := dop_4 (zb_X6_seek_0 23 rfl)
theorem dX6_seek_24 : decode cX6_seek 24 = .ok (.iconst 2, 1) := dop_5 (zb_X6_seek_0 24 rfl)
theorem dX6_seek_25 : decode cX6_seek 25 = .ok (.aload_n 0, 1) := dop_42 (zb_X6_seek_0 25 rfl)
theorem dX6_seek_26 : decode cX6_seek 26 = .ok (.getfield 36, 3) := dop_180 (zb_X6_seek_0 26 rfl) (zb_X6_seek_0 27 rfl) (zb_X6_seek_0 28 rfl) rfl
theorem dX6_seek_29 : decode cX6_seek 29 = .ok (.imul, 1) := dop_104 (zb_X6_seek_0 29 rfl)
theorem dX6_seek_30 : decode cX6_seek 30 = .ok (.ishl, 1) := dop_120 (zb_X6_seek_0 30 rfl)
theorem dX6_seek_31 : decode cX6_seek 31 = .ok (.istore_n 2, 1) := dop_61 (zb_X6_seek_0 31 rfl)
theorem dX6_seek_32 : decode cX6_seek 32 = .ok (.iconst 0, 1) := dop_3 (zb_X6_seek_0 32 rfl)
theorem dX6_seek_33 : decode cX6_seek 33 = .ok (.istore_n 3, 1) := dop_62 (zb_X6_seek_0 33 rfl)
theorem dX6_seek_34 : decode cX6_seek 34 = .ok (.iload_n 3, 1) := dop_29 (zb_X6_seek_0 34 rfl)
theorem dX6_seek_35 : decode cX6_seek 35 = .ok (.iload_n 2, 1) := dop_28 (zb_X6_seek_0 35 rfl)
theorem dX6_seek_36 : decode cX6_seek 36 = .ok (.if_icmp .ge 65, 3) := dop_162 (zb_X6_seek_0 36 rfl) (zb_X6_seek_0 37 rfl) (zb_X6_seek_0 38 rfl) rfl
theorem dX6_seek_39 : decode cX6_seek 39 = .ok (.iconst 0, 1) := dop_3 (zb_X6_seek_0 39 rfl)
theorem ze_X6_seek_2 : (dcn cX6_seek).drop 80 = zt_X6_seek_2 := dw_n (wl := zw_X6_seek_1) ze_X6_seek_1 rfl
theorem zb_X6_seek_1 (j : Nat) {n : Nat} (e : zw_X6_seek_1[j]? = some n) : dby cX6_seek (40 + j) n := dw_b (t := zt_X6_seek_2) ze_X6_seek_1 j e
theorem dX6_seek_40 : decode cX6_seek 40 = .ok (.istore 4, 2) := dop_54 (zb_X6_seek_1 0 rfl) (zb_X6_seek_1 1 rfl)
theorem dX6_seek_42 : decode cX6_seek 42 = .ok (.iload 4, 2) := dop_21 (zb_X6_seek_1 2 rfl) (zb_X6_seek_1 3 rfl)
theorem dX6_seek_44 : decode cX6_seek 44 = .ok (.aload_n 0, 1) := dop_42 (zb_X6_seek_1 4 rfl)
theorem dX6_seek_45 : decode cX6_seek 45 = .ok (.getfield 36, 3) := dop_180 (zb_X6_seek_1 5 rfl) (zb_X6_seek_1 6 rfl) (zb_X6_seek_1 7 rfl) rfl
theorem dX6_seek_48 : decode cX6_seek 48 = .ok (.if_icmp .ge 27, 3) := dop_162 (zb_X6_seek_1 8 rfl) (zb_X6_seek_1 9 rfl) (zb_X6_seek_1 10 rfl) rfl
theorem dX6_seek_51 : decode cX6_seek 51 = .ok (.aload_n 1, 1) := dop_43 (zb_X6_seek_1 11 rfl)
theorem dX6_seek_52 : decode cX6_seek 52 = .ok (.getfield 39, 3) := dop_180 (zb_X6_seek_1 12 rfl) (zb_X6_seek_1 13 rfl) (zb_X6_seek_1 14 rfl) rfl
theorem dX6_seek_55 : decode cX6_seek 55 = .ok (.aload_n 0, 1) := dop_42 (zb_X6_seek_1 15 rfl)
theorem dX6_seek_56 : decode cX6_seek 56 = .ok (.getfield 9, 3) := dop_180 (zb_X6_seek_1 16 rfl) (zb_X6_seek_1 17 rfl) (zb_X6_seek_1 18 rfl) rfl
theorem dX6_seek_59 : decode cX6_seek 59 = .ok (.iload 4, 2) := dop_21 (zb_X6_seek_1 19 rfl) (zb_X6_seek_1 20 rfl)
theorem dX6_seek_61 : decode cX6_seek 61 = .ok (.iaload, 1) := dop_46 (zb_X6_seek_1 21 rfl)
theorem dX6_seek_62 : decode cX6_seek 62 = .ok (.iload_n 3, 1) := dop_29 (zb_X6_seek_1 22 rfl)
theorem dX6_seek_63 : decode cX6_seek 63 = .ok (.iload 4, 2) := dop_21 (zb_X6_seek_1 23 rfl) (zb_X6_seek_1 24 rfl)
theorem dX6_seek_65 : decode cX6_seek 65 = .ok (.invokestatic 44, 3) := dop_184 (zb_X6_seek_1 25 rfl) (zb_X6_seek_1 26 rfl) (zb_X6_seek_1 27 rfl) rfl
theorem dX6_seek_68 : decode cX6_seek 68 = .ok (.iastore, 1) := dop_79 (zb_X6_seek_1 28 rfl)
theorem dX6_seek_69 : decode cX6_seek 69 = .ok (.iinc 4 1, 3) := dop_132 (zb_X6_seek_1 29 rfl) (zb_X6_seek_1 30 rfl) (zb_X6_seek_1 31 rfl) rfl
theorem dX6_seek_72 : decode cX6_seek 72 = .ok (.goto (-30), 3) := dop_167 (zb_X6_seek_1 32 rfl) (zb_X6_seek_1 33 rfl) (zb_X6_seek_1 34 rfl) rfl
theorem dX6_seek_75 : decode cX6_seek 75 = .ok (.aload_n 0, 1) := dop_42 (zb_X6_seek_1 35 rfl)
theorem dX6_seek_76 : decode cX6_seek 76 = .ok (.getfield 18, 3) := dop_180 (zb_X6_seek_1 36 rfl) (zb_X6_seek_1 37 rfl) (zb_X6_seek_1 38 rfl) rfl
theorem dX6_seek_79 : decode cX6_seek 79 = .ok (.aload_n 1, 1) := dop_43 (zb_X6_seek_1 39 rfl)
theorem zb_X6_seek_2 (j : Nat) {n : Nat} (e : zw_X6_seek_2[j]? = some n) : dby cX6_seek (80 + j) n := dw_b (t := []) ze_X6_seek_2 j e
theorem dX6_seek_80 : decode cX6_seek 80 = .ok (.aload_n 1, 1) := dop_43 (zb_X6_seek_2 0 rfl)
theorem dX6_seek_81 : decode cX6_seek 81 = .ok (.getfield 48, 3) := dop_180 (zb_X6_seek_2 1 rfl) (zb_X6_seek_2 2 rfl) (zb_X6_seek_2 3 rfl) rfl
theorem dX6_seek_84 : decode cX6_seek 84 = .ok (.invokevirtual 51, 3) := dop_182 (zb_X6_seek_2 4 rfl) (zb_X6_seek_2 5 rfl) (zb_X6_seek_2 6 rfl) rfl
theorem dX6_seek_87 : decode cX6_seek 87 = .ok (.ifCond .eq 8, 3) := dop_153 (zb_X6_seek_2 7 rfl) (zb_X6_seek_2 8 rfl) (zb_X6_seek_2 9 rfl) rfl
theorem dX6_seek_90 : decode cX6_seek 90 = .ok (.aload_n 0, 1) := dop_42 (zb_X6_seek_2 10 rfl)
theorem dX6_seek_91 : decode cX6_seek 91 = .ok (.iload_n 3, 1) := dop_29 (zb_X6_seek_2 11 rfl)
theorem dX6_seek_92 : decode cX6_seek 92 = .ok (.invokevirtual 57, 3) := dop_182 (zb_X6_seek_2 12 rfl) (zb_X6_seek_2 13 rfl) (zb_X6_seek_2 14 rfl) rfl
theorem dX6_seek_95 : decode cX6_seek 95 = .ok (.iinc 3 1, 3) := dop_132 (zb_X6_seek_2 15 rfl) (zb_X6_seek_2 16 rfl) (zb_X6_seek_2 17 rfl) rfl
theorem dX6_seek_98 : decode cX6_seek 98 = .ok (.goto (-64), 3) := dop_167 (zb_X6_seek_2 18 rfl) (zb_X6_seek_2 19 rfl) (zb_X6_seek_2 20 rfl) rfl
theorem dX6_seek_101 : decode cX6_seek 101 = .ok (.iconst 1, 1) := dop_4 (zb_X6_seek_2 21 rfl)
theorem dX6_seek_102 : decode cX6_seek 102 = .ok (.ireturn, 1) := dop_172 (zb_X6_seek_2 22 rfl)
def zw_X6_keeperBy_0 : List Nat := [26, 5, 27, 104, 122, 6, 126, 172]
def zt_X6_keeperBy_0 : List Nat := zw_X6_keeperBy_0 ++ []
theorem ze_X6_keeperBy_0 : (dcn cX6_keeperBy).drop 0 = zt_X6_keeperBy_0 := by decide +kernel
theorem zb_X6_keeperBy_0 (j : Nat) {n : Nat} (e : zw_X6_keeperBy_0[j]? = some n) : dby cX6_keeperBy (0 + j) n := dw_b (t := []) ze_X6_keeperBy_0 j e
theorem dX6_keeperBy_0 : decode cX6_keeperBy 0 = .ok (.iload_n 0, 1) := dop_26 (zb_X6_keeperBy_0 0 rfl)
theorem dX6_keeperBy_1 : decode cX6_keeperBy 1 = .ok (.iconst 2, 1) := dop_5 (zb_X6_keeperBy_0 1 rfl)
theorem dX6_keeperBy_2 : decode cX6_keeperBy 2 = .ok (.iload_n 1, 1) := dop_27 (zb_X6_keeperBy_0 2 rfl)
theorem dX6_keeperBy_3 : decode cX6_keeperBy 3 = .ok (.imul, 1) := dop_104 (zb_X6_keeperBy_0 3 rfl)
theorem dX6_keeperBy_4 : decode cX6_keeperBy 4 = .ok (.ishr, 1) := dop_122 (zb_X6_keeperBy_0 4 rfl)
theorem dX6_keeperBy_5 : decode cX6_keeperBy 5 = .ok (.iconst 3, 1) := dop_6 (zb_X6_keeperBy_0 5 rfl)
theorem dX6_keeperBy_6 : decode cX6_keeperBy 6 = .ok (.iand, 1) := dop_126 (zb_X6_keeperBy_0 6 rfl)
theorem dX6_keeperBy_7 : decode cX6_keeperBy 7 = .ok (.ireturn, 1) := dop_172 (zb_X6_keeperBy_0 7 rfl)
def zw_X6_gather_1 : List Nat := [161, 0, 5, 3, 172, 42, 180, 0, 9, 42, 180, 0, 36, 28, 79, 42, 89, 180, 0, 36, 4, 96, 181, 0, 36, 132, 2, 1, 167, 255, 196, 4, 172]
def zt_X6_gather_1 : List Nat := zw_X6_gather_1 ++ []
def zw_X6_gather_0 : List Nat := [42, 3, 181, 0, 36, 3, 61, 28, 16, 32, 162, 0, 60, 43, 180, 0, 39, 28, 46, 2, 160, 0, 44, 43, 28, 184, 0, 61, 154, 0, 6, 167, 0, 33, 42, 180, 0, 36, 6]
def zt_X6_gather_0 : List Nat := zw_X6_gather_0 ++ zt_X6_gather_1
theorem ze_X6_gather_0 : (dcn cX6_gather).drop 0 = zt_X6_gather_0 := by decide +kernel
theorem ze_X6_gather_1 : (dcn cX6_gather).drop 39 = zt_X6_gather_1 := dw_n (wl := zw_X6_gather_0) ze_X6_gather_0 rfl
theorem zb_X6_gather_0 (j : Nat) {n : Nat} (e : zw_X6_gather_0[j]? = some n) : dby cX6_gather (0 + j) n := dw_b (t := zt_X6_gather_1) ze_X6_gather_0 j e
theorem dX6_gather_0 : decode cX6_gather 0 = .ok (.aload_n 0, 1) := dop_42 (zb_X6_gather_0 0 rfl)
theorem dX6_gather_1 : decode cX6_gather 1 = .ok (.iconst 0, 1) := dop_3 (zb_X6_gather_0 1 rfl)
theorem dX6_gather_2 : decode cX6_gather 2 = .ok (.putfield 36, 3) := dop_181 (zb_X6_gather_0 2 rfl) (zb_X6_gather_0 3 rfl) (zb_X6_gather_0 4 rfl) rfl
theorem dX6_gather_5 : decode cX6_gather 5 = .ok (.iconst 0, 1) := dop_3 (zb_X6_gather_0 5 rfl)
theorem dX6_gather_6 : decode cX6_gather 6 = .ok (.istore_n 2, 1) := dop_61 (zb_X6_gather_0 6 rfl)
theorem dX6_gather_7 : decode cX6_gather 7 = .ok (.iload_n 2, 1) := dop_28 (zb_X6_gather_0 7 rfl)
theorem dX6_gather_8 : decode cX6_gather 8 = .ok (.bipush 32, 2) := dop_16 (zb_X6_gather_0 8 rfl) (zb_X6_gather_0 9 rfl) rfl
theorem dX6_gather_10 : decode cX6_gather 10 = .ok (.if_icmp .ge 60, 3) := dop_162 (zb_X6_gather_0 10 rfl) (zb_X6_gather_0 11 rfl) (zb_X6_gather_0 12 rfl) rfl
theorem dX6_gather_13 : decode cX6_gather 13 = .ok (.aload_n 1, 1) := dop_43 (zb_X6_gather_0 13 rfl)
theorem dX6_gather_14 : decode cX6_gather 14 = .ok (.getfield 39, 3) := dop_180 (zb_X6_gather_0 14 rfl) (zb_X6_gather_0 15 rfl) (zb_X6_gather_0 16 rfl) rfl
theorem dX6_gather_17 : decode cX6_gather 17 = .ok (.iload_n 2, 1) := dop_28 (zb_X6_gather_0 17 rfl)
theorem dX6_gather_18 : decode cX6_gather 18 = .ok (.iaload, 1) := dop_46 (zb_X6_gather_0 18 rfl)
theorem dX6_gather_19 : decode cX6_gather 19 = .ok (.iconst (-1), 1) := dop_2 (zb_X6_gather_0 19 rfl)
theorem dX6_gather_20 : decode cX6_gather 20 = .ok (.if_icmp .ne 44, 3) := dop_160 (zb_X6_gather_0 20 rfl) (zb_X6_gather_0 21 rfl) (zb_X6_gather_0 22 rfl) rfl
theorem dX6_gather_23 : decode cX6_gather 23 = .ok (.aload_n 1, 1) := dop_43 (zb_X6_gather_0 23 rfl)
theorem dX6_gather_24 : decode cX6_gather 24 = .ok (.iload_n 2, 1) := dop_28 (zb_X6_gather_0 24 rfl)
theorem dX6_gather_25 : decode cX6_gather 25 = .ok (.invokestatic 61, 3) := dop_184 (zb_X6_gather_0 25 rfl) (zb_X6_gather_0 26 rfl) (zb_X6_gather_0 27 rfl) rfl
theorem dX6_gather_28 : decode cX6_gather 28 = .ok (.ifCond .ne 6, 3) := dop_154 (zb_X6_gather_0 28 rfl) (zb_X6_gather_0 29 rfl) (zb_X6_gather_0 30 rfl) rfl
theorem dX6_gather_31 : decode cX6_gather 31 = .ok (.goto 33, 3) := dop_167 (zb_X6_gather_0 31 rfl) (zb_X6_gather_0 32 rfl) (zb_X6_gather_0 33 rfl) rfl
theorem dX6_gather_34 : decode cX6_gather 34 = .ok (.aload_n 0, 1) := dop_42 (zb_X6_gather_0 34 rfl)
theorem dX6_gather_35 : decode cX6_gather 35 = .ok (.getfield 36, 3) := dop_180 (zb_X6_gather_0 35 rfl) (zb_X6_gather_0 36 rfl) (zb_X6_gather_0 37 rfl) rfl
theorem dX6_gather_38 : decode cX6_gather 38 = .ok (.iconst 3, 1) := dop_6 (zb_X6_gather_0 38 rfl)
theorem zb_X6_gather_1 (j : Nat) {n : Nat} (e : zw_X6_gather_1[j]? = some n) : dby cX6_gather (39 + j) n := dw_b (t := []) ze_X6_gather_1 j e
theorem dX6_gather_39 : decode cX6_gather 39 = .ok (.if_icmp .lt 5, 3) := dop_161 (zb_X6_gather_1 0 rfl) (zb_X6_gather_1 1 rfl) (zb_X6_gather_1 2 rfl) rfl
theorem dX6_gather_42 : decode cX6_gather 42 = .ok (.iconst 0, 1) := dop_3 (zb_X6_gather_1 3 rfl)
theorem dX6_gather_43 : decode cX6_gather 43 = .ok (.ireturn, 1) := dop_172 (zb_X6_gather_1 4 rfl)
theorem dX6_gather_44 : decode cX6_gather 44 = .ok (.aload_n 0, 1) := dop_42 (zb_X6_gather_1 5 rfl)
theorem dX6_gather_45 : decode cX6_gather 45 = .ok (.getfield 9, 3) := dop_180 (zb_X6_gather_1 6 rfl) (zb_X6_gather_1 7 rfl) (zb_X6_gather_1 8 rfl) rfl
theorem dX6_gather_48 : decode cX6_gather 48 = .ok (.aload_n 0, 1) := dop_42 (zb_X6_gather_1 9 rfl)
theorem dX6_gather_49 : decode cX6_gather 49 = .ok (.getfield 36, 3) := dop_180 (zb_X6_gather_1 10 rfl) (zb_X6_gather_1 11 rfl) (zb_X6_gather_1 12 rfl) rfl
theorem dX6_gather_52 : decode cX6_gather 52 = .ok (.iload_n 2, 1) := dop_28 (zb_X6_gather_1 13 rfl)
theorem dX6_gather_53 : decode cX6_gather 53 = .ok (.iastore, 1) := dop_79 (zb_X6_gather_1 14 rfl)
theorem dX6_gather_54 : decode cX6_gather 54 = .ok (.aload_n 0, 1) := dop_42 (zb_X6_gather_1 15 rfl)
theorem dX6_gather_55 : decode cX6_gather 55 = .ok (.dup, 1) := dop_89 (zb_X6_gather_1 16 rfl)
theorem dX6_gather_56 : decode cX6_gather 56 = .ok (.getfield 36, 3) := dop_180 (zb_X6_gather_1 17 rfl) (zb_X6_gather_1 18 rfl) (zb_X6_gather_1 19 rfl) rfl
theorem dX6_gather_59 : decode cX6_gather 59 = .ok (.iconst 1, 1) := dop_4 (zb_X6_gather_1 20 rfl)
theorem dX6_gather_60 : decode cX6_gather 60 = .ok (.iadd, 1) := dop_96 (zb_X6_gather_1 21 rfl)
theorem dX6_gather_61 : decode cX6_gather 61 = .ok (.putfield 36, 3) := dop_181 (zb_X6_gather_1 22 rfl) (zb_X6_gather_1 23 rfl) (zb_X6_gather_1 24 rfl) rfl
theorem dX6_gather_64 : decode cX6_gather 64 = .ok (.iinc 2 1, 3) := dop_132 (zb_X6_gather_1 25 rfl) (zb_X6_gather_1 26 rfl) (zb_X6_gather_1 27 rfl) rfl
theorem dX6_gather_67 : decode cX6_gather 67 = .ok (.goto (-60), 3) := dop_167 (zb_X6_gather_1 28 rfl) (zb_X6_gather_1 29 rfl) (zb_X6_gather_1 30 rfl) rfl
theorem dX6_gather_70 : decode cX6_gather 70 = .ok (.iconst 1, 1) := dop_4 (zb_X6_gather_1 31 rfl)
theorem dX6_gather_71 : decode cX6_gather 71 = .ok (.ireturn, 1) := dop_172 (zb_X6_gather_1 32 rfl)
def zw_X6_hasEntry_0 : List Nat := [3, 61, 28, 42, 180, 0, 64, 162, 0, 29, 42, 180, 0, 67, 28, 46, 27, 160, 0, 13, 42, 28, 182, 0, 70, 153, 0, 5, 4, 172, 132, 2, 1, 167, 255, 225, 3, 172]
def zt_X6_hasEntry_0 : List Nat := zw_X6_hasEntry_0 ++ []
theorem ze_X6_hasEntry_0 : (dcn cX6_hasEntry).drop 0 = zt_X6_hasEntry_0 := by decide +kernel
theorem zb_X6_hasEntry_0 (j : Nat) {n : Nat} (e : zw_X6_hasEntry_0[j]? = some n) : dby cX6_hasEntry (0 + j) n := dw_b (t := []) ze_X6_hasEntry_0 j e
theorem dX6_hasEntry_0 : decode cX6_hasEntry 0 = .ok (.iconst 0, 1) := dop_3 (zb_X6_hasEntry_0 0 rfl)
theorem dX6_hasEntry_1 : decode cX6_hasEntry 1 = .ok (.istore_n 2, 1) := dop_61 (zb_X6_hasEntry_0 1 rfl)
theorem dX6_hasEntry_2 : decode cX6_hasEntry 2 = .ok (.iload_n 2, 1) := dop_28 (zb_X6_hasEntry_0 2 rfl)
theorem dX6_hasEntry_3 : decode cX6_hasEntry 3 = .ok (.aload_n 0, 1) := dop_42 (zb_X6_hasEntry_0 3 rfl)
theorem dX6_hasEntry_4 : decode cX6_hasEntry 4 = .ok (.getfield 64, 3) := dop_180 (zb_X6_hasEntry_0 4 rfl) (zb_X6_hasEntry_0 5 rfl) (zb_X6_hasEntry_0 6 rfl) rfl
theorem dX6_hasEntry_7 : decode cX6_hasEntry 7 = .ok (.if_icmp .ge 29, 3) := dop_162 (zb_X6_hasEntry_0 7 rfl) (zb_X6_hasEntry_0 8 rfl) (zb_X6_hasEntry_0 9 rfl) rfl
theorem dX6_hasEntry_10 : decode cX6_hasEntry 10 = .ok (.aload_n 0, 1) := dop_42 (zb_X6_hasEntry_0 10 rfl)
theorem dX6_hasEntry_11 : decode cX6_hasEntry 11 = .ok (.getfield 67, 3) := dop_180 (zb_X6_hasEntry_0 11 rfl) (zb_X6_hasEntry_0 12 rfl) (zb_X6_hasEntry_0 13 rfl) rfl
theorem dX6_hasEntry_14 : decode cX6_hasEntry 14 = .ok (.iload_n 2, 1) := dop_28 (zb_X6_hasEntry_0 14 rfl)
theorem dX6_hasEntry_15 : decode cX6_hasEntry 15 = .ok (.iaload, 1) := dop_46 (zb_X6_hasEntry_0 15 rfl)
theorem dX6_hasEntry_16 : decode cX6_hasEntry 16 = .ok (.iload_n 1, 1) := dop_27 (zb_X6_hasEntry_0 16 rfl)
theorem dX6_hasEntry_17 : decode cX6_hasEntry 17 = .ok (.if_icmp .ne 13, 3) := dop_160 (zb_X6_hasEntry_0 17 rfl) (zb_X6_hasEntry_0 18 rfl) (zb_X6_hasEntry_0 19 rfl) rfl
theorem dX6_hasEntry_20 : decode cX6_hasEntry 20 = .ok (.aload_n 0, 1) := dop_42 (zb_X6_hasEntry_0 20 rfl)
theorem dX6_hasEntry_21 : decode cX6_hasEntry 21 = .ok (.iload_n 2, 1) := dop_28 (zb_X6_hasEntry_0 21 rfl)
theorem dX6_hasEntry_22 : decode cX6_hasEntry 22 = .ok (.invokevirtual 70, 3) := dop_182 (zb_X6_hasEntry_0 22 rfl) (zb_X6_hasEntry_0 23 rfl) (zb_X6_hasEntry_0 24 rfl) rfl
theorem dX6_hasEntry_25 : decode cX6_hasEntry 25 = .ok (.ifCond .eq 5, 3) := dop_153 (zb_X6_hasEntry_0 25 rfl) (zb_X6_hasEntry_0 26 rfl) (zb_X6_hasEntry_0 27 rfl) rfl
theorem dX6_hasEntry_28 : decode cX6_hasEntry 28 = .ok (.iconst 1, 1) := dop_4 (zb_X6_hasEntry_0 28 rfl)
theorem dX6_hasEntry_29 : decode cX6_hasEntry 29 = .ok (.ireturn, 1) := dop_172 (zb_X6_hasEntry_0 29 rfl)
theorem dX6_hasEntry_30 : decode cX6_hasEntry 30 = .ok (.iinc 2 1, 3) := dop_132 (zb_X6_hasEntry_0 30 rfl) (zb_X6_hasEntry_0 31 rfl) (zb_X6_hasEntry_0 32 rfl) rfl
theorem dX6_hasEntry_33 : decode cX6_hasEntry 33 = .ok (.goto (-31), 3) := dop_167 (zb_X6_hasEntry_0 33 rfl) (zb_X6_hasEntry_0 34 rfl) (zb_X6_hasEntry_0 35 rfl) rfl
theorem dX6_hasEntry_36 : decode cX6_hasEntry 36 = .ok (.iconst 0, 1) := dop_3 (zb_X6_hasEntry_0 36 rfl)
theorem dX6_hasEntry_37 : decode cX6_hasEntry 37 = .ok (.ireturn, 1) := dop_172 (zb_X6_hasEntry_0 37 rfl)
def zw_X6_note_1 : List Nat := [132, 2, 1, 167, 255, 227, 177]
def zt_X6_note_1 : List Nat := zw_X6_note_1 ++ []
def zw_X6_note_0 : List Nat := [42, 89, 180, 0, 22, 4, 96, 181, 0, 22, 3, 61, 28, 42, 180, 0, 36, 162, 0, 27, 42, 180, 0, 15, 28, 7, 104, 27, 28, 184, 0, 44, 96, 92, 46, 4, 96, 79]
def zt_X6_note_0 : List Nat := zw_X6_note_0 ++ zt_X6_note_1
theorem ze_X6_note_0 : (dcn cX6_note).drop 0 = zt_X6_note_0 := by decide +kernel
theorem ze_X6_note_1 : (dcn cX6_note).drop 38 = zt_X6_note_1 := dw_n (wl := zw_X6_note_0) ze_X6_note_0 rfl
theorem zb_X6_note_0 (j : Nat) {n : Nat} (e : zw_X6_note_0[j]? = some n) : dby cX6_note (0 + j) n := dw_b (t := zt_X6_note_1) ze_X6_note_0 j e
theorem dX6_note_0 : decode cX6_note 0 = .ok (.aload_n 0, 1) := dop_42 (zb_X6_note_0 0 rfl)
theorem dX6_note_1 : decode cX6_note 1 = .ok (.dup, 1) := dop_89 (zb_X6_note_0 1 rfl)
theorem dX6_note_2 : decode cX6_note 2 = .ok (.getfield 22, 3) := dop_180 (zb_X6_note_0 2 rfl) (zb_X6_note_0 3 rfl) (zb_X6_note_0 4 rfl) rfl
theorem dX6_note_5 : decode cX6_note 5 = .ok (.iconst 1, 1) := dop_4 (zb_X6_note_0 5 rfl)
theorem dX6_note_6 : decode cX6_note 6 = .ok (.iadd, 1) := dop_96 (zb_X6_note_0 6 rfl)
theorem dX6_note_7 : decode cX6_note 7 = .ok (.putfield 22, 3) := dop_181 (zb_X6_note_0 7 rfl) (zb_X6_note_0 8 rfl) (zb_X6_note_0 9 rfl) rfl
theorem dX6_note_10 : decode cX6_note 10 = .ok (.iconst 0, 1) := dop_3 (zb_X6_note_0 10 rfl)
theorem dX6_note_11 : decode cX6_note 11 = .ok (.istore_n 2, 1) := dop_61 (zb_X6_note_0 11 rfl)
theorem dX6_note_12 : decode cX6_note 12 = .ok (.iload_n 2, 1) := dop_28 (zb_X6_note_0 12 rfl)
theorem dX6_note_13 : decode cX6_note 13 = .ok (.aload_n 0, 1) := dop_42 (zb_X6_note_0 13 rfl)
theorem dX6_note_14 : decode cX6_note 14 = .ok (.getfield 36, 3) := dop_180 (zb_X6_note_0 14 rfl) (zb_X6_note_0 15 rfl) (zb_X6_note_0 16 rfl) rfl
theorem dX6_note_17 : decode cX6_note 17 = .ok (.if_icmp .ge 27, 3) := dop_162 (zb_X6_note_0 17 rfl) (zb_X6_note_0 18 rfl) (zb_X6_note_0 19 rfl) rfl
theorem dX6_note_20 : decode cX6_note 20 = .ok (.aload_n 0, 1) := dop_42 (zb_X6_note_0 20 rfl)
theorem dX6_note_21 : decode cX6_note 21 = .ok (.getfield 15, 3) := dop_180 (zb_X6_note_0 21 rfl) (zb_X6_note_0 22 rfl) (zb_X6_note_0 23 rfl) rfl
theorem dX6_note_24 : decode cX6_note 24 = .ok (.iload_n 2, 1) := dop_28 (zb_X6_note_0 24 rfl)
theorem dX6_note_25 : decode cX6_note 25 = .ok (.iconst 4, 1) := dop_7 (zb_X6_note_0 25 rfl)
theorem dX6_note_26 : decode cX6_note 26 = .ok (.imul, 1) := dop_104 (zb_X6_note_0 26 rfl)
theorem dX6_note_27 : decode cX6_note 27 = .ok (.iload_n 1, 1) := dop_27 (zb_X6_note_0 27 rfl)
theorem dX6_note_28 : decode cX6_note 28 = .ok (.iload_n 2, 1) := dop_28 (zb_X6_note_0 28 rfl)
theorem dX6_note_29 : decode cX6_note 29 = .ok (.invokestatic 44, 3) := dop_184 (zb_X6_note_0 29 rfl) (zb_X6_note_0 30 rfl) (zb_X6_note_0 31 rfl) rfl
theorem dX6_note_32 : decode cX6_note 32 = .ok (.iadd, 1) := dop_96 (zb_X6_note_0 32 rfl)
theorem dX6_note_33 : decode cX6_note 33 = .ok (.dup2, 1) := dop_92 (zb_X6_note_0 33 rfl)
theorem dX6_note_34 : decode cX6_note 34 = .ok (.iaload, 1) := dop_46 (zb_X6_note_0 34 rfl)
theorem dX6_note_35 : decode cX6_note 35 = .ok (.iconst 1, 1) := dop_4 (zb_X6_note_0 35 rfl)
theorem dX6_note_36 : decode cX6_note 36 = .ok (.iadd, 1) := dop_96 (zb_X6_note_0 36 rfl)
theorem dX6_note_37 : decode cX6_note 37 = .ok (.iastore, 1) := dop_79 (zb_X6_note_0 37 rfl)
theorem zb_X6_note_1 (j : Nat) {n : Nat} (e : zw_X6_note_1[j]? = some n) : dby cX6_note (38 + j) n := dw_b (t := []) ze_X6_note_1 j e
theorem dX6_note_38 : decode cX6_note 38 = .ok (.iinc 2 1, 3) := dop_132 (zb_X6_note_1 0 rfl) (zb_X6_note_1 1 rfl) (zb_X6_note_1 2 rfl) rfl
theorem dX6_note_41 : decode cX6_note 41 = .ok (.goto (-29), 3) := dop_167 (zb_X6_note_1 3 rfl) (zb_X6_note_1 4 rfl) (zb_X6_note_1 5 rfl) rfl
theorem dX6_note_44 : decode cX6_note 44 = .ok (.return_, 1) := dop_177 (zb_X6_note_1 6 rfl)
def zw_X6_placeOf_0 : List Nat := [3, 61, 28, 42, 180, 0, 36, 162, 0, 21, 42, 180, 0, 9, 28, 46, 27, 160, 0, 5, 28, 172, 132, 2, 1, 167, 255, 233, 2, 172]
def zt_X6_placeOf_0 : List Nat := zw_X6_placeOf_0 ++ []
theorem ze_X6_placeOf_0 : (dcn cX6_placeOf).drop 0 = zt_X6_placeOf_0 := by decide +kernel
theorem zb_X6_placeOf_0 (j : Nat) {n : Nat} (e : zw_X6_placeOf_0[j]? = some n) : dby cX6_placeOf (0 + j) n := dw_b (t := []) ze_X6_placeOf_0 j e
theorem dX6_placeOf_0 : decode cX6_placeOf 0 = .ok (.iconst 0, 1) := dop_3 (zb_X6_placeOf_0 0 rfl)
theorem dX6_placeOf_1 : decode cX6_placeOf 1 = .ok (.istore_n 2, 1) := dop_61 (zb_X6_placeOf_0 1 rfl)
theorem dX6_placeOf_2 : decode cX6_placeOf 2 = .ok (.iload_n 2, 1) := dop_28 (zb_X6_placeOf_0 2 rfl)
theorem dX6_placeOf_3 : decode cX6_placeOf 3 = .ok (.aload_n 0, 1) := dop_42 (zb_X6_placeOf_0 3 rfl)
theorem dX6_placeOf_4 : decode cX6_placeOf 4 = .ok (.getfield 36, 3) := dop_180 (zb_X6_placeOf_0 4 rfl) (zb_X6_placeOf_0 5 rfl) (zb_X6_placeOf_0 6 rfl) rfl
theorem dX6_placeOf_7 : decode cX6_placeOf 7 = .ok (.if_icmp .ge 21, 3) := dop_162 (zb_X6_placeOf_0 7 rfl) (zb_X6_placeOf_0 8 rfl) (zb_X6_placeOf_0 9 rfl) rfl
theorem dX6_placeOf_10 : decode cX6_placeOf 10 = .ok (.aload_n 0, 1) := dop_42 (zb_X6_placeOf_0 10 rfl)
theorem dX6_placeOf_11 : decode cX6_placeOf 11 = .ok (.getfield 9, 3) := dop_180 (zb_X6_placeOf_0 11 rfl) (zb_X6_placeOf_0 12 rfl) (zb_X6_placeOf_0 13 rfl) rfl
theorem dX6_placeOf_14 : decode cX6_placeOf 14 = .ok (.iload_n 2, 1) := dop_28 (zb_X6_placeOf_0 14 rfl)
theorem dX6_placeOf_15 : decode cX6_placeOf 15 = .ok (.iaload, 1) := dop_46 (zb_X6_placeOf_0 15 rfl)
theorem dX6_placeOf_16 : decode cX6_placeOf 16 = .ok (.iload_n 1, 1) := dop_27 (zb_X6_placeOf_0 16 rfl)
theorem dX6_placeOf_17 : decode cX6_placeOf 17 = .ok (.if_icmp .ne 5, 3) := dop_160 (zb_X6_placeOf_0 17 rfl) (zb_X6_placeOf_0 18 rfl) (zb_X6_placeOf_0 19 rfl) rfl
theorem dX6_placeOf_20 : decode cX6_placeOf 20 = .ok (.iload_n 2, 1) := dop_28 (zb_X6_placeOf_0 20 rfl)
theorem dX6_placeOf_21 : decode cX6_placeOf 21 = .ok (.ireturn, 1) := dop_172 (zb_X6_placeOf_0 21 rfl)
theorem dX6_placeOf_22 : decode cX6_placeOf 22 = .ok (.iinc 2 1, 3) := dop_132 (zb_X6_placeOf_0 22 rfl) (zb_X6_placeOf_0 23 rfl) (zb_X6_placeOf_0 24 rfl) rfl
theorem dX6_placeOf_25 : decode cX6_placeOf 25 = .ok (.goto (-23), 3) := dop_167 (zb_X6_placeOf_0 25 rfl) (zb_X6_placeOf_0 26 rfl) (zb_X6_placeOf_0 27 rfl) rfl
theorem dX6_placeOf_28 : decode cX6_placeOf 28 = .ok (.iconst (-1), 1) := dop_2 (zb_X6_placeOf_0 28 rfl)
theorem dX6_placeOf_29 : decode cX6_placeOf 29 = .ok (.ireturn, 1) := dop_172 (zb_X6_placeOf_0 29 rfl)
def zw_X6_waysWith_0 : List Nat := [42, 27, 182, 0, 74, 62, 29, 2, 160, 0, 7, 2, 167, 0, 13, 42, 180, 0, 15, 29, 7, 104, 28, 96, 46, 172]
def zt_X6_waysWith_0 : List Nat := zw_X6_waysWith_0 ++ []
theorem ze_X6_waysWith_0 : (dcn cX6_waysWith).drop 0 = zt_X6_waysWith_0 := by decide +kernel
theorem zb_X6_waysWith_0 (j : Nat) {n : Nat} (e : zw_X6_waysWith_0[j]? = some n) : dby cX6_waysWith (0 + j) n := dw_b (t := []) ze_X6_waysWith_0 j e
theorem dX6_waysWith_0 : decode cX6_waysWith 0 = .ok (.aload_n 0, 1) := dop_42 (zb_X6_waysWith_0 0 rfl)
theorem dX6_waysWith_1 : decode cX6_waysWith 1 = .ok (.iload_n 1, 1) := dop_27 (zb_X6_waysWith_0 1 rfl)
theorem dX6_waysWith_2 : decode cX6_waysWith 2 = .ok (.invokevirtual 74, 3) := dop_182 (zb_X6_waysWith_0 2 rfl) (zb_X6_waysWith_0 3 rfl) (zb_X6_waysWith_0 4 rfl) rfl
theorem dX6_waysWith_5 : decode cX6_waysWith 5 = .ok (.istore_n 3, 1) := dop_62 (zb_X6_waysWith_0 5 rfl)
theorem dX6_waysWith_6 : decode cX6_waysWith 6 = .ok (.iload_n 3, 1) := dop_29 (zb_X6_waysWith_0 6 rfl)
theorem dX6_waysWith_7 : decode cX6_waysWith 7 = .ok (.iconst (-1), 1) := dop_2 (zb_X6_waysWith_0 7 rfl)
theorem dX6_waysWith_8 : decode cX6_waysWith 8 = .ok (.if_icmp .ne 7, 3) := dop_160 (zb_X6_waysWith_0 8 rfl) (zb_X6_waysWith_0 9 rfl) (zb_X6_waysWith_0 10 rfl) rfl
theorem dX6_waysWith_11 : decode cX6_waysWith 11 = .ok (.iconst (-1), 1) := dop_2 (zb_X6_waysWith_0 11 rfl)
theorem dX6_waysWith_12 : decode cX6_waysWith 12 = .ok (.goto 13, 3) := dop_167 (zb_X6_waysWith_0 12 rfl) (zb_X6_waysWith_0 13 rfl) (zb_X6_waysWith_0 14 rfl) rfl
theorem dX6_waysWith_15 : decode cX6_waysWith 15 = .ok (.aload_n 0, 1) := dop_42 (zb_X6_waysWith_0 15 rfl)
theorem dX6_waysWith_16 : decode cX6_waysWith 16 = .ok (.getfield 15, 3) := dop_180 (zb_X6_waysWith_0 16 rfl) (zb_X6_waysWith_0 17 rfl) (zb_X6_waysWith_0 18 rfl) rfl
theorem dX6_waysWith_19 : decode cX6_waysWith 19 = .ok (.iload_n 3, 1) := dop_29 (zb_X6_waysWith_0 19 rfl)
theorem dX6_waysWith_20 : decode cX6_waysWith 20 = .ok (.iconst 4, 1) := dop_7 (zb_X6_waysWith_0 20 rfl)
theorem dX6_waysWith_21 : decode cX6_waysWith 21 = .ok (.imul, 1) := dop_104 (zb_X6_waysWith_0 21 rfl)
theorem dX6_waysWith_22 : decode cX6_waysWith 22 = .ok (.iload_n 2, 1) := dop_28 (zb_X6_waysWith_0 22 rfl)
theorem dX6_waysWith_23 : decode cX6_waysWith 23 = .ok (.iadd, 1) := dop_96 (zb_X6_waysWith_0 23 rfl)
theorem dX6_waysWith_24 : decode cX6_waysWith 24 = .ok (.iaload, 1) := dop_46 (zb_X6_waysWith_0 24 rfl)
theorem dX6_waysWith_25 : decode cX6_waysWith 25 = .ok (.ireturn, 1) := dop_172 (zb_X6_waysWith_0 25 rfl)
def zw_X6_onlyKeeper_1 : List Nat := [132, 2, 1, 167, 255, 233, 8, 172]
def zt_X6_onlyKeeper_1 : List Nat := zw_X6_onlyKeeper_1 ++ []
def zw_X6_onlyKeeper_0 : List Nat := [42, 27, 182, 0, 74, 2, 159, 0, 10, 42, 180, 0, 22, 154, 0, 5, 2, 172, 3, 61, 28, 7, 162, 0, 24, 42, 27, 28, 182, 0, 78, 42, 180, 0, 22, 160, 0, 5, 28, 172]
def zt_X6_onlyKeeper_0 : List Nat := zw_X6_onlyKeeper_0 ++ zt_X6_onlyKeeper_1
theorem ze_X6_onlyKeeper_0 : (dcn cX6_onlyKeeper).drop 0 = zt_X6_onlyKeeper_0 := by decide +kernel
theorem ze_X6_onlyKeeper_1 : (dcn cX6_onlyKeeper).drop 40 = zt_X6_onlyKeeper_1 := dw_n (wl := zw_X6_onlyKeeper_0) ze_X6_onlyKeeper_0 rfl
theorem zb_X6_onlyKeeper_0 (j : Nat) {n : Nat} (e : zw_X6_onlyKeeper_0[j]? = some n) : dby cX6_onlyKeeper (0 + j) n := dw_b (t := zt_X6_onlyKeeper_1) ze_X6_onlyKeeper_0 j e
theorem dX6_onlyKeeper_0 : decode cX6_onlyKeeper 0 = .ok (.aload_n 0, 1) := dop_42 (zb_X6_onlyKeeper_0 0 rfl)
theorem dX6_onlyKeeper_1 : decode cX6_onlyKeeper 1 = .ok (.iload_n 1, 1) := dop_27 (zb_X6_onlyKeeper_0 1 rfl)
theorem dX6_onlyKeeper_2 : decode cX6_onlyKeeper 2 = .ok (.invokevirtual 74, 3) := dop_182 (zb_X6_onlyKeeper_0 2 rfl) (zb_X6_onlyKeeper_0 3 rfl) (zb_X6_onlyKeeper_0 4 rfl) rfl
theorem dX6_onlyKeeper_5 : decode cX6_onlyKeeper 5 = .ok (.iconst (-1), 1) := dop_2 (zb_X6_onlyKeeper_0 5 rfl)
theorem dX6_onlyKeeper_6 : decode cX6_onlyKeeper 6 = .ok (.if_icmp .eq 10, 3) := dop_159 (zb_X6_onlyKeeper_0 6 rfl) (zb_X6_onlyKeeper_0 7 rfl) (zb_X6_onlyKeeper_0 8 rfl) rfl
theorem dX6_onlyKeeper_9 : decode cX6_onlyKeeper 9 = .ok (.aload_n 0, 1) := dop_42 (zb_X6_onlyKeeper_0 9 rfl)
theorem dX6_onlyKeeper_10 : decode cX6_onlyKeeper 10 = .ok (.getfield 22, 3) := dop_180 (zb_X6_onlyKeeper_0 10 rfl) (zb_X6_onlyKeeper_0 11 rfl) (zb_X6_onlyKeeper_0 12 rfl) rfl
theorem dX6_onlyKeeper_13 : decode cX6_onlyKeeper 13 = .ok (.ifCond .ne 5, 3) := dop_154 (zb_X6_onlyKeeper_0 13 rfl) (zb_X6_onlyKeeper_0 14 rfl) (zb_X6_onlyKeeper_0 15 rfl) rfl
theorem dX6_onlyKeeper_16 : decode cX6_onlyKeeper 16 = .ok (.iconst (-1), 1) := dop_2 (zb_X6_onlyKeeper_0 16 rfl)
theorem dX6_onlyKeeper_17 : decode cX6_onlyKeeper 17 = .ok (.ireturn, 1) := dop_172 (zb_X6_onlyKeeper_0 17 rfl)
theorem dX6_onlyKeeper_18 : decode cX6_onlyKeeper 18 = .ok (.iconst 0, 1) := dop_3 (zb_X6_onlyKeeper_0 18 rfl)
theorem dX6_onlyKeeper_19 : decode cX6_onlyKeeper 19 = .ok (.istore_n 2, 1) := dop_61 (zb_X6_onlyKeeper_0 19 rfl)
theorem dX6_onlyKeeper_20 : decode cX6_onlyKeeper 20 = .ok (.iload_n 2, 1) := dop_28 (zb_X6_onlyKeeper_0 20 rfl)
theorem dX6_onlyKeeper_21 : decode cX6_onlyKeeper 21 = .ok (.iconst 4, 1) := dop_7 (zb_X6_onlyKeeper_0 21 rfl)
theorem dX6_onlyKeeper_22 : decode cX6_onlyKeeper 22 = .ok (.if_icmp .ge 24, 3) := dop_162 (zb_X6_onlyKeeper_0 22 rfl) (zb_X6_onlyKeeper_0 23 rfl) (zb_X6_onlyKeeper_0 24 rfl) rfl
theorem dX6_onlyKeeper_25 : decode cX6_onlyKeeper 25 = .ok (.aload_n 0, 1) := dop_42 (zb_X6_onlyKeeper_0 25 rfl)
theorem dX6_onlyKeeper_26 : decode cX6_onlyKeeper 26 = .ok (.iload_n 1, 1) := dop_27 (zb_X6_onlyKeeper_0 26 rfl)
theorem dX6_onlyKeeper_27 : decode cX6_onlyKeeper 27 = .ok (.iload_n 2, 1) := dop_28 (zb_X6_onlyKeeper_0 27 rfl)
theorem dX6_onlyKeeper_28 : decode cX6_onlyKeeper 28 = .ok (.invokevirtual 78, 3) := dop_182 (zb_X6_onlyKeeper_0 28 rfl) (zb_X6_onlyKeeper_0 29 rfl) (zb_X6_onlyKeeper_0 30 rfl) rfl
theorem dX6_onlyKeeper_31 : decode cX6_onlyKeeper 31 = .ok (.aload_n 0, 1) := dop_42 (zb_X6_onlyKeeper_0 31 rfl)
theorem dX6_onlyKeeper_32 : decode cX6_onlyKeeper 32 = .ok (.getfield 22, 3) := dop_180 (zb_X6_onlyKeeper_0 32 rfl) (zb_X6_onlyKeeper_0 33 rfl) (zb_X6_onlyKeeper_0 34 rfl) rfl
theorem dX6_onlyKeeper_35 : decode cX6_onlyKeeper 35 = .ok (.if_icmp .ne 5, 3) := dop_160 (zb_X6_onlyKeeper_0 35 rfl) (zb_X6_onlyKeeper_0 36 rfl) (zb_X6_onlyKeeper_0 37 rfl) rfl
theorem dX6_onlyKeeper_38 : decode cX6_onlyKeeper 38 = .ok (.iload_n 2, 1) := dop_28 (zb_X6_onlyKeeper_0 38 rfl)
theorem dX6_onlyKeeper_39 : decode cX6_onlyKeeper 39 = .ok (.ireturn, 1) := dop_172 (zb_X6_onlyKeeper_0 39 rfl)
theorem zb_X6_onlyKeeper_1 (j : Nat) {n : Nat} (e : zw_X6_onlyKeeper_1[j]? = some n) : dby cX6_onlyKeeper (40 + j) n := dw_b (t := []) ze_X6_onlyKeeper_1 j e
theorem dX6_onlyKeeper_40 : decode cX6_onlyKeeper 40 = .ok (.iinc 2 1, 3) := dop_132 (zb_X6_onlyKeeper_1 0 rfl) (zb_X6_onlyKeeper_1 1 rfl) (zb_X6_onlyKeeper_1 2 rfl) rfl
theorem dX6_onlyKeeper_43 : decode cX6_onlyKeeper 43 = .ok (.goto (-23), 3) := dop_167 (zb_X6_onlyKeeper_1 3 rfl) (zb_X6_onlyKeeper_1 4 rfl) (zb_X6_onlyKeeper_1 5 rfl) rfl
theorem dX6_onlyKeeper_46 : decode cX6_onlyKeeper 46 = .ok (.iconst 5, 1) := dop_8 (zb_X6_onlyKeeper_1 6 rfl)
theorem dX6_onlyKeeper_47 : decode cX6_onlyKeeper 47 = .ok (.ireturn, 1) := dop_172 (zb_X6_onlyKeeper_1 7 rfl)
def zw_X7_init_0 : List Nat := [42, 183, 0, 3, 42, 187, 0, 9, 89, 183, 0, 11, 181, 0, 12, 42, 187, 0, 9, 89, 183, 0, 11, 181, 0, 18, 177]
def zt_X7_init_0 : List Nat := zw_X7_init_0 ++ []
theorem ze_X7_init_0 : (dcn cX7_init).drop 0 = zt_X7_init_0 := by decide +kernel
theorem zb_X7_init_0 (j : Nat) {n : Nat} (e : zw_X7_init_0[j]? = some n) : dby cX7_init (0 + j) n := dw_b (t := []) ze_X7_init_0 j e
theorem dX7_init_0 : decode cX7_init 0 = .ok (.aload_n 0, 1) := dop_42 (zb_X7_init_0 0 rfl)
theorem dX7_init_1 : decode cX7_init 1 = .ok (.invokespecial 3, 3) := dop_183 (zb_X7_init_0 1 rfl) (zb_X7_init_0 2 rfl) (zb_X7_init_0 3 rfl) rfl
theorem dX7_init_4 : decode cX7_init 4 = .ok (.aload_n 0, 1) := dop_42 (zb_X7_init_0 4 rfl)
theorem dX7_init_5 : decode cX7_init 5 = .ok (.new 9, 3) := dop_187 (zb_X7_init_0 5 rfl) (zb_X7_init_0 6 rfl) (zb_X7_init_0 7 rfl) rfl
theorem dX7_init_8 : decode cX7_init 8 = .ok (.dup, 1) := dop_89 (zb_X7_init_0 8 rfl)
theorem dX7_init_9 : decode cX7_init 9 = .ok (.invokespecial 11, 3) := dop_183 (zb_X7_init_0 9 rfl) (zb_X7_init_0 10 rfl) (zb_X7_init_0 11 rfl) rfl
theorem dX7_init_12 : decode cX7_init 12 = .ok (.putfield 12, 3) := dop_181 (zb_X7_init_0 12 rfl) (zb_X7_init_0 13 rfl) (zb_X7_init_0 14 rfl) rfl
theorem dX7_init_15 : decode cX7_init 15 = .ok (.aload_n 0, 1) := dop_42 (zb_X7_init_0 15 rfl)
theorem dX7_init_16 : decode cX7_init 16 = .ok (.new 9, 3) := dop_187 (zb_X7_init_0 16 rfl) (zb_X7_init_0 17 rfl) (zb_X7_init_0 18 rfl) rfl
theorem dX7_init_19 : decode cX7_init 19 = .ok (.dup, 1) := dop_89 (zb_X7_init_0 19 rfl)
theorem dX7_init_20 : decode cX7_init 20 = .ok (.invokespecial 11, 3) := dop_183 (zb_X7_init_0 20 rfl) (zb_X7_init_0 21 rfl) (zb_X7_init_0 22 rfl) rfl
theorem dX7_init_23 : decode cX7_init 23 = .ok (.putfield 18, 3) := dop_181 (zb_X7_init_0 23 rfl) (zb_X7_init_0 24 rfl) (zb_X7_init_0 25 rfl) rfl
theorem dX7_init_26 : decode cX7_init 26 = .ok (.return_, 1) := dop_177 (zb_X7_init_0 26 rfl)
def zw_X7_measure_0 : List Nat := [43, 28, 29, 42, 180, 0, 18, 182, 0, 21, 43, 29, 28, 42, 180, 0, 12, 182, 0, 21, 177]
def zt_X7_measure_0 : List Nat := zw_X7_measure_0 ++ []
theorem ze_X7_measure_0 : (dcn cX7_measure).drop 0 = zt_X7_measure_0 := by decide +kernel
theorem zb_X7_measure_0 (j : Nat) {n : Nat} (e : zw_X7_measure_0[j]? = some n) : dby cX7_measure (0 + j) n := dw_b (t := []) ze_X7_measure_0 j e
theorem dX7_measure_0 : decode cX7_measure 0 = .ok (.aload_n 1, 1) := dop_43 (zb_X7_measure_0 0 rfl)
theorem dX7_measure_1 : decode cX7_measure 1 = .ok (.iload_n 2, 1) := dop_28 (zb_X7_measure_0 1 rfl)
theorem dX7_measure_2 : decode cX7_measure 2 = .ok (.iload_n 3, 1) := dop_29 (zb_X7_measure_0 2 rfl)
theorem dX7_measure_3 : decode cX7_measure 3 = .ok (.aload_n 0, 1) := dop_42 (zb_X7_measure_0 3 rfl)
theorem dX7_measure_4 : decode cX7_measure 4 = .ok (.getfield 18, 3) := dop_180 (zb_X7_measure_0 4 rfl) (zb_X7_measure_0 5 rfl) (zb_X7_measure_0 6 rfl) rfl
theorem dX7_measure_7 : decode cX7_measure 7 = .ok (.invokevirtual 21, 3) := dop_182 (zb_X7_measure_0 7 rfl) (zb_X7_measure_0 8 rfl) (zb_X7_measure_0 9 rfl) rfl
theorem dX7_measure_10 : decode cX7_measure 10 = .ok (.aload_n 1, 1) := dop_43 (zb_X7_measure_0 10 rfl)
theorem dX7_measure_11 : decode cX7_measure 11 = .ok (.iload_n 3, 1) := dop_29 (zb_X7_measure_0 11 rfl)
theorem dX7_measure_12 : decode cX7_measure 12 = .ok (.iload_n 2, 1) := dop_28 (zb_X7_measure_0 12 rfl)
theorem dX7_measure_13 : decode cX7_measure 13 = .ok (.aload_n 0, 1) := dop_42 (zb_X7_measure_0 13 rfl)
theorem dX7_measure_14 : decode cX7_measure 14 = .ok (.getfield 12, 3) := dop_180 (zb_X7_measure_0 14 rfl) (zb_X7_measure_0 15 rfl) (zb_X7_measure_0 16 rfl) rfl
theorem dX7_measure_17 : decode cX7_measure 17 = .ok (.invokevirtual 21, 3) := dop_182 (zb_X7_measure_0 17 rfl) (zb_X7_measure_0 18 rfl) (zb_X7_measure_0 19 rfl) rfl
theorem dX7_measure_20 : decode cX7_measure 20 = .ok (.return_, 1) := dop_177 (zb_X7_measure_0 20 rfl)
def zw_X7_leastMillionths_0 : List Nat := [20, 0, 27, 42, 180, 0, 12, 180, 0, 29, 105, 42, 180, 0, 12, 180, 0, 33, 184, 0, 36, 173]
def zt_X7_leastMillionths_0 : List Nat := zw_X7_leastMillionths_0 ++ []
theorem ze_X7_leastMillionths_0 : (dcn cX7_leastMillionths).drop 0 = zt_X7_leastMillionths_0 := by decide +kernel
theorem zb_X7_leastMillionths_0 (j : Nat) {n : Nat} (e : zw_X7_leastMillionths_0[j]? = some n) : dby cX7_leastMillionths (0 + j) n := dw_b (t := []) ze_X7_leastMillionths_0 j e
theorem dX7_leastMillionths_0 : decode cX7_leastMillionths 0 = .ok (.ldc2_w 27, 3) := dop_20 (zb_X7_leastMillionths_0 0 rfl) (zb_X7_leastMillionths_0 1 rfl) (zb_X7_leastMillionths_0 2 rfl) rfl
theorem dX7_leastMillionths_3 : decode cX7_leastMillionths 3 = .ok (.aload_n 0, 1) := dop_42 (zb_X7_leastMillionths_0 3 rfl)
theorem dX7_leastMillionths_4 : decode cX7_leastMillionths 4 = .ok (.getfield 12, 3) := dop_180 (zb_X7_leastMillionths_0 4 rfl) (zb_X7_leastMillionths_0 5 rfl) (zb_X7_leastMillionths_0 6 rfl) rfl
theorem dX7_leastMillionths_7 : decode cX7_leastMillionths 7 = .ok (.getfield 29, 3) := dop_180 (zb_X7_leastMillionths_0 7 rfl) (zb_X7_leastMillionths_0 8 rfl) (zb_X7_leastMillionths_0 9 rfl) rfl
theorem dX7_leastMillionths_10 : decode cX7_leastMillionths 10 = .ok (.lmul, 1) := dop_105 (zb_X7_leastMillionths_0 10 rfl)
theorem dX7_leastMillionths_11 : decode cX7_leastMillionths 11 = .ok (.aload_n 0, 1) := dop_42 (zb_X7_leastMillionths_0 11 rfl)
theorem dX7_leastMillionths_12 : decode cX7_leastMillionths 12 = .ok (.getfield 12, 3) := dop_180 (zb_X7_leastMillionths_0 12 rfl) (zb_X7_leastMillionths_0 13 rfl) (zb_X7_leastMillionths_0 14 rfl) rfl
theorem dX7_leastMillionths_15 : decode cX7_leastMillionths 15 = .ok (.getfield 33, 3) := dop_180 (zb_X7_leastMillionths_0 15 rfl) (zb_X7_leastMillionths_0 16 rfl) (zb_X7_leastMillionths_0 17 rfl) rfl
theorem dX7_leastMillionths_18 : decode cX7_leastMillionths 18 = .ok (.invokestatic 36, 3) := dop_184 (zb_X7_leastMillionths_0 18 rfl) (zb_X7_leastMillionths_0 19 rfl) (zb_X7_leastMillionths_0 20 rfl) rfl
theorem dX7_leastMillionths_21 : decode cX7_leastMillionths 21 = .ok (.lreturn, 1) := dop_173 (zb_X7_leastMillionths_0 21 rfl)
def zw_X7_greatestMillionths_0 : List Nat := [42, 180, 0, 18, 180, 0, 29, 9, 148, 154, 0, 9, 20, 0, 40, 167, 0, 24, 20, 0, 27, 42, 180, 0, 18, 180, 0, 33, 105, 42, 180, 0, 18, 180, 0, 29, 184, 0, 36, 173]
def zt_X7_greatestMillionths_0 : List Nat := zw_X7_greatestMillionths_0 ++ []
theorem ze_X7_greatestMillionths_0 : (dcn cX7_greatestMillionths).drop 0 = zt_X7_greatestMillionths_0 := by decide +kernel
theorem zb_X7_greatestMillionths_0 (j : Nat) {n : Nat} (e : zw_X7_greatestMillionths_0[j]? = some n) : dby cX7_greatestMillionths (0 + j) n := dw_b (t := []) ze_X7_greatestMillionths_0 j e
theorem dX7_greatestMillionths_0 : decode cX7_greatestMillionths 0 = .ok (.aload_n 0, 1) := dop_42 (zb_X7_greatestMillionths_0 0 rfl)
theorem dX7_greatestMillionths_1 : decode cX7_greatestMillionths 1 = .ok (.getfield 18, 3) := dop_180 (zb_X7_greatestMillionths_0 1 rfl) (zb_X7_greatestMillionths_0 2 rfl) (zb_X7_greatestMillionths_0 3 rfl) rfl
theorem dX7_greatestMillionths_4 : decode cX7_greatestMillionths 4 = .ok (.getfield 29, 3) := dop_180 (zb_X7_greatestMillionths_0 4 rfl) (zb_X7_greatestMillionths_0 5 rfl) (zb_X7_greatestMillionths_0 6 rfl) rfl
theorem dX7_greatestMillionths_7 : decode cX7_greatestMillionths 7 = .ok (.lconst 0, 1) := dop_9 (zb_X7_greatestMillionths_0 7 rfl)
theorem dX7_greatestMillionths_8 : decode cX7_greatestMillionths 8 = .ok (.lcmp, 1) := dop_148 (zb_X7_greatestMillionths_0 8 rfl)
theorem dX7_greatestMillionths_9 : decode cX7_greatestMillionths 9 = .ok (.ifCond .ne 9, 3) := dop_154 (zb_X7_greatestMillionths_0 9 rfl) (zb_X7_greatestMillionths_0 10 rfl) (zb_X7_greatestMillionths_0 11 rfl) rfl
theorem dX7_greatestMillionths_12 : decode cX7_greatestMillionths 12 = .ok (.ldc2_w 40, 3) := dop_20 (zb_X7_greatestMillionths_0 12 rfl) (zb_X7_greatestMillionths_0 13 rfl) (zb_X7_greatestMillionths_0 14 rfl) rfl
theorem dX7_greatestMillionths_15 : decode cX7_greatestMillionths 15 = .ok (.goto 24, 3) := dop_167 (zb_X7_greatestMillionths_0 15 rfl) (zb_X7_greatestMillionths_0 16 rfl) (zb_X7_greatestMillionths_0 17 rfl) rfl
theorem dX7_greatestMillionths_18 : decode cX7_greatestMillionths 18 = .ok (.ldc2_w 27, 3) := dop_20 (zb_X7_greatestMillionths_0 18 rfl) (zb_X7_greatestMillionths_0 19 rfl) (zb_X7_greatestMillionths_0 20 rfl) rfl
theorem dX7_greatestMillionths_21 : decode cX7_greatestMillionths 21 = .ok (.aload_n 0, 1) := dop_42 (zb_X7_greatestMillionths_0 21 rfl)
theorem dX7_greatestMillionths_22 : decode cX7_greatestMillionths 22 = .ok (.getfield 18, 3) := dop_180 (zb_X7_greatestMillionths_0 22 rfl) (zb_X7_greatestMillionths_0 23 rfl) (zb_X7_greatestMillionths_0 24 rfl) rfl
theorem dX7_greatestMillionths_25 : decode cX7_greatestMillionths 25 = .ok (.getfield 33, 3) := dop_180 (zb_X7_greatestMillionths_0 25 rfl) (zb_X7_greatestMillionths_0 26 rfl) (zb_X7_greatestMillionths_0 27 rfl) rfl
theorem dX7_greatestMillionths_28 : decode cX7_greatestMillionths 28 = .ok (.lmul, 1) := dop_105 (zb_X7_greatestMillionths_0 28 rfl)
theorem dX7_greatestMillionths_29 : decode cX7_greatestMillionths 29 = .ok (.aload_n 0, 1) := dop_42 (zb_X7_greatestMillionths_0 29 rfl)
theorem dX7_greatestMillionths_30 : decode cX7_greatestMillionths 30 = .ok (.getfield 18, 3) := dop_180 (zb_X7_greatestMillionths_0 30 rfl) (zb_X7_greatestMillionths_0 31 rfl) (zb_X7_greatestMillionths_0 32 rfl) rfl
theorem dX7_greatestMillionths_33 : decode cX7_greatestMillionths 33 = .ok (.getfield 29, 3) := dop_180 (zb_X7_greatestMillionths_0 33 rfl) (zb_X7_greatestMillionths_0 34 rfl) (zb_X7_greatestMillionths_0 35 rfl) rfl
theorem dX7_greatestMillionths_36 : decode cX7_greatestMillionths 36 = .ok (.invokestatic 36, 3) := dop_184 (zb_X7_greatestMillionths_0 36 rfl) (zb_X7_greatestMillionths_0 37 rfl) (zb_X7_greatestMillionths_0 38 rfl) rfl
theorem dX7_greatestMillionths_39 : decode cX7_greatestMillionths 39 = .ok (.lreturn, 1) := dop_173 (zb_X7_greatestMillionths_0 39 rfl)
def zw_X7_isTheSame_0 : List Nat := [42, 180, 0, 18, 180, 0, 33, 42, 180, 0, 12, 180, 0, 33, 105, 42, 180, 0, 18, 180, 0, 29, 42, 180, 0, 12, 180, 0, 29, 105, 148, 154, 0, 7, 4, 167, 0, 4, 3, 172]
def zt_X7_isTheSame_0 : List Nat := zw_X7_isTheSame_0 ++ []
theorem ze_X7_isTheSame_0 : (dcn cX7_isTheSame).drop 0 = zt_X7_isTheSame_0 := by decide +kernel
theorem zb_X7_isTheSame_0 (j : Nat) {n : Nat} (e : zw_X7_isTheSame_0[j]? = some n) : dby cX7_isTheSame (0 + j) n := dw_b (t := []) ze_X7_isTheSame_0 j e
theorem dX7_isTheSame_0 : decode cX7_isTheSame 0 = .ok (.aload_n 0, 1) := dop_42 (zb_X7_isTheSame_0 0 rfl)
theorem dX7_isTheSame_1 : decode cX7_isTheSame 1 = .ok (.getfield 18, 3) := dop_180 (zb_X7_isTheSame_0 1 rfl) (zb_X7_isTheSame_0 2 rfl) (zb_X7_isTheSame_0 3 rfl) rfl
theorem dX7_isTheSame_4 : decode cX7_isTheSame 4 = .ok (.getfield 33, 3) := dop_180 (zb_X7_isTheSame_0 4 rfl) (zb_X7_isTheSame_0 5 rfl) (zb_X7_isTheSame_0 6 rfl) rfl
theorem dX7_isTheSame_7 : decode cX7_isTheSame 7 = .ok (.aload_n 0, 1) := dop_42 (zb_X7_isTheSame_0 7 rfl)
theorem dX7_isTheSame_8 : decode cX7_isTheSame 8 = .ok (.getfield 12, 3) := dop_180 (zb_X7_isTheSame_0 8 rfl) (zb_X7_isTheSame_0 9 rfl) (zb_X7_isTheSame_0 10 rfl) rfl
theorem dX7_isTheSame_11 : decode cX7_isTheSame 11 = .ok (.getfield 33, 3) := dop_180 (zb_X7_isTheSame_0 11 rfl) (zb_X7_isTheSame_0 12 rfl) (zb_X7_isTheSame_0 13 rfl) rfl
theorem dX7_isTheSame_14 : decode cX7_isTheSame 14 = .ok (.lmul, 1) := dop_105 (zb_X7_isTheSame_0 14 rfl)
theorem dX7_isTheSame_15 : decode cX7_isTheSame 15 = .ok (.aload_n 0, 1) := dop_42 (zb_X7_isTheSame_0 15 rfl)
theorem dX7_isTheSame_16 : decode cX7_isTheSame 16 = .ok (.getfield 18, 3) := dop_180 (zb_X7_isTheSame_0 16 rfl) (zb_X7_isTheSame_0 17 rfl) (zb_X7_isTheSame_0 18 rfl) rfl
theorem dX7_isTheSame_19 : decode cX7_isTheSame 19 = .ok (.getfield 29, 3) := dop_180 (zb_X7_isTheSame_0 19 rfl) (zb_X7_isTheSame_0 20 rfl) (zb_X7_isTheSame_0 21 rfl) rfl
theorem dX7_isTheSame_22 : decode cX7_isTheSame 22 = .ok (.aload_n 0, 1) := dop_42 (zb_X7_isTheSame_0 22 rfl)
theorem dX7_isTheSame_23 : decode cX7_isTheSame 23 = .ok (.getfield 12, 3) := dop_180 (zb_X7_isTheSame_0 23 rfl) (zb_X7_isTheSame_0 24 rfl) (zb_X7_isTheSame_0 25 rfl) rfl
theorem dX7_isTheSame_26 : decode cX7_isTheSame 26 = .ok (.getfield 29, 3) := dop_180 (zb_X7_isTheSame_0 26 rfl) (zb_X7_isTheSame_0 27 rfl) (zb_X7_isTheSame_0 28 rfl) rfl
theorem dX7_isTheSame_29 : decode cX7_isTheSame 29 = .ok (.lmul, 1) := dop_105 (zb_X7_isTheSame_0 29 rfl)
theorem dX7_isTheSame_30 : decode cX7_isTheSame 30 = .ok (.lcmp, 1) := dop_148 (zb_X7_isTheSame_0 30 rfl)
theorem dX7_isTheSame_31 : decode cX7_isTheSame 31 = .ok (.ifCond .ne 7, 3) := dop_154 (zb_X7_isTheSame_0 31 rfl) (zb_X7_isTheSame_0 32 rfl) (zb_X7_isTheSame_0 33 rfl) rfl
theorem dX7_isTheSame_34 : decode cX7_isTheSame 34 = .ok (.iconst 1, 1) := dop_4 (zb_X7_isTheSame_0 34 rfl)
theorem dX7_isTheSame_35 : decode cX7_isTheSame 35 = .ok (.goto 4, 3) := dop_167 (zb_X7_isTheSame_0 35 rfl) (zb_X7_isTheSame_0 36 rfl) (zb_X7_isTheSame_0 37 rfl) rfl
theorem dX7_isTheSame_38 : decode cX7_isTheSame 38 = .ok (.iconst 0, 1) := dop_3 (zb_X7_isTheSame_0 38 rfl)
theorem dX7_isTheSame_39 : decode cX7_isTheSame 39 = .ok (.ireturn, 1) := dop_172 (zb_X7_isTheSame_0 39 rfl)
def zw_X7_isAlways_1 : List Nat := [4, 167, 0, 4, 3, 172]
def zt_X7_isAlways_1 : List Nat := zw_X7_isAlways_1 ++ []
def zw_X7_isAlways_0 : List Nat := [42, 180, 0, 18, 180, 0, 33, 31, 42, 180, 0, 18, 180, 0, 29, 105, 148, 154, 0, 27, 42, 180, 0, 12, 180, 0, 29, 31, 42, 180, 0, 12, 180, 0, 33, 105, 148, 154, 0, 7]
def zt_X7_isAlways_0 : List Nat := zw_X7_isAlways_0 ++ zt_X7_isAlways_1
theorem ze_X7_isAlways_0 : (dcn cX7_isAlways).drop 0 = zt_X7_isAlways_0 := by decide +kernel
theorem ze_X7_isAlways_1 : (dcn cX7_isAlways).drop 40 = zt_X7_isAlways_1 := dw_n (wl := zw_X7_isAlways_0) ze_X7_isAlways_0 rfl
theorem zb_X7_isAlways_0 (j : Nat) {n : Nat} (e : zw_X7_isAlways_0[j]? = some n) : dby cX7_isAlways (0 + j) n := dw_b (t := zt_X7_isAlways_1) ze_X7_isAlways_0 j e
theorem dX7_isAlways_0 : decode cX7_isAlways 0 = .ok (.aload_n 0, 1) := dop_42 (zb_X7_isAlways_0 0 rfl)
theorem dX7_isAlways_1 : decode cX7_isAlways 1 = .ok (.getfield 18, 3) := dop_180 (zb_X7_isAlways_0 1 rfl) (zb_X7_isAlways_0 2 rfl) (zb_X7_isAlways_0 3 rfl) rfl
theorem dX7_isAlways_4 : decode cX7_isAlways 4 = .ok (.getfield 33, 3) := dop_180 (zb_X7_isAlways_0 4 rfl) (zb_X7_isAlways_0 5 rfl) (zb_X7_isAlways_0 6 rfl) rfl
theorem dX7_isAlways_7 : decode cX7_isAlways 7 = .ok (.lload_n 1, 1) := dop_31 (zb_X7_isAlways_0 7 rfl)
theorem dX7_isAlways_8 : decode cX7_isAlways 8 = .ok (.aload_n 0, 1) := dop_42 (zb_X7_isAlways_0 8 rfl)
theorem dX7_isAlways_9 : decode cX7_isAlways 9 = .ok (.getfield 18, 3) := dop_180 (zb_X7_isAlways_0 9 rfl) (zb_X7_isAlways_0 10 rfl) (zb_X7_isAlways_0 11 rfl) rfl
theorem dX7_isAlways_12 : decode cX7_isAlways 12 = .ok (.getfield 29, 3) := dop_180 (zb_X7_isAlways_0 12 rfl) (zb_X7_isAlways_0 13 rfl) (zb_X7_isAlways_0 14 rfl) rfl
theorem dX7_isAlways_15 : decode cX7_isAlways 15 = .ok (.lmul, 1) := dop_105 (zb_X7_isAlways_0 15 rfl)
theorem dX7_isAlways_16 : decode cX7_isAlways 16 = .ok (.lcmp, 1) := dop_148 (zb_X7_isAlways_0 16 rfl)
theorem dX7_isAlways_17 : decode cX7_isAlways 17 = .ok (.ifCond .ne 27, 3) := dop_154 (zb_X7_isAlways_0 17 rfl) (zb_X7_isAlways_0 18 rfl) (zb_X7_isAlways_0 19 rfl) rfl
theorem dX7_isAlways_20 : decode cX7_isAlways 20 = .ok (.aload_n 0, 1) := dop_42 (zb_X7_isAlways_0 20 rfl)
theorem dX7_isAlways_21 : decode cX7_isAlways 21 = .ok (.getfield 12, 3) := dop_180 (zb_X7_isAlways_0 21 rfl) (zb_X7_isAlways_0 22 rfl) (zb_X7_isAlways_0 23 rfl) rfl
theorem dX7_isAlways_24 : decode cX7_isAlways 24 = .ok (.getfield 29, 3) := dop_180 (zb_X7_isAlways_0 24 rfl) (zb_X7_isAlways_0 25 rfl) (zb_X7_isAlways_0 26 rfl) rfl
theorem dX7_isAlways_27 : decode cX7_isAlways 27 = .ok (.lload_n 1, 1) := dop_31 (zb_X7_isAlways_0 27 rfl)
theorem dX7_isAlways_28 : decode cX7_isAlways 28 = .ok (.aload_n 0, 1) := dop_42 (zb_X7_isAlways_0 28 rfl)
theorem dX7_isAlways_29 : decode cX7_isAlways 29 = .ok (.getfield 12, 3) := dop_180 (zb_X7_isAlways_0 29 rfl) (zb_X7_isAlways_0 30 rfl) (zb_X7_isAlways_0 31 rfl) rfl
theorem dX7_isAlways_32 : decode cX7_isAlways 32 = .ok (.getfield 33, 3) := dop_180 (zb_X7_isAlways_0 32 rfl) (zb_X7_isAlways_0 33 rfl) (zb_X7_isAlways_0 34 rfl) rfl
theorem dX7_isAlways_35 : decode cX7_isAlways 35 = .ok (.lmul, 1) := dop_105 (zb_X7_isAlways_0 35 rfl)
theorem dX7_isAlways_36 : decode cX7_isAlways 36 = .ok (.lcmp, 1) := dop_148 (zb_X7_isAlways_0 36 rfl)
theorem dX7_isAlways_37 : decode cX7_isAlways 37 = .ok (.ifCond .ne 7, 3) := dop_154 (zb_X7_isAlways_0 37 rfl) (zb_X7_isAlways_0 38 rfl) (zb_X7_isAlways_0 39 rfl) rfl
theorem zb_X7_isAlways_1 (j : Nat) {n : Nat} (e : zw_X7_isAlways_1[j]? = some n) : dby cX7_isAlways (40 + j) n := dw_b (t := []) ze_X7_isAlways_1 j e
theorem dX7_isAlways_40 : decode cX7_isAlways 40 = .ok (.iconst 1, 1) := dop_4 (zb_X7_isAlways_1 0 rfl)
theorem dX7_isAlways_41 : decode cX7_isAlways 41 = .ok (.goto 4, 3) := dop_167 (zb_X7_isAlways_1 1 rfl) (zb_X7_isAlways_1 2 rfl) (zb_X7_isAlways_1 3 rfl) rfl
theorem dX7_isAlways_44 : decode cX7_isAlways 44 = .ok (.iconst 0, 1) := dop_3 (zb_X7_isAlways_1 4 rfl)
theorem dX7_isAlways_45 : decode cX7_isAlways 45 = .ok (.ireturn, 1) := dop_172 (zb_X7_isAlways_1 5 rfl)
def zw_X7_leastNumber_2 : List Nat := [180, 0, 29, 148, 153, 0, 7, 4, 167, 0, 4, 3, 54, 4, 27, 154, 0, 14, 21, 4, 153, 0, 9, 32, 10, 97, 167, 0, 4, 32, 173]
def zt_X7_leastNumber_2 : List Nat := zw_X7_leastNumber_2 ++ []
def zw_X7_leastNumber_1 : List Nat := [180, 0, 12, 180, 0, 29, 42, 180, 0, 12, 180, 0, 33, 184, 0, 36, 65, 42, 180, 0, 12, 180, 0, 44, 154, 0, 23, 32, 42, 180, 0, 12, 180, 0, 33, 105, 42, 180, 0, 12]
def zt_X7_leastNumber_1 : List Nat := zw_X7_leastNumber_1 ++ zt_X7_leastNumber_2
def zw_X7_leastNumber_0 : List Nat := [27, 5, 160, 0, 37, 20, 0, 42, 42, 180, 0, 12, 180, 0, 29, 105, 42, 180, 0, 12, 180, 0, 33, 97, 20, 0, 42, 42, 180, 0, 12, 180, 0, 33, 105, 184, 0, 36, 173, 42]
def zt_X7_leastNumber_0 : List Nat := zw_X7_leastNumber_0 ++ zt_X7_leastNumber_1
theorem ze_X7_leastNumber_0 : (dcn cX7_leastNumber).drop 0 = zt_X7_leastNumber_0 := by decide +kernel
theorem ze_X7_leastNumber_1 : (dcn cX7_leastNumber).drop 40 = zt_X7_leastNumber_1 := dw_n (wl := zw_X7_leastNumber_0) ze_X7_leastNumber_0 rfl
theorem zb_X7_leastNumber_0 (j : Nat) {n : Nat} (e : zw_X7_leastNumber_0[j]? = some n) : dby cX7_leastNumber (0 + j) n := dw_b (t := zt_X7_leastNumber_1) ze_X7_leastNumber_0 j e
theorem dX7_leastNumber_0 : decode cX7_leastNumber 0 = .ok (.iload_n 1, 1) := dop_27 (zb_X7_leastNumber_0 0 rfl)
theorem dX7_leastNumber_1 : decode cX7_leastNumber 1 = .ok (.iconst 2, 1) := dop_5 (zb_X7_leastNumber_0 1 rfl)
theorem dX7_leastNumber_2 : decode cX7_leastNumber 2 = .ok (.if_icmp .ne 37, 3) := dop_160 (zb_X7_leastNumber_0 2 rfl) (zb_X7_leastNumber_0 3 rfl) (zb_X7_leastNumber_0 4 rfl) rfl
theorem dX7_leastNumber_5 : decode cX7_leastNumber 5 = .ok (.ldc2_w 42, 3) := dop_20 (zb_X7_leastNumber_0 5 rfl) (zb_X7_leastNumber_0 6 rfl) (zb_X7_leastNumber_0 7 rfl) rfl
theorem dX7_leastNumber_8 : decode cX7_leastNumber 8 = .ok (.aload_n 0, 1) := dop_42 (zb_X7_leastNumber_0 8 rfl)
theorem dX7_leastNumber_9 : decode cX7_leastNumber 9 = .ok (.getfield 12, 3) := dop_180 (zb_X7_leastNumber_0 9 rfl) (zb_X7_leastNumber_0 10 rfl) (zb_X7_leastNumber_0 11 rfl) rfl
theorem dX7_leastNumber_12 : decode cX7_leastNumber 12 = .ok (.getfield 29, 3) := dop_180 (zb_X7_leastNumber_0 12 rfl) (zb_X7_leastNumber_0 13 rfl) (zb_X7_leastNumber_0 14 rfl) rfl
theorem dX7_leastNumber_15 : decode cX7_leastNumber 15 = .ok (.lmul, 1) := dop_105 (zb_X7_leastNumber_0 15 rfl)
theorem dX7_leastNumber_16 : decode cX7_leastNumber 16 = .ok (.aload_n 0, 1) := dop_42 (zb_X7_leastNumber_0 16 rfl)
theorem dX7_leastNumber_17 : decode cX7_leastNumber 17 = .ok (.getfield 12, 3) := dop_180 (zb_X7_leastNumber_0 17 rfl) (zb_X7_leastNumber_0 18 rfl) (zb_X7_leastNumber_0 19 rfl) rfl
theorem dX7_leastNumber_20 : decode cX7_leastNumber 20 = .ok (.getfield 33, 3) := dop_180 (zb_X7_leastNumber_0 20 rfl) (zb_X7_leastNumber_0 21 rfl) (zb_X7_leastNumber_0 22 rfl) rfl
theorem dX7_leastNumber_23 : decode cX7_leastNumber 23 = .ok (.ladd, 1) := dop_97 (zb_X7_leastNumber_0 23 rfl)
theorem dX7_leastNumber_24 : decode cX7_leastNumber 24 = .ok (.ldc2_w 42, 3) := dop_20 (zb_X7_leastNumber_0 24 rfl) (zb_X7_leastNumber_0 25 rfl) (zb_X7_leastNumber_0 26 rfl) rfl
theorem dX7_leastNumber_27 : decode cX7_leastNumber 27 = .ok (.aload_n 0, 1) := dop_42 (zb_X7_leastNumber_0 27 rfl)
theorem dX7_leastNumber_28 : decode cX7_leastNumber 28 = .ok (.getfield 12, 3) := dop_180 (zb_X7_leastNumber_0 28 rfl) (zb_X7_leastNumber_0 29 rfl) (zb_X7_leastNumber_0 30 rfl) rfl
theorem dX7_leastNumber_31 : decode cX7_leastNumber 31 = .ok (.getfield 33, 3) := dop_180 (zb_X7_leastNumber_0 31 rfl) (zb_X7_leastNumber_0 32 rfl) (zb_X7_leastNumber_0 33 rfl) rfl
theorem dX7_leastNumber_34 : decode cX7_leastNumber 34 = .ok (.lmul, 1) := dop_105 (zb_X7_leastNumber_0 34 rfl)
theorem dX7_leastNumber_35 : decode cX7_leastNumber 35 = .ok (.invokestatic 36, 3) := dop_184 (zb_X7_leastNumber_0 35 rfl) (zb_X7_leastNumber_0 36 rfl) (zb_X7_leastNumber_0 37 rfl) rfl
theorem dX7_leastNumber_38 : decode cX7_leastNumber 38 = .ok (.lreturn, 1) := dop_173 (zb_X7_leastNumber_0 38 rfl)
theorem dX7_leastNumber_39 : decode cX7_leastNumber 39 = .ok (.aload_n 0, 1) := dop_42 (zb_X7_leastNumber_0 39 rfl)
theorem ze_X7_leastNumber_2 : (dcn cX7_leastNumber).drop 80 = zt_X7_leastNumber_2 := dw_n (wl := zw_X7_leastNumber_1) ze_X7_leastNumber_1 rfl
theorem zb_X7_leastNumber_1 (j : Nat) {n : Nat} (e : zw_X7_leastNumber_1[j]? = some n) : dby cX7_leastNumber (40 + j) n := dw_b (t := zt_X7_leastNumber_2) ze_X7_leastNumber_1 j e
theorem dX7_leastNumber_40 : decode cX7_leastNumber 40 = .ok (.getfield 12, 3) := dop_180 (zb_X7_leastNumber_1 0 rfl) (zb_X7_leastNumber_1 1 rfl) (zb_X7_leastNumber_1 2 rfl) rfl
theorem dX7_leastNumber_43 : decode cX7_leastNumber 43 = .ok (.getfield 29, 3) := dop_180 (zb_X7_leastNumber_1 3 rfl) (zb_X7_leastNumber_1 4 rfl) (zb_X7_leastNumber_1 5 rfl) rfl
theorem dX7_leastNumber_46 : decode cX7_leastNumber 46 = .ok (.aload_n 0, 1) := dop_42 (zb_X7_leastNumber_1 6 rfl)
theorem dX7_leastNumber_47 : decode cX7_leastNumber 47 = .ok (.getfield 12, 3) := dop_180 (zb_X7_leastNumber_1 7 rfl) (zb_X7_leastNumber_1 8 rfl) (zb_X7_leastNumber_1 9 rfl) rfl
theorem dX7_leastNumber_50 : decode cX7_leastNumber 50 = .ok (.getfield 33, 3) := dop_180 (zb_X7_leastNumber_1 10 rfl) (zb_X7_leastNumber_1 11 rfl) (zb_X7_leastNumber_1 12 rfl) rfl
theorem dX7_leastNumber_53 : decode cX7_leastNumber 53 = .ok (.invokestatic 36, 3) := dop_184 (zb_X7_leastNumber_1 13 rfl) (zb_X7_leastNumber_1 14 rfl) (zb_X7_leastNumber_1 15 rfl) rfl
theorem dX7_leastNumber_56 : decode cX7_leastNumber 56 = .ok (.lstore_n 2, 1) := dop_65 (zb_X7_leastNumber_1 16 rfl)
theorem dX7_leastNumber_57 : decode cX7_leastNumber 57 = .ok (.aload_n 0, 1) := dop_42 (zb_X7_leastNumber_1 17 rfl)
theorem dX7_leastNumber_58 : decode cX7_leastNumber 58 = .ok (.getfield 12, 3) := dop_180 (zb_X7_leastNumber_1 18 rfl) (zb_X7_leastNumber_1 19 rfl) (zb_X7_leastNumber_1 20 rfl) rfl
theorem dX7_leastNumber_61 : decode cX7_leastNumber 61 = .ok (.getfield 44, 3) := dop_180 (zb_X7_leastNumber_1 21 rfl) (zb_X7_leastNumber_1 22 rfl) (zb_X7_leastNumber_1 23 rfl) rfl
theorem dX7_leastNumber_64 : decode cX7_leastNumber 64 = .ok (.ifCond .ne 23, 3) := dop_154 (zb_X7_leastNumber_1 24 rfl) (zb_X7_leastNumber_1 25 rfl) (zb_X7_leastNumber_1 26 rfl) rfl
theorem dX7_leastNumber_67 : decode cX7_leastNumber 67 = .ok (.lload_n 2, 1) := dop_32 (zb_X7_leastNumber_1 27 rfl)
theorem dX7_leastNumber_68 : decode cX7_leastNumber 68 = .ok (.aload_n 0, 1) := dop_42 (zb_X7_leastNumber_1 28 rfl)
theorem dX7_leastNumber_69 : decode cX7_leastNumber 69 = .ok (.getfield 12, 3) := dop_180 (zb_X7_leastNumber_1 29 rfl) (zb_X7_leastNumber_1 30 rfl) (zb_X7_leastNumber_1 31 rfl) rfl
theorem dX7_leastNumber_72 : decode cX7_leastNumber 72 = .ok (.getfield 33, 3) := dop_180 (zb_X7_leastNumber_1 32 rfl) (zb_X7_leastNumber_1 33 rfl) (zb_X7_leastNumber_1 34 rfl) rfl
theorem dX7_leastNumber_75 : decode cX7_leastNumber 75 = .ok (.lmul, 1) := dop_105 (zb_X7_leastNumber_1 35 rfl)
theorem dX7_leastNumber_76 : decode cX7_leastNumber 76 = .ok (.aload_n 0, 1) := dop_42 (zb_X7_leastNumber_1 36 rfl)
theorem dX7_leastNumber_77 : decode cX7_leastNumber 77 = .ok (.getfield 12, 3) := dop_180 (zb_X7_leastNumber_1 37 rfl) (zb_X7_leastNumber_1 38 rfl) (zb_X7_leastNumber_1 39 rfl) rfl
theorem zb_X7_leastNumber_2 (j : Nat) {n : Nat} (e : zw_X7_leastNumber_2[j]? = some n) : dby cX7_leastNumber (80 + j) n := dw_b (t := []) ze_X7_leastNumber_2 j e
theorem dX7_leastNumber_80 : decode cX7_leastNumber 80 = .ok (.getfield 29, 3) := dop_180 (zb_X7_leastNumber_2 0 rfl) (zb_X7_leastNumber_2 1 rfl) (zb_X7_leastNumber_2 2 rfl) rfl
theorem dX7_leastNumber_83 : decode cX7_leastNumber 83 = .ok (.lcmp, 1) := dop_148 (zb_X7_leastNumber_2 3 rfl)
theorem dX7_leastNumber_84 : decode cX7_leastNumber 84 = .ok (.ifCond .eq 7, 3) := dop_153 (zb_X7_leastNumber_2 4 rfl) (zb_X7_leastNumber_2 5 rfl) (zb_X7_leastNumber_2 6 rfl) rfl
theorem dX7_leastNumber_87 : decode cX7_leastNumber 87 = .ok (.iconst 1, 1) := dop_4 (zb_X7_leastNumber_2 7 rfl)
theorem dX7_leastNumber_88 : decode cX7_leastNumber 88 = .ok (.goto 4, 3) := dop_167 (zb_X7_leastNumber_2 8 rfl) (zb_X7_leastNumber_2 9 rfl) (zb_X7_leastNumber_2 10 rfl) rfl
theorem dX7_leastNumber_91 : decode cX7_leastNumber 91 = .ok (.iconst 0, 1) := dop_3 (zb_X7_leastNumber_2 11 rfl)
theorem dX7_leastNumber_92 : decode cX7_leastNumber 92 = .ok (.istore 4, 2) := dop_54 (zb_X7_leastNumber_2 12 rfl) (zb_X7_leastNumber_2 13 rfl)
theorem dX7_leastNumber_94 : decode cX7_leastNumber 94 = .ok (.iload_n 1, 1) := dop_27 (zb_X7_leastNumber_2 14 rfl)
theorem dX7_leastNumber_95 : decode cX7_leastNumber 95 = .ok (.ifCond .ne 14, 3) := dop_154 (zb_X7_leastNumber_2 15 rfl) (zb_X7_leastNumber_2 16 rfl) (zb_X7_leastNumber_2 17 rfl) rfl
theorem dX7_leastNumber_98 : decode cX7_leastNumber 98 = .ok (.iload 4, 2) := dop_21 (zb_X7_leastNumber_2 18 rfl) (zb_X7_leastNumber_2 19 rfl)
theorem dX7_leastNumber_100 : decode cX7_leastNumber 100 = .ok (.ifCond .eq 9, 3) := dop_153 (zb_X7_leastNumber_2 20 rfl) (zb_X7_leastNumber_2 21 rfl) (zb_X7_leastNumber_2 22 rfl) rfl
theorem dX7_leastNumber_103 : decode cX7_leastNumber 103 = .ok (.lload_n 2, 1) := dop_32 (zb_X7_leastNumber_2 23 rfl)
theorem dX7_leastNumber_104 : decode cX7_leastNumber 104 = .ok (.lconst 1, 1) := dop_10 (zb_X7_leastNumber_2 24 rfl)
theorem dX7_leastNumber_105 : decode cX7_leastNumber 105 = .ok (.ladd, 1) := dop_97 (zb_X7_leastNumber_2 25 rfl)
theorem dX7_leastNumber_106 : decode cX7_leastNumber 106 = .ok (.goto 4, 3) := dop_167 (zb_X7_leastNumber_2 26 rfl) (zb_X7_leastNumber_2 27 rfl) (zb_X7_leastNumber_2 28 rfl) rfl
theorem dX7_leastNumber_109 : decode cX7_leastNumber 109 = .ok (.lload_n 2, 1) := dop_32 (zb_X7_leastNumber_2 29 rfl)
theorem dX7_leastNumber_110 : decode cX7_leastNumber 110 = .ok (.lreturn, 1) := dop_173 (zb_X7_leastNumber_2 30 rfl)
def zw_X7_greatestNumber_2 : List Nat := [22, 4, 184, 0, 36, 55, 6, 42, 180, 0, 18, 180, 0, 44, 153, 0, 20, 22, 6, 22, 4, 105, 32, 148, 154, 0, 10, 22, 6, 10, 101, 167, 0, 5, 22, 6, 173]
def zt_X7_greatestNumber_2 : List Nat := zw_X7_greatestNumber_2 ++ []
def zw_X7_greatestNumber_1 : List Nat := [167, 0, 10, 42, 180, 0, 18, 180, 0, 33, 65, 27, 5, 160, 0, 17, 20, 0, 42, 42, 180, 0, 18, 180, 0, 29, 105, 167, 0, 10, 42, 180, 0, 18, 180, 0, 29, 55, 4, 32]
def zt_X7_greatestNumber_1 : List Nat := zw_X7_greatestNumber_1 ++ zt_X7_greatestNumber_2
def zw_X7_greatestNumber_0 : List Nat := [42, 180, 0, 18, 180, 0, 29, 9, 148, 154, 0, 7, 20, 0, 40, 173, 27, 5, 160, 0, 25, 20, 0, 42, 42, 180, 0, 18, 180, 0, 33, 105, 42, 180, 0, 18, 180, 0, 29, 97]
def zt_X7_greatestNumber_0 : List Nat := zw_X7_greatestNumber_0 ++ zt_X7_greatestNumber_1
theorem ze_X7_greatestNumber_0 : (dcn cX7_greatestNumber).drop 0 = zt_X7_greatestNumber_0 := by decide +kernel
theorem ze_X7_greatestNumber_1 : (dcn cX7_greatestNumber).drop 40 = zt_X7_greatestNumber_1 := dw_n (wl := zw_X7_greatestNumber_0) ze_X7_greatestNumber_0 rfl
theorem zb_X7_greatestNumber_0 (j : Nat) {n : Nat} (e : zw_X7_greatestNumber_0[j]? = some n) : dby cX7_greatestNumber (0 + j) n := dw_b (t := zt_X7_greatestNumber_1) ze_X7_greatestNumber_0 j e
theorem dX7_greatestNumber_0 : decode cX7_greatestNumber 0 = .ok (.aload_n 0, 1) := dop_42 (zb_X7_greatestNumber_0 0 rfl)
theorem dX7_greatestNumber_1 : decode cX7_greatestNumber 1 = .ok (.getfield 18, 3) := dop_180 (zb_X7_greatestNumber_0 1 rfl) (zb_X7_greatestNumber_0 2 rfl) (zb_X7_greatestNumber_0 3 rfl) rfl
theorem dX7_greatestNumber_4 : decode cX7_greatestNumber 4 = .ok (.getfield 29, 3) := dop_180 (zb_X7_greatestNumber_0 4 rfl) (zb_X7_greatestNumber_0 5 rfl) (zb_X7_greatestNumber_0 6 rfl) rfl
theorem dX7_greatestNumber_7 : decode cX7_greatestNumber 7 = .ok (.lconst 0, 1) := dop_9 (zb_X7_greatestNumber_0 7 rfl)
theorem dX7_greatestNumber_8 : decode cX7_greatestNumber 8 = .ok (.lcmp, 1) := dop_148 (zb_X7_greatestNumber_0 8 rfl)
theorem dX7_greatestNumber_9 : decode cX7_greatestNumber 9 = .ok (.ifCond .ne 7, 3) := dop_154 (zb_X7_greatestNumber_0 9 rfl) (zb_X7_greatestNumber_0 10 rfl) (zb_X7_greatestNumber_0 11 rfl) rfl
theorem dX7_greatestNumber_12 : decode cX7_greatestNumber 12 = .ok (.ldc2_w 40, 3) := dop_20 (zb_X7_greatestNumber_0 12 rfl) (zb_X7_greatestNumber_0 13 rfl) (zb_X7_greatestNumber_0 14 rfl) rfl
theorem dX7_greatestNumber_15 : decode cX7_greatestNumber 15 = .ok (.lreturn, 1) := dop_173 (zb_X7_greatestNumber_0 15 rfl)
theorem dX7_greatestNumber_16 : decode cX7_greatestNumber 16 = .ok (.iload_n 1, 1) := dop_27 (zb_X7_greatestNumber_0 16 rfl)
theorem dX7_greatestNumber_17 : decode cX7_greatestNumber 17 = .ok (.iconst 2, 1) := dop_5 (zb_X7_greatestNumber_0 17 rfl)
theorem dX7_greatestNumber_18 : decode cX7_greatestNumber 18 = .ok (.if_icmp .ne 25, 3) := dop_160 (zb_X7_greatestNumber_0 18 rfl) (zb_X7_greatestNumber_0 19 rfl) (zb_X7_greatestNumber_0 20 rfl) rfl
theorem dX7_greatestNumber_21 : decode cX7_greatestNumber 21 = .ok (.ldc2_w 42, 3) := dop_20 (zb_X7_greatestNumber_0 21 rfl) (zb_X7_greatestNumber_0 22 rfl) (zb_X7_greatestNumber_0 23 rfl) rfl
theorem dX7_greatestNumber_24 : decode cX7_greatestNumber 24 = .ok (.aload_n 0, 1) := dop_42 (zb_X7_greatestNumber_0 24 rfl)
theorem dX7_greatestNumber_25 : decode cX7_greatestNumber 25 = .ok (.getfield 18, 3) := dop_180 (zb_X7_greatestNumber_0 25 rfl) (zb_X7_greatestNumber_0 26 rfl) (zb_X7_greatestNumber_0 27 rfl) rfl
theorem dX7_greatestNumber_28 : decode cX7_greatestNumber 28 = .ok (.getfield 33, 3) := dop_180 (zb_X7_greatestNumber_0 28 rfl) (zb_X7_greatestNumber_0 29 rfl) (zb_X7_greatestNumber_0 30 rfl) rfl
theorem dX7_greatestNumber_31 : decode cX7_greatestNumber 31 = .ok (.lmul, 1) := dop_105 (zb_X7_greatestNumber_0 31 rfl)
theorem dX7_greatestNumber_32 : decode cX7_greatestNumber 32 = .ok (.aload_n 0, 1) := dop_42 (zb_X7_greatestNumber_0 32 rfl)
theorem dX7_greatestNumber_33 : decode cX7_greatestNumber 33 = .ok (.getfield 18, 3) := dop_180 (zb_X7_greatestNumber_0 33 rfl) (zb_X7_greatestNumber_0 34 rfl) (zb_X7_greatestNumber_0 35 rfl) rfl
theorem dX7_greatestNumber_36 : decode cX7_greatestNumber 36 = .ok (.getfield 29, 3) := dop_180 (zb_X7_greatestNumber_0 36 rfl) (zb_X7_greatestNumber_0 37 rfl) (zb_X7_greatestNumber_0 38 rfl) rfl
theorem dX7_greatestNumber_39 : decode cX7_greatestNumber 39 = .ok (.ladd, 1) := dop_97 (zb_X7_greatestNumber_0 39 rfl)
theorem ze_X7_greatestNumber_2 : (dcn cX7_greatestNumber).drop 80 = zt_X7_greatestNumber_2 := dw_n (wl := zw_X7_greatestNumber_1) ze_X7_greatestNumber_1 rfl
theorem zb_X7_greatestNumber_1 (j : Nat) {n : Nat} (e : zw_X7_greatestNumber_1[j]? = some n) : dby cX7_greatestNumber (40 + j) n := dw_b (t := zt_X7_greatestNumber_2) ze_X7_greatestNumber_1 j e
theorem dX7_greatestNumber_40 : decode cX7_greatestNumber 40 = .ok (.goto 10, 3) := dop_167 (zb_X7_greatestNumber_1 0 rfl) (zb_X7_greatestNumber_1 1 rfl) (zb_X7_greatestNumber_1 2 rfl) rfl
theorem dX7_greatestNumber_43 : decode cX7_greatestNumber 43 = .ok (.aload_n 0, 1) := dop_42 (zb_X7_greatestNumber_1 3 rfl)
theorem dX7_greatestNumber_44 : decode cX7_greatestNumber 44 = .ok (.getfield 18, 3) := dop_180 (zb_X7_greatestNumber_1 4 rfl) (zb_X7_greatestNumber_1 5 rfl) (zb_X7_greatestNumber_1 6 rfl) rfl
theorem dX7_greatestNumber_47 : decode cX7_greatestNumber 47 = .ok (.getfield 33, 3) := dop_180 (zb_X7_greatestNumber_1 7 rfl) (zb_X7_greatestNumber_1 8 rfl) (zb_X7_greatestNumber_1 9 rfl) rfl
theorem dX7_greatestNumber_50 : decode cX7_greatestNumber 50 = .ok (.lstore_n 2, 1) := dop_65 (zb_X7_greatestNumber_1 10 rfl)
theorem dX7_greatestNumber_51 : decode cX7_greatestNumber 51 = .ok (.iload_n 1, 1) := dop_27 (zb_X7_greatestNumber_1 11 rfl)
theorem dX7_greatestNumber_52 : decode cX7_greatestNumber 52 = .ok (.iconst 2, 1) := dop_5 (zb_X7_greatestNumber_1 12 rfl)
theorem dX7_greatestNumber_53 : decode cX7_greatestNumber 53 = .ok (.if_icmp .ne 17, 3) := dop_160 (zb_X7_greatestNumber_1 13 rfl) (zb_X7_greatestNumber_1 14 rfl) (zb_X7_greatestNumber_1 15 rfl) rfl
theorem dX7_greatestNumber_56 : decode cX7_greatestNumber 56 = .ok (.ldc2_w 42, 3) := dop_20 (zb_X7_greatestNumber_1 16 rfl) (zb_X7_greatestNumber_1 17 rfl) (zb_X7_greatestNumber_1 18 rfl) rfl
theorem dX7_greatestNumber_59 : decode cX7_greatestNumber 59 = .ok (.aload_n 0, 1) := dop_42 (zb_X7_greatestNumber_1 19 rfl)
theorem dX7_greatestNumber_60 : decode cX7_greatestNumber 60 = .ok (.getfield 18, 3) := dop_180 (zb_X7_greatestNumber_1 20 rfl) (zb_X7_greatestNumber_1 21 rfl) (zb_X7_greatestNumber_1 22 rfl) rfl
theorem dX7_greatestNumber_63 : decode cX7_greatestNumber 63 = .ok (.getfield 29, 3) := dop_180 (zb_X7_greatestNumber_1 23 rfl) (zb_X7_greatestNumber_1 24 rfl) (zb_X7_greatestNumber_1 25 rfl) rfl
theorem dX7_greatestNumber_66 : decode cX7_greatestNumber 66 = .ok (.lmul, 1) := dop_105 (zb_X7_greatestNumber_1 26 rfl)
theorem dX7_greatestNumber_67 : decode cX7_greatestNumber 67 = .ok (.goto 10, 3) := dop_167 (zb_X7_greatestNumber_1 27 rfl) (zb_X7_greatestNumber_1 28 rfl) (zb_X7_greatestNumber_1 29 rfl) rfl
theorem dX7_greatestNumber_70 : decode cX7_greatestNumber 70 = .ok (.aload_n 0, 1) := dop_42 (zb_X7_greatestNumber_1 30 rfl)
theorem dX7_greatestNumber_71 : decode cX7_greatestNumber 71 = .ok (.getfield 18, 3) := dop_180 (zb_X7_greatestNumber_1 31 rfl) (zb_X7_greatestNumber_1 32 rfl) (zb_X7_greatestNumber_1 33 rfl) rfl
theorem dX7_greatestNumber_74 : decode cX7_greatestNumber 74 = .ok (.getfield 29, 3) := dop_180 (zb_X7_greatestNumber_1 34 rfl) (zb_X7_greatestNumber_1 35 rfl) (zb_X7_greatestNumber_1 36 rfl) rfl
theorem dX7_greatestNumber_77 : decode cX7_greatestNumber 77 = .ok (.lstore 4, 2) := dop_55 (zb_X7_greatestNumber_1 37 rfl) (zb_X7_greatestNumber_1 38 rfl)
theorem dX7_greatestNumber_79 : decode cX7_greatestNumber 79 = .ok (.lload_n 2, 1) := dop_32 (zb_X7_greatestNumber_1 39 rfl)
theorem zb_X7_greatestNumber_2 (j : Nat) {n : Nat} (e : zw_X7_greatestNumber_2[j]? = some n) : dby cX7_greatestNumber (80 + j) n := dw_b (t := []) ze_X7_greatestNumber_2 j e
theorem dX7_greatestNumber_80 : decode cX7_greatestNumber 80 = .ok (.lload 4, 2) := dop_22 (zb_X7_greatestNumber_2 0 rfl) (zb_X7_greatestNumber_2 1 rfl)
theorem dX7_greatestNumber_82 : decode cX7_greatestNumber 82 = .ok (.invokestatic 36, 3) := dop_184 (zb_X7_greatestNumber_2 2 rfl) (zb_X7_greatestNumber_2 3 rfl) (zb_X7_greatestNumber_2 4 rfl) rfl
theorem dX7_greatestNumber_85 : decode cX7_greatestNumber 85 = .ok (.lstore 6, 2) := dop_55 (zb_X7_greatestNumber_2 5 rfl) (zb_X7_greatestNumber_2 6 rfl)
theorem dX7_greatestNumber_87 : decode cX7_greatestNumber 87 = .ok (.aload_n 0, 1) := dop_42 (zb_X7_greatestNumber_2 7 rfl)
theorem dX7_greatestNumber_88 : decode cX7_greatestNumber 88 = .ok (.getfield 18, 3) := dop_180 (zb_X7_greatestNumber_2 8 rfl) (zb_X7_greatestNumber_2 9 rfl) (zb_X7_greatestNumber_2 10 rfl) rfl
theorem dX7_greatestNumber_91 : decode cX7_greatestNumber 91 = .ok (.getfield 44, 3) := dop_180 (zb_X7_greatestNumber_2 11 rfl) (zb_X7_greatestNumber_2 12 rfl) (zb_X7_greatestNumber_2 13 rfl) rfl
theorem dX7_greatestNumber_94 : decode cX7_greatestNumber 94 = .ok (.ifCond .eq 20, 3) := dop_153 (zb_X7_greatestNumber_2 14 rfl) (zb_X7_greatestNumber_2 15 rfl) (zb_X7_greatestNumber_2 16 rfl) rfl
theorem dX7_greatestNumber_97 : decode cX7_greatestNumber 97 = .ok (.lload 6, 2) := dop_22 (zb_X7_greatestNumber_2 17 rfl) (zb_X7_greatestNumber_2 18 rfl)
theorem dX7_greatestNumber_99 : decode cX7_greatestNumber 99 = .ok (.lload 4, 2) := dop_22 (zb_X7_greatestNumber_2 19 rfl) (zb_X7_greatestNumber_2 20 rfl)
theorem dX7_greatestNumber_101 : decode cX7_greatestNumber 101 = .ok (.lmul, 1) := dop_105 (zb_X7_greatestNumber_2 21 rfl)
theorem dX7_greatestNumber_102 : decode cX7_greatestNumber 102 = .ok (.lload_n 2, 1) := dop_32 (zb_X7_greatestNumber_2 22 rfl)
theorem dX7_greatestNumber_103 : decode cX7_greatestNumber 103 = .ok (.lcmp, 1) := dop_148 (zb_X7_greatestNumber_2 23 rfl)
theorem dX7_greatestNumber_104 : decode cX7_greatestNumber 104 = .ok (.ifCond .ne 10, 3) := dop_154 (zb_X7_greatestNumber_2 24 rfl) (zb_X7_greatestNumber_2 25 rfl) (zb_X7_greatestNumber_2 26 rfl) rfl
theorem dX7_greatestNumber_107 : decode cX7_greatestNumber 107 = .ok (.lload 6, 2) := dop_22 (zb_X7_greatestNumber_2 27 rfl) (zb_X7_greatestNumber_2 28 rfl)
theorem dX7_greatestNumber_109 : decode cX7_greatestNumber 109 = .ok (.lconst 1, 1) := dop_10 (zb_X7_greatestNumber_2 29 rfl)
theorem dX7_greatestNumber_110 : decode cX7_greatestNumber 110 = .ok (.lsub, 1) := dop_101 (zb_X7_greatestNumber_2 30 rfl)
theorem dX7_greatestNumber_111 : decode cX7_greatestNumber 111 = .ok (.goto 5, 3) := dop_167 (zb_X7_greatestNumber_2 31 rfl) (zb_X7_greatestNumber_2 32 rfl) (zb_X7_greatestNumber_2 33 rfl) rfl
theorem dX7_greatestNumber_114 : decode cX7_greatestNumber 114 = .ok (.lload 6, 2) := dop_22 (zb_X7_greatestNumber_2 34 rfl) (zb_X7_greatestNumber_2 35 rfl)
theorem dX7_greatestNumber_116 : decode cX7_greatestNumber 116 = .ok (.lreturn, 1) := dop_173 (zb_X7_greatestNumber_2 36 rfl)
def zw_X7_firstNumber_0 : List Nat := [20, 0, 48, 10, 42, 27, 182, 0, 50, 184, 0, 54, 184, 0, 59, 136, 172]
def zt_X7_firstNumber_0 : List Nat := zw_X7_firstNumber_0 ++ []
theorem ze_X7_firstNumber_0 : (dcn cX7_firstNumber).drop 0 = zt_X7_firstNumber_0 := by decide +kernel
theorem zb_X7_firstNumber_0 (j : Nat) {n : Nat} (e : zw_X7_firstNumber_0[j]? = some n) : dby cX7_firstNumber (0 + j) n := dw_b (t := []) ze_X7_firstNumber_0 j e
theorem dX7_firstNumber_0 : decode cX7_firstNumber 0 = .ok (.ldc2_w 48, 3) := dop_20 (zb_X7_firstNumber_0 0 rfl) (zb_X7_firstNumber_0 1 rfl) (zb_X7_firstNumber_0 2 rfl) rfl
theorem dX7_firstNumber_3 : decode cX7_firstNumber 3 = .ok (.lconst 1, 1) := dop_10 (zb_X7_firstNumber_0 3 rfl)
theorem dX7_firstNumber_4 : decode cX7_firstNumber 4 = .ok (.aload_n 0, 1) := dop_42 (zb_X7_firstNumber_0 4 rfl)
theorem dX7_firstNumber_5 : decode cX7_firstNumber 5 = .ok (.iload_n 1, 1) := dop_27 (zb_X7_firstNumber_0 5 rfl)
theorem dX7_firstNumber_6 : decode cX7_firstNumber 6 = .ok (.invokevirtual 50, 3) := dop_182 (zb_X7_firstNumber_0 6 rfl) (zb_X7_firstNumber_0 7 rfl) (zb_X7_firstNumber_0 8 rfl) rfl
theorem dX7_firstNumber_9 : decode cX7_firstNumber 9 = .ok (.invokestatic 54, 3) := dop_184 (zb_X7_firstNumber_0 9 rfl) (zb_X7_firstNumber_0 10 rfl) (zb_X7_firstNumber_0 11 rfl) rfl
theorem dX7_firstNumber_12 : decode cX7_firstNumber 12 = .ok (.invokestatic 59, 3) := dop_184 (zb_X7_firstNumber_0 12 rfl) (zb_X7_firstNumber_0 13 rfl) (zb_X7_firstNumber_0 14 rfl) rfl
theorem dX7_firstNumber_15 : decode cX7_firstNumber 15 = .ok (.l2i, 1) := dop_136 (zb_X7_firstNumber_0 15 rfl)
theorem dX7_firstNumber_16 : decode cX7_firstNumber 16 = .ok (.ireturn, 1) := dop_172 (zb_X7_firstNumber_0 16 rfl)
def zw_X7_lastNumber_0 : List Nat := [42, 180, 0, 18, 180, 0, 29, 9, 148, 154, 0, 8, 16, 99, 167, 0, 14, 42, 27, 182, 0, 62, 20, 0, 65, 184, 0, 67, 172]
def zt_X7_lastNumber_0 : List Nat := zw_X7_lastNumber_0 ++ []
theorem ze_X7_lastNumber_0 : (dcn cX7_lastNumber).drop 0 = zt_X7_lastNumber_0 := by decide +kernel
theorem zb_X7_lastNumber_0 (j : Nat) {n : Nat} (e : zw_X7_lastNumber_0[j]? = some n) : dby cX7_lastNumber (0 + j) n := dw_b (t := []) ze_X7_lastNumber_0 j e
theorem dX7_lastNumber_0 : decode cX7_lastNumber 0 = .ok (.aload_n 0, 1) := dop_42 (zb_X7_lastNumber_0 0 rfl)
theorem dX7_lastNumber_1 : decode cX7_lastNumber 1 = .ok (.getfield 18, 3) := dop_180 (zb_X7_lastNumber_0 1 rfl) (zb_X7_lastNumber_0 2 rfl) (zb_X7_lastNumber_0 3 rfl) rfl
theorem dX7_lastNumber_4 : decode cX7_lastNumber 4 = .ok (.getfield 29, 3) := dop_180 (zb_X7_lastNumber_0 4 rfl) (zb_X7_lastNumber_0 5 rfl) (zb_X7_lastNumber_0 6 rfl) rfl
theorem dX7_lastNumber_7 : decode cX7_lastNumber 7 = .ok (.lconst 0, 1) := dop_9 (zb_X7_lastNumber_0 7 rfl)
theorem dX7_lastNumber_8 : decode cX7_lastNumber 8 = .ok (.lcmp, 1) := dop_148 (zb_X7_lastNumber_0 8 rfl)
theorem dX7_lastNumber_9 : decode cX7_lastNumber 9 = .ok (.ifCond .ne 8, 3) := dop_154 (zb_X7_lastNumber_0 9 rfl) (zb_X7_lastNumber_0 10 rfl) (zb_X7_lastNumber_0 11 rfl) rfl
theorem dX7_lastNumber_12 : decode cX7_lastNumber 12 = .ok (.bipush 99, 2) := dop_16 (zb_X7_lastNumber_0 12 rfl) (zb_X7_lastNumber_0 13 rfl) rfl
theorem dX7_lastNumber_14 : decode cX7_lastNumber 14 = .ok (.goto 14, 3) := dop_167 (zb_X7_lastNumber_0 14 rfl) (zb_X7_lastNumber_0 15 rfl) (zb_X7_lastNumber_0 16 rfl) rfl
theorem dX7_lastNumber_17 : decode cX7_lastNumber 17 = .ok (.aload_n 0, 1) := dop_42 (zb_X7_lastNumber_0 17 rfl)
theorem dX7_lastNumber_18 : decode cX7_lastNumber 18 = .ok (.iload_n 1, 1) := dop_27 (zb_X7_lastNumber_0 18 rfl)
theorem dX7_lastNumber_19 : decode cX7_lastNumber 19 = .ok (.invokevirtual 62, 3) := dop_182 (zb_X7_lastNumber_0 19 rfl) (zb_X7_lastNumber_0 20 rfl) (zb_X7_lastNumber_0 21 rfl) rfl
theorem dX7_lastNumber_22 : decode cX7_lastNumber 22 = .ok (.ldc2_w 65, 3) := dop_20 (zb_X7_lastNumber_0 22 rfl) (zb_X7_lastNumber_0 23 rfl) (zb_X7_lastNumber_0 24 rfl) rfl
theorem dX7_lastNumber_25 : decode cX7_lastNumber 25 = .ok (.invokestatic 67, 3) := dop_184 (zb_X7_lastNumber_0 25 rfl) (zb_X7_lastNumber_0 26 rfl) (zb_X7_lastNumber_0 27 rfl) rfl
theorem dX7_lastNumber_28 : decode cX7_lastNumber 28 = .ok (.ireturn, 1) := dop_172 (zb_X7_lastNumber_0 28 rfl)
def zw_X7_manyNumbers_0 : List Nat := [3, 42, 27, 182, 0, 71, 42, 27, 182, 0, 75, 100, 4, 96, 184, 0, 78, 172]
def zt_X7_manyNumbers_0 : List Nat := zw_X7_manyNumbers_0 ++ []
theorem ze_X7_manyNumbers_0 : (dcn cX7_manyNumbers).drop 0 = zt_X7_manyNumbers_0 := by decide +kernel
theorem zb_X7_manyNumbers_0 (j : Nat) {n : Nat} (e : zw_X7_manyNumbers_0[j]? = some n) : dby cX7_manyNumbers (0 + j) n := dw_b (t := []) ze_X7_manyNumbers_0 j e
theorem dX7_manyNumbers_0 : decode cX7_manyNumbers 0 = .ok (.iconst 0, 1) := dop_3 (zb_X7_manyNumbers_0 0 rfl)
theorem dX7_manyNumbers_1 : decode cX7_manyNumbers 1 = .ok (.aload_n 0, 1) := dop_42 (zb_X7_manyNumbers_0 1 rfl)
theorem dX7_manyNumbers_2 : decode cX7_manyNumbers 2 = .ok (.iload_n 1, 1) := dop_27 (zb_X7_manyNumbers_0 2 rfl)
theorem dX7_manyNumbers_3 : decode cX7_manyNumbers 3 = .ok (.invokevirtual 71, 3) := dop_182 (zb_X7_manyNumbers_0 3 rfl) (zb_X7_manyNumbers_0 4 rfl) (zb_X7_manyNumbers_0 5 rfl) rfl
theorem dX7_manyNumbers_6 : decode cX7_manyNumbers 6 = .ok (.aload_n 0, 1) := dop_42 (zb_X7_manyNumbers_0 6 rfl)
theorem dX7_manyNumbers_7 : decode cX7_manyNumbers 7 = .ok (.iload_n 1, 1) := dop_27 (zb_X7_manyNumbers_0 7 rfl)
theorem dX7_manyNumbers_8 : decode cX7_manyNumbers 8 = .ok (.invokevirtual 75, 3) := dop_182 (zb_X7_manyNumbers_0 8 rfl) (zb_X7_manyNumbers_0 9 rfl) (zb_X7_manyNumbers_0 10 rfl) rfl
theorem dX7_manyNumbers_11 : decode cX7_manyNumbers 11 = .ok (.isub, 1) := dop_100 (zb_X7_manyNumbers_0 11 rfl)
theorem dX7_manyNumbers_12 : decode cX7_manyNumbers 12 = .ok (.iconst 1, 1) := dop_4 (zb_X7_manyNumbers_0 12 rfl)
theorem dX7_manyNumbers_13 : decode cX7_manyNumbers 13 = .ok (.iadd, 1) := dop_96 (zb_X7_manyNumbers_0 13 rfl)
theorem dX7_manyNumbers_14 : decode cX7_manyNumbers 14 = .ok (.invokestatic 78, 3) := dop_184 (zb_X7_manyNumbers_0 14 rfl) (zb_X7_manyNumbers_0 15 rfl) (zb_X7_manyNumbers_0 16 rfl) rfl
theorem dX7_manyNumbers_17 : decode cX7_manyNumbers 17 = .ok (.ireturn, 1) := dop_172 (zb_X7_manyNumbers_0 17 rfl)
def zw_X7_allows_0 : List Nat := [27, 42, 28, 182, 0, 75, 161, 0, 16, 27, 42, 28, 182, 0, 71, 163, 0, 7, 4, 167, 0, 4, 3, 172]
def zt_X7_allows_0 : List Nat := zw_X7_allows_0 ++ []
theorem ze_X7_allows_0 : (dcn cX7_allows).drop 0 = zt_X7_allows_0 := by decide +kernel
theorem zb_X7_allows_0 (j : Nat) {n : Nat} (e : zw_X7_allows_0[j]? = some n) : dby cX7_allows (0 + j) n := dw_b (t := []) ze_X7_allows_0 j e
theorem dX7_allows_0 : decode cX7_allows 0 = .ok (.iload_n 1, 1) := dop_27 (zb_X7_allows_0 0 rfl)
theorem dX7_allows_1 : decode cX7_allows 1 = .ok (.aload_n 0, 1) := dop_42 (zb_X7_allows_0 1 rfl)
theorem dX7_allows_2 : decode cX7_allows 2 = .ok (.iload_n 2, 1) := dop_28 (zb_X7_allows_0 2 rfl)
theorem dX7_allows_3 : decode cX7_allows 3 = .ok (.invokevirtual 75, 3) := dop_182 (zb_X7_allows_0 3 rfl) (zb_X7_allows_0 4 rfl) (zb_X7_allows_0 5 rfl) rfl
theorem dX7_allows_6 : decode cX7_allows 6 = .ok (.if_icmp .lt 16, 3) := dop_161 (zb_X7_allows_0 6 rfl) (zb_X7_allows_0 7 rfl) (zb_X7_allows_0 8 rfl) rfl
theorem dX7_allows_9 : decode cX7_allows 9 = .ok (.iload_n 1, 1) := dop_27 (zb_X7_allows_0 9 rfl)
theorem dX7_allows_10 : decode cX7_allows 10 = .ok (.aload_n 0, 1) := dop_42 (zb_X7_allows_0 10 rfl)
theorem dX7_allows_11 : decode cX7_allows 11 = .ok (.iload_n 2, 1) := dop_28 (zb_X7_allows_0 11 rfl)
theorem dX7_allows_12 : decode cX7_allows 12 = .ok (.invokevirtual 71, 3) := dop_182 (zb_X7_allows_0 12 rfl) (zb_X7_allows_0 13 rfl) (zb_X7_allows_0 14 rfl) rfl
theorem dX7_allows_15 : decode cX7_allows 15 = .ok (.if_icmp .gt 7, 3) := dop_163 (zb_X7_allows_0 15 rfl) (zb_X7_allows_0 16 rfl) (zb_X7_allows_0 17 rfl) rfl
theorem dX7_allows_18 : decode cX7_allows 18 = .ok (.iconst 1, 1) := dop_4 (zb_X7_allows_0 18 rfl)
theorem dX7_allows_19 : decode cX7_allows 19 = .ok (.goto 4, 3) := dop_167 (zb_X7_allows_0 19 rfl) (zb_X7_allows_0 20 rfl) (zb_X7_allows_0 21 rfl) rfl
theorem dX7_allows_22 : decode cX7_allows 22 = .ok (.iconst 0, 1) := dop_3 (zb_X7_allows_0 22 rfl)
theorem dX7_allows_23 : decode cX7_allows 23 = .ok (.ireturn, 1) := dop_172 (zb_X7_allows_0 23 rfl)
def zw_X7_forces_0 : List Nat := [28, 154, 0, 10, 42, 27, 133, 182, 0, 81, 172, 42, 28, 182, 0, 50, 27, 133, 148, 154, 0, 18, 42, 28, 182, 0, 62, 27, 133, 148, 154, 0, 7, 4, 167, 0, 4, 3, 172]
def zt_X7_forces_0 : List Nat := zw_X7_forces_0 ++ []
theorem ze_X7_forces_0 : (dcn cX7_forces).drop 0 = zt_X7_forces_0 := by decide +kernel
theorem zb_X7_forces_0 (j : Nat) {n : Nat} (e : zw_X7_forces_0[j]? = some n) : dby cX7_forces (0 + j) n := dw_b (t := []) ze_X7_forces_0 j e
theorem dX7_forces_0 : decode cX7_forces 0 = .ok (.iload_n 2, 1) := dop_28 (zb_X7_forces_0 0 rfl)
theorem dX7_forces_1 : decode cX7_forces 1 = .ok (.ifCond .ne 10, 3) := dop_154 (zb_X7_forces_0 1 rfl) (zb_X7_forces_0 2 rfl) (zb_X7_forces_0 3 rfl) rfl
theorem dX7_forces_4 : decode cX7_forces 4 = .ok (.aload_n 0, 1) := dop_42 (zb_X7_forces_0 4 rfl)
theorem dX7_forces_5 : decode cX7_forces 5 = .ok (.iload_n 1, 1) := dop_27 (zb_X7_forces_0 5 rfl)
theorem dX7_forces_6 : decode cX7_forces 6 = .ok (.i2l, 1) := dop_133 (zb_X7_forces_0 6 rfl)
theorem dX7_forces_7 : decode cX7_forces 7 = .ok (.invokevirtual 81, 3) := dop_182 (zb_X7_forces_0 7 rfl) (zb_X7_forces_0 8 rfl) (zb_X7_forces_0 9 rfl) rfl
theorem dX7_forces_10 : decode cX7_forces 10 = .ok (.ireturn, 1) := dop_172 (zb_X7_forces_0 10 rfl)
theorem dX7_forces_11 : decode cX7_forces 11 = .ok (.aload_n 0, 1) := dop_42 (zb_X7_forces_0 11 rfl)
theorem dX7_forces_12 : decode cX7_forces 12 = .ok (.iload_n 2, 1) := dop_28 (zb_X7_forces_0 12 rfl)
theorem dX7_forces_13 : decode cX7_forces 13 = .ok (.invokevirtual 50, 3) := dop_182 (zb_X7_forces_0 13 rfl) (zb_X7_forces_0 14 rfl) (zb_X7_forces_0 15 rfl) rfl
theorem dX7_forces_16 : decode cX7_forces 16 = .ok (.iload_n 1, 1) := dop_27 (zb_X7_forces_0 16 rfl)
theorem dX7_forces_17 : decode cX7_forces 17 = .ok (.i2l, 1) := dop_133 (zb_X7_forces_0 17 rfl)
theorem dX7_forces_18 : decode cX7_forces 18 = .ok (.lcmp, 1) := dop_148 (zb_X7_forces_0 18 rfl)
theorem dX7_forces_19 : decode cX7_forces 19 = .ok (.ifCond .ne 18, 3) := dop_154 (zb_X7_forces_0 19 rfl) (zb_X7_forces_0 20 rfl) (zb_X7_forces_0 21 rfl) rfl
theorem dX7_forces_22 : decode cX7_forces 22 = .ok (.aload_n 0, 1) := dop_42 (zb_X7_forces_0 22 rfl)
theorem dX7_forces_23 : decode cX7_forces 23 = .ok (.iload_n 2, 1) := dop_28 (zb_X7_forces_0 23 rfl)
theorem dX7_forces_24 : decode cX7_forces 24 = .ok (.invokevirtual 62, 3) := dop_182 (zb_X7_forces_0 24 rfl) (zb_X7_forces_0 25 rfl) (zb_X7_forces_0 26 rfl) rfl
theorem dX7_forces_27 : decode cX7_forces 27 = .ok (.iload_n 1, 1) := dop_27 (zb_X7_forces_0 27 rfl)
theorem dX7_forces_28 : decode cX7_forces 28 = .ok (.i2l, 1) := dop_133 (zb_X7_forces_0 28 rfl)
theorem dX7_forces_29 : decode cX7_forces 29 = .ok (.lcmp, 1) := dop_148 (zb_X7_forces_0 29 rfl)
theorem dX7_forces_30 : decode cX7_forces 30 = .ok (.ifCond .ne 7, 3) := dop_154 (zb_X7_forces_0 30 rfl) (zb_X7_forces_0 31 rfl) (zb_X7_forces_0 32 rfl) rfl
theorem dX7_forces_33 : decode cX7_forces 33 = .ok (.iconst 1, 1) := dop_4 (zb_X7_forces_0 33 rfl)
theorem dX7_forces_34 : decode cX7_forces 34 = .ok (.goto 4, 3) := dop_167 (zb_X7_forces_0 34 rfl) (zb_X7_forces_0 35 rfl) (zb_X7_forces_0 36 rfl) rfl
theorem dX7_forces_37 : decode cX7_forces 37 = .ok (.iconst 0, 1) := dop_3 (zb_X7_forces_0 37 rfl)
theorem dX7_forces_38 : decode cX7_forces 38 = .ok (.ireturn, 1) := dop_172 (zb_X7_forces_0 38 rfl)
def zw_X8_init_0 : List Nat := [42, 183, 0, 3, 42, 17, 1, 144, 188, 10, 181, 0, 9, 177]
def zt_X8_init_0 : List Nat := zw_X8_init_0 ++ []
theorem ze_X8_init_0 : (dcn cX8_init).drop 0 = zt_X8_init_0 := by decide +kernel
theorem zb_X8_init_0 (j : Nat) {n : Nat} (e : zw_X8_init_0[j]? = some n) : dby cX8_init (0 + j) n := dw_b (t := []) ze_X8_init_0 j e
theorem dX8_init_0 : decode cX8_init 0 = .ok (.aload_n 0, 1) := dop_42 (zb_X8_init_0 0 rfl)
theorem dX8_init_1 : decode cX8_init 1 = .ok (.invokespecial 3, 3) := dop_183 (zb_X8_init_0 1 rfl) (zb_X8_init_0 2 rfl) (zb_X8_init_0 3 rfl) rfl
theorem dX8_init_4 : decode cX8_init 4 = .ok (.aload_n 0, 1) := dop_42 (zb_X8_init_0 4 rfl)
theorem dX8_init_5 : decode cX8_init 5 = .ok (.sipush 400, 3) := dop_17 (zb_X8_init_0 5 rfl) (zb_X8_init_0 6 rfl) (zb_X8_init_0 7 rfl) rfl
theorem dX8_init_8 : decode cX8_init 8 = .ok (.newarray .int, 2) := dop_188_10 (zb_X8_init_0 8 rfl) (zb_X8_init_0 9 rfl)
theorem dX8_init_10 : decode cX8_init 10 = .ok (.putfield 9, 3) := dop_181 (zb_X8_init_0 10 rfl) (zb_X8_init_0 11 rfl) (zb_X8_init_0 12 rfl) rfl
theorem dX8_init_13 : decode cX8_init 13 = .ok (.return_, 1) := dop_177 (zb_X8_init_0 13 rfl)
def zw_X8_append_2 : List Nat := [42, 89, 180, 0, 15, 7, 96, 181, 0, 15, 177]
def zt_X8_append_2 : List Nat := zw_X8_append_2 ++ []
def zw_X8_append_1 : List Nat := [17, 0, 255, 126, 79, 42, 180, 0, 9, 42, 180, 0, 15, 5, 96, 27, 16, 8, 124, 17, 0, 255, 126, 79, 42, 180, 0, 9, 42, 180, 0, 15, 6, 96, 27, 17, 0, 255, 126, 79]
def zt_X8_append_1 : List Nat := zw_X8_append_1 ++ zt_X8_append_2
def zw_X8_append_0 : List Nat := [42, 180, 0, 15, 7, 96, 17, 1, 144, 164, 0, 4, 177, 42, 180, 0, 9, 42, 180, 0, 15, 27, 16, 24, 124, 79, 42, 180, 0, 9, 42, 180, 0, 15, 4, 96, 27, 16, 16, 124]
def zt_X8_append_0 : List Nat := zw_X8_append_0 ++ zt_X8_append_1
theorem ze_X8_append_0 : (dcn cX8_append).drop 0 = zt_X8_append_0 := by decide +kernel
theorem ze_X8_append_1 : (dcn cX8_append).drop 40 = zt_X8_append_1 := dw_n (wl := zw_X8_append_0) ze_X8_append_0 rfl
theorem zb_X8_append_0 (j : Nat) {n : Nat} (e : zw_X8_append_0[j]? = some n) : dby cX8_append (0 + j) n := dw_b (t := zt_X8_append_1) ze_X8_append_0 j e
theorem dX8_append_0 : decode cX8_append 0 = .ok (.aload_n 0, 1) := dop_42 (zb_X8_append_0 0 rfl)
theorem dX8_append_1 : decode cX8_append 1 = .ok (.getfield 15, 3) := dop_180 (zb_X8_append_0 1 rfl) (zb_X8_append_0 2 rfl) (zb_X8_append_0 3 rfl) rfl
theorem dX8_append_4 : decode cX8_append 4 = .ok (.iconst 4, 1) := dop_7 (zb_X8_append_0 4 rfl)
theorem dX8_append_5 : decode cX8_append 5 = .ok (.iadd, 1) := dop_96 (zb_X8_append_0 5 rfl)
theorem dX8_append_6 : decode cX8_append 6 = .ok (.sipush 400, 3) := dop_17 (zb_X8_append_0 6 rfl) (zb_X8_append_0 7 rfl) (zb_X8_append_0 8 rfl) rfl
theorem dX8_append_9 : decode cX8_append 9 = .ok (.if_icmp .le 4, 3) := dop_164 (zb_X8_append_0 9 rfl) (zb_X8_append_0 10 rfl) (zb_X8_append_0 11 rfl) rfl
theorem dX8_append_12 : decode cX8_append 12 = .ok (.return_, 1) := dop_177 (zb_X8_append_0 12 rfl)
theorem dX8_append_13 : decode cX8_append 13 = .ok (.aload_n 0, 1) := dop_42 (zb_X8_append_0 13 rfl)
theorem dX8_append_14 : decode cX8_append 14 = .ok (.getfield 9, 3) := dop_180 (zb_X8_append_0 14 rfl) (zb_X8_append_0 15 rfl) (zb_X8_append_0 16 rfl) rfl
theorem dX8_append_17 : decode cX8_append 17 = .ok (.aload_n 0, 1) := dop_42 (zb_X8_append_0 17 rfl)
theorem dX8_append_18 : decode cX8_append 18 = .ok (.getfield 15, 3) := dop_180 (zb_X8_append_0 18 rfl) (zb_X8_append_0 19 rfl) (zb_X8_append_0 20 rfl) rfl
theorem dX8_append_21 : decode cX8_append 21 = .ok (.iload_n 1, 1) := dop_27 (zb_X8_append_0 21 rfl)
theorem dX8_append_22 : decode cX8_append 22 = .ok (.bipush 24, 2) := dop_16 (zb_X8_append_0 22 rfl) (zb_X8_append_0 23 rfl) rfl
theorem dX8_append_24 : decode cX8_append 24 = .ok (.iushr, 1) := dop_124 (zb_X8_append_0 24 rfl)
theorem dX8_append_25 : decode cX8_append 25 = .ok (.iastore, 1) := dop_79 (zb_X8_append_0 25 rfl)
theorem dX8_append_26 : decode cX8_append 26 = .ok (.aload_n 0, 1) := dop_42 (zb_X8_append_0 26 rfl)
theorem dX8_append_27 : decode cX8_append 27 = .ok (.getfield 9, 3) := dop_180 (zb_X8_append_0 27 rfl) (zb_X8_append_0 28 rfl) (zb_X8_append_0 29 rfl) rfl
theorem dX8_append_30 : decode cX8_append 30 = .ok (.aload_n 0, 1) := dop_42 (zb_X8_append_0 30 rfl)
theorem dX8_append_31 : decode cX8_append 31 = .ok (.getfield 15, 3) := dop_180 (zb_X8_append_0 31 rfl) (zb_X8_append_0 32 rfl) (zb_X8_append_0 33 rfl) rfl
theorem dX8_append_34 : decode cX8_append 34 = .ok (.iconst 1, 1) := dop_4 (zb_X8_append_0 34 rfl)
theorem dX8_append_35 : decode cX8_append 35 = .ok (.iadd, 1) := dop_96 (zb_X8_append_0 35 rfl)
theorem dX8_append_36 : decode cX8_append 36 = .ok (.iload_n 1, 1) := dop_27 (zb_X8_append_0 36 rfl)
theorem dX8_append_37 : decode cX8_append 37 = .ok (.bipush 16, 2) := dop_16 (zb_X8_append_0 37 rfl) (zb_X8_append_0 38 rfl) rfl
theorem dX8_append_39 : decode cX8_append 39 = .ok (.iushr, 1) := dop_124 (zb_X8_append_0 39 rfl)
theorem ze_X8_append_2 : (dcn cX8_append).drop 80 = zt_X8_append_2 := dw_n (wl := zw_X8_append_1) ze_X8_append_1 rfl
theorem zb_X8_append_1 (j : Nat) {n : Nat} (e : zw_X8_append_1[j]? = some n) : dby cX8_append (40 + j) n := dw_b (t := zt_X8_append_2) ze_X8_append_1 j e
theorem dX8_append_40 : decode cX8_append 40 = .ok (.sipush 255, 3) := dop_17 (zb_X8_append_1 0 rfl) (zb_X8_append_1 1 rfl) (zb_X8_append_1 2 rfl) rfl
theorem dX8_append_43 : decode cX8_append 43 = .ok (.iand, 1) := dop_126 (zb_X8_append_1 3 rfl)
theorem dX8_append_44 : decode cX8_append 44 = .ok (.iastore, 1) := dop_79 (zb_X8_append_1 4 rfl)
theorem dX8_append_45 : decode cX8_append 45 = .ok (.aload_n 0, 1) := dop_42 (zb_X8_append_1 5 rfl)
theorem dX8_append_46 : decode cX8_append 46 = .ok (.getfield 9, 3) := dop_180 (zb_X8_append_1 6 rfl) (zb_X8_append_1 7 rfl) (zb_X8_append_1 8 rfl) rfl
theorem dX8_append_49 : decode cX8_append 49 = .ok (.aload_n 0, 1) := dop_42 (zb_X8_append_1 9 rfl)
theorem dX8_append_50 : decode cX8_append 50 = .ok (.getfield 15, 3) := dop_180 (zb_X8_append_1 10 rfl) (zb_X8_append_1 11 rfl) (zb_X8_append_1 12 rfl) rfl
theorem dX8_append_53 : decode cX8_append 53 = .ok (.iconst 2, 1) := dop_5 (zb_X8_append_1 13 rfl)
theorem dX8_append_54 : decode cX8_append 54 = .ok (.iadd, 1) := dop_96 (zb_X8_append_1 14 rfl)
theorem dX8_append_55 : decode cX8_append 55 = .ok (.iload_n 1, 1) := dop_27 (zb_X8_append_1 15 rfl)
theorem dX8_append_56 : decode cX8_append 56 = .ok (.bipush 8, 2) := dop_16 (zb_X8_append_1 16 rfl) (zb_X8_append_1 17 rfl) rfl
theorem dX8_append_58 : decode cX8_append 58 = .ok (.iushr, 1) := dop_124 (zb_X8_append_1 18 rfl)
theorem dX8_append_59 : decode cX8_append 59 = .ok (.sipush 255, 3) := dop_17 (zb_X8_append_1 19 rfl) (zb_X8_append_1 20 rfl) (zb_X8_append_1 21 rfl) rfl
theorem dX8_append_62 : decode cX8_append 62 = .ok (.iand, 1) := dop_126 (zb_X8_append_1 22 rfl)
theorem dX8_append_63 : decode cX8_append 63 = .ok (.iastore, 1) := dop_79 (zb_X8_append_1 23 rfl)
theorem dX8_append_64 : decode cX8_append 64 = .ok (.aload_n 0, 1) := dop_42 (zb_X8_append_1 24 rfl)
theorem dX8_append_65 : decode cX8_append 65 = .ok (.getfield 9, 3) := dop_180 (zb_X8_append_1 25 rfl) (zb_X8_append_1 26 rfl) (zb_X8_append_1 27 rfl) rfl
theorem dX8_append_68 : decode cX8_append 68 = .ok (.aload_n 0, 1) := dop_42 (zb_X8_append_1 28 rfl)
theorem dX8_append_69 : decode cX8_append 69 = .ok (.getfield 15, 3) := dop_180 (zb_X8_append_1 29 rfl) (zb_X8_append_1 30 rfl) (zb_X8_append_1 31 rfl) rfl
theorem dX8_append_72 : decode cX8_append 72 = .ok (.iconst 3, 1) := dop_6 (zb_X8_append_1 32 rfl)
theorem dX8_append_73 : decode cX8_append 73 = .ok (.iadd, 1) := dop_96 (zb_X8_append_1 33 rfl)
theorem dX8_append_74 : decode cX8_append 74 = .ok (.iload_n 1, 1) := dop_27 (zb_X8_append_1 34 rfl)
theorem dX8_append_75 : decode cX8_append 75 = .ok (.sipush 255, 3) := dop_17 (zb_X8_append_1 35 rfl) (zb_X8_append_1 36 rfl) (zb_X8_append_1 37 rfl) rfl
theorem dX8_append_78 : decode cX8_append 78 = .ok (.iand, 1) := dop_126 (zb_X8_append_1 38 rfl)
theorem dX8_append_79 : decode cX8_append 79 = .ok (.iastore, 1) := dop_79 (zb_X8_append_1 39 rfl)
theorem zb_X8_append_2 (j : Nat) {n : Nat} (e : zw_X8_append_2[j]? = some n) : dby cX8_append (80 + j) n := dw_b (t := []) ze_X8_append_2 j e
theorem dX8_append_80 : decode cX8_append 80 = .ok (.aload_n 0, 1) := dop_42 (zb_X8_append_2 0 rfl)
theorem dX8_append_81 : decode cX8_append 81 = .ok (.dup, 1) := dop_89 (zb_X8_append_2 1 rfl)
theorem dX8_append_82 : decode cX8_append 82 = .ok (.getfield 15, 3) := dop_180 (zb_X8_append_2 2 rfl) (zb_X8_append_2 3 rfl) (zb_X8_append_2 4 rfl) rfl
theorem dX8_append_85 : decode cX8_append 85 = .ok (.iconst 4, 1) := dop_7 (zb_X8_append_2 5 rfl)
theorem dX8_append_86 : decode cX8_append 86 = .ok (.iadd, 1) := dop_96 (zb_X8_append_2 6 rfl)
theorem dX8_append_87 : decode cX8_append 87 = .ok (.putfield 15, 3) := dop_181 (zb_X8_append_2 7 rfl) (zb_X8_append_2 8 rfl) (zb_X8_append_2 9 rfl) rfl
theorem dX8_append_90 : decode cX8_append 90 = .ok (.return_, 1) := dop_177 (zb_X8_append_2 10 rfl)
def zw_X9_init_1 : List Nat := [184, 0, 22, 181, 0, 30, 42, 16, 16, 184, 0, 22, 181, 0, 33, 177]
def zt_X9_init_1 : List Nat := zw_X9_init_1 ++ []
def zw_X9_init_0 : List Nat := [42, 183, 0, 3, 42, 16, 48, 188, 10, 181, 0, 9, 42, 16, 48, 188, 4, 181, 0, 15, 42, 16, 48, 188, 10, 181, 0, 19, 42, 16, 16, 184, 0, 22, 181, 0, 26, 42, 16, 16]
def zt_X9_init_0 : List Nat := zw_X9_init_0 ++ zt_X9_init_1
theorem ze_X9_init_0 : (dcn cX9_init).drop 0 = zt_X9_init_0 := by decide +kernel
theorem ze_X9_init_1 : (dcn cX9_init).drop 40 = zt_X9_init_1 := dw_n (wl := zw_X9_init_0) ze_X9_init_0 rfl
theorem zb_X9_init_0 (j : Nat) {n : Nat} (e : zw_X9_init_0[j]? = some n) : dby cX9_init (0 + j) n := dw_b (t := zt_X9_init_1) ze_X9_init_0 j e
theorem dX9_init_0 : decode cX9_init 0 = .ok (.aload_n 0, 1) := dop_42 (zb_X9_init_0 0 rfl)
theorem dX9_init_1 : decode cX9_init 1 = .ok (.invokespecial 3, 3) := dop_183 (zb_X9_init_0 1 rfl) (zb_X9_init_0 2 rfl) (zb_X9_init_0 3 rfl) rfl
theorem dX9_init_4 : decode cX9_init 4 = .ok (.aload_n 0, 1) := dop_42 (zb_X9_init_0 4 rfl)
theorem dX9_init_5 : decode cX9_init 5 = .ok (.bipush 48, 2) := dop_16 (zb_X9_init_0 5 rfl) (zb_X9_init_0 6 rfl) rfl
theorem dX9_init_7 : decode cX9_init 7 = .ok (.newarray .int, 2) := dop_188_10 (zb_X9_init_0 7 rfl) (zb_X9_init_0 8 rfl)
theorem dX9_init_9 : decode cX9_init 9 = .ok (.putfield 9, 3) := dop_181 (zb_X9_init_0 9 rfl) (zb_X9_init_0 10 rfl) (zb_X9_init_0 11 rfl) rfl
theorem dX9_init_12 : decode cX9_init 12 = .ok (.aload_n 0, 1) := dop_42 (zb_X9_init_0 12 rfl)
theorem dX9_init_13 : decode cX9_init 13 = .ok (.bipush 48, 2) := dop_16 (zb_X9_init_0 13 rfl) (zb_X9_init_0 14 rfl) rfl
theorem dX9_init_15 : decode cX9_init 15 = .ok (.newarray .boolean, 2) := dop_188_4 (zb_X9_init_0 15 rfl) (zb_X9_init_0 16 rfl)
theorem dX9_init_17 : decode cX9_init 17 = .ok (.putfield 15, 3) := dop_181 (zb_X9_init_0 17 rfl) (zb_X9_init_0 18 rfl) (zb_X9_init_0 19 rfl) rfl
theorem dX9_init_20 : decode cX9_init 20 = .ok (.aload_n 0, 1) := dop_42 (zb_X9_init_0 20 rfl)
theorem dX9_init_21 : decode cX9_init 21 = .ok (.bipush 48, 2) := dop_16 (zb_X9_init_0 21 rfl) (zb_X9_init_0 22 rfl) rfl
theorem dX9_init_23 : decode cX9_init 23 = .ok (.newarray .int, 2) := dop_188_10 (zb_X9_init_0 23 rfl) (zb_X9_init_0 24 rfl)
theorem dX9_init_25 : decode cX9_init 25 = .ok (.putfield 19, 3) := dop_181 (zb_X9_init_0 25 rfl) (zb_X9_init_0 26 rfl) (zb_X9_init_0 27 rfl) rfl
theorem dX9_init_28 : decode cX9_init 28 = .ok (.aload_n 0, 1) := dop_42 (zb_X9_init_0 28 rfl)
theorem dX9_init_29 : decode cX9_init 29 = .ok (.bipush 16, 2) := dop_16 (zb_X9_init_0 29 rfl) (zb_X9_init_0 30 rfl) rfl
theorem dX9_init_31 : decode cX9_init 31 = .ok (.invokestatic 22, 3) := dop_184 (zb_X9_init_0 31 rfl) (zb_X9_init_0 32 rfl) (zb_X9_init_0 33 rfl) rfl
theorem dX9_init_34 : decode cX9_init 34 = .ok (.putfield 26, 3) := dop_181 (zb_X9_init_0 34 rfl) (zb_X9_init_0 35 rfl) (zb_X9_init_0 36 rfl) rfl
theorem dX9_init_37 : decode cX9_init 37 = .ok (.aload_n 0, 1) := dop_42 (zb_X9_init_0 37 rfl)
theorem dX9_init_38 : decode cX9_init 38 = .ok (.bipush 16, 2) := dop_16 (zb_X9_init_0 38 rfl) (zb_X9_init_0 39 rfl) rfl
theorem zb_X9_init_1 (j : Nat) {n : Nat} (e : zw_X9_init_1[j]? = some n) : dby cX9_init (40 + j) n := dw_b (t := []) ze_X9_init_1 j e
theorem dX9_init_40 : decode cX9_init 40 = .ok (.invokestatic 22, 3) := dop_184 (zb_X9_init_1 0 rfl) (zb_X9_init_1 1 rfl) (zb_X9_init_1 2 rfl) rfl
theorem dX9_init_43 : decode cX9_init 43 = .ok (.putfield 30, 3) := dop_181 (zb_X9_init_1 3 rfl) (zb_X9_init_1 4 rfl) (zb_X9_init_1 5 rfl) rfl
theorem dX9_init_46 : decode cX9_init 46 = .ok (.aload_n 0, 1) := dop_42 (zb_X9_init_1 6 rfl)
theorem dX9_init_47 : decode cX9_init 47 = .ok (.bipush 16, 2) := dop_16 (zb_X9_init_1 7 rfl) (zb_X9_init_1 8 rfl) rfl
theorem dX9_init_49 : decode cX9_init 49 = .ok (.invokestatic 22, 3) := dop_184 (zb_X9_init_1 9 rfl) (zb_X9_init_1 10 rfl) (zb_X9_init_1 11 rfl) rfl
theorem dX9_init_52 : decode cX9_init 52 = .ok (.putfield 33, 3) := dop_181 (zb_X9_init_1 12 rfl) (zb_X9_init_1 13 rfl) (zb_X9_init_1 14 rfl) rfl
theorem dX9_init_55 : decode cX9_init 55 = .ok (.return_, 1) := dop_177 (zb_X9_init_1 15 rfl)
def zw_X9_canBe_3 : List Nat := [42, 182, 0, 72, 154, 0, 5, 3, 172, 42, 42, 180, 0, 26, 42, 180, 0, 30, 182, 0, 76, 42, 42, 180, 0, 30, 42, 180, 0, 33, 182, 0, 76, 42, 182, 0, 80, 172]
def zt_X9_canBe_3 : List Nat := zw_X9_canBe_3 ++ []
def zw_X9_canBe_2 : List Nat := [167, 255, 242, 3, 62, 29, 16, 16, 162, 0, 32, 43, 180, 0, 63, 29, 184, 0, 45, 153, 0, 15, 42, 180, 0, 26, 29, 50, 10, 10, 4, 182, 0, 66, 132, 3, 1, 167, 255, 224]
def zt_X9_canBe_2 : List Nat := zw_X9_canBe_2 ++ zt_X9_canBe_3
def zw_X9_canBe_1 : List Nat := [162, 0, 24, 43, 180, 0, 53, 29, 46, 2, 159, 0, 8, 42, 29, 182, 0, 56, 132, 3, 1, 167, 255, 232, 3, 62, 29, 16, 12, 162, 0, 14, 42, 29, 182, 0, 60, 132, 3, 1]
def zt_X9_canBe_1 : List Nat := zw_X9_canBe_1 ++ zt_X9_canBe_2
def zw_X9_canBe_0 : List Nat := [42, 182, 0, 36, 3, 62, 29, 43, 180, 0, 39, 162, 0, 23, 28, 29, 184, 0, 45, 153, 0, 9, 42, 43, 29, 182, 0, 49, 132, 3, 1, 167, 255, 231, 3, 62, 29, 16, 6]
def zt_X9_canBe_0 : List Nat := zw_X9_canBe_0 ++ zt_X9_canBe_1
theorem ze_X9_canBe_0 : (dcn cX9_canBe).drop 0 = zt_X9_canBe_0 := by decide +kernel
theorem ze_X9_canBe_1 : (dcn cX9_canBe).drop 39 = zt_X9_canBe_1 := dw_n (wl := zw_X9_canBe_0) ze_X9_canBe_0 rfl
theorem zb_X9_canBe_0 (j : Nat) {n : Nat} (e : zw_X9_canBe_0[j]? = some n) : dby cX9_canBe (0 + j) n := dw_b (t := zt_X9_canBe_1) ze_X9_canBe_0 j e
theorem dX9_canBe_0 : decode cX9_canBe 0 = .ok (.aload_n 0, 1) := dop_42 (zb_X9_canBe_0 0 rfl)
theorem dX9_canBe_1 : decode cX9_canBe 1 = .ok (.invokevirtual 36, 3) := dop_182 (zb_X9_canBe_0 1 rfl) (zb_X9_canBe_0 2 rfl) (zb_X9_canBe_0 3 rfl) rfl
theorem dX9_canBe_4 : decode cX9_canBe 4 = .ok (.iconst 0, 1) := dop_3 (zb_X9_canBe_0 4 rfl)
theorem dX9_canBe_5 : decode cX9_canBe 5 = .ok (.istore_n 3, 1) := dop_62 (zb_X9_canBe_0 5 rfl)
theorem dX9_canBe_6 : decode cX9_canBe 6 = .ok (.iload_n 3, 1) := dop_29 (zb_X9_canBe_0 6 rfl)
theorem dX9_canBe_7 : decode cX9_canBe 7 = .ok (.aload_n 1, 1) := dop_43 (zb_X9_canBe_0 7 rfl)
theorem dX9_canBe_8 : decode cX9_canBe 8 = .ok (.getfield 39, 3) := dop_180 (zb_X9_canBe_0 8 rfl) (zb_X9_canBe_0 9 rfl) (zb_X9_canBe_0 10 rfl) rfl
theorem dX9_canBe_11 : decode cX9_canBe 11 = .ok (.if_icmp .ge 23, 3) := dop_162 (zb_X9_canBe_0 11 rfl) (zb_X9_canBe_0 12 rfl) (zb_X9_canBe_0 13 rfl) rfl
theorem dX9_canBe_14 : decode cX9_canBe 14 = .ok (.iload_n 2, 1) := dop_28 (zb_X9_canBe_0 14 rfl)
theorem dX9_canBe_15 : decode cX9_canBe 15 = .ok (.iload_n 3, 1) := dop_29 (zb_X9_canBe_0 15 rfl)
theorem dX9_canBe_16 : decode cX9_canBe 16 = .ok (.invokestatic 45, 3) := dop_184 (zb_X9_canBe_0 16 rfl) (zb_X9_canBe_0 17 rfl) (zb_X9_canBe_0 18 rfl) rfl
theorem dX9_canBe_19 : decode cX9_canBe 19 = .ok (.ifCond .eq 9, 3) := dop_153 (zb_X9_canBe_0 19 rfl) (zb_X9_canBe_0 20 rfl) (zb_X9_canBe_0 21 rfl) rfl
theorem dX9_canBe_22 : decode cX9_canBe 22 = .ok (.aload_n 0, 1) := dop_42 (zb_X9_canBe_0 22 rfl)
theorem dX9_canBe_23 : decode cX9_canBe 23 = .ok (.aload_n 1, 1) := dop_43 (zb_X9_canBe_0 23 rfl)
theorem dX9_canBe_24 : decode cX9_canBe 24 = .ok (.iload_n 3, 1) := dop_29 (zb_X9_canBe_0 24 rfl)
theorem dX9_canBe_25 : decode cX9_canBe 25 = .ok (.invokevirtual 49, 3) := dop_182 (zb_X9_canBe_0 25 rfl) (zb_X9_canBe_0 26 rfl) (zb_X9_canBe_0 27 rfl) rfl
theorem dX9_canBe_28 : decode cX9_canBe 28 = .ok (.iinc 3 1, 3) := dop_132 (zb_X9_canBe_0 28 rfl) (zb_X9_canBe_0 29 rfl) (zb_X9_canBe_0 30 rfl) rfl
theorem dX9_canBe_31 : decode cX9_canBe 31 = .ok (.goto (-25), 3) := dop_167 (zb_X9_canBe_0 31 rfl) (zb_X9_canBe_0 32 rfl) (zb_X9_canBe_0 33 rfl) rfl
theorem dX9_canBe_34 : decode cX9_canBe 34 = .ok (.iconst 0, 1) := dop_3 (zb_X9_canBe_0 34 rfl)
theorem dX9_canBe_35 : decode cX9_canBe 35 = .ok (.istore_n 3, 1) := dop_62 (zb_X9_canBe_0 35 rfl)
theorem dX9_canBe_36 : decode cX9_canBe 36 = .ok (.iload_n 3, 1) := dop_29 (zb_X9_canBe_0 36 rfl)
theorem dX9_canBe_37 : decode cX9_canBe 37 = .ok (.bipush 6, 2) := dop_16 (zb_X9_canBe_0 37 rfl) (zb_X9_canBe_0 38 rfl) rfl
theorem ze_X9_canBe_2 : (dcn cX9_canBe).drop 79 = zt_X9_canBe_2 := dw_n (wl := zw_X9_canBe_1) ze_X9_canBe_1 rfl
theorem zb_X9_canBe_1 (j : Nat) {n : Nat} (e : zw_X9_canBe_1[j]? = some n) : dby cX9_canBe (39 + j) n := dw_b (t := zt_X9_canBe_2) ze_X9_canBe_1 j e
theorem dX9_canBe_39 : decode cX9_canBe 39 = .ok (.if_icmp .ge 24, 3) := dop_162 (zb_X9_canBe_1 0 rfl) (zb_X9_canBe_1 1 rfl) (zb_X9_canBe_1 2 rfl) rfl
theorem dX9_canBe_42 : decode cX9_canBe 42 = .ok (.aload_n 1, 1) := dop_43 (zb_X9_canBe_1 3 rfl)
theorem dX9_canBe_43 : decode cX9_canBe 43 = .ok (.getfield 53, 3) := dop_180 (zb_X9_canBe_1 4 rfl) (zb_X9_canBe_1 5 rfl) (zb_X9_canBe_1 6 rfl) rfl
theorem dX9_canBe_46 : decode cX9_canBe 46 = .ok (.iload_n 3, 1) := dop_29 (zb_X9_canBe_1 7 rfl)
theorem dX9_canBe_47 : decode cX9_canBe 47 = .ok (.iaload, 1) := dop_46 (zb_X9_canBe_1 8 rfl)
theorem dX9_canBe_48 : decode cX9_canBe 48 = .ok (.iconst (-1), 1) := dop_2 (zb_X9_canBe_1 9 rfl)
theorem dX9_canBe_49 : decode cX9_canBe 49 = .ok (.if_icmp .eq 8, 3) := dop_159 (zb_X9_canBe_1 10 rfl) (zb_X9_canBe_1 11 rfl) (zb_X9_canBe_1 12 rfl) rfl
theorem dX9_canBe_52 : decode cX9_canBe 52 = .ok (.aload_n 0, 1) := dop_42 (zb_X9_canBe_1 13 rfl)
theorem dX9_canBe_53 : decode cX9_canBe 53 = .ok (.iload_n 3, 1) := dop_29 (zb_X9_canBe_1 14 rfl)
theorem dX9_canBe_54 : decode cX9_canBe 54 = .ok (.invokevirtual 56, 3) := dop_182 (zb_X9_canBe_1 15 rfl) (zb_X9_canBe_1 16 rfl) (zb_X9_canBe_1 17 rfl) rfl
theorem dX9_canBe_57 : decode cX9_canBe 57 = .ok (.iinc 3 1, 3) := dop_132 (zb_X9_canBe_1 18 rfl) (zb_X9_canBe_1 19 rfl) (zb_X9_canBe_1 20 rfl) rfl
theorem dX9_canBe_60 : decode cX9_canBe 60 = .ok (.goto (-24), 3) := dop_167 (zb_X9_canBe_1 21 rfl) (zb_X9_canBe_1 22 rfl) (zb_X9_canBe_1 23 rfl) rfl
theorem dX9_canBe_63 : decode cX9_canBe 63 = .ok (.iconst 0, 1) := dop_3 (zb_X9_canBe_1 24 rfl)
theorem dX9_canBe_64 : decode cX9_canBe 64 = .ok (.istore_n 3, 1) := dop_62 (zb_X9_canBe_1 25 rfl)
theorem dX9_canBe_65 : decode cX9_canBe 65 = .ok (.iload_n 3, 1) := dop_29 (zb_X9_canBe_1 26 rfl)
theorem dX9_canBe_66 : decode cX9_canBe 66 = .ok (.bipush 12, 2) := dop_16 (zb_X9_canBe_1 27 rfl) (zb_X9_canBe_1 28 rfl) rfl
theorem dX9_canBe_68 : decode cX9_canBe 68 = .ok (.if_icmp .ge 14, 3) := dop_162 (zb_X9_canBe_1 29 rfl) (zb_X9_canBe_1 30 rfl) (zb_X9_canBe_1 31 rfl) rfl
theorem dX9_canBe_71 : decode cX9_canBe 71 = .ok (.aload_n 0, 1) := dop_42 (zb_X9_canBe_1 32 rfl)
theorem dX9_canBe_72 : decode cX9_canBe 72 = .ok (.iload_n 3, 1) := dop_29 (zb_X9_canBe_1 33 rfl)
theorem dX9_canBe_73 : decode cX9_canBe 73 = .ok (.invokevirtual 60, 3) := dop_182 (zb_X9_canBe_1 34 rfl) (zb_X9_canBe_1 35 rfl) (zb_X9_canBe_1 36 rfl) rfl
theorem dX9_canBe_76 : decode cX9_canBe 76 = .ok (.iinc 3 1, 3) := dop_132 (zb_X9_canBe_1 37 rfl) (zb_X9_canBe_1 38 rfl) (zb_X9_canBe_1 39 rfl) rfl
theorem ze_X9_canBe_3 : (dcn cX9_canBe).drop 119 = zt_X9_canBe_3 := dw_n (wl := zw_X9_canBe_2) ze_X9_canBe_2 rfl
theorem zb_X9_canBe_2 (j : Nat) {n : Nat} (e : zw_X9_canBe_2[j]? = some n) : dby cX9_canBe (79 + j) n := dw_b (t := zt_X9_canBe_3) ze_X9_canBe_2 j e
theorem dX9_canBe_79 : decode cX9_canBe 79 = .ok (.goto (-14), 3) := dop_167 (zb_X9_canBe_2 0 rfl) (zb_X9_canBe_2 1 rfl) (zb_X9_canBe_2 2 rfl) rfl
theorem dX9_canBe_82 : decode cX9_canBe 82 = .ok (.iconst 0, 1) := dop_3 (zb_X9_canBe_2 3 rfl)
theorem dX9_canBe_83 : decode cX9_canBe 83 = .ok (.istore_n 3, 1) := dop_62 (zb_X9_canBe_2 4 rfl)
theorem dX9_canBe_84 : decode cX9_canBe 84 = .ok (.iload_n 3, 1) := dop_29 (zb_X9_canBe_2 5 rfl)
theorem dX9_canBe_85 : decode cX9_canBe 85 = .ok (.bipush 16, 2) := dop_16 (zb_X9_canBe_2 6 rfl) (zb_X9_canBe_2 7 rfl) rfl
theorem dX9_canBe_87 : decode cX9_canBe 87 = .ok (.if_icmp .ge 32, 3) := dop_162 (zb_X9_canBe_2 8 rfl) (zb_X9_canBe_2 9 rfl) (zb_X9_canBe_2 10 rfl) rfl
theorem dX9_canBe_90 : decode cX9_canBe 90 = .ok (.aload_n 1, 1) := dop_43 (zb_X9_canBe_2 11 rfl)
theorem dX9_canBe_91 : decode cX9_canBe 91 = .ok (.getfield 63, 3) := dop_180 (zb_X9_canBe_2 12 rfl) (zb_X9_canBe_2 13 rfl) (zb_X9_canBe_2 14 rfl) rfl
theorem dX9_canBe_94 : decode cX9_canBe 94 = .ok (.iload_n 3, 1) := dop_29 (zb_X9_canBe_2 15 rfl)
theorem dX9_canBe_95 : decode cX9_canBe 95 = .ok (.invokestatic 45, 3) := dop_184 (zb_X9_canBe_2 16 rfl) (zb_X9_canBe_2 17 rfl) (zb_X9_canBe_2 18 rfl) rfl
theorem dX9_canBe_98 : decode cX9_canBe 98 = .ok (.ifCond .eq 15, 3) := dop_153 (zb_X9_canBe_2 19 rfl) (zb_X9_canBe_2 20 rfl) (zb_X9_canBe_2 21 rfl) rfl
theorem dX9_canBe_101 : decode cX9_canBe 101 = .ok (.aload_n 0, 1) := dop_42 (zb_X9_canBe_2 22 rfl)
theorem dX9_canBe_102 : decode cX9_canBe 102 = .ok (.getfield 26, 3) := dop_180 (zb_X9_canBe_2 23 rfl) (zb_X9_canBe_2 24 rfl) (zb_X9_canBe_2 25 rfl) rfl
theorem dX9_canBe_105 : decode cX9_canBe 105 = .ok (.iload_n 3, 1) := dop_29 (zb_X9_canBe_2 26 rfl)
theorem dX9_canBe_106 : decode cX9_canBe 106 = .ok (.aaload, 1) := dop_50 (zb_X9_canBe_2 27 rfl)
theorem dX9_canBe_107 : decode cX9_canBe 107 = .ok (.lconst 1, 1) := dop_10 (zb_X9_canBe_2 28 rfl)
theorem dX9_canBe_108 : decode cX9_canBe 108 = .ok (.lconst 1, 1) := dop_10 (zb_X9_canBe_2 29 rfl)
theorem dX9_canBe_109 : decode cX9_canBe 109 = .ok (.iconst 1, 1) := dop_4 (zb_X9_canBe_2 30 rfl)
theorem dX9_canBe_110 : decode cX9_canBe 110 = .ok (.invokevirtual 66, 3) := dop_182 (zb_X9_canBe_2 31 rfl) (zb_X9_canBe_2 32 rfl) (zb_X9_canBe_2 33 rfl) rfl
theorem dX9_canBe_113 : decode cX9_canBe 113 = .ok (.iinc 3 1, 3) := dop_132 (zb_X9_canBe_2 34 rfl) (zb_X9_canBe_2 35 rfl) (zb_X9_canBe_2 36 rfl) rfl
theorem dX9_canBe_116 : decode cX9_canBe 116 = .ok (.goto (-32), 3) := dop_167 (zb_X9_canBe_2 37 rfl) (zb_X9_canBe_2 38 rfl) (zb_X9_canBe_2 39 rfl) rfl
theorem zb_X9_canBe_3 (j : Nat) {n : Nat} (e : zw_X9_canBe_3[j]? = some n) : dby cX9_canBe (119 + j) n := dw_b (t := []) ze_X9_canBe_3 j e
theorem dX9_canBe_119 : decode cX9_canBe 119 = .ok (.aload_n 0, 1) := dop_42 (zb_X9_canBe_3 0 rfl)
theorem dX9_canBe_120 : decode cX9_canBe 120 = .ok (.invokevirtual 72, 3) := dop_182 (zb_X9_canBe_3 1 rfl) (zb_X9_canBe_3 2 rfl) (zb_X9_canBe_3 3 rfl) rfl
theorem dX9_canBe_123 : decode cX9_canBe 123 = .ok (.ifCond .ne 5, 3) := dop_154 (zb_X9_canBe_3 4 rfl) (zb_X9_canBe_3 5 rfl) (zb_X9_canBe_3 6 rfl) rfl
theorem dX9_canBe_126 : decode cX9_canBe 126 = .ok (.iconst 0, 1) := dop_3 (zb_X9_canBe_3 7 rfl)
theorem dX9_canBe_127 : decode cX9_canBe 127 = .ok (.ireturn, 1) := dop_172 (zb_X9_canBe_3 8 rfl)
theorem dX9_canBe_128 : decode cX9_canBe 128 = .ok (.aload_n 0, 1) := dop_42 (zb_X9_canBe_3 9 rfl)
theorem dX9_canBe_129 : decode cX9_canBe 129 = .ok (.aload_n 0, 1) := dop_42 (zb_X9_canBe_3 10 rfl)
theorem dX9_canBe_130 : decode cX9_canBe 130 = .ok (.getfield 26, 3) := dop_180 (zb_X9_canBe_3 11 rfl) (zb_X9_canBe_3 12 rfl) (zb_X9_canBe_3 13 rfl) rfl
theorem dX9_canBe_133 : decode cX9_canBe 133 = .ok (.aload_n 0, 1) := dop_42 (zb_X9_canBe_3 14 rfl)
theorem dX9_canBe_134 : decode cX9_canBe 134 = .ok (.getfield 30, 3) := dop_180 (zb_X9_canBe_3 15 rfl) (zb_X9_canBe_3 16 rfl) (zb_X9_canBe_3 17 rfl) rfl
theorem dX9_canBe_137 : decode cX9_canBe 137 = .ok (.invokevirtual 76, 3) := dop_182 (zb_X9_canBe_3 18 rfl) (zb_X9_canBe_3 19 rfl) (zb_X9_canBe_3 20 rfl) rfl
theorem dX9_canBe_140 : decode cX9_canBe 140 = .ok (.aload_n 0, 1) := dop_42 (zb_X9_canBe_3 21 rfl)
theorem dX9_canBe_141 : decode cX9_canBe 141 = .ok (.aload_n 0, 1) := dop_42 (zb_X9_canBe_3 22 rfl)
theorem dX9_canBe_142 : decode cX9_canBe 142 = .ok (.getfield 30, 3) := dop_180 (zb_X9_canBe_3 23 rfl) (zb_X9_canBe_3 24 rfl) (zb_X9_canBe_3 25 rfl) rfl
theorem dX9_canBe_145 : decode cX9_canBe 145 = .ok (.aload_n 0, 1) := dop_42 (zb_X9_canBe_3 26 rfl)
theorem dX9_canBe_146 : decode cX9_canBe 146 = .ok (.getfield 33, 3) := dop_180 (zb_X9_canBe_3 27 rfl) (zb_X9_canBe_3 28 rfl) (zb_X9_canBe_3 29 rfl) rfl
theorem dX9_canBe_149 : decode cX9_canBe 149 = .ok (.invokevirtual 76, 3) := dop_182 (zb_X9_canBe_3 30 rfl) (zb_X9_canBe_3 31 rfl) (zb_X9_canBe_3 32 rfl) rfl
theorem dX9_canBe_152 : decode cX9_canBe 152 = .ok (.aload_n 0, 1) := dop_42 (zb_X9_canBe_3 33 rfl)
theorem dX9_canBe_153 : decode cX9_canBe 153 = .ok (.invokevirtual 80, 3) := dop_182 (zb_X9_canBe_3 34 rfl) (zb_X9_canBe_3 35 rfl) (zb_X9_canBe_3 36 rfl) rfl
theorem dX9_canBe_156 : decode cX9_canBe 156 = .ok (.ireturn, 1) := dop_172 (zb_X9_canBe_3 37 rfl)
def zw_X9_forget_0 : List Nat := [42, 180, 0, 9, 3, 184, 0, 83, 42, 180, 0, 19, 3, 184, 0, 83, 3, 60, 27, 16, 16, 162, 0, 18, 42, 180, 0, 26, 27, 50, 182, 0, 89, 132, 1, 1, 167, 255, 238, 177]
def zt_X9_forget_0 : List Nat := zw_X9_forget_0 ++ []
theorem ze_X9_forget_0 : (dcn cX9_forget).drop 0 = zt_X9_forget_0 := by decide +kernel
theorem zb_X9_forget_0 (j : Nat) {n : Nat} (e : zw_X9_forget_0[j]? = some n) : dby cX9_forget (0 + j) n := dw_b (t := []) ze_X9_forget_0 j e
theorem dX9_forget_0 : decode cX9_forget 0 = .ok (.aload_n 0, 1) := dop_42 (zb_X9_forget_0 0 rfl)
theorem dX9_forget_1 : decode cX9_forget 1 = .ok (.getfield 9, 3) := dop_180 (zb_X9_forget_0 1 rfl) (zb_X9_forget_0 2 rfl) (zb_X9_forget_0 3 rfl) rfl
theorem dX9_forget_4 : decode cX9_forget 4 = .ok (.iconst 0, 1) := dop_3 (zb_X9_forget_0 4 rfl)
theorem dX9_forget_5 : decode cX9_forget 5 = .ok (.invokestatic 83, 3) := dop_184 (zb_X9_forget_0 5 rfl) (zb_X9_forget_0 6 rfl) (zb_X9_forget_0 7 rfl) rfl
theorem dX9_forget_8 : decode cX9_forget 8 = .ok (.aload_n 0, 1) := dop_42 (zb_X9_forget_0 8 rfl)
theorem dX9_forget_9 : decode cX9_forget 9 = .ok (.getfield 19, 3) := dop_180 (zb_X9_forget_0 9 rfl) (zb_X9_forget_0 10 rfl) (zb_X9_forget_0 11 rfl) rfl
theorem dX9_forget_12 : decode cX9_forget 12 = .ok (.iconst 0, 1) := dop_3 (zb_X9_forget_0 12 rfl)
theorem dX9_forget_13 : decode cX9_forget 13 = .ok (.invokestatic 83, 3) := dop_184 (zb_X9_forget_0 13 rfl) (zb_X9_forget_0 14 rfl) (zb_X9_forget_0 15 rfl) rfl
theorem dX9_forget_16 : decode cX9_forget 16 = .ok (.iconst 0, 1) := dop_3 (zb_X9_forget_0 16 rfl)
theorem dX9_forget_17 : decode cX9_forget 17 = .ok (.istore_n 1, 1) := dop_60 (zb_X9_forget_0 17 rfl)
theorem dX9_forget_18 : decode cX9_forget 18 = .ok (.iload_n 1, 1) := dop_27 (zb_X9_forget_0 18 rfl)
theorem dX9_forget_19 : decode cX9_forget 19 = .ok (.bipush 16, 2) := dop_16 (zb_X9_forget_0 19 rfl) (zb_X9_forget_0 20 rfl) rfl
theorem dX9_forget_21 : decode cX9_forget 21 = .ok (.if_icmp .ge 18, 3) := dop_162 (zb_X9_forget_0 21 rfl) (zb_X9_forget_0 22 rfl) (zb_X9_forget_0 23 rfl) rfl
theorem dX9_forget_24 : decode cX9_forget 24 = .ok (.aload_n 0, 1) := dop_42 (zb_X9_forget_0 24 rfl)
theorem dX9_forget_25 : decode cX9_forget 25 = .ok (.getfield 26, 3) := dop_180 (zb_X9_forget_0 25 rfl) (zb_X9_forget_0 26 rfl) (zb_X9_forget_0 27 rfl) rfl
theorem dX9_forget_28 : decode cX9_forget 28 = .ok (.iload_n 1, 1) := dop_27 (zb_X9_forget_0 28 rfl)
theorem dX9_forget_29 : decode cX9_forget 29 = .ok (.aaload, 1) := dop_50 (zb_X9_forget_0 29 rfl)
theorem dX9_forget_30 : decode cX9_forget 30 = .ok (.invokevirtual 89, 3) := dop_182 (zb_X9_forget_0 30 rfl) (zb_X9_forget_0 31 rfl) (zb_X9_forget_0 32 rfl) rfl
theorem dX9_forget_33 : decode cX9_forget 33 = .ok (.iinc 1 1, 3) := dop_132 (zb_X9_forget_0 33 rfl) (zb_X9_forget_0 34 rfl) (zb_X9_forget_0 35 rfl) rfl
theorem dX9_forget_36 : decode cX9_forget 36 = .ok (.goto (-18), 3) := dop_167 (zb_X9_forget_0 36 rfl) (zb_X9_forget_0 37 rfl) (zb_X9_forget_0 38 rfl) rfl
theorem dX9_forget_39 : decode cX9_forget 39 = .ok (.return_, 1) := dop_177 (zb_X9_forget_0 39 rfl)
def zw_X9_tie_1 : List Nat := [4, 167, 0, 4, 3, 182, 0, 105, 42, 180, 0, 19, 21, 4, 42, 180, 0, 19, 21, 4, 46, 43, 28, 182, 0, 109, 184, 0, 112, 79, 177]
def zt_X9_tie_1 : List Nat := zw_X9_tie_1 ++ []
def zw_X9_tie_0 : List Nat := [43, 28, 182, 0, 92, 62, 29, 2, 160, 0, 4, 177, 43, 28, 182, 0, 96, 7, 104, 29, 96, 54, 4, 42, 21, 4, 43, 28, 182, 0, 99, 43, 180, 0, 102, 28, 46, 153, 0, 7]
def zt_X9_tie_0 : List Nat := zw_X9_tie_0 ++ zt_X9_tie_1
theorem ze_X9_tie_0 : (dcn cX9_tie).drop 0 = zt_X9_tie_0 := by decide +kernel
theorem ze_X9_tie_1 : (dcn cX9_tie).drop 40 = zt_X9_tie_1 := dw_n (wl := zw_X9_tie_0) ze_X9_tie_0 rfl
theorem zb_X9_tie_0 (j : Nat) {n : Nat} (e : zw_X9_tie_0[j]? = some n) : dby cX9_tie (0 + j) n := dw_b (t := zt_X9_tie_1) ze_X9_tie_0 j e
theorem dX9_tie_0 : decode cX9_tie 0 = .ok (.aload_n 1, 1) := dop_43 (zb_X9_tie_0 0 rfl)
theorem dX9_tie_1 : decode cX9_tie 1 = .ok (.iload_n 2, 1) := dop_28 (zb_X9_tie_0 1 rfl)
theorem dX9_tie_2 : decode cX9_tie 2 = .ok (.invokevirtual 92, 3) := dop_182 (zb_X9_tie_0 2 rfl) (zb_X9_tie_0 3 rfl) (zb_X9_tie_0 4 rfl) rfl
theorem dX9_tie_5 : decode cX9_tie 5 = .ok (.istore_n 3, 1) := dop_62 (zb_X9_tie_0 5 rfl)
theorem dX9_tie_6 : decode cX9_tie 6 = .ok (.iload_n 3, 1) := dop_29 (zb_X9_tie_0 6 rfl)
theorem dX9_tie_7 : decode cX9_tie 7 = .ok (.iconst (-1), 1) := dop_2 (zb_X9_tie_0 7 rfl)
theorem dX9_tie_8 : decode cX9_tie 8 = .ok (.if_icmp .ne 4, 3) := dop_160 (zb_X9_tie_0 8 rfl) (zb_X9_tie_0 9 rfl) (zb_X9_tie_0 10 rfl) rfl
theorem dX9_tie_11 : decode cX9_tie 11 = .ok (.return_, 1) := dop_177 (zb_X9_tie_0 11 rfl)
theorem dX9_tie_12 : decode cX9_tie 12 = .ok (.aload_n 1, 1) := dop_43 (zb_X9_tie_0 12 rfl)
theorem dX9_tie_13 : decode cX9_tie 13 = .ok (.iload_n 2, 1) := dop_28 (zb_X9_tie_0 13 rfl)
theorem dX9_tie_14 : decode cX9_tie 14 = .ok (.invokevirtual 96, 3) := dop_182 (zb_X9_tie_0 14 rfl) (zb_X9_tie_0 15 rfl) (zb_X9_tie_0 16 rfl) rfl
theorem dX9_tie_17 : decode cX9_tie 17 = .ok (.iconst 4, 1) := dop_7 (zb_X9_tie_0 17 rfl)
theorem dX9_tie_18 : decode cX9_tie 18 = .ok (.imul, 1) := dop_104 (zb_X9_tie_0 18 rfl)
theorem dX9_tie_19 : decode cX9_tie 19 = .ok (.iload_n 3, 1) := dop_29 (zb_X9_tie_0 19 rfl)
theorem dX9_tie_20 : decode cX9_tie 20 = .ok (.iadd, 1) := dop_96 (zb_X9_tie_0 20 rfl)
theorem dX9_tie_21 : decode cX9_tie 21 = .ok (.istore 4, 2) := dop_54 (zb_X9_tie_0 21 rfl) (zb_X9_tie_0 22 rfl)
theorem dX9_tie_23 : decode cX9_tie 23 = .ok (.aload_n 0, 1) := dop_42 (zb_X9_tie_0 23 rfl)
theorem dX9_tie_24 : decode cX9_tie 24 = .ok (.iload 4, 2) := dop_21 (zb_X9_tie_0 24 rfl) (zb_X9_tie_0 25 rfl)
theorem dX9_tie_26 : decode cX9_tie 26 = .ok (.aload_n 1, 1) := dop_43 (zb_X9_tie_0 26 rfl)
theorem dX9_tie_27 : decode cX9_tie 27 = .ok (.iload_n 2, 1) := dop_28 (zb_X9_tie_0 27 rfl)
theorem dX9_tie_28 : decode cX9_tie 28 = .ok (.invokevirtual 99, 3) := dop_182 (zb_X9_tie_0 28 rfl) (zb_X9_tie_0 29 rfl) (zb_X9_tie_0 30 rfl) rfl
theorem dX9_tie_31 : decode cX9_tie 31 = .ok (.aload_n 1, 1) := dop_43 (zb_X9_tie_0 31 rfl)
theorem dX9_tie_32 : decode cX9_tie 32 = .ok (.getfield 102, 3) := dop_180 (zb_X9_tie_0 32 rfl) (zb_X9_tie_0 33 rfl) (zb_X9_tie_0 34 rfl) rfl
theorem dX9_tie_35 : decode cX9_tie 35 = .ok (.iload_n 2, 1) := dop_28 (zb_X9_tie_0 35 rfl)
theorem dX9_tie_36 : decode cX9_tie 36 = .ok (.iaload, 1) := dop_46 (zb_X9_tie_0 36 rfl)
theorem dX9_tie_37 : decode cX9_tie 37 = .ok (.ifCond .eq 7, 3) := dop_153 (zb_X9_tie_0 37 rfl) (zb_X9_tie_0 38 rfl) (zb_X9_tie_0 39 rfl) rfl
theorem zb_X9_tie_1 (j : Nat) {n : Nat} (e : zw_X9_tie_1[j]? = some n) : dby cX9_tie (40 + j) n := dw_b (t := []) ze_X9_tie_1 j e
theorem dX9_tie_40 : decode cX9_tie 40 = .ok (.iconst 1, 1) := dop_4 (zb_X9_tie_1 0 rfl)
theorem dX9_tie_41 : decode cX9_tie 41 = .ok (.goto 4, 3) := dop_167 (zb_X9_tie_1 1 rfl) (zb_X9_tie_1 2 rfl) (zb_X9_tie_1 3 rfl) rfl
theorem dX9_tie_44 : decode cX9_tie 44 = .ok (.iconst 0, 1) := dop_3 (zb_X9_tie_1 4 rfl)
theorem dX9_tie_45 : decode cX9_tie 45 = .ok (.invokevirtual 105, 3) := dop_182 (zb_X9_tie_1 5 rfl) (zb_X9_tie_1 6 rfl) (zb_X9_tie_1 7 rfl) rfl
theorem dX9_tie_48 : decode cX9_tie 48 = .ok (.aload_n 0, 1) := dop_42 (zb_X9_tie_1 8 rfl)
theorem dX9_tie_49 : decode cX9_tie 49 = .ok (.getfield 19, 3) := dop_180 (zb_X9_tie_1 9 rfl) (zb_X9_tie_1 10 rfl) (zb_X9_tie_1 11 rfl) rfl
theorem dX9_tie_52 : decode cX9_tie 52 = .ok (.iload 4, 2) := dop_21 (zb_X9_tie_1 12 rfl) (zb_X9_tie_1 13 rfl)
theorem dX9_tie_54 : decode cX9_tie 54 = .ok (.aload_n 0, 1) := dop_42 (zb_X9_tie_1 14 rfl)
theorem dX9_tie_55 : decode cX9_tie 55 = .ok (.getfield 19, 3) := dop_180 (zb_X9_tie_1 15 rfl) (zb_X9_tie_1 16 rfl) (zb_X9_tie_1 17 rfl) rfl
theorem dX9_tie_58 : decode cX9_tie 58 = .ok (.iload 4, 2) := dop_21 (zb_X9_tie_1 18 rfl) (zb_X9_tie_1 19 rfl)
theorem dX9_tie_60 : decode cX9_tie 60 = .ok (.iaload, 1) := dop_46 (zb_X9_tie_1 20 rfl)
theorem dX9_tie_61 : decode cX9_tie 61 = .ok (.aload_n 1, 1) := dop_43 (zb_X9_tie_1 21 rfl)
theorem dX9_tie_62 : decode cX9_tie 62 = .ok (.iload_n 2, 1) := dop_28 (zb_X9_tie_1 22 rfl)
theorem dX9_tie_63 : decode cX9_tie 63 = .ok (.invokevirtual 109, 3) := dop_182 (zb_X9_tie_1 23 rfl) (zb_X9_tie_1 24 rfl) (zb_X9_tie_1 25 rfl) rfl
theorem dX9_tie_66 : decode cX9_tie 66 = .ok (.invokestatic 112, 3) := dop_184 (zb_X9_tie_1 26 rfl) (zb_X9_tie_1 27 rfl) (zb_X9_tie_1 28 rfl) rfl
theorem dX9_tie_69 : decode cX9_tie 69 = .ok (.iastore, 1) := dop_79 (zb_X9_tie_1 29 rfl)
theorem dX9_tie_70 : decode cX9_tie 70 = .ok (.return_, 1) := dop_177 (zb_X9_tie_1 30 rfl)
def zw_X9_lower_1 : List Nat := [180, 0, 9, 27, 46, 160, 0, 14, 29, 153, 0, 10, 42, 180, 0, 15, 27, 4, 84, 177]
def zt_X9_lower_1 : List Nat := zw_X9_lower_1 ++ []
def zw_X9_lower_0 : List Nat := [42, 180, 0, 9, 27, 46, 153, 0, 13, 28, 42, 180, 0, 9, 27, 46, 162, 0, 20, 42, 180, 0, 9, 27, 28, 79, 42, 180, 0, 15, 27, 29, 84, 167, 0, 24, 28, 42]
def zt_X9_lower_0 : List Nat := zw_X9_lower_0 ++ zt_X9_lower_1
theorem ze_X9_lower_0 : (dcn cX9_lower).drop 0 = zt_X9_lower_0 := by decide +kernel
theorem ze_X9_lower_1 : (dcn cX9_lower).drop 38 = zt_X9_lower_1 := dw_n (wl := zw_X9_lower_0) ze_X9_lower_0 rfl
theorem zb_X9_lower_0 (j : Nat) {n : Nat} (e : zw_X9_lower_0[j]? = some n) : dby cX9_lower (0 + j) n := dw_b (t := zt_X9_lower_1) ze_X9_lower_0 j e
theorem dX9_lower_0 : decode cX9_lower 0 = .ok (.aload_n 0, 1) := dop_42 (zb_X9_lower_0 0 rfl)
theorem dX9_lower_1 : decode cX9_lower 1 = .ok (.getfield 9, 3) := dop_180 (zb_X9_lower_0 1 rfl) (zb_X9_lower_0 2 rfl) (zb_X9_lower_0 3 rfl) rfl
theorem dX9_lower_4 : decode cX9_lower 4 = .ok (.iload_n 1, 1) := dop_27 (zb_X9_lower_0 4 rfl)
theorem dX9_lower_5 : decode cX9_lower 5 = .ok (.iaload, 1) := dop_46 (zb_X9_lower_0 5 rfl)
theorem dX9_lower_6 : decode cX9_lower 6 = .ok (.ifCond .eq 13, 3) := dop_153 (zb_X9_lower_0 6 rfl) (zb_X9_lower_0 7 rfl) (zb_X9_lower_0 8 rfl) rfl
theorem dX9_lower_9 : decode cX9_lower 9 = .ok (.iload_n 2, 1) := dop_28 (zb_X9_lower_0 9 rfl)
theorem dX9_lower_10 : decode cX9_lower 10 = .ok (.aload_n 0, 1) := dop_42 (zb_X9_lower_0 10 rfl)
theorem dX9_lower_11 : decode cX9_lower 11 = .ok (.getfield 9, 3) := dop_180 (zb_X9_lower_0 11 rfl) (zb_X9_lower_0 12 rfl) (zb_X9_lower_0 13 rfl) rfl
theorem dX9_lower_14 : decode cX9_lower 14 = .ok (.iload_n 1, 1) := dop_27 (zb_X9_lower_0 14 rfl)
theorem dX9_lower_15 : decode cX9_lower 15 = .ok (.iaload, 1) := dop_46 (zb_X9_lower_0 15 rfl)
theorem dX9_lower_16 : decode cX9_lower 16 = .ok (.if_icmp .ge 20, 3) := dop_162 (zb_X9_lower_0 16 rfl) (zb_X9_lower_0 17 rfl) (zb_X9_lower_0 18 rfl) rfl
theorem dX9_lower_19 : decode cX9_lower 19 = .ok (.aload_n 0, 1) := dop_42 (zb_X9_lower_0 19 rfl)
theorem dX9_lower_20 : decode cX9_lower 20 = .ok (.getfield 9, 3) := dop_180 (zb_X9_lower_0 20 rfl) (zb_X9_lower_0 21 rfl) (zb_X9_lower_0 22 rfl) rfl
theorem dX9_lower_23 : decode cX9_lower 23 = .ok (.iload_n 1, 1) := dop_27 (zb_X9_lower_0 23 rfl)
theorem dX9_lower_24 : decode cX9_lower 24 = .ok (.iload_n 2, 1) := dop_28 (zb_X9_lower_0 24 rfl)
theorem dX9_lower_25 : decode cX9_lower 25 = .ok (.iastore, 1) := dop_79 (zb_X9_lower_0 25 rfl)
theorem dX9_lower_26 : decode cX9_lower 26 = .ok (.aload_n 0, 1) := dop_42 (zb_X9_lower_0 26 rfl)
theorem dX9_lower_27 : decode cX9_lower 27 = .ok (.getfield 15, 3) := dop_180 (zb_X9_lower_0 27 rfl) (zb_X9_lower_0 28 rfl) (zb_X9_lower_0 29 rfl) rfl
theorem dX9_lower_30 : decode cX9_lower 30 = .ok (.iload_n 1, 1) := dop_27 (zb_X9_lower_0 30 rfl)
theorem dX9_lower_31 : decode cX9_lower 31 = .ok (.iload_n 3, 1) := dop_29 (zb_X9_lower_0 31 rfl)
theorem dX9_lower_32 : decode cX9_lower 32 = .ok (.bastore, 1) := dop_84 (zb_X9_lower_0 32 rfl)
theorem dX9_lower_33 : decode cX9_lower 33 = .ok (.goto 24, 3) := dop_167 (zb_X9_lower_0 33 rfl) (zb_X9_lower_0 34 rfl) (zb_X9_lower_0 35 rfl) rfl
theorem dX9_lower_36 : decode cX9_lower 36 = .ok (.iload_n 2, 1) := dop_28 (zb_X9_lower_0 36 rfl)
theorem dX9_lower_37 : decode cX9_lower 37 = .ok (.aload_n 0, 1) := dop_42 (zb_X9_lower_0 37 rfl)
theorem zb_X9_lower_1 (j : Nat) {n : Nat} (e : zw_X9_lower_1[j]? = some n) : dby cX9_lower (38 + j) n := dw_b (t := []) ze_X9_lower_1 j e
theorem dX9_lower_38 : decode cX9_lower 38 = .ok (.getfield 9, 3) := dop_180 (zb_X9_lower_1 0 rfl) (zb_X9_lower_1 1 rfl) (zb_X9_lower_1 2 rfl) rfl
theorem dX9_lower_41 : decode cX9_lower 41 = .ok (.iload_n 1, 1) := dop_27 (zb_X9_lower_1 3 rfl)
theorem dX9_lower_42 : decode cX9_lower 42 = .ok (.iaload, 1) := dop_46 (zb_X9_lower_1 4 rfl)
theorem dX9_lower_43 : decode cX9_lower 43 = .ok (.if_icmp .ne 14, 3) := dop_160 (zb_X9_lower_1 5 rfl) (zb_X9_lower_1 6 rfl) (zb_X9_lower_1 7 rfl) rfl
theorem dX9_lower_46 : decode cX9_lower 46 = .ok (.iload_n 3, 1) := dop_29 (zb_X9_lower_1 8 rfl)
theorem dX9_lower_47 : decode cX9_lower 47 = .ok (.ifCond .eq 10, 3) := dop_153 (zb_X9_lower_1 9 rfl) (zb_X9_lower_1 10 rfl) (zb_X9_lower_1 11 rfl) rfl
theorem dX9_lower_50 : decode cX9_lower 50 = .ok (.aload_n 0, 1) := dop_42 (zb_X9_lower_1 12 rfl)
theorem dX9_lower_51 : decode cX9_lower 51 = .ok (.getfield 15, 3) := dop_180 (zb_X9_lower_1 13 rfl) (zb_X9_lower_1 14 rfl) (zb_X9_lower_1 15 rfl) rfl
theorem dX9_lower_54 : decode cX9_lower 54 = .ok (.iload_n 1, 1) := dop_27 (zb_X9_lower_1 16 rfl)
theorem dX9_lower_55 : decode cX9_lower 55 = .ok (.iconst 1, 1) := dop_4 (zb_X9_lower_1 17 rfl)
theorem dX9_lower_56 : decode cX9_lower 56 = .ok (.bastore, 1) := dop_84 (zb_X9_lower_1 18 rfl)
theorem dX9_lower_57 : decode cX9_lower 57 = .ok (.return_, 1) := dop_177 (zb_X9_lower_1 19 rfl)
def zw_X9_tieCut_1 : List Nat := [46, 42, 180, 0, 15, 29, 51, 182, 0, 105, 42, 180, 0, 19, 29, 42, 180, 0, 19, 29, 46, 42, 180, 0, 19, 21, 4, 46, 184, 0, 112, 79, 132, 2, 1, 167, 255, 183, 177]
def zt_X9_tieCut_1 : List Nat := zw_X9_tieCut_1 ++ []
def zw_X9_tieCut_0 : List Nat := [3, 61, 28, 7, 162, 0, 74, 27, 7, 104, 28, 96, 62, 27, 16, 6, 96, 7, 104, 28, 96, 54, 4, 42, 180, 0, 9, 29, 46, 153, 0, 21, 42, 21, 4, 42, 180, 0, 9, 29]
def zt_X9_tieCut_0 : List Nat := zw_X9_tieCut_0 ++ zt_X9_tieCut_1
theorem ze_X9_tieCut_0 : (dcn cX9_tieCut).drop 0 = zt_X9_tieCut_0 := by decide +kernel
theorem ze_X9_tieCut_1 : (dcn cX9_tieCut).drop 40 = zt_X9_tieCut_1 := dw_n (wl := zw_X9_tieCut_0) ze_X9_tieCut_0 rfl
theorem zb_X9_tieCut_0 (j : Nat) {n : Nat} (e : zw_X9_tieCut_0[j]? = some n) : dby cX9_tieCut (0 + j) n := dw_b (t := zt_X9_tieCut_1) ze_X9_tieCut_0 j e
theorem dX9_tieCut_0 : decode cX9_tieCut 0 = .ok (.iconst 0, 1) := dop_3 (zb_X9_tieCut_0 0 rfl)
theorem dX9_tieCut_1 : decode cX9_tieCut 1 = .ok (.istore_n 2, 1) := dop_61 (zb_X9_tieCut_0 1 rfl)
theorem dX9_tieCut_2 : decode cX9_tieCut 2 = .ok (.iload_n 2, 1) := dop_28 (zb_X9_tieCut_0 2 rfl)
theorem dX9_tieCut_3 : decode cX9_tieCut 3 = .ok (.iconst 4, 1) := dop_7 (zb_X9_tieCut_0 3 rfl)
theorem dX9_tieCut_4 : decode cX9_tieCut 4 = .ok (.if_icmp .ge 74, 3) := dop_162 (zb_X9_tieCut_0 4 rfl) (zb_X9_tieCut_0 5 rfl) (zb_X9_tieCut_0 6 rfl) rfl
theorem dX9_tieCut_7 : decode cX9_tieCut 7 = .ok (.iload_n 1, 1) := dop_27 (zb_X9_tieCut_0 7 rfl)
theorem dX9_tieCut_8 : decode cX9_tieCut 8 = .ok (.iconst 4, 1) := dop_7 (zb_X9_tieCut_0 8 rfl)
theorem dX9_tieCut_9 : decode cX9_tieCut 9 = .ok (.imul, 1) := dop_104 (zb_X9_tieCut_0 9 rfl)
theorem dX9_tieCut_10 : decode cX9_tieCut 10 = .ok (.iload_n 2, 1) := dop_28 (zb_X9_tieCut_0 10 rfl)
theorem dX9_tieCut_11 : decode cX9_tieCut 11 = .ok (.iadd, 1) := dop_96 (zb_X9_tieCut_0 11 rfl)
theorem dX9_tieCut_12 : decode cX9_tieCut 12 = .ok (.istore_n 3, 1) := dop_62 (zb_X9_tieCut_0 12 rfl)
theorem dX9_tieCut_13 : decode cX9_tieCut 13 = .ok (.iload_n 1, 1) := dop_27 (zb_X9_tieCut_0 13 rfl)
theorem dX9_tieCut_14 : decode cX9_tieCut 14 = .ok (.bipush 6, 2) := dop_16 (zb_X9_tieCut_0 14 rfl) (zb_X9_tieCut_0 15 rfl) rfl
theorem dX9_tieCut_16 : decode cX9_tieCut 16 = .ok (.iadd, 1) := dop_96 (zb_X9_tieCut_0 16 rfl)
theorem dX9_tieCut_17 : decode cX9_tieCut 17 = .ok (.iconst 4, 1) := dop_7 (zb_X9_tieCut_0 17 rfl)
theorem dX9_tieCut_18 : decode cX9_tieCut 18 = .ok (.imul, 1) := dop_104 (zb_X9_tieCut_0 18 rfl)
theorem dX9_tieCut_19 : decode cX9_tieCut 19 = .ok (.iload_n 2, 1) := dop_28 (zb_X9_tieCut_0 19 rfl)
theorem dX9_tieCut_20 : decode cX9_tieCut 20 = .ok (.iadd, 1) := dop_96 (zb_X9_tieCut_0 20 rfl)
theorem dX9_tieCut_21 : decode cX9_tieCut 21 = .ok (.istore 4, 2) := dop_54 (zb_X9_tieCut_0 21 rfl) (zb_X9_tieCut_0 22 rfl)
theorem dX9_tieCut_23 : decode cX9_tieCut 23 = .ok (.aload_n 0, 1) := dop_42 (zb_X9_tieCut_0 23 rfl)
theorem dX9_tieCut_24 : decode cX9_tieCut 24 = .ok (.getfield 9, 3) := dop_180 (zb_X9_tieCut_0 24 rfl) (zb_X9_tieCut_0 25 rfl) (zb_X9_tieCut_0 26 rfl) rfl
theorem dX9_tieCut_27 : decode cX9_tieCut 27 = .ok (.iload_n 3, 1) := dop_29 (zb_X9_tieCut_0 27 rfl)
theorem dX9_tieCut_28 : decode cX9_tieCut 28 = .ok (.iaload, 1) := dop_46 (zb_X9_tieCut_0 28 rfl)
theorem dX9_tieCut_29 : decode cX9_tieCut 29 = .ok (.ifCond .eq 21, 3) := dop_153 (zb_X9_tieCut_0 29 rfl) (zb_X9_tieCut_0 30 rfl) (zb_X9_tieCut_0 31 rfl) rfl
theorem dX9_tieCut_32 : decode cX9_tieCut 32 = .ok (.aload_n 0, 1) := dop_42 (zb_X9_tieCut_0 32 rfl)
theorem dX9_tieCut_33 : decode cX9_tieCut 33 = .ok (.iload 4, 2) := dop_21 (zb_X9_tieCut_0 33 rfl) (zb_X9_tieCut_0 34 rfl)
theorem dX9_tieCut_35 : decode cX9_tieCut 35 = .ok (.aload_n 0, 1) := dop_42 (zb_X9_tieCut_0 35 rfl)
theorem dX9_tieCut_36 : decode cX9_tieCut 36 = .ok (.getfield 9, 3) := dop_180 (zb_X9_tieCut_0 36 rfl) (zb_X9_tieCut_0 37 rfl) (zb_X9_tieCut_0 38 rfl) rfl
theorem dX9_tieCut_39 : decode cX9_tieCut 39 = .ok (.iload_n 3, 1) := dop_29 (zb_X9_tieCut_0 39 rfl)
theorem zb_X9_tieCut_1 (j : Nat) {n : Nat} (e : zw_X9_tieCut_1[j]? = some n) : dby cX9_tieCut (40 + j) n := dw_b (t := []) ze_X9_tieCut_1 j e
theorem dX9_tieCut_40 : decode cX9_tieCut 40 = .ok (.iaload, 1) := dop_46 (zb_X9_tieCut_1 0 rfl)
theorem dX9_tieCut_41 : decode cX9_tieCut 41 = .ok (.aload_n 0, 1) := dop_42 (zb_X9_tieCut_1 1 rfl)
theorem dX9_tieCut_42 : decode cX9_tieCut 42 = .ok (.getfield 15, 3) := dop_180 (zb_X9_tieCut_1 2 rfl) (zb_X9_tieCut_1 3 rfl) (zb_X9_tieCut_1 4 rfl) rfl
theorem dX9_tieCut_45 : decode cX9_tieCut 45 = .ok (.iload_n 3, 1) := dop_29 (zb_X9_tieCut_1 5 rfl)
theorem dX9_tieCut_46 : decode cX9_tieCut 46 = .ok (.baload, 1) := dop_51 (zb_X9_tieCut_1 6 rfl)
theorem dX9_tieCut_47 : decode cX9_tieCut 47 = .ok (.invokevirtual 105, 3) := dop_182 (zb_X9_tieCut_1 7 rfl) (zb_X9_tieCut_1 8 rfl) (zb_X9_tieCut_1 9 rfl) rfl
theorem dX9_tieCut_50 : decode cX9_tieCut 50 = .ok (.aload_n 0, 1) := dop_42 (zb_X9_tieCut_1 10 rfl)
theorem dX9_tieCut_51 : decode cX9_tieCut 51 = .ok (.getfield 19, 3) := dop_180 (zb_X9_tieCut_1 11 rfl) (zb_X9_tieCut_1 12 rfl) (zb_X9_tieCut_1 13 rfl) rfl
theorem dX9_tieCut_54 : decode cX9_tieCut 54 = .ok (.iload_n 3, 1) := dop_29 (zb_X9_tieCut_1 14 rfl)
theorem dX9_tieCut_55 : decode cX9_tieCut 55 = .ok (.aload_n 0, 1) := dop_42 (zb_X9_tieCut_1 15 rfl)
theorem dX9_tieCut_56 : decode cX9_tieCut 56 = .ok (.getfield 19, 3) := dop_180 (zb_X9_tieCut_1 16 rfl) (zb_X9_tieCut_1 17 rfl) (zb_X9_tieCut_1 18 rfl) rfl
theorem dX9_tieCut_59 : decode cX9_tieCut 59 = .ok (.iload_n 3, 1) := dop_29 (zb_X9_tieCut_1 19 rfl)
theorem dX9_tieCut_60 : decode cX9_tieCut 60 = .ok (.iaload, 1) := dop_46 (zb_X9_tieCut_1 20 rfl)
theorem dX9_tieCut_61 : decode cX9_tieCut 61 = .ok (.aload_n 0, 1) := dop_42 (zb_X9_tieCut_1 21 rfl)
theorem dX9_tieCut_62 : decode cX9_tieCut 62 = .ok (.getfield 19, 3) := dop_180 (zb_X9_tieCut_1 22 rfl) (zb_X9_tieCut_1 23 rfl) (zb_X9_tieCut_1 24 rfl) rfl
theorem dX9_tieCut_65 : decode cX9_tieCut 65 = .ok (.iload 4, 2) := dop_21 (zb_X9_tieCut_1 25 rfl) (zb_X9_tieCut_1 26 rfl)
theorem dX9_tieCut_67 : decode cX9_tieCut 67 = .ok (.iaload, 1) := dop_46 (zb_X9_tieCut_1 27 rfl)
theorem dX9_tieCut_68 : decode cX9_tieCut 68 = .ok (.invokestatic 112, 3) := dop_184 (zb_X9_tieCut_1 28 rfl) (zb_X9_tieCut_1 29 rfl) (zb_X9_tieCut_1 30 rfl) rfl
theorem dX9_tieCut_71 : decode cX9_tieCut 71 = .ok (.iastore, 1) := dop_79 (zb_X9_tieCut_1 31 rfl)
theorem dX9_tieCut_72 : decode cX9_tieCut 72 = .ok (.iinc 2 1, 3) := dop_132 (zb_X9_tieCut_1 32 rfl) (zb_X9_tieCut_1 33 rfl) (zb_X9_tieCut_1 34 rfl) rfl
theorem dX9_tieCut_75 : decode cX9_tieCut 75 = .ok (.goto (-73), 3) := dop_167 (zb_X9_tieCut_1 35 rfl) (zb_X9_tieCut_1 36 rfl) (zb_X9_tieCut_1 37 rfl) rfl
theorem dX9_tieCut_78 : decode cX9_tieCut 78 = .ok (.return_, 1) := dop_177 (zb_X9_tieCut_1 38 rfl)
def zw_X9_stepOver_2 : List Nat := [180, 0, 15, 28, 21, 4, 96, 51, 182, 0, 66, 132, 4, 1, 167, 255, 193, 132, 3, 1, 167, 255, 165, 177]
def zt_X9_stepOver_2 : List Nat := zw_X9_stepOver_2 ++ []
def zw_X9_stepOver_1 : List Nat := [21, 4, 96, 46, 153, 0, 45, 42, 180, 0, 26, 29, 7, 104, 21, 4, 96, 50, 42, 180, 0, 9, 28, 21, 4, 96, 46, 133, 42, 180, 0, 19, 28, 29, 96, 46, 133, 42]
def zt_X9_stepOver_1 : List Nat := zw_X9_stepOver_1 ++ zt_X9_stepOver_2
def zw_X9_stepOver_0 : List Nat := [27, 7, 104, 61, 3, 62, 29, 7, 162, 0, 92, 42, 180, 0, 19, 28, 29, 96, 46, 154, 0, 6, 167, 0, 72, 3, 54, 4, 21, 4, 7, 162, 0, 63, 42, 180, 0, 9, 28]
def zt_X9_stepOver_0 : List Nat := zw_X9_stepOver_0 ++ zt_X9_stepOver_1
theorem ze_X9_stepOver_0 : (dcn cX9_stepOver).drop 0 = zt_X9_stepOver_0 := by decide +kernel
theorem ze_X9_stepOver_1 : (dcn cX9_stepOver).drop 39 = zt_X9_stepOver_1 := dw_n (wl := zw_X9_stepOver_0) ze_X9_stepOver_0 rfl
theorem zb_X9_stepOver_0 (j : Nat) {n : Nat} (e : zw_X9_stepOver_0[j]? = some n) : dby cX9_stepOver (0 + j) n := dw_b (t := zt_X9_stepOver_1) ze_X9_stepOver_0 j e
theorem dX9_stepOver_0 : decode cX9_stepOver 0 = .ok (.iload_n 1, 1) := dop_27 (zb_X9_stepOver_0 0 rfl)
theorem dX9_stepOver_1 : decode cX9_stepOver 1 = .ok (.iconst 4, 1) := dop_7 (zb_X9_stepOver_0 1 rfl)
theorem dX9_stepOver_2 : decode cX9_stepOver 2 = .ok (.imul, 1) := dop_104 (zb_X9_stepOver_0 2 rfl)
theorem dX9_stepOver_3 : decode cX9_stepOver 3 = .ok (.istore_n 2, 1) := dop_61 (zb_X9_stepOver_0 3 rfl)
theorem dX9_stepOver_4 : decode cX9_stepOver 4 = .ok (.iconst 0, 1) := dop_3 (zb_X9_stepOver_0 4 rfl)
theorem dX9_stepOver_5 : decode cX9_stepOver 5 = .ok (.istore_n 3, 1) := dop_62 (zb_X9_stepOver_0 5 rfl)
theorem dX9_stepOver_6 : decode cX9_stepOver 6 = .ok (.iload_n 3, 1) := dop_29 (zb_X9_stepOver_0 6 rfl)
theorem dX9_stepOver_7 : decode cX9_stepOver 7 = .ok (.iconst 4, 1) := dop_7 (zb_X9_stepOver_0 7 rfl)
theorem dX9_stepOver_8 : decode cX9_stepOver 8 = .ok (.if_icmp .ge 92, 3) := dop_162 (zb_X9_stepOver_0 8 rfl) (zb_X9_stepOver_0 9 rfl) (zb_X9_stepOver_0 10 rfl) rfl
theorem dX9_stepOver_11 : decode cX9_stepOver 11 = .ok (.aload_n 0, 1) := dop_42 (zb_X9_stepOver_0 11 rfl)
theorem dX9_stepOver_12 : decode cX9_stepOver 12 = .ok (.getfield 19, 3) := dop_180 (zb_X9_stepOver_0 12 rfl) (zb_X9_stepOver_0 13 rfl) (zb_X9_stepOver_0 14 rfl) rfl
theorem dX9_stepOver_15 : decode cX9_stepOver 15 = .ok (.iload_n 2, 1) := dop_28 (zb_X9_stepOver_0 15 rfl)
theorem dX9_stepOver_16 : decode cX9_stepOver 16 = .ok (.iload_n 3, 1) := dop_29 (zb_X9_stepOver_0 16 rfl)
theorem dX9_stepOver_17 : decode cX9_stepOver 17 = .ok (.iadd, 1) := dop_96 (zb_X9_stepOver_0 17 rfl)
theorem dX9_stepOver_18 : decode cX9_stepOver 18 = .ok (.iaload, 1) := dop_46 (zb_X9_stepOver_0 18 rfl)
theorem dX9_stepOver_19 : decode cX9_stepOver 19 = .ok (.ifCond .ne 6, 3) := dop_154 (zb_X9_stepOver_0 19 rfl) (zb_X9_stepOver_0 20 rfl) (zb_X9_stepOver_0 21 rfl) rfl
theorem dX9_stepOver_22 : decode cX9_stepOver 22 = .ok (.goto 72, 3) := dop_167 (zb_X9_stepOver_0 22 rfl) (zb_X9_stepOver_0 23 rfl) (zb_X9_stepOver_0 24 rfl) rfl
theorem dX9_stepOver_25 : decode cX9_stepOver 25 = .ok (.iconst 0, 1) := dop_3 (zb_X9_stepOver_0 25 rfl)
theorem dX9_stepOver_26 : decode cX9_stepOver 26 = .ok (.istore 4, 2) := dop_54 (zb_X9_stepOver_0 26 rfl) (zb_X9_stepOver_0 27 rfl)
theorem dX9_stepOver_28 : decode cX9_stepOver 28 = .ok (.iload 4, 2) := dop_21 (zb_X9_stepOver_0 28 rfl) (zb_X9_stepOver_0 29 rfl)
theorem dX9_stepOver_30 : decode cX9_stepOver 30 = .ok (.iconst 4, 1) := dop_7 (zb_X9_stepOver_0 30 rfl)
theorem dX9_stepOver_31 : decode cX9_stepOver 31 = .ok (.if_icmp .ge 63, 3) := dop_162 (zb_X9_stepOver_0 31 rfl) (zb_X9_stepOver_0 32 rfl) (zb_X9_stepOver_0 33 rfl) rfl
theorem dX9_stepOver_34 : decode cX9_stepOver 34 = .ok (.aload_n 0, 1) := dop_42 (zb_X9_stepOver_0 34 rfl)
theorem dX9_stepOver_35 : decode cX9_stepOver 35 = .ok (.getfield 9, 3) := dop_180 (zb_X9_stepOver_0 35 rfl) (zb_X9_stepOver_0 36 rfl) (zb_X9_stepOver_0 37 rfl) rfl
theorem dX9_stepOver_38 : decode cX9_stepOver 38 = .ok (.iload_n 2, 1) := dop_28 (zb_X9_stepOver_0 38 rfl)
theorem ze_X9_stepOver_2 : (dcn cX9_stepOver).drop 77 = zt_X9_stepOver_2 := dw_n (wl := zw_X9_stepOver_1) ze_X9_stepOver_1 rfl
theorem zb_X9_stepOver_1 (j : Nat) {n : Nat} (e : zw_X9_stepOver_1[j]? = some n) : dby cX9_stepOver (39 + j) n := dw_b (t := zt_X9_stepOver_2) ze_X9_stepOver_1 j e
theorem dX9_stepOver_39 : decode cX9_stepOver 39 = .ok (.iload 4, 2) := dop_21 (zb_X9_stepOver_1 0 rfl) (zb_X9_stepOver_1 1 rfl)
theorem dX9_stepOver_41 : decode cX9_stepOver 41 = .ok (.iadd, 1) := dop_96 (zb_X9_stepOver_1 2 rfl)
theorem dX9_stepOver_42 : decode cX9_stepOver 42 = .ok (.iaload, 1) := dop_46 (zb_X9_stepOver_1 3 rfl)
theorem dX9_stepOver_43 : decode cX9_stepOver 43 = .ok (.ifCond .eq 45, 3) := dop_153 (zb_X9_stepOver_1 4 rfl) (zb_X9_stepOver_1 5 rfl) (zb_X9_stepOver_1 6 rfl) rfl
theorem dX9_stepOver_46 : decode cX9_stepOver 46 = .ok (.aload_n 0, 1) := dop_42 (zb_X9_stepOver_1 7 rfl)
theorem dX9_stepOver_47 : decode cX9_stepOver 47 = .ok (.getfield 26, 3) := dop_180 (zb_X9_stepOver_1 8 rfl) (zb_X9_stepOver_1 9 rfl) (zb_X9_stepOver_1 10 rfl) rfl
theorem dX9_stepOver_50 : decode cX9_stepOver 50 = .ok (.iload_n 3, 1) := dop_29 (zb_X9_stepOver_1 11 rfl)
theorem dX9_stepOver_51 : decode cX9_stepOver 51 = .ok (.iconst 4, 1) := dop_7 (zb_X9_stepOver_1 12 rfl)
theorem dX9_stepOver_52 : decode cX9_stepOver 52 = .ok (.imul, 1) := dop_104 (zb_X9_stepOver_1 13 rfl)
theorem dX9_stepOver_53 : decode cX9_stepOver 53 = .ok (.iload 4, 2) := dop_21 (zb_X9_stepOver_1 14 rfl) (zb_X9_stepOver_1 15 rfl)
theorem dX9_stepOver_55 : decode cX9_stepOver 55 = .ok (.iadd, 1) := dop_96 (zb_X9_stepOver_1 16 rfl)
theorem dX9_stepOver_56 : decode cX9_stepOver 56 = .ok (.aaload, 1) := dop_50 (zb_X9_stepOver_1 17 rfl)
theorem dX9_stepOver_57 : decode cX9_stepOver 57 = .ok (.aload_n 0, 1) := dop_42 (zb_X9_stepOver_1 18 rfl)
theorem dX9_stepOver_58 : decode cX9_stepOver 58 = .ok (.getfield 9, 3) := dop_180 (zb_X9_stepOver_1 19 rfl) (zb_X9_stepOver_1 20 rfl) (zb_X9_stepOver_1 21 rfl) rfl
theorem dX9_stepOver_61 : decode cX9_stepOver 61 = .ok (.iload_n 2, 1) := dop_28 (zb_X9_stepOver_1 22 rfl)
theorem dX9_stepOver_62 : decode cX9_stepOver 62 = .ok (.iload 4, 2) := dop_21 (zb_X9_stepOver_1 23 rfl) (zb_X9_stepOver_1 24 rfl)
theorem dX9_stepOver_64 : decode cX9_stepOver 64 = .ok (.iadd, 1) := dop_96 (zb_X9_stepOver_1 25 rfl)
theorem dX9_stepOver_65 : decode cX9_stepOver 65 = .ok (.iaload, 1) := dop_46 (zb_X9_stepOver_1 26 rfl)
theorem dX9_stepOver_66 : decode cX9_stepOver 66 = .ok (.i2l, 1) := dop_133 (zb_X9_stepOver_1 27 rfl)
theorem dX9_stepOver_67 : decode cX9_stepOver 67 = .ok (.aload_n 0, 1) := dop_42 (zb_X9_stepOver_1 28 rfl)
theorem dX9_stepOver_68 : decode cX9_stepOver 68 = .ok (.getfield 19, 3) := dop_180 (zb_X9_stepOver_1 29 rfl) (zb_X9_stepOver_1 30 rfl) (zb_X9_stepOver_1 31 rfl) rfl
theorem dX9_stepOver_71 : decode cX9_stepOver 71 = .ok (.iload_n 2, 1) := dop_28 (zb_X9_stepOver_1 32 rfl)
theorem dX9_stepOver_72 : decode cX9_stepOver 72 = .ok (.iload_n 3, 1) := dop_29 (zb_X9_stepOver_1 33 rfl)
theorem dX9_stepOver_73 : decode cX9_stepOver 73 = .ok (.iadd, 1) := dop_96 (zb_X9_stepOver_1 34 rfl)
theorem dX9_stepOver_74 : decode cX9_stepOver 74 = .ok (.iaload, 1) := dop_46 (zb_X9_stepOver_1 35 rfl)
theorem dX9_stepOver_75 : decode cX9_stepOver 75 = .ok (.i2l, 1) := dop_133 (zb_X9_stepOver_1 36 rfl)
theorem dX9_stepOver_76 : decode cX9_stepOver 76 = .ok (.aload_n 0, 1) := dop_42 (zb_X9_stepOver_1 37 rfl)
theorem zb_X9_stepOver_2 (j : Nat) {n : Nat} (e : zw_X9_stepOver_2[j]? = some n) : dby cX9_stepOver (77 + j) n := dw_b (t := []) ze_X9_stepOver_2 j e
theorem dX9_stepOver_77 : decode cX9_stepOver 77 = .ok (.getfield 15, 3) := dop_180 (zb_X9_stepOver_2 0 rfl) (zb_X9_stepOver_2 1 rfl) (zb_X9_stepOver_2 2 rfl) rfl
theorem dX9_stepOver_80 : decode cX9_stepOver 80 = .ok (.iload_n 2, 1) := dop_28 (zb_X9_stepOver_2 3 rfl)
theorem dX9_stepOver_81 : decode cX9_stepOver 81 = .ok (.iload 4, 2) := dop_21 (zb_X9_stepOver_2 4 rfl) (zb_X9_stepOver_2 5 rfl)
theorem dX9_stepOver_83 : decode cX9_stepOver 83 = .ok (.iadd, 1) := dop_96 (zb_X9_stepOver_2 6 rfl)
theorem dX9_stepOver_84 : decode cX9_stepOver 84 = .ok (.baload, 1) := dop_51 (zb_X9_stepOver_2 7 rfl)
theorem dX9_stepOver_85 : decode cX9_stepOver 85 = .ok (.invokevirtual 66, 3) := dop_182 (zb_X9_stepOver_2 8 rfl) (zb_X9_stepOver_2 9 rfl) (zb_X9_stepOver_2 10 rfl) rfl
theorem dX9_stepOver_88 : decode cX9_stepOver 88 = .ok (.iinc 4 1, 3) := dop_132 (zb_X9_stepOver_2 11 rfl) (zb_X9_stepOver_2 12 rfl) (zb_X9_stepOver_2 13 rfl) rfl
theorem dX9_stepOver_91 : decode cX9_stepOver 91 = .ok (.goto (-63), 3) := dop_167 (zb_X9_stepOver_2 14 rfl) (zb_X9_stepOver_2 15 rfl) (zb_X9_stepOver_2 16 rfl) rfl
theorem dX9_stepOver_94 : decode cX9_stepOver 94 = .ok (.iinc 3 1, 3) := dop_132 (zb_X9_stepOver_2 17 rfl) (zb_X9_stepOver_2 18 rfl) (zb_X9_stepOver_2 19 rfl) rfl
theorem dX9_stepOver_97 : decode cX9_stepOver 97 = .ok (.goto (-91), 3) := dop_167 (zb_X9_stepOver_2 20 rfl) (zb_X9_stepOver_2 21 rfl) (zb_X9_stepOver_2 22 rfl) rfl
theorem dX9_stepOver_100 : decode cX9_stepOver 100 = .ok (.return_, 1) := dop_177 (zb_X9_stepOver_2 23 rfl)
def zw_X9_eachFootHolds_0 : List Nat := [3, 60, 27, 7, 162, 0, 27, 42, 180, 0, 26, 27, 7, 104, 27, 96, 50, 182, 0, 118, 153, 0, 5, 3, 172, 132, 1, 1, 167, 255, 230, 4, 172]
def zt_X9_eachFootHolds_0 : List Nat := zw_X9_eachFootHolds_0 ++ []
theorem ze_X9_eachFootHolds_0 : (dcn cX9_eachFootHolds).drop 0 = zt_X9_eachFootHolds_0 := by decide +kernel
theorem zb_X9_eachFootHolds_0 (j : Nat) {n : Nat} (e : zw_X9_eachFootHolds_0[j]? = some n) : dby cX9_eachFootHolds (0 + j) n := dw_b (t := []) ze_X9_eachFootHolds_0 j e
theorem dX9_eachFootHolds_0 : decode cX9_eachFootHolds 0 = .ok (.iconst 0, 1) := dop_3 (zb_X9_eachFootHolds_0 0 rfl)
theorem dX9_eachFootHolds_1 : decode cX9_eachFootHolds 1 = .ok (.istore_n 1, 1) := dop_60 (zb_X9_eachFootHolds_0 1 rfl)
theorem dX9_eachFootHolds_2 : decode cX9_eachFootHolds 2 = .ok (.iload_n 1, 1) := dop_27 (zb_X9_eachFootHolds_0 2 rfl)
theorem dX9_eachFootHolds_3 : decode cX9_eachFootHolds 3 = .ok (.iconst 4, 1) := dop_7 (zb_X9_eachFootHolds_0 3 rfl)
theorem dX9_eachFootHolds_4 : decode cX9_eachFootHolds 4 = .ok (.if_icmp .ge 27, 3) := dop_162 (zb_X9_eachFootHolds_0 4 rfl) (zb_X9_eachFootHolds_0 5 rfl) (zb_X9_eachFootHolds_0 6 rfl) rfl
theorem dX9_eachFootHolds_7 : decode cX9_eachFootHolds 7 = .ok (.aload_n 0, 1) := dop_42 (zb_X9_eachFootHolds_0 7 rfl)
theorem dX9_eachFootHolds_8 : decode cX9_eachFootHolds 8 = .ok (.getfield 26, 3) := dop_180 (zb_X9_eachFootHolds_0 8 rfl) (zb_X9_eachFootHolds_0 9 rfl) (zb_X9_eachFootHolds_0 10 rfl) rfl
theorem dX9_eachFootHolds_11 : decode cX9_eachFootHolds 11 = .ok (.iload_n 1, 1) := dop_27 (zb_X9_eachFootHolds_0 11 rfl)
theorem dX9_eachFootHolds_12 : decode cX9_eachFootHolds 12 = .ok (.iconst 4, 1) := dop_7 (zb_X9_eachFootHolds_0 12 rfl)
theorem dX9_eachFootHolds_13 : decode cX9_eachFootHolds 13 = .ok (.imul, 1) := dop_104 (zb_X9_eachFootHolds_0 13 rfl)
theorem dX9_eachFootHolds_14 : decode cX9_eachFootHolds 14 = .ok (.iload_n 1, 1) := dop_27 (zb_X9_eachFootHolds_0 14 rfl)
theorem dX9_eachFootHolds_15 : decode cX9_eachFootHolds 15 = .ok (.iadd, 1) := dop_96 (zb_X9_eachFootHolds_0 15 rfl)
theorem dX9_eachFootHolds_16 : decode cX9_eachFootHolds 16 = .ok (.aaload, 1) := dop_50 (zb_X9_eachFootHolds_0 16 rfl)
theorem dX9_eachFootHolds_17 : decode cX9_eachFootHolds 17 = .ok (.invokevirtual 118, 3) := dop_182 (zb_X9_eachFootHolds_0 17 rfl) (zb_X9_eachFootHolds_0 18 rfl) (zb_X9_eachFootHolds_0 19 rfl) rfl
theorem dX9_eachFootHolds_20 : decode cX9_eachFootHolds 20 = .ok (.ifCond .eq 5, 3) := dop_153 (zb_X9_eachFootHolds_0 20 rfl) (zb_X9_eachFootHolds_0 21 rfl) (zb_X9_eachFootHolds_0 22 rfl) rfl
theorem dX9_eachFootHolds_23 : decode cX9_eachFootHolds 23 = .ok (.iconst 0, 1) := dop_3 (zb_X9_eachFootHolds_0 23 rfl)
theorem dX9_eachFootHolds_24 : decode cX9_eachFootHolds 24 = .ok (.ireturn, 1) := dop_172 (zb_X9_eachFootHolds_0 24 rfl)
theorem dX9_eachFootHolds_25 : decode cX9_eachFootHolds 25 = .ok (.iinc 1 1, 3) := dop_132 (zb_X9_eachFootHolds_0 25 rfl) (zb_X9_eachFootHolds_0 26 rfl) (zb_X9_eachFootHolds_0 27 rfl) rfl
theorem dX9_eachFootHolds_28 : decode cX9_eachFootHolds 28 = .ok (.goto (-26), 3) := dop_167 (zb_X9_eachFootHolds_0 28 rfl) (zb_X9_eachFootHolds_0 29 rfl) (zb_X9_eachFootHolds_0 30 rfl) rfl
theorem dX9_eachFootHolds_31 : decode cX9_eachFootHolds 31 = .ok (.iconst 1, 1) := dop_4 (zb_X9_eachFootHolds_0 31 rfl)
theorem dX9_eachFootHolds_32 : decode cX9_eachFootHolds 32 = .ok (.ireturn, 1) := dop_172 (zb_X9_eachFootHolds_0 32 rfl)
def zw_X9_feetHoldTogether_1 : List Nat := [153, 0, 5, 3, 172, 132, 2, 1, 167, 255, 218, 132, 1, 1, 167, 255, 205, 4, 172]
def zt_X9_feetHoldTogether_1 : List Nat := zw_X9_feetHoldTogether_1 ++ []
def zw_X9_feetHoldTogether_0 : List Nat := [3, 60, 27, 7, 162, 0, 52, 3, 61, 28, 27, 162, 0, 39, 42, 180, 0, 33, 27, 7, 104, 28, 96, 50, 78, 45, 42, 180, 0, 33, 28, 7, 104, 27, 96, 50, 182, 0, 121]
def zt_X9_feetHoldTogether_0 : List Nat := zw_X9_feetHoldTogether_0 ++ zt_X9_feetHoldTogether_1
theorem ze_X9_feetHoldTogether_0 : (dcn cX9_feetHoldTogether).drop 0 = zt_X9_feetHoldTogether_0 := by decide +kernel
theorem ze_X9_feetHoldTogether_1 : (dcn cX9_feetHoldTogether).drop 39 = zt_X9_feetHoldTogether_1 := dw_n (wl := zw_X9_feetHoldTogether_0) ze_X9_feetHoldTogether_0 rfl
theorem zb_X9_feetHoldTogether_0 (j : Nat) {n : Nat} (e : zw_X9_feetHoldTogether_0[j]? = some n) : dby cX9_feetHoldTogether (0 + j) n := dw_b (t := zt_X9_feetHoldTogether_1) ze_X9_feetHoldTogether_0 j e
theorem dX9_feetHoldTogether_0 : decode cX9_feetHoldTogether 0 = .ok (.iconst 0, 1) := dop_3 (zb_X9_feetHoldTogether_0 0 rfl)
theorem dX9_feetHoldTogether_1 : decode cX9_feetHoldTogether 1 = .ok (.istore_n 1, 1) := dop_60 (zb_X9_feetHoldTogether_0 1 rfl)
theorem dX9_feetHoldTogether_2 : decode cX9_feetHoldTogether 2 = .ok (.iload_n 1, 1) := dop_27 (zb_X9_feetHoldTogether_0 2 rfl)
theorem dX9_feetHoldTogether_3 : decode cX9_feetHoldTogether 3 = .ok (.iconst 4, 1) := dop_7 (zb_X9_feetHoldTogether_0 3 rfl)
theorem dX9_feetHoldTogether_4 : decode cX9_feetHoldTogether 4 = .ok (.if_icmp .ge 52, 3) := dop_162 (zb_X9_feetHoldTogether_0 4 rfl) (zb_X9_feetHoldTogether_0 5 rfl) (zb_X9_feetHoldTogether_0 6 rfl) rfl
theorem dX9_feetHoldTogether_7 : decode cX9_feetHoldTogether 7 = .ok (.iconst 0, 1) := dop_3 (zb_X9_feetHoldTogether_0 7 rfl)
theorem dX9_feetHoldTogether_8 : decode cX9_feetHoldTogether 8 = .ok (.istore_n 2, 1) := dop_61 (zb_X9_feetHoldTogether_0 8 rfl)
theorem dX9_feetHoldTogether_9 : decode cX9_feetHoldTogether 9 = .ok (.iload_n 2, 1) := dop_28 (zb_X9_feetHoldTogether_0 9 rfl)
theorem dX9_feetHoldTogether_10 : decode cX9_feetHoldTogether 10 = .ok (.iload_n 1, 1) := dop_27 (zb_X9_feetHoldTogether_0 10 rfl)
theorem dX9_feetHoldTogether_11 : decode cX9_feetHoldTogether 11 = .ok (.if_icmp .ge 39, 3) := dop_162 (zb_X9_feetHoldTogether_0 11 rfl) (zb_X9_feetHoldTogether_0 12 rfl) (zb_X9_feetHoldTogether_0 13 rfl) rfl
theorem dX9_feetHoldTogether_14 : decode cX9_feetHoldTogether 14 = .ok (.aload_n 0, 1) := dop_42 (zb_X9_feetHoldTogether_0 14 rfl)
theorem dX9_feetHoldTogether_15 : decode cX9_feetHoldTogether 15 = .ok (.getfield 33, 3) := dop_180 (zb_X9_feetHoldTogether_0 15 rfl) (zb_X9_feetHoldTogether_0 16 rfl) (zb_X9_feetHoldTogether_0 17 rfl) rfl
theorem dX9_feetHoldTogether_18 : decode cX9_feetHoldTogether 18 = .ok (.iload_n 1, 1) := dop_27 (zb_X9_feetHoldTogether_0 18 rfl)
theorem dX9_feetHoldTogether_19 : decode cX9_feetHoldTogether 19 = .ok (.iconst 4, 1) := dop_7 (zb_X9_feetHoldTogether_0 19 rfl)
theorem dX9_feetHoldTogether_20 : decode cX9_feetHoldTogether 20 = .ok (.imul, 1) := dop_104 (zb_X9_feetHoldTogether_0 20 rfl)
theorem dX9_feetHoldTogether_21 : decode cX9_feetHoldTogether 21 = .ok (.iload_n 2, 1) := dop_28 (zb_X9_feetHoldTogether_0 21 rfl)
theorem dX9_feetHoldTogether_22 : decode cX9_feetHoldTogether 22 = .ok (.iadd, 1) := dop_96 (zb_X9_feetHoldTogether_0 22 rfl)
theorem dX9_feetHoldTogether_23 : decode cX9_feetHoldTogether 23 = .ok (.aaload, 1) := dop_50 (zb_X9_feetHoldTogether_0 23 rfl)
theorem dX9_feetHoldTogether_24 : decode cX9_feetHoldTogether 24 = .ok (.astore_n 3, 1) := dop_78 (zb_X9_feetHoldTogether_0 24 rfl)
theorem dX9_feetHoldTogether_25 : decode cX9_feetHoldTogether 25 = .ok (.aload_n 3, 1) := dop_45 (zb_X9_feetHoldTogether_0 25 rfl)
theorem dX9_feetHoldTogether_26 : decode cX9_feetHoldTogether 26 = .ok (.aload_n 0, 1) := dop_42 (zb_X9_feetHoldTogether_0 26 rfl)
theorem dX9_feetHoldTogether_27 : decode cX9_feetHoldTogether 27 = .ok (.getfield 33, 3) := dop_180 (zb_X9_feetHoldTogether_0 27 rfl) (zb_X9_feetHoldTogether_0 28 rfl) (zb_X9_feetHoldTogether_0 29 rfl) rfl
theorem dX9_feetHoldTogether_30 : decode cX9_feetHoldTogether 30 = .ok (.iload_n 2, 1) := dop_28 (zb_X9_feetHoldTogether_0 30 rfl)
theorem dX9_feetHoldTogether_31 : decode cX9_feetHoldTogether 31 = .ok (.iconst 4, 1) := dop_7 (zb_X9_feetHoldTogether_0 31 rfl)
theorem dX9_feetHoldTogether_32 : decode cX9_feetHoldTogether 32 = .ok (.imul, 1) := dop_104 (zb_X9_feetHoldTogether_0 32 rfl)
theorem dX9_feetHoldTogether_33 : decode cX9_feetHoldTogether 33 = .ok (.iload_n 1, 1) := dop_27 (zb_X9_feetHoldTogether_0 33 rfl)
theorem dX9_feetHoldTogether_34 : decode cX9_feetHoldTogether 34 = .ok (.iadd, 1) := dop_96 (zb_X9_feetHoldTogether_0 34 rfl)
theorem dX9_feetHoldTogether_35 : decode cX9_feetHoldTogether 35 = .ok (.aaload, 1) := dop_50 (zb_X9_feetHoldTogether_0 35 rfl)
theorem dX9_feetHoldTogether_36 : decode cX9_feetHoldTogether 36 = .ok (.invokevirtual 121, 3) := dop_182 (zb_X9_feetHoldTogether_0 36 rfl) (zb_X9_feetHoldTogether_0 37 rfl) (zb_X9_feetHoldTogether_0 38 rfl) rfl
theorem zb_X9_feetHoldTogether_1 (j : Nat) {n : Nat} (e : zw_X9_feetHoldTogether_1[j]? = some n) : dby cX9_feetHoldTogether (39 + j) n := dw_b (t := []) ze_X9_feetHoldTogether_1 j e
theorem dX9_feetHoldTogether_39 : decode cX9_feetHoldTogether 39 = .ok (.ifCond .eq 5, 3) := dop_153 (zb_X9_feetHoldTogether_1 0 rfl) (zb_X9_feetHoldTogether_1 1 rfl) (zb_X9_feetHoldTogether_1 2 rfl) rfl
theorem dX9_feetHoldTogether_42 : decode cX9_feetHoldTogether 42 = .ok (.iconst 0, 1) := dop_3 (zb_X9_feetHoldTogether_1 3 rfl)
theorem dX9_feetHoldTogether_43 : decode cX9_feetHoldTogether 43 = .ok (.ireturn, 1) := dop_172 (zb_X9_feetHoldTogether_1 4 rfl)
theorem dX9_feetHoldTogether_44 : decode cX9_feetHoldTogether 44 = .ok (.iinc 2 1, 3) := dop_132 (zb_X9_feetHoldTogether_1 5 rfl) (zb_X9_feetHoldTogether_1 6 rfl) (zb_X9_feetHoldTogether_1 7 rfl) rfl
theorem dX9_feetHoldTogether_47 : decode cX9_feetHoldTogether 47 = .ok (.goto (-38), 3) := dop_167 (zb_X9_feetHoldTogether_1 8 rfl) (zb_X9_feetHoldTogether_1 9 rfl) (zb_X9_feetHoldTogether_1 10 rfl) rfl
theorem dX9_feetHoldTogether_50 : decode cX9_feetHoldTogether 50 = .ok (.iinc 1 1, 3) := dop_132 (zb_X9_feetHoldTogether_1 11 rfl) (zb_X9_feetHoldTogether_1 12 rfl) (zb_X9_feetHoldTogether_1 13 rfl) rfl
theorem dX9_feetHoldTogether_53 : decode cX9_feetHoldTogether 53 = .ok (.goto (-51), 3) := dop_167 (zb_X9_feetHoldTogether_1 14 rfl) (zb_X9_feetHoldTogether_1 15 rfl) (zb_X9_feetHoldTogether_1 16 rfl) rfl
theorem dX9_feetHoldTogether_56 : decode cX9_feetHoldTogether 56 = .ok (.iconst 1, 1) := dop_4 (zb_X9_feetHoldTogether_1 17 rfl)
theorem dX9_feetHoldTogether_57 : decode cX9_feetHoldTogether 57 = .ok (.ireturn, 1) := dop_172 (zb_X9_feetHoldTogether_1 18 rfl)
def zw_X9_goOn_4 : List Nat := [154, 0, 11, 25, 8, 180, 0, 134, 153, 0, 7, 4, 167, 0, 4, 3, 182, 0, 66, 132, 6, 1, 167, 255, 139, 132, 3, 1, 167, 255, 71, 177]
def zt_X9_goOn_4 : List Nat := zw_X9_goOn_4 ++ []
def zw_X9_goOn_3 : List Nat := [25, 8, 180, 0, 132, 9, 148, 153, 0, 52, 44, 29, 50, 25, 7, 180, 0, 128, 25, 8, 180, 0, 128, 105, 25, 7, 180, 0, 132, 25, 8, 180, 0, 132, 105, 25, 7, 180, 0, 134]
def zt_X9_goOn_3 : List Nat := zw_X9_goOn_3 ++ zt_X9_goOn_4
def zw_X9_goOn_2 : List Nat := [58, 7, 42, 180, 0, 26, 21, 6, 7, 104, 21, 5, 96, 50, 58, 8, 21, 6, 21, 4, 159, 0, 79, 21, 6, 21, 5, 159, 0, 72, 25, 7, 180, 0, 132, 9, 148, 153, 0, 62]
def zt_X9_goOn_2 : List Nat := zw_X9_goOn_2 ++ zt_X9_goOn_3
def zw_X9_goOn_1 : List Nat := [43, 29, 50, 180, 0, 128, 43, 29, 50, 180, 0, 132, 43, 29, 50, 180, 0, 134, 182, 0, 125, 3, 54, 6, 21, 6, 7, 162, 0, 117, 43, 21, 4, 7, 104, 21, 6, 96, 50]
def zt_X9_goOn_1 : List Nat := zw_X9_goOn_1 ++ zt_X9_goOn_2
def zw_X9_goOn_0 : List Nat := [3, 62, 29, 16, 16, 162, 0, 185, 29, 7, 108, 54, 4, 29, 7, 112, 54, 5, 21, 4, 21, 5, 160, 0, 15, 44, 29, 50, 10, 10, 3, 182, 0, 125, 167, 0, 150, 44, 29, 50]
def zt_X9_goOn_0 : List Nat := zw_X9_goOn_0 ++ zt_X9_goOn_1
theorem ze_X9_goOn_0 : (dcn cX9_goOn).drop 0 = zt_X9_goOn_0 := by decide +kernel
theorem ze_X9_goOn_1 : (dcn cX9_goOn).drop 40 = zt_X9_goOn_1 := dw_n (wl := zw_X9_goOn_0) ze_X9_goOn_0 rfl
theorem zb_X9_goOn_0 (j : Nat) {n : Nat} (e : zw_X9_goOn_0[j]? = some n) : dby cX9_goOn (0 + j) n := dw_b (t := zt_X9_goOn_1) ze_X9_goOn_0 j e
theorem dX9_goOn_0 : decode cX9_goOn 0 = .ok (.iconst 0, 1) := dop_3 (zb_X9_goOn_0 0 rfl)
theorem dX9_goOn_1 : decode cX9_goOn 1 = .ok (.istore_n 3, 1) := dop_62 (zb_X9_goOn_0 1 rfl)
theorem dX9_goOn_2 : decode cX9_goOn 2 = .ok (.iload_n 3, 1) := dop_29 (zb_X9_goOn_0 2 rfl)
theorem dX9_goOn_3 : decode cX9_goOn 3 = .ok (.bipush 16, 2) := dop_16 (zb_X9_goOn_0 3 rfl) (zb_X9_goOn_0 4 rfl) rfl
theorem dX9_goOn_5 : decode cX9_goOn 5 = .ok (.if_icmp .ge 185, 3) := dop_162 (zb_X9_goOn_0 5 rfl) (zb_X9_goOn_0 6 rfl) (zb_X9_goOn_0 7 rfl) rfl
theorem dX9_goOn_8 : decode cX9_goOn 8 = .ok (.iload_n 3, 1) := dop_29 (zb_X9_goOn_0 8 rfl)
theorem dX9_goOn_9 : decode cX9_goOn 9 = .ok (.iconst 4, 1) := dop_7 (zb_X9_goOn_0 9 rfl)
theorem dX9_goOn_10 : decode cX9_goOn 10 = .ok (.idiv, 1) := dop_108 (zb_X9_goOn_0 10 rfl)
theorem dX9_goOn_11 : decode cX9_goOn 11 = .ok (.istore 4, 2) := dop_54 (zb_X9_goOn_0 11 rfl) (zb_X9_goOn_0 12 rfl)
theorem dX9_goOn_13 : decode cX9_goOn 13 = .ok (.iload_n 3, 1) := dop_29 (zb_X9_goOn_0 13 rfl)
theorem dX9_goOn_14 : decode cX9_goOn 14 = .ok (.iconst 4, 1) := dop_7 (zb_X9_goOn_0 14 rfl)
theorem dX9_goOn_15 : decode cX9_goOn 15 = .ok (.irem, 1) := dop_112 (zb_X9_goOn_0 15 rfl)
theorem dX9_goOn_16 : decode cX9_goOn 16 = .ok (.istore 5, 2) := dop_54 (zb_X9_goOn_0 16 rfl) (zb_X9_goOn_0 17 rfl)
theorem dX9_goOn_18 : decode cX9_goOn 18 = .ok (.iload 4, 2) := dop_21 (zb_X9_goOn_0 18 rfl) (zb_X9_goOn_0 19 rfl)
theorem dX9_goOn_20 : decode cX9_goOn 20 = .ok (.iload 5, 2) := dop_21 (zb_X9_goOn_0 20 rfl) (zb_X9_goOn_0 21 rfl)
theorem dX9_goOn_22 : decode cX9_goOn 22 = .ok (.if_icmp .ne 15, 3) := dop_160 (zb_X9_goOn_0 22 rfl) (zb_X9_goOn_0 23 rfl) (zb_X9_goOn_0 24 rfl) rfl
theorem dX9_goOn_25 : decode cX9_goOn 25 = .ok (.aload_n 2, 1) := dop_44 (zb_X9_goOn_0 25 rfl)
theorem dX9_goOn_26 : decode cX9_goOn 26 = .ok (.iload_n 3, 1) := dop_29 (zb_X9_goOn_0 26 rfl)
theorem dX9_goOn_27 : decode cX9_goOn 27 = .ok (.aaload, 1) := dop_50 (zb_X9_goOn_0 27 rfl)
theorem dX9_goOn_28 : decode cX9_goOn 28 = .ok (.lconst 1, 1) := dop_10 (zb_X9_goOn_0 28 rfl)
theorem dX9_goOn_29 : decode cX9_goOn 29 = .ok (.lconst 1, 1) := dop_10 (zb_X9_goOn_0 29 rfl)
theorem dX9_goOn_30 : decode cX9_goOn 30 = .ok (.iconst 0, 1) := dop_3 (zb_X9_goOn_0 30 rfl)
theorem dX9_goOn_31 : decode cX9_goOn 31 = .ok (.invokevirtual 125, 3) := dop_182 (zb_X9_goOn_0 31 rfl) (zb_X9_goOn_0 32 rfl) (zb_X9_goOn_0 33 rfl) rfl
theorem dX9_goOn_34 : decode cX9_goOn 34 = .ok (.goto 150, 3) := dop_167 (zb_X9_goOn_0 34 rfl) (zb_X9_goOn_0 35 rfl) (zb_X9_goOn_0 36 rfl) rfl
theorem dX9_goOn_37 : decode cX9_goOn 37 = .ok (.aload_n 2, 1) := dop_44 (zb_X9_goOn_0 37 rfl)
theorem dX9_goOn_38 : decode cX9_goOn 38 = .ok (.iload_n 3, 1) := dop_29 (zb_X9_goOn_0 38 rfl)
theorem dX9_goOn_39 : decode cX9_goOn 39 = .ok (.aaload, 1) := dop_50 (zb_X9_goOn_0 39 rfl)
theorem ze_X9_goOn_2 : (dcn cX9_goOn).drop 79 = zt_X9_goOn_2 := dw_n (wl := zw_X9_goOn_1) ze_X9_goOn_1 rfl
theorem zb_X9_goOn_1 (j : Nat) {n : Nat} (e : zw_X9_goOn_1[j]? = some n) : dby cX9_goOn (40 + j) n := dw_b (t := zt_X9_goOn_2) ze_X9_goOn_1 j e
theorem dX9_goOn_40 : decode cX9_goOn 40 = .ok (.aload_n 1, 1) := dop_43 (zb_X9_goOn_1 0 rfl)
theorem dX9_goOn_41 : decode cX9_goOn 41 = .ok (.iload_n 3, 1) := dop_29 (zb_X9_goOn_1 1 rfl)
theorem dX9_goOn_42 : decode cX9_goOn 42 = .ok (.aaload, 1) := dop_50 (zb_X9_goOn_1 2 rfl)
theorem dX9_goOn_43 : decode cX9_goOn 43 = .ok (.getfield 128, 3) := dop_180 (zb_X9_goOn_1 3 rfl) (zb_X9_goOn_1 4 rfl) (zb_X9_goOn_1 5 rfl) rfl
theorem dX9_goOn_46 : decode cX9_goOn 46 = .ok (.aload_n 1, 1) := dop_43 (zb_X9_goOn_1 6 rfl)
theorem dX9_goOn_47 : decode cX9_goOn 47 = .ok (.iload_n 3, 1) := dop_29 (zb_X9_goOn_1 7 rfl)
theorem dX9_goOn_48 : decode cX9_goOn 48 = .ok (.aaload, 1) := dop_50 (zb_X9_goOn_1 8 rfl)
theorem dX9_goOn_49 : decode cX9_goOn 49 = .ok (.getfield 132, 3) := dop_180 (zb_X9_goOn_1 9 rfl) (zb_X9_goOn_1 10 rfl) (zb_X9_goOn_1 11 rfl) rfl
theorem dX9_goOn_52 : decode cX9_goOn 52 = .ok (.aload_n 1, 1) := dop_43 (zb_X9_goOn_1 12 rfl)
theorem dX9_goOn_53 : decode cX9_goOn 53 = .ok (.iload_n 3, 1) := dop_29 (zb_X9_goOn_1 13 rfl)
theorem dX9_goOn_54 : decode cX9_goOn 54 = .ok (.aaload, 1) := dop_50 (zb_X9_goOn_1 14 rfl)
theorem dX9_goOn_55 : decode cX9_goOn 55 = .ok (.getfield 134, 3) := dop_180 (zb_X9_goOn_1 15 rfl) (zb_X9_goOn_1 16 rfl) (zb_X9_goOn_1 17 rfl) rfl
theorem dX9_goOn_58 : decode cX9_goOn 58 = .ok (.invokevirtual 125, 3) := dop_182 (zb_X9_goOn_1 18 rfl) (zb_X9_goOn_1 19 rfl) (zb_X9_goOn_1 20 rfl) rfl
theorem dX9_goOn_61 : decode cX9_goOn 61 = .ok (.iconst 0, 1) := dop_3 (zb_X9_goOn_1 21 rfl)
theorem dX9_goOn_62 : decode cX9_goOn 62 = .ok (.istore 6, 2) := dop_54 (zb_X9_goOn_1 22 rfl) (zb_X9_goOn_1 23 rfl)
theorem dX9_goOn_64 : decode cX9_goOn 64 = .ok (.iload 6, 2) := dop_21 (zb_X9_goOn_1 24 rfl) (zb_X9_goOn_1 25 rfl)
theorem dX9_goOn_66 : decode cX9_goOn 66 = .ok (.iconst 4, 1) := dop_7 (zb_X9_goOn_1 26 rfl)
theorem dX9_goOn_67 : decode cX9_goOn 67 = .ok (.if_icmp .ge 117, 3) := dop_162 (zb_X9_goOn_1 27 rfl) (zb_X9_goOn_1 28 rfl) (zb_X9_goOn_1 29 rfl) rfl
theorem dX9_goOn_70 : decode cX9_goOn 70 = .ok (.aload_n 1, 1) := dop_43 (zb_X9_goOn_1 30 rfl)
theorem dX9_goOn_71 : decode cX9_goOn 71 = .ok (.iload 4, 2) := dop_21 (zb_X9_goOn_1 31 rfl) (zb_X9_goOn_1 32 rfl)
theorem dX9_goOn_73 : decode cX9_goOn 73 = .ok (.iconst 4, 1) := dop_7 (zb_X9_goOn_1 33 rfl)
theorem dX9_goOn_74 : decode cX9_goOn 74 = .ok (.imul, 1) := dop_104 (zb_X9_goOn_1 34 rfl)
theorem dX9_goOn_75 : decode cX9_goOn 75 = .ok (.iload 6, 2) := dop_21 (zb_X9_goOn_1 35 rfl) (zb_X9_goOn_1 36 rfl)
theorem dX9_goOn_77 : decode cX9_goOn 77 = .ok (.iadd, 1) := dop_96 (zb_X9_goOn_1 37 rfl)
theorem dX9_goOn_78 : decode cX9_goOn 78 = .ok (.aaload, 1) := dop_50 (zb_X9_goOn_1 38 rfl)
theorem ze_X9_goOn_3 : (dcn cX9_goOn).drop 119 = zt_X9_goOn_3 := dw_n (wl := zw_X9_goOn_2) ze_X9_goOn_2 rfl
theorem zb_X9_goOn_2 (j : Nat) {n : Nat} (e : zw_X9_goOn_2[j]? = some n) : dby cX9_goOn (79 + j) n := dw_b (t := zt_X9_goOn_3) ze_X9_goOn_2 j e
theorem dX9_goOn_79 : decode cX9_goOn 79 = .ok (.astore 7, 2) := dop_58 (zb_X9_goOn_2 0 rfl) (zb_X9_goOn_2 1 rfl)
theorem dX9_goOn_81 : decode cX9_goOn 81 = .ok (.aload_n 0, 1) := dop_42 (zb_X9_goOn_2 2 rfl)
theorem dX9_goOn_82 : decode cX9_goOn 82 = .ok (.getfield 26, 3) := dop_180 (zb_X9_goOn_2 3 rfl) (zb_X9_goOn_2 4 rfl) (zb_X9_goOn_2 5 rfl) rfl
theorem dX9_goOn_85 : decode cX9_goOn 85 = .ok (.iload 6, 2) := dop_21 (zb_X9_goOn_2 6 rfl) (zb_X9_goOn_2 7 rfl)
theorem dX9_goOn_87 : decode cX9_goOn 87 = .ok (.iconst 4, 1) := dop_7 (zb_X9_goOn_2 8 rfl)
theorem dX9_goOn_88 : decode cX9_goOn 88 = .ok (.imul, 1) := dop_104 (zb_X9_goOn_2 9 rfl)
theorem dX9_goOn_89 : decode cX9_goOn 89 = .ok (.iload 5, 2) := dop_21 (zb_X9_goOn_2 10 rfl) (zb_X9_goOn_2 11 rfl)
theorem dX9_goOn_91 : decode cX9_goOn 91 = .ok (.iadd, 1) := dop_96 (zb_X9_goOn_2 12 rfl)
theorem dX9_goOn_92 : decode cX9_goOn 92 = .ok (.aaload, 1) := dop_50 (zb_X9_goOn_2 13 rfl)
theorem dX9_goOn_93 : decode cX9_goOn 93 = .ok (.astore 8, 2) := dop_58 (zb_X9_goOn_2 14 rfl) (zb_X9_goOn_2 15 rfl)
theorem dX9_goOn_95 : decode cX9_goOn 95 = .ok (.iload 6, 2) := dop_21 (zb_X9_goOn_2 16 rfl) (zb_X9_goOn_2 17 rfl)
theorem dX9_goOn_97 : decode cX9_goOn 97 = .ok (.iload 4, 2) := dop_21 (zb_X9_goOn_2 18 rfl) (zb_X9_goOn_2 19 rfl)
theorem dX9_goOn_99 : decode cX9_goOn 99 = .ok (.if_icmp .eq 79, 3) := dop_159 (zb_X9_goOn_2 20 rfl) (zb_X9_goOn_2 21 rfl) (zb_X9_goOn_2 22 rfl) rfl
theorem dX9_goOn_102 : decode cX9_goOn 102 = .ok (.iload 6, 2) := dop_21 (zb_X9_goOn_2 23 rfl) (zb_X9_goOn_2 24 rfl)
theorem dX9_goOn_104 : decode cX9_goOn 104 = .ok (.iload 5, 2) := dop_21 (zb_X9_goOn_2 25 rfl) (zb_X9_goOn_2 26 rfl)
theorem dX9_goOn_106 : decode cX9_goOn 106 = .ok (.if_icmp .eq 72, 3) := dop_159 (zb_X9_goOn_2 27 rfl) (zb_X9_goOn_2 28 rfl) (zb_X9_goOn_2 29 rfl) rfl
theorem dX9_goOn_109 : decode cX9_goOn 109 = .ok (.aload 7, 2) := dop_25 (zb_X9_goOn_2 30 rfl) (zb_X9_goOn_2 31 rfl)
theorem dX9_goOn_111 : decode cX9_goOn 111 = .ok (.getfield 132, 3) := dop_180 (zb_X9_goOn_2 32 rfl) (zb_X9_goOn_2 33 rfl) (zb_X9_goOn_2 34 rfl) rfl
theorem dX9_goOn_114 : decode cX9_goOn 114 = .ok (.lconst 0, 1) := dop_9 (zb_X9_goOn_2 35 rfl)
theorem dX9_goOn_115 : decode cX9_goOn 115 = .ok (.lcmp, 1) := dop_148 (zb_X9_goOn_2 36 rfl)
theorem dX9_goOn_116 : decode cX9_goOn 116 = .ok (.ifCond .eq 62, 3) := dop_153 (zb_X9_goOn_2 37 rfl) (zb_X9_goOn_2 38 rfl) (zb_X9_goOn_2 39 rfl) rfl
theorem ze_X9_goOn_4 : (dcn cX9_goOn).drop 159 = zt_X9_goOn_4 := dw_n (wl := zw_X9_goOn_3) ze_X9_goOn_3 rfl
theorem zb_X9_goOn_3 (j : Nat) {n : Nat} (e : zw_X9_goOn_3[j]? = some n) : dby cX9_goOn (119 + j) n := dw_b (t := zt_X9_goOn_4) ze_X9_goOn_3 j e
theorem dX9_goOn_119 : decode cX9_goOn 119 = .ok (.aload 8, 2) := dop_25 (zb_X9_goOn_3 0 rfl) (zb_X9_goOn_3 1 rfl)
theorem dX9_goOn_121 : decode cX9_goOn 121 = .ok (.getfield 132, 3) := dop_180 (zb_X9_goOn_3 2 rfl) (zb_X9_goOn_3 3 rfl) (zb_X9_goOn_3 4 rfl) rfl
theorem dX9_goOn_124 : decode cX9_goOn 124 = .ok (.lconst 0, 1) := dop_9 (zb_X9_goOn_3 5 rfl)
theorem dX9_goOn_125 : decode cX9_goOn 125 = .ok (.lcmp, 1) := dop_148 (zb_X9_goOn_3 6 rfl)
theorem dX9_goOn_126 : decode cX9_goOn 126 = .ok (.ifCond .eq 52, 3) := dop_153 (zb_X9_goOn_3 7 rfl) (zb_X9_goOn_3 8 rfl) (zb_X9_goOn_3 9 rfl) rfl
theorem dX9_goOn_129 : decode cX9_goOn 129 = .ok (.aload_n 2, 1) := dop_44 (zb_X9_goOn_3 10 rfl)
theorem dX9_goOn_130 : decode cX9_goOn 130 = .ok (.iload_n 3, 1) := dop_29 (zb_X9_goOn_3 11 rfl)
theorem dX9_goOn_131 : decode cX9_goOn 131 = .ok (.aaload, 1) := dop_50 (zb_X9_goOn_3 12 rfl)
theorem dX9_goOn_132 : decode cX9_goOn 132 = .ok (.aload 7, 2) := dop_25 (zb_X9_goOn_3 13 rfl) (zb_X9_goOn_3 14 rfl)
theorem dX9_goOn_134 : decode cX9_goOn 134 = .ok (.getfield 128, 3) := dop_180 (zb_X9_goOn_3 15 rfl) (zb_X9_goOn_3 16 rfl) (zb_X9_goOn_3 17 rfl) rfl
theorem dX9_goOn_137 : decode cX9_goOn 137 = .ok (.aload 8, 2) := dop_25 (zb_X9_goOn_3 18 rfl) (zb_X9_goOn_3 19 rfl)
theorem dX9_goOn_139 : decode cX9_goOn 139 = .ok (.getfield 128, 3) := dop_180 (zb_X9_goOn_3 20 rfl) (zb_X9_goOn_3 21 rfl) (zb_X9_goOn_3 22 rfl) rfl
theorem dX9_goOn_142 : decode cX9_goOn 142 = .ok (.lmul, 1) := dop_105 (zb_X9_goOn_3 23 rfl)
theorem dX9_goOn_143 : decode cX9_goOn 143 = .ok (.aload 7, 2) := dop_25 (zb_X9_goOn_3 24 rfl) (zb_X9_goOn_3 25 rfl)
theorem dX9_goOn_145 : decode cX9_goOn 145 = .ok (.getfield 132, 3) := dop_180 (zb_X9_goOn_3 26 rfl) (zb_X9_goOn_3 27 rfl) (zb_X9_goOn_3 28 rfl) rfl
theorem dX9_goOn_148 : decode cX9_goOn 148 = .ok (.aload 8, 2) := dop_25 (zb_X9_goOn_3 29 rfl) (zb_X9_goOn_3 30 rfl)
theorem dX9_goOn_150 : decode cX9_goOn 150 = .ok (.getfield 132, 3) := dop_180 (zb_X9_goOn_3 31 rfl) (zb_X9_goOn_3 32 rfl) (zb_X9_goOn_3 33 rfl) rfl
theorem dX9_goOn_153 : decode cX9_goOn 153 = .ok (.lmul, 1) := dop_105 (zb_X9_goOn_3 34 rfl)
theorem dX9_goOn_154 : decode cX9_goOn 154 = .ok (.aload 7, 2) := dop_25 (zb_X9_goOn_3 35 rfl) (zb_X9_goOn_3 36 rfl)
theorem dX9_goOn_156 : decode cX9_goOn 156 = .ok (.getfield 134, 3) := dop_180 (zb_X9_goOn_3 37 rfl) (zb_X9_goOn_3 38 rfl) (zb_X9_goOn_3 39 rfl) rfl
theorem zb_X9_goOn_4 (j : Nat) {n : Nat} (e : zw_X9_goOn_4[j]? = some n) : dby cX9_goOn (159 + j) n := dw_b (t := []) ze_X9_goOn_4 j e
theorem dX9_goOn_159 : decode cX9_goOn 159 = .ok (.ifCond .ne 11, 3) := dop_154 (zb_X9_goOn_4 0 rfl) (zb_X9_goOn_4 1 rfl) (zb_X9_goOn_4 2 rfl) rfl
theorem dX9_goOn_162 : decode cX9_goOn 162 = .ok (.aload 8, 2) := dop_25 (zb_X9_goOn_4 3 rfl) (zb_X9_goOn_4 4 rfl)
theorem dX9_goOn_164 : decode cX9_goOn 164 = .ok (.getfield 134, 3) := dop_180 (zb_X9_goOn_4 5 rfl) (zb_X9_goOn_4 6 rfl) (zb_X9_goOn_4 7 rfl) rfl
theorem dX9_goOn_167 : decode cX9_goOn 167 = .ok (.ifCond .eq 7, 3) := dop_153 (zb_X9_goOn_4 8 rfl) (zb_X9_goOn_4 9 rfl) (zb_X9_goOn_4 10 rfl) rfl
theorem dX9_goOn_170 : decode cX9_goOn 170 = .ok (.iconst 1, 1) := dop_4 (zb_X9_goOn_4 11 rfl)
theorem dX9_goOn_171 : decode cX9_goOn 171 = .ok (.goto 4, 3) := dop_167 (zb_X9_goOn_4 12 rfl) (zb_X9_goOn_4 13 rfl) (zb_X9_goOn_4 14 rfl) rfl
theorem dX9_goOn_174 : decode cX9_goOn 174 = .ok (.iconst 0, 1) := dop_3 (zb_X9_goOn_4 15 rfl)
theorem dX9_goOn_175 : decode cX9_goOn 175 = .ok (.invokevirtual 66, 3) := dop_182 (zb_X9_goOn_4 16 rfl) (zb_X9_goOn_4 17 rfl) (zb_X9_goOn_4 18 rfl) rfl
theorem dX9_goOn_178 : decode cX9_goOn 178 = .ok (.iinc 6 1, 3) := dop_132 (zb_X9_goOn_4 19 rfl) (zb_X9_goOn_4 20 rfl) (zb_X9_goOn_4 21 rfl) rfl
theorem dX9_goOn_181 : decode cX9_goOn 181 = .ok (.goto (-117), 3) := dop_167 (zb_X9_goOn_4 22 rfl) (zb_X9_goOn_4 23 rfl) (zb_X9_goOn_4 24 rfl) rfl
theorem dX9_goOn_184 : decode cX9_goOn 184 = .ok (.iinc 3 1, 3) := dop_132 (zb_X9_goOn_4 25 rfl) (zb_X9_goOn_4 26 rfl) (zb_X9_goOn_4 27 rfl) rfl
theorem dX9_goOn_187 : decode cX9_goOn 187 = .ok (.goto (-185), 3) := dop_167 (zb_X9_goOn_4 28 rfl) (zb_X9_goOn_4 29 rfl) (zb_X9_goOn_4 30 rfl) rfl
theorem dX9_goOn_190 : decode cX9_goOn 190 = .ok (.return_, 1) := dop_177 (zb_X9_goOn_4 31 rfl)
def zw_X9_limit_1 : List Nat := [167, 0, 7, 45, 182, 0, 89, 27, 28, 160, 0, 4, 177, 3, 54, 5, 21, 5, 16, 16, 162, 0, 18, 42, 27, 28, 21, 5, 45, 182, 0, 138, 132, 5, 1, 167, 255, 237, 177]
def zt_X9_limit_1 : List Nat := zw_X9_limit_1 ++ []
def zw_X9_limit_0 : List Nat := [28, 16, 6, 162, 0, 15, 27, 28, 16, 6, 96, 160, 0, 7, 4, 167, 0, 4, 3, 54, 4, 27, 28, 159, 0, 8, 21, 4, 153, 0, 13, 45, 10, 10, 3, 182, 0, 125]
def zt_X9_limit_0 : List Nat := zw_X9_limit_0 ++ zt_X9_limit_1
theorem ze_X9_limit_0 : (dcn cX9_limit).drop 0 = zt_X9_limit_0 := by decide +kernel
theorem ze_X9_limit_1 : (dcn cX9_limit).drop 38 = zt_X9_limit_1 := dw_n (wl := zw_X9_limit_0) ze_X9_limit_0 rfl
theorem zb_X9_limit_0 (j : Nat) {n : Nat} (e : zw_X9_limit_0[j]? = some n) : dby cX9_limit (0 + j) n := dw_b (t := zt_X9_limit_1) ze_X9_limit_0 j e
theorem dX9_limit_0 : decode cX9_limit 0 = .ok (.iload_n 2, 1) := dop_28 (zb_X9_limit_0 0 rfl)
theorem dX9_limit_1 : decode cX9_limit 1 = .ok (.bipush 6, 2) := dop_16 (zb_X9_limit_0 1 rfl) (zb_X9_limit_0 2 rfl) rfl
theorem dX9_limit_3 : decode cX9_limit 3 = .ok (.if_icmp .ge 15, 3) := dop_162 (zb_X9_limit_0 3 rfl) (zb_X9_limit_0 4 rfl) (zb_X9_limit_0 5 rfl) rfl
theorem dX9_limit_6 : decode cX9_limit 6 = .ok (.iload_n 1, 1) := dop_27 (zb_X9_limit_0 6 rfl)
theorem dX9_limit_7 : decode cX9_limit 7 = .ok (.iload_n 2, 1) := dop_28 (zb_X9_limit_0 7 rfl)
theorem dX9_limit_8 : decode cX9_limit 8 = .ok (.bipush 6, 2) := dop_16 (zb_X9_limit_0 8 rfl) (zb_X9_limit_0 9 rfl) rfl
theorem dX9_limit_10 : decode cX9_limit 10 = .ok (.iadd, 1) := dop_96 (zb_X9_limit_0 10 rfl)
theorem dX9_limit_11 : decode cX9_limit 11 = .ok (.if_icmp .ne 7, 3) := dop_160 (zb_X9_limit_0 11 rfl) (zb_X9_limit_0 12 rfl) (zb_X9_limit_0 13 rfl) rfl
theorem dX9_limit_14 : decode cX9_limit 14 = .ok (.iconst 1, 1) := dop_4 (zb_X9_limit_0 14 rfl)
theorem dX9_limit_15 : decode cX9_limit 15 = .ok (.goto 4, 3) := dop_167 (zb_X9_limit_0 15 rfl) (zb_X9_limit_0 16 rfl) (zb_X9_limit_0 17 rfl) rfl
theorem dX9_limit_18 : decode cX9_limit 18 = .ok (.iconst 0, 1) := dop_3 (zb_X9_limit_0 18 rfl)
theorem dX9_limit_19 : decode cX9_limit 19 = .ok (.istore 4, 2) := dop_54 (zb_X9_limit_0 19 rfl) (zb_X9_limit_0 20 rfl)
theorem dX9_limit_21 : decode cX9_limit 21 = .ok (.iload_n 1, 1) := dop_27 (zb_X9_limit_0 21 rfl)
theorem dX9_limit_22 : decode cX9_limit 22 = .ok (.iload_n 2, 1) := dop_28 (zb_X9_limit_0 22 rfl)
theorem dX9_limit_23 : decode cX9_limit 23 = .ok (.if_icmp .eq 8, 3) := dop_159 (zb_X9_limit_0 23 rfl) (zb_X9_limit_0 24 rfl) (zb_X9_limit_0 25 rfl) rfl
theorem dX9_limit_26 : decode cX9_limit 26 = .ok (.iload 4, 2) := dop_21 (zb_X9_limit_0 26 rfl) (zb_X9_limit_0 27 rfl)
theorem dX9_limit_28 : decode cX9_limit 28 = .ok (.ifCond .eq 13, 3) := dop_153 (zb_X9_limit_0 28 rfl) (zb_X9_limit_0 29 rfl) (zb_X9_limit_0 30 rfl) rfl
theorem dX9_limit_31 : decode cX9_limit 31 = .ok (.aload_n 3, 1) := dop_45 (zb_X9_limit_0 31 rfl)
theorem dX9_limit_32 : decode cX9_limit 32 = .ok (.lconst 1, 1) := dop_10 (zb_X9_limit_0 32 rfl)
theorem dX9_limit_33 : decode cX9_limit 33 = .ok (.lconst 1, 1) := dop_10 (zb_X9_limit_0 33 rfl)
theorem dX9_limit_34 : decode cX9_limit 34 = .ok (.iconst 0, 1) := dop_3 (zb_X9_limit_0 34 rfl)
theorem dX9_limit_35 : decode cX9_limit 35 = .ok (.invokevirtual 125, 3) := dop_182 (zb_X9_limit_0 35 rfl) (zb_X9_limit_0 36 rfl) (zb_X9_limit_0 37 rfl) rfl
theorem zb_X9_limit_1 (j : Nat) {n : Nat} (e : zw_X9_limit_1[j]? = some n) : dby cX9_limit (38 + j) n := dw_b (t := []) ze_X9_limit_1 j e
theorem dX9_limit_38 : decode cX9_limit 38 = .ok (.goto 7, 3) := dop_167 (zb_X9_limit_1 0 rfl) (zb_X9_limit_1 1 rfl) (zb_X9_limit_1 2 rfl) rfl
theorem dX9_limit_41 : decode cX9_limit 41 = .ok (.aload_n 3, 1) := dop_45 (zb_X9_limit_1 3 rfl)
theorem dX9_limit_42 : decode cX9_limit 42 = .ok (.invokevirtual 89, 3) := dop_182 (zb_X9_limit_1 4 rfl) (zb_X9_limit_1 5 rfl) (zb_X9_limit_1 6 rfl) rfl
theorem dX9_limit_45 : decode cX9_limit 45 = .ok (.iload_n 1, 1) := dop_27 (zb_X9_limit_1 7 rfl)
theorem dX9_limit_46 : decode cX9_limit 46 = .ok (.iload_n 2, 1) := dop_28 (zb_X9_limit_1 8 rfl)
theorem dX9_limit_47 : decode cX9_limit 47 = .ok (.if_icmp .ne 4, 3) := dop_160 (zb_X9_limit_1 9 rfl) (zb_X9_limit_1 10 rfl) (zb_X9_limit_1 11 rfl) rfl
theorem dX9_limit_50 : decode cX9_limit 50 = .ok (.return_, 1) := dop_177 (zb_X9_limit_1 12 rfl)
theorem dX9_limit_51 : decode cX9_limit 51 = .ok (.iconst 0, 1) := dop_3 (zb_X9_limit_1 13 rfl)
theorem dX9_limit_52 : decode cX9_limit 52 = .ok (.istore 5, 2) := dop_54 (zb_X9_limit_1 14 rfl) (zb_X9_limit_1 15 rfl)
theorem dX9_limit_54 : decode cX9_limit 54 = .ok (.iload 5, 2) := dop_21 (zb_X9_limit_1 16 rfl) (zb_X9_limit_1 17 rfl)
theorem dX9_limit_56 : decode cX9_limit 56 = .ok (.bipush 16, 2) := dop_16 (zb_X9_limit_1 18 rfl) (zb_X9_limit_1 19 rfl) rfl
theorem dX9_limit_58 : decode cX9_limit 58 = .ok (.if_icmp .ge 18, 3) := dop_162 (zb_X9_limit_1 20 rfl) (zb_X9_limit_1 21 rfl) (zb_X9_limit_1 22 rfl) rfl
theorem dX9_limit_61 : decode cX9_limit 61 = .ok (.aload_n 0, 1) := dop_42 (zb_X9_limit_1 23 rfl)
theorem dX9_limit_62 : decode cX9_limit 62 = .ok (.iload_n 1, 1) := dop_27 (zb_X9_limit_1 24 rfl)
theorem dX9_limit_63 : decode cX9_limit 63 = .ok (.iload_n 2, 1) := dop_28 (zb_X9_limit_1 25 rfl)
theorem dX9_limit_64 : decode cX9_limit 64 = .ok (.iload 5, 2) := dop_21 (zb_X9_limit_1 26 rfl) (zb_X9_limit_1 27 rfl)
theorem dX9_limit_66 : decode cX9_limit 66 = .ok (.aload_n 3, 1) := dop_45 (zb_X9_limit_1 28 rfl)
theorem dX9_limit_67 : decode cX9_limit 67 = .ok (.invokevirtual 138, 3) := dop_182 (zb_X9_limit_1 29 rfl) (zb_X9_limit_1 30 rfl) (zb_X9_limit_1 31 rfl) rfl
theorem dX9_limit_70 : decode cX9_limit 70 = .ok (.iinc 5 1, 3) := dop_132 (zb_X9_limit_1 32 rfl) (zb_X9_limit_1 33 rfl) (zb_X9_limit_1 34 rfl) rfl
theorem dX9_limit_73 : decode cX9_limit 73 = .ok (.goto (-19), 3) := dop_167 (zb_X9_limit_1 35 rfl) (zb_X9_limit_1 36 rfl) (zb_X9_limit_1 37 rfl) rfl
theorem dX9_limit_76 : decode cX9_limit 76 = .ok (.return_, 1) := dop_177 (zb_X9_limit_1 38 rfl)
def zw_X9_limitBy_3 : List Nat := [25, 5, 180, 0, 132, 28, 27, 184, 0, 148, 133, 105, 105, 55, 10, 25, 4, 22, 8, 22, 10, 21, 12, 182, 0, 66, 177]
def zt_X9_limitBy_3 : List Nat := zw_X9_limitBy_3 ++ []
def zw_X9_limitBy_2 : List Nat := [180, 0, 15, 27, 7, 104, 21, 6, 96, 51, 153, 0, 7, 4, 167, 0, 4, 3, 54, 12, 22, 8, 25, 5, 180, 0, 128, 27, 28, 184, 0, 148, 133, 105, 105, 55, 8, 22, 10]
def zt_X9_limitBy_2 : List Nat := zw_X9_limitBy_2 ++ zt_X9_limitBy_3
def zw_X9_limitBy_1 : List Nat := [9, 148, 153, 0, 20, 22, 10, 9, 148, 153, 0, 13, 25, 5, 180, 0, 132, 9, 148, 154, 0, 4, 177, 25, 5, 180, 0, 134, 154, 0, 23, 27, 16, 12, 162, 0, 21, 42]
def zt_X9_limitBy_1 : List Nat := zw_X9_limitBy_1 ++ zt_X9_limitBy_2
def zw_X9_limitBy_0 : List Nat := [42, 180, 0, 33, 29, 50, 58, 5, 29, 7, 108, 54, 6, 29, 7, 112, 54, 7, 42, 27, 21, 6, 182, 0, 142, 133, 55, 8, 42, 28, 21, 7, 182, 0, 145, 133, 55, 10, 22, 8]
def zt_X9_limitBy_0 : List Nat := zw_X9_limitBy_0 ++ zt_X9_limitBy_1
theorem ze_X9_limitBy_0 : (dcn cX9_limitBy).drop 0 = zt_X9_limitBy_0 := by decide +kernel
theorem ze_X9_limitBy_1 : (dcn cX9_limitBy).drop 40 = zt_X9_limitBy_1 := dw_n (wl := zw_X9_limitBy_0) ze_X9_limitBy_0 rfl
theorem zb_X9_limitBy_0 (j : Nat) {n : Nat} (e : zw_X9_limitBy_0[j]? = some n) : dby cX9_limitBy (0 + j) n := dw_b (t := zt_X9_limitBy_1) ze_X9_limitBy_0 j e
theorem dX9_limitBy_0 : decode cX9_limitBy 0 = .ok (.aload_n 0, 1) := dop_42 (zb_X9_limitBy_0 0 rfl)
theorem dX9_limitBy_1 : decode cX9_limitBy 1 = .ok (.getfield 33, 3) := dop_180 (zb_X9_limitBy_0 1 rfl) (zb_X9_limitBy_0 2 rfl) (zb_X9_limitBy_0 3 rfl) rfl
theorem dX9_limitBy_4 : decode cX9_limitBy 4 = .ok (.iload_n 3, 1) := dop_29 (zb_X9_limitBy_0 4 rfl)
theorem dX9_limitBy_5 : decode cX9_limitBy 5 = .ok (.aaload, 1) := dop_50 (zb_X9_limitBy_0 5 rfl)
theorem dX9_limitBy_6 : decode cX9_limitBy 6 = .ok (.astore 5, 2) := dop_58 (zb_X9_limitBy_0 6 rfl) (zb_X9_limitBy_0 7 rfl)
theorem dX9_limitBy_8 : decode cX9_limitBy 8 = .ok (.iload_n 3, 1) := dop_29 (zb_X9_limitBy_0 8 rfl)
theorem dX9_limitBy_9 : decode cX9_limitBy 9 = .ok (.iconst 4, 1) := dop_7 (zb_X9_limitBy_0 9 rfl)
theorem dX9_limitBy_10 : decode cX9_limitBy 10 = .ok (.idiv, 1) := dop_108 (zb_X9_limitBy_0 10 rfl)
theorem dX9_limitBy_11 : decode cX9_limitBy 11 = .ok (.istore 6, 2) := dop_54 (zb_X9_limitBy_0 11 rfl) (zb_X9_limitBy_0 12 rfl)
theorem dX9_limitBy_13 : decode cX9_limitBy 13 = .ok (.iload_n 3, 1) := dop_29 (zb_X9_limitBy_0 13 rfl)
theorem dX9_limitBy_14 : decode cX9_limitBy 14 = .ok (.iconst 4, 1) := dop_7 (zb_X9_limitBy_0 14 rfl)
theorem dX9_limitBy_15 : decode cX9_limitBy 15 = .ok (.irem, 1) := dop_112 (zb_X9_limitBy_0 15 rfl)
theorem dX9_limitBy_16 : decode cX9_limitBy 16 = .ok (.istore 7, 2) := dop_54 (zb_X9_limitBy_0 16 rfl) (zb_X9_limitBy_0 17 rfl)
theorem dX9_limitBy_18 : decode cX9_limitBy 18 = .ok (.aload_n 0, 1) := dop_42 (zb_X9_limitBy_0 18 rfl)
theorem dX9_limitBy_19 : decode cX9_limitBy 19 = .ok (.iload_n 1, 1) := dop_27 (zb_X9_limitBy_0 19 rfl)
theorem dX9_limitBy_20 : decode cX9_limitBy 20 = .ok (.iload 6, 2) := dop_21 (zb_X9_limitBy_0 20 rfl) (zb_X9_limitBy_0 21 rfl)
theorem dX9_limitBy_22 : decode cX9_limitBy 22 = .ok (.invokevirtual 142, 3) := dop_182 (zb_X9_limitBy_0 22 rfl) (zb_X9_limitBy_0 23 rfl) (zb_X9_limitBy_0 24 rfl) rfl
theorem dX9_limitBy_25 : decode cX9_limitBy 25 = .ok (.i2l, 1) := dop_133 (zb_X9_limitBy_0 25 rfl)
theorem dX9_limitBy_26 : decode cX9_limitBy 26 = .ok (.lstore 8, 2) := dop_55 (zb_X9_limitBy_0 26 rfl) (zb_X9_limitBy_0 27 rfl)
theorem dX9_limitBy_28 : decode cX9_limitBy 28 = .ok (.aload_n 0, 1) := dop_42 (zb_X9_limitBy_0 28 rfl)
theorem dX9_limitBy_29 : decode cX9_limitBy 29 = .ok (.iload_n 2, 1) := dop_28 (zb_X9_limitBy_0 29 rfl)
theorem dX9_limitBy_30 : decode cX9_limitBy 30 = .ok (.iload 7, 2) := dop_21 (zb_X9_limitBy_0 30 rfl) (zb_X9_limitBy_0 31 rfl)
theorem dX9_limitBy_32 : decode cX9_limitBy 32 = .ok (.invokevirtual 145, 3) := dop_182 (zb_X9_limitBy_0 32 rfl) (zb_X9_limitBy_0 33 rfl) (zb_X9_limitBy_0 34 rfl) rfl
theorem dX9_limitBy_35 : decode cX9_limitBy 35 = .ok (.i2l, 1) := dop_133 (zb_X9_limitBy_0 35 rfl)
theorem dX9_limitBy_36 : decode cX9_limitBy 36 = .ok (.lstore 10, 2) := dop_55 (zb_X9_limitBy_0 36 rfl) (zb_X9_limitBy_0 37 rfl)
theorem dX9_limitBy_38 : decode cX9_limitBy 38 = .ok (.lload 8, 2) := dop_22 (zb_X9_limitBy_0 38 rfl) (zb_X9_limitBy_0 39 rfl)
theorem ze_X9_limitBy_2 : (dcn cX9_limitBy).drop 78 = zt_X9_limitBy_2 := dw_n (wl := zw_X9_limitBy_1) ze_X9_limitBy_1 rfl
theorem zb_X9_limitBy_1 (j : Nat) {n : Nat} (e : zw_X9_limitBy_1[j]? = some n) : dby cX9_limitBy (40 + j) n := dw_b (t := zt_X9_limitBy_2) ze_X9_limitBy_1 j e
theorem dX9_limitBy_40 : decode cX9_limitBy 40 = .ok (.lconst 0, 1) := dop_9 (zb_X9_limitBy_1 0 rfl)
theorem dX9_limitBy_41 : decode cX9_limitBy 41 = .ok (.lcmp, 1) := dop_148 (zb_X9_limitBy_1 1 rfl)
theorem dX9_limitBy_42 : decode cX9_limitBy 42 = .ok (.ifCond .eq 20, 3) := dop_153 (zb_X9_limitBy_1 2 rfl) (zb_X9_limitBy_1 3 rfl) (zb_X9_limitBy_1 4 rfl) rfl
theorem dX9_limitBy_45 : decode cX9_limitBy 45 = .ok (.lload 10, 2) := dop_22 (zb_X9_limitBy_1 5 rfl) (zb_X9_limitBy_1 6 rfl)
theorem dX9_limitBy_47 : decode cX9_limitBy 47 = .ok (.lconst 0, 1) := dop_9 (zb_X9_limitBy_1 7 rfl)
theorem dX9_limitBy_48 : decode cX9_limitBy 48 = .ok (.lcmp, 1) := dop_148 (zb_X9_limitBy_1 8 rfl)
theorem dX9_limitBy_49 : decode cX9_limitBy 49 = .ok (.ifCond .eq 13, 3) := dop_153 (zb_X9_limitBy_1 9 rfl) (zb_X9_limitBy_1 10 rfl) (zb_X9_limitBy_1 11 rfl) rfl
theorem dX9_limitBy_52 : decode cX9_limitBy 52 = .ok (.aload 5, 2) := dop_25 (zb_X9_limitBy_1 12 rfl) (zb_X9_limitBy_1 13 rfl)
theorem dX9_limitBy_54 : decode cX9_limitBy 54 = .ok (.getfield 132, 3) := dop_180 (zb_X9_limitBy_1 14 rfl) (zb_X9_limitBy_1 15 rfl) (zb_X9_limitBy_1 16 rfl) rfl
theorem dX9_limitBy_57 : decode cX9_limitBy 57 = .ok (.lconst 0, 1) := dop_9 (zb_X9_limitBy_1 17 rfl)
theorem dX9_limitBy_58 : decode cX9_limitBy 58 = .ok (.lcmp, 1) := dop_148 (zb_X9_limitBy_1 18 rfl)
theorem dX9_limitBy_59 : decode cX9_limitBy 59 = .ok (.ifCond .ne 4, 3) := dop_154 (zb_X9_limitBy_1 19 rfl) (zb_X9_limitBy_1 20 rfl) (zb_X9_limitBy_1 21 rfl) rfl
theorem dX9_limitBy_62 : decode cX9_limitBy 62 = .ok (.return_, 1) := dop_177 (zb_X9_limitBy_1 22 rfl)
theorem dX9_limitBy_63 : decode cX9_limitBy 63 = .ok (.aload 5, 2) := dop_25 (zb_X9_limitBy_1 23 rfl) (zb_X9_limitBy_1 24 rfl)
theorem dX9_limitBy_65 : decode cX9_limitBy 65 = .ok (.getfield 134, 3) := dop_180 (zb_X9_limitBy_1 25 rfl) (zb_X9_limitBy_1 26 rfl) (zb_X9_limitBy_1 27 rfl) rfl
theorem dX9_limitBy_68 : decode cX9_limitBy 68 = .ok (.ifCond .ne 23, 3) := dop_154 (zb_X9_limitBy_1 28 rfl) (zb_X9_limitBy_1 29 rfl) (zb_X9_limitBy_1 30 rfl) rfl
theorem dX9_limitBy_71 : decode cX9_limitBy 71 = .ok (.iload_n 1, 1) := dop_27 (zb_X9_limitBy_1 31 rfl)
theorem dX9_limitBy_72 : decode cX9_limitBy 72 = .ok (.bipush 12, 2) := dop_16 (zb_X9_limitBy_1 32 rfl) (zb_X9_limitBy_1 33 rfl) rfl
theorem dX9_limitBy_74 : decode cX9_limitBy 74 = .ok (.if_icmp .ge 21, 3) := dop_162 (zb_X9_limitBy_1 34 rfl) (zb_X9_limitBy_1 35 rfl) (zb_X9_limitBy_1 36 rfl) rfl
theorem dX9_limitBy_77 : decode cX9_limitBy 77 = .ok (.aload_n 0, 1) := dop_42 (zb_X9_limitBy_1 37 rfl)
theorem ze_X9_limitBy_3 : (dcn cX9_limitBy).drop 117 = zt_X9_limitBy_3 := dw_n (wl := zw_X9_limitBy_2) ze_X9_limitBy_2 rfl
theorem zb_X9_limitBy_2 (j : Nat) {n : Nat} (e : zw_X9_limitBy_2[j]? = some n) : dby cX9_limitBy (78 + j) n := dw_b (t := zt_X9_limitBy_3) ze_X9_limitBy_2 j e
theorem dX9_limitBy_78 : decode cX9_limitBy 78 = .ok (.getfield 15, 3) := dop_180 (zb_X9_limitBy_2 0 rfl) (zb_X9_limitBy_2 1 rfl) (zb_X9_limitBy_2 2 rfl) rfl
theorem dX9_limitBy_81 : decode cX9_limitBy 81 = .ok (.iload_n 1, 1) := dop_27 (zb_X9_limitBy_2 3 rfl)
theorem dX9_limitBy_82 : decode cX9_limitBy 82 = .ok (.iconst 4, 1) := dop_7 (zb_X9_limitBy_2 4 rfl)
theorem dX9_limitBy_83 : decode cX9_limitBy 83 = .ok (.imul, 1) := dop_104 (zb_X9_limitBy_2 5 rfl)
theorem dX9_limitBy_84 : decode cX9_limitBy 84 = .ok (.iload 6, 2) := dop_21 (zb_X9_limitBy_2 6 rfl) (zb_X9_limitBy_2 7 rfl)
theorem dX9_limitBy_86 : decode cX9_limitBy 86 = .ok (.iadd, 1) := dop_96 (zb_X9_limitBy_2 8 rfl)
theorem dX9_limitBy_87 : decode cX9_limitBy 87 = .ok (.baload, 1) := dop_51 (zb_X9_limitBy_2 9 rfl)
theorem dX9_limitBy_88 : decode cX9_limitBy 88 = .ok (.ifCond .eq 7, 3) := dop_153 (zb_X9_limitBy_2 10 rfl) (zb_X9_limitBy_2 11 rfl) (zb_X9_limitBy_2 12 rfl) rfl
theorem dX9_limitBy_91 : decode cX9_limitBy 91 = .ok (.iconst 1, 1) := dop_4 (zb_X9_limitBy_2 13 rfl)
theorem dX9_limitBy_92 : decode cX9_limitBy 92 = .ok (.goto 4, 3) := dop_167 (zb_X9_limitBy_2 14 rfl) (zb_X9_limitBy_2 15 rfl) (zb_X9_limitBy_2 16 rfl) rfl
theorem dX9_limitBy_95 : decode cX9_limitBy 95 = .ok (.iconst 0, 1) := dop_3 (zb_X9_limitBy_2 17 rfl)
theorem dX9_limitBy_96 : decode cX9_limitBy 96 = .ok (.istore 12, 2) := dop_54 (zb_X9_limitBy_2 18 rfl) (zb_X9_limitBy_2 19 rfl)
theorem dX9_limitBy_98 : decode cX9_limitBy 98 = .ok (.lload 8, 2) := dop_22 (zb_X9_limitBy_2 20 rfl) (zb_X9_limitBy_2 21 rfl)
theorem dX9_limitBy_100 : decode cX9_limitBy 100 = .ok (.aload 5, 2) := dop_25 (zb_X9_limitBy_2 22 rfl) (zb_X9_limitBy_2 23 rfl)
theorem dX9_limitBy_102 : decode cX9_limitBy 102 = .ok (.getfield 128, 3) := dop_180 (zb_X9_limitBy_2 24 rfl) (zb_X9_limitBy_2 25 rfl) (zb_X9_limitBy_2 26 rfl) rfl
theorem dX9_limitBy_105 : decode cX9_limitBy 105 = .ok (.iload_n 1, 1) := dop_27 (zb_X9_limitBy_2 27 rfl)
theorem dX9_limitBy_106 : decode cX9_limitBy 106 = .ok (.iload_n 2, 1) := dop_28 (zb_X9_limitBy_2 28 rfl)
theorem dX9_limitBy_107 : decode cX9_limitBy 107 = .ok (.invokestatic 148, 3) := dop_184 (zb_X9_limitBy_2 29 rfl) (zb_X9_limitBy_2 30 rfl) (zb_X9_limitBy_2 31 rfl) rfl
theorem dX9_limitBy_110 : decode cX9_limitBy 110 = .ok (.i2l, 1) := dop_133 (zb_X9_limitBy_2 32 rfl)
theorem dX9_limitBy_111 : decode cX9_limitBy 111 = .ok (.lmul, 1) := dop_105 (zb_X9_limitBy_2 33 rfl)
theorem dX9_limitBy_112 : decode cX9_limitBy 112 = .ok (.lmul, 1) := dop_105 (zb_X9_limitBy_2 34 rfl)
theorem dX9_limitBy_113 : decode cX9_limitBy 113 = .ok (.lstore 8, 2) := dop_55 (zb_X9_limitBy_2 35 rfl) (zb_X9_limitBy_2 36 rfl)
theorem dX9_limitBy_115 : decode cX9_limitBy 115 = .ok (.lload 10, 2) := dop_22 (zb_X9_limitBy_2 37 rfl) (zb_X9_limitBy_2 38 rfl)
theorem zb_X9_limitBy_3 (j : Nat) {n : Nat} (e : zw_X9_limitBy_3[j]? = some n) : dby cX9_limitBy (117 + j) n := dw_b (t := []) ze_X9_limitBy_3 j e
theorem dX9_limitBy_117 : decode cX9_limitBy 117 = .ok (.aload 5, 2) := dop_25 (zb_X9_limitBy_3 0 rfl) (zb_X9_limitBy_3 1 rfl)
theorem dX9_limitBy_119 : decode cX9_limitBy 119 = .ok (.getfield 132, 3) := dop_180 (zb_X9_limitBy_3 2 rfl) (zb_X9_limitBy_3 3 rfl) (zb_X9_limitBy_3 4 rfl) rfl
theorem dX9_limitBy_122 : decode cX9_limitBy 122 = .ok (.iload_n 2, 1) := dop_28 (zb_X9_limitBy_3 5 rfl)
theorem dX9_limitBy_123 : decode cX9_limitBy 123 = .ok (.iload_n 1, 1) := dop_27 (zb_X9_limitBy_3 6 rfl)
theorem dX9_limitBy_124 : decode cX9_limitBy 124 = .ok (.invokestatic 148, 3) := dop_184 (zb_X9_limitBy_3 7 rfl) (zb_X9_limitBy_3 8 rfl) (zb_X9_limitBy_3 9 rfl) rfl
theorem dX9_limitBy_127 : decode cX9_limitBy 127 = .ok (.i2l, 1) := dop_133 (zb_X9_limitBy_3 10 rfl)
theorem dX9_limitBy_128 : decode cX9_limitBy 128 = .ok (.lmul, 1) := dop_105 (zb_X9_limitBy_3 11 rfl)
theorem dX9_limitBy_129 : decode cX9_limitBy 129 = .ok (.lmul, 1) := dop_105 (zb_X9_limitBy_3 12 rfl)
theorem dX9_limitBy_130 : decode cX9_limitBy 130 = .ok (.lstore 10, 2) := dop_55 (zb_X9_limitBy_3 13 rfl) (zb_X9_limitBy_3 14 rfl)
theorem dX9_limitBy_132 : decode cX9_limitBy 132 = .ok (.aload 4, 2) := dop_25 (zb_X9_limitBy_3 15 rfl) (zb_X9_limitBy_3 16 rfl)
theorem dX9_limitBy_134 : decode cX9_limitBy 134 = .ok (.lload 8, 2) := dop_22 (zb_X9_limitBy_3 17 rfl) (zb_X9_limitBy_3 18 rfl)
theorem dX9_limitBy_136 : decode cX9_limitBy 136 = .ok (.lload 10, 2) := dop_22 (zb_X9_limitBy_3 19 rfl) (zb_X9_limitBy_3 20 rfl)
theorem dX9_limitBy_138 : decode cX9_limitBy 138 = .ok (.iload 12, 2) := dop_21 (zb_X9_limitBy_3 21 rfl) (zb_X9_limitBy_3 22 rfl)
theorem dX9_limitBy_140 : decode cX9_limitBy 140 = .ok (.invokevirtual 66, 3) := dop_182 (zb_X9_limitBy_3 23 rfl) (zb_X9_limitBy_3 24 rfl) (zb_X9_limitBy_3 25 rfl) rfl
theorem dX9_limitBy_143 : decode cX9_limitBy 143 = .ok (.return_, 1) := dop_177 (zb_X9_limitBy_3 26 rfl)
def zw_X9_highOf_0 : List Nat := [27, 16, 12, 161, 0, 17, 27, 16, 12, 100, 28, 160, 0, 7, 4, 167, 0, 4, 3, 172, 42, 180, 0, 9, 27, 7, 104, 28, 96, 46, 172]
def zt_X9_highOf_0 : List Nat := zw_X9_highOf_0 ++ []
theorem ze_X9_highOf_0 : (dcn cX9_highOf).drop 0 = zt_X9_highOf_0 := by decide +kernel
theorem zb_X9_highOf_0 (j : Nat) {n : Nat} (e : zw_X9_highOf_0[j]? = some n) : dby cX9_highOf (0 + j) n := dw_b (t := []) ze_X9_highOf_0 j e
theorem dX9_highOf_0 : decode cX9_highOf 0 = .ok (.iload_n 1, 1) := dop_27 (zb_X9_highOf_0 0 rfl)
theorem dX9_highOf_1 : decode cX9_highOf 1 = .ok (.bipush 12, 2) := dop_16 (zb_X9_highOf_0 1 rfl) (zb_X9_highOf_0 2 rfl) rfl
theorem dX9_highOf_3 : decode cX9_highOf 3 = .ok (.if_icmp .lt 17, 3) := dop_161 (zb_X9_highOf_0 3 rfl) (zb_X9_highOf_0 4 rfl) (zb_X9_highOf_0 5 rfl) rfl
theorem dX9_highOf_6 : decode cX9_highOf 6 = .ok (.iload_n 1, 1) := dop_27 (zb_X9_highOf_0 6 rfl)
theorem dX9_highOf_7 : decode cX9_highOf 7 = .ok (.bipush 12, 2) := dop_16 (zb_X9_highOf_0 7 rfl) (zb_X9_highOf_0 8 rfl) rfl
theorem dX9_highOf_9 : decode cX9_highOf 9 = .ok (.isub, 1) := dop_100 (zb_X9_highOf_0 9 rfl)
theorem dX9_highOf_10 : decode cX9_highOf 10 = .ok (.iload_n 2, 1) := dop_28 (zb_X9_highOf_0 10 rfl)
theorem dX9_highOf_11 : decode cX9_highOf 11 = .ok (.if_icmp .ne 7, 3) := dop_160 (zb_X9_highOf_0 11 rfl) (zb_X9_highOf_0 12 rfl) (zb_X9_highOf_0 13 rfl) rfl
theorem dX9_highOf_14 : decode cX9_highOf 14 = .ok (.iconst 1, 1) := dop_4 (zb_X9_highOf_0 14 rfl)
theorem dX9_highOf_15 : decode cX9_highOf 15 = .ok (.goto 4, 3) := dop_167 (zb_X9_highOf_0 15 rfl) (zb_X9_highOf_0 16 rfl) (zb_X9_highOf_0 17 rfl) rfl
theorem dX9_highOf_18 : decode cX9_highOf 18 = .ok (.iconst 0, 1) := dop_3 (zb_X9_highOf_0 18 rfl)
theorem dX9_highOf_19 : decode cX9_highOf 19 = .ok (.ireturn, 1) := dop_172 (zb_X9_highOf_0 19 rfl)
theorem dX9_highOf_20 : decode cX9_highOf 20 = .ok (.aload_n 0, 1) := dop_42 (zb_X9_highOf_0 20 rfl)
theorem dX9_highOf_21 : decode cX9_highOf 21 = .ok (.getfield 9, 3) := dop_180 (zb_X9_highOf_0 21 rfl) (zb_X9_highOf_0 22 rfl) (zb_X9_highOf_0 23 rfl) rfl
theorem dX9_highOf_24 : decode cX9_highOf 24 = .ok (.iload_n 1, 1) := dop_27 (zb_X9_highOf_0 24 rfl)
theorem dX9_highOf_25 : decode cX9_highOf 25 = .ok (.iconst 4, 1) := dop_7 (zb_X9_highOf_0 25 rfl)
theorem dX9_highOf_26 : decode cX9_highOf 26 = .ok (.imul, 1) := dop_104 (zb_X9_highOf_0 26 rfl)
theorem dX9_highOf_27 : decode cX9_highOf 27 = .ok (.iload_n 2, 1) := dop_28 (zb_X9_highOf_0 27 rfl)
theorem dX9_highOf_28 : decode cX9_highOf 28 = .ok (.iadd, 1) := dop_96 (zb_X9_highOf_0 28 rfl)
theorem dX9_highOf_29 : decode cX9_highOf 29 = .ok (.iaload, 1) := dop_46 (zb_X9_highOf_0 29 rfl)
theorem dX9_highOf_30 : decode cX9_highOf 30 = .ok (.ireturn, 1) := dop_172 (zb_X9_highOf_0 30 rfl)
def zw_X9_lowOf_0 : List Nat := [27, 16, 12, 161, 0, 17, 27, 16, 12, 100, 28, 160, 0, 7, 4, 167, 0, 4, 3, 172, 42, 180, 0, 19, 27, 7, 104, 28, 96, 46, 172]
def zt_X9_lowOf_0 : List Nat := zw_X9_lowOf_0 ++ []
theorem ze_X9_lowOf_0 : (dcn cX9_lowOf).drop 0 = zt_X9_lowOf_0 := by decide +kernel
theorem zb_X9_lowOf_0 (j : Nat) {n : Nat} (e : zw_X9_lowOf_0[j]? = some n) : dby cX9_lowOf (0 + j) n := dw_b (t := []) ze_X9_lowOf_0 j e
theorem dX9_lowOf_0 : decode cX9_lowOf 0 = .ok (.iload_n 1, 1) := dop_27 (zb_X9_lowOf_0 0 rfl)
theorem dX9_lowOf_1 : decode cX9_lowOf 1 = .ok (.bipush 12, 2) := dop_16 (zb_X9_lowOf_0 1 rfl) (zb_X9_lowOf_0 2 rfl) rfl
theorem dX9_lowOf_3 : decode cX9_lowOf 3 = .ok (.if_icmp .lt 17, 3) := dop_161 (zb_X9_lowOf_0 3 rfl) (zb_X9_lowOf_0 4 rfl) (zb_X9_lowOf_0 5 rfl) rfl
theorem dX9_lowOf_6 : decode cX9_lowOf 6 = .ok (.iload_n 1, 1) := dop_27 (zb_X9_lowOf_0 6 rfl)
theorem dX9_lowOf_7 : decode cX9_lowOf 7 = .ok (.bipush 12, 2) := dop_16 (zb_X9_lowOf_0 7 rfl) (zb_X9_lowOf_0 8 rfl) rfl
theorem dX9_lowOf_9 : decode cX9_lowOf 9 = .ok (.isub, 1) := dop_100 (zb_X9_lowOf_0 9 rfl)
theorem dX9_lowOf_10 : decode cX9_lowOf 10 = .ok (.iload_n 2, 1) := dop_28 (zb_X9_lowOf_0 10 rfl)
theorem dX9_lowOf_11 : decode cX9_lowOf 11 = .ok (.if_icmp .ne 7, 3) := dop_160 (zb_X9_lowOf_0 11 rfl) (zb_X9_lowOf_0 12 rfl) (zb_X9_lowOf_0 13 rfl) rfl
theorem dX9_lowOf_14 : decode cX9_lowOf 14 = .ok (.iconst 1, 1) := dop_4 (zb_X9_lowOf_0 14 rfl)
theorem dX9_lowOf_15 : decode cX9_lowOf 15 = .ok (.goto 4, 3) := dop_167 (zb_X9_lowOf_0 15 rfl) (zb_X9_lowOf_0 16 rfl) (zb_X9_lowOf_0 17 rfl) rfl
theorem dX9_lowOf_18 : decode cX9_lowOf 18 = .ok (.iconst 0, 1) := dop_3 (zb_X9_lowOf_0 18 rfl)
theorem dX9_lowOf_19 : decode cX9_lowOf 19 = .ok (.ireturn, 1) := dop_172 (zb_X9_lowOf_0 19 rfl)
theorem dX9_lowOf_20 : decode cX9_lowOf 20 = .ok (.aload_n 0, 1) := dop_42 (zb_X9_lowOf_0 20 rfl)
theorem dX9_lowOf_21 : decode cX9_lowOf 21 = .ok (.getfield 19, 3) := dop_180 (zb_X9_lowOf_0 21 rfl) (zb_X9_lowOf_0 22 rfl) (zb_X9_lowOf_0 23 rfl) rfl
theorem dX9_lowOf_24 : decode cX9_lowOf 24 = .ok (.iload_n 1, 1) := dop_27 (zb_X9_lowOf_0 24 rfl)
theorem dX9_lowOf_25 : decode cX9_lowOf 25 = .ok (.iconst 4, 1) := dop_7 (zb_X9_lowOf_0 25 rfl)
theorem dX9_lowOf_26 : decode cX9_lowOf 26 = .ok (.imul, 1) := dop_104 (zb_X9_lowOf_0 26 rfl)
theorem dX9_lowOf_27 : decode cX9_lowOf 27 = .ok (.iload_n 2, 1) := dop_28 (zb_X9_lowOf_0 27 rfl)
theorem dX9_lowOf_28 : decode cX9_lowOf 28 = .ok (.iadd, 1) := dop_96 (zb_X9_lowOf_0 28 rfl)
theorem dX9_lowOf_29 : decode cX9_lowOf 29 = .ok (.iaload, 1) := dop_46 (zb_X9_lowOf_0 29 rfl)
theorem dX9_lowOf_30 : decode cX9_lowOf 30 = .ok (.ireturn, 1) := dop_172 (zb_X9_lowOf_0 30 rfl)
def zw_X9_halvesIn_0 : List Nat := [26, 16, 12, 161, 0, 13, 27, 16, 12, 162, 0, 7, 5, 167, 0, 4, 4, 172]
def zt_X9_halvesIn_0 : List Nat := zw_X9_halvesIn_0 ++ []
theorem ze_X9_halvesIn_0 : (dcn cX9_halvesIn).drop 0 = zt_X9_halvesIn_0 := by decide +kernel
theorem zb_X9_halvesIn_0 (j : Nat) {n : Nat} (e : zw_X9_halvesIn_0[j]? = some n) : dby cX9_halvesIn (0 + j) n := dw_b (t := []) ze_X9_halvesIn_0 j e
theorem dX9_halvesIn_0 : decode cX9_halvesIn 0 = .ok (.iload_n 0, 1) := dop_26 (zb_X9_halvesIn_0 0 rfl)
theorem dX9_halvesIn_1 : decode cX9_halvesIn 1 = .ok (.bipush 12, 2) := dop_16 (zb_X9_halvesIn_0 1 rfl) (zb_X9_halvesIn_0 2 rfl) rfl
theorem dX9_halvesIn_3 : decode cX9_halvesIn 3 = .ok (.if_icmp .lt 13, 3) := dop_161 (zb_X9_halvesIn_0 3 rfl) (zb_X9_halvesIn_0 4 rfl) (zb_X9_halvesIn_0 5 rfl) rfl
theorem dX9_halvesIn_6 : decode cX9_halvesIn 6 = .ok (.iload_n 1, 1) := dop_27 (zb_X9_halvesIn_0 6 rfl)
theorem dX9_halvesIn_7 : decode cX9_halvesIn 7 = .ok (.bipush 12, 2) := dop_16 (zb_X9_halvesIn_0 7 rfl) (zb_X9_halvesIn_0 8 rfl) rfl
theorem dX9_halvesIn_9 : decode cX9_halvesIn 9 = .ok (.if_icmp .ge 7, 3) := dop_162 (zb_X9_halvesIn_0 9 rfl) (zb_X9_halvesIn_0 10 rfl) (zb_X9_halvesIn_0 11 rfl) rfl
theorem dX9_halvesIn_12 : decode cX9_halvesIn 12 = .ok (.iconst 2, 1) := dop_5 (zb_X9_halvesIn_0 12 rfl)
theorem dX9_halvesIn_13 : decode cX9_halvesIn 13 = .ok (.goto 4, 3) := dop_167 (zb_X9_halvesIn_0 13 rfl) (zb_X9_halvesIn_0 14 rfl) (zb_X9_halvesIn_0 15 rfl) rfl
theorem dX9_halvesIn_16 : decode cX9_halvesIn 16 = .ok (.iconst 1, 1) := dop_4 (zb_X9_halvesIn_0 16 rfl)
theorem dX9_halvesIn_17 : decode cX9_halvesIn 17 = .ok (.ireturn, 1) := dop_172 (zb_X9_halvesIn_0 17 rfl)
def zw_X10_init_0 : List Nat := [42, 183, 0, 3, 42, 6, 188, 11, 181, 0, 9, 42, 6, 188, 11, 181, 0, 15, 177]
def zt_X10_init_0 : List Nat := zw_X10_init_0 ++ []
theorem ze_X10_init_0 : (dcn cX10_init).drop 0 = zt_X10_init_0 := by decide +kernel
theorem zb_X10_init_0 (j : Nat) {n : Nat} (e : zw_X10_init_0[j]? = some n) : dby cX10_init (0 + j) n := dw_b (t := []) ze_X10_init_0 j e
theorem dX10_init_0 : decode cX10_init 0 = .ok (.aload_n 0, 1) := dop_42 (zb_X10_init_0 0 rfl)
theorem dX10_init_1 : decode cX10_init 1 = .ok (.invokespecial 3, 3) := dop_183 (zb_X10_init_0 1 rfl) (zb_X10_init_0 2 rfl) (zb_X10_init_0 3 rfl) rfl
theorem dX10_init_4 : decode cX10_init 4 = .ok (.aload_n 0, 1) := dop_42 (zb_X10_init_0 4 rfl)
theorem dX10_init_5 : decode cX10_init 5 = .ok (.iconst 3, 1) := dop_6 (zb_X10_init_0 5 rfl)
theorem dX10_init_6 : decode cX10_init 6 = .ok (.newarray .long, 2) := dop_188_11 (zb_X10_init_0 6 rfl) (zb_X10_init_0 7 rfl)
theorem dX10_init_8 : decode cX10_init 8 = .ok (.putfield 9, 3) := dop_181 (zb_X10_init_0 8 rfl) (zb_X10_init_0 9 rfl) (zb_X10_init_0 10 rfl) rfl
theorem dX10_init_11 : decode cX10_init 11 = .ok (.aload_n 0, 1) := dop_42 (zb_X10_init_0 11 rfl)
theorem dX10_init_12 : decode cX10_init 12 = .ok (.iconst 3, 1) := dop_6 (zb_X10_init_0 12 rfl)
theorem dX10_init_13 : decode cX10_init 13 = .ok (.newarray .long, 2) := dop_188_11 (zb_X10_init_0 13 rfl) (zb_X10_init_0 14 rfl)
theorem dX10_init_15 : decode cX10_init 15 = .ok (.putfield 15, 3) := dop_181 (zb_X10_init_0 15 rfl) (zb_X10_init_0 16 rfl) (zb_X10_init_0 17 rfl) rfl
theorem dX10_init_18 : decode cX10_init 18 = .ok (.return_, 1) := dop_177 (zb_X10_init_0 18 rfl)
def zw_X10_clear_1 : List Nat := [181, 0, 26, 177]
def zt_X10_clear_1 : List Nat := zw_X10_clear_1 ++ []
def zw_X10_clear_0 : List Nat := [3, 60, 27, 6, 162, 0, 23, 42, 180, 0, 9, 27, 9, 80, 42, 180, 0, 15, 27, 10, 80, 132, 1, 1, 167, 255, 234, 42, 3, 181, 0, 18, 42, 3, 181, 0, 22, 42, 3]
def zt_X10_clear_0 : List Nat := zw_X10_clear_0 ++ zt_X10_clear_1
theorem ze_X10_clear_0 : (dcn cX10_clear).drop 0 = zt_X10_clear_0 := by decide +kernel
theorem ze_X10_clear_1 : (dcn cX10_clear).drop 39 = zt_X10_clear_1 := dw_n (wl := zw_X10_clear_0) ze_X10_clear_0 rfl
theorem zb_X10_clear_0 (j : Nat) {n : Nat} (e : zw_X10_clear_0[j]? = some n) : dby cX10_clear (0 + j) n := dw_b (t := zt_X10_clear_1) ze_X10_clear_0 j e
theorem dX10_clear_0 : decode cX10_clear 0 = .ok (.iconst 0, 1) := dop_3 (zb_X10_clear_0 0 rfl)
theorem dX10_clear_1 : decode cX10_clear 1 = .ok (.istore_n 1, 1) := dop_60 (zb_X10_clear_0 1 rfl)
theorem dX10_clear_2 : decode cX10_clear 2 = .ok (.iload_n 1, 1) := dop_27 (zb_X10_clear_0 2 rfl)
theorem dX10_clear_3 : decode cX10_clear 3 = .ok (.iconst 3, 1) := dop_6 (zb_X10_clear_0 3 rfl)
theorem dX10_clear_4 : decode cX10_clear 4 = .ok (.if_icmp .ge 23, 3) := dop_162 (zb_X10_clear_0 4 rfl) (zb_X10_clear_0 5 rfl) (zb_X10_clear_0 6 rfl) rfl
theorem dX10_clear_7 : decode cX10_clear 7 = .ok (.aload_n 0, 1) := dop_42 (zb_X10_clear_0 7 rfl)
theorem dX10_clear_8 : decode cX10_clear 8 = .ok (.getfield 9, 3) := dop_180 (zb_X10_clear_0 8 rfl) (zb_X10_clear_0 9 rfl) (zb_X10_clear_0 10 rfl) rfl
theorem dX10_clear_11 : decode cX10_clear 11 = .ok (.iload_n 1, 1) := dop_27 (zb_X10_clear_0 11 rfl)
theorem dX10_clear_12 : decode cX10_clear 12 = .ok (.lconst 0, 1) := dop_9 (zb_X10_clear_0 12 rfl)
theorem dX10_clear_13 : decode cX10_clear 13 = .ok (.lastore, 1) := dop_80 (zb_X10_clear_0 13 rfl)
theorem dX10_clear_14 : decode cX10_clear 14 = .ok (.aload_n 0, 1) := dop_42 (zb_X10_clear_0 14 rfl)
theorem dX10_clear_15 : decode cX10_clear 15 = .ok (.getfield 15, 3) := dop_180 (zb_X10_clear_0 15 rfl) (zb_X10_clear_0 16 rfl) (zb_X10_clear_0 17 rfl) rfl
theorem dX10_clear_18 : decode cX10_clear 18 = .ok (.iload_n 1, 1) := dop_27 (zb_X10_clear_0 18 rfl)
theorem dX10_clear_19 : decode cX10_clear 19 = .ok (.lconst 1, 1) := dop_10 (zb_X10_clear_0 19 rfl)
theorem dX10_clear_20 : decode cX10_clear 20 = .ok (.lastore, 1) := dop_80 (zb_X10_clear_0 20 rfl)
theorem dX10_clear_21 : decode cX10_clear 21 = .ok (.iinc 1 1, 3) := dop_132 (zb_X10_clear_0 21 rfl) (zb_X10_clear_0 22 rfl) (zb_X10_clear_0 23 rfl) rfl
theorem dX10_clear_24 : decode cX10_clear 24 = .ok (.goto (-22), 3) := dop_167 (zb_X10_clear_0 24 rfl) (zb_X10_clear_0 25 rfl) (zb_X10_clear_0 26 rfl) rfl
theorem dX10_clear_27 : decode cX10_clear 27 = .ok (.aload_n 0, 1) := dop_42 (zb_X10_clear_0 27 rfl)
theorem dX10_clear_28 : decode cX10_clear 28 = .ok (.iconst 0, 1) := dop_3 (zb_X10_clear_0 28 rfl)
theorem dX10_clear_29 : decode cX10_clear 29 = .ok (.putfield 18, 3) := dop_181 (zb_X10_clear_0 29 rfl) (zb_X10_clear_0 30 rfl) (zb_X10_clear_0 31 rfl) rfl
theorem dX10_clear_32 : decode cX10_clear 32 = .ok (.aload_n 0, 1) := dop_42 (zb_X10_clear_0 32 rfl)
theorem dX10_clear_33 : decode cX10_clear 33 = .ok (.iconst 0, 1) := dop_3 (zb_X10_clear_0 33 rfl)
theorem dX10_clear_34 : decode cX10_clear 34 = .ok (.putfield 22, 3) := dop_181 (zb_X10_clear_0 34 rfl) (zb_X10_clear_0 35 rfl) (zb_X10_clear_0 36 rfl) rfl
theorem dX10_clear_37 : decode cX10_clear 37 = .ok (.aload_n 0, 1) := dop_42 (zb_X10_clear_0 37 rfl)
theorem dX10_clear_38 : decode cX10_clear 38 = .ok (.iconst 0, 1) := dop_3 (zb_X10_clear_0 38 rfl)
theorem zb_X10_clear_1 (j : Nat) {n : Nat} (e : zw_X10_clear_1[j]? = some n) : dby cX10_clear (39 + j) n := dw_b (t := []) ze_X10_clear_1 j e
theorem dX10_clear_39 : decode cX10_clear 39 = .ok (.putfield 26, 3) := dop_181 (zb_X10_clear_1 0 rfl) (zb_X10_clear_1 1 rfl) (zb_X10_clear_1 2 rfl) rfl
theorem dX10_clear_42 : decode cX10_clear 42 = .ok (.return_, 1) := dop_177 (zb_X10_clear_1 3 rfl)
def zw_X10_add_1 : List Nat := [33, 80, 42, 42, 180, 0, 22, 154, 0, 8, 21, 5, 153, 0, 7, 4, 167, 0, 4, 3, 181, 0, 22, 42, 89, 180, 0, 18, 4, 96, 181, 0, 18, 177]
def zt_X10_add_1 : List Nat := zw_X10_add_1 ++ []
def zw_X10_add_0 : List Nat := [33, 9, 148, 154, 0, 11, 42, 4, 181, 0, 26, 167, 0, 62, 42, 180, 0, 18, 6, 162, 0, 54, 42, 180, 0, 9, 42, 180, 0, 18, 31, 80, 42, 180, 0, 15, 42, 180, 0, 18]
def zt_X10_add_0 : List Nat := zw_X10_add_0 ++ zt_X10_add_1
theorem ze_X10_add_0 : (dcn cX10_add).drop 0 = zt_X10_add_0 := by decide +kernel
theorem ze_X10_add_1 : (dcn cX10_add).drop 40 = zt_X10_add_1 := dw_n (wl := zw_X10_add_0) ze_X10_add_0 rfl
theorem zb_X10_add_0 (j : Nat) {n : Nat} (e : zw_X10_add_0[j]? = some n) : dby cX10_add (0 + j) n := dw_b (t := zt_X10_add_1) ze_X10_add_0 j e
theorem dX10_add_0 : decode cX10_add 0 = .ok (.lload_n 3, 1) := dop_33 (zb_X10_add_0 0 rfl)
theorem dX10_add_1 : decode cX10_add 1 = .ok (.lconst 0, 1) := dop_9 (zb_X10_add_0 1 rfl)
theorem dX10_add_2 : decode cX10_add 2 = .ok (.lcmp, 1) := dop_148 (zb_X10_add_0 2 rfl)
theorem dX10_add_3 : decode cX10_add 3 = .ok (.ifCond .ne 11, 3) := dop_154 (zb_X10_add_0 3 rfl) (zb_X10_add_0 4 rfl) (zb_X10_add_0 5 rfl) rfl
theorem dX10_add_6 : decode cX10_add 6 = .ok (.aload_n 0, 1) := dop_42 (zb_X10_add_0 6 rfl)
theorem dX10_add_7 : decode cX10_add 7 = .ok (.iconst 1, 1) := dop_4 (zb_X10_add_0 7 rfl)
theorem dX10_add_8 : decode cX10_add 8 = .ok (.putfield 26, 3) := dop_181 (zb_X10_add_0 8 rfl) (zb_X10_add_0 9 rfl) (zb_X10_add_0 10 rfl) rfl
theorem dX10_add_11 : decode cX10_add 11 = .ok (.goto 62, 3) := dop_167 (zb_X10_add_0 11 rfl) (zb_X10_add_0 12 rfl) (zb_X10_add_0 13 rfl) rfl
theorem dX10_add_14 : decode cX10_add 14 = .ok (.aload_n 0, 1) := dop_42 (zb_X10_add_0 14 rfl)
theorem dX10_add_15 : decode cX10_add 15 = .ok (.getfield 18, 3) := dop_180 (zb_X10_add_0 15 rfl) (zb_X10_add_0 16 rfl) (zb_X10_add_0 17 rfl) rfl
theorem dX10_add_18 : decode cX10_add 18 = .ok (.iconst 3, 1) := dop_6 (zb_X10_add_0 18 rfl)
theorem dX10_add_19 : decode cX10_add 19 = .ok (.if_icmp .ge 54, 3) := dop_162 (zb_X10_add_0 19 rfl) (zb_X10_add_0 20 rfl) (zb_X10_add_0 21 rfl) rfl
theorem dX10_add_22 : decode cX10_add 22 = .ok (.aload_n 0, 1) := dop_42 (zb_X10_add_0 22 rfl)
theorem dX10_add_23 : decode cX10_add 23 = .ok (.getfield 9, 3) := dop_180 (zb_X10_add_0 23 rfl) (zb_X10_add_0 24 rfl) (zb_X10_add_0 25 rfl) rfl
theorem dX10_add_26 : decode cX10_add 26 = .ok (.aload_n 0, 1) := dop_42 (zb_X10_add_0 26 rfl)
theorem dX10_add_27 : decode cX10_add 27 = .ok (.getfield 18, 3) := dop_180 (zb_X10_add_0 27 rfl) (zb_X10_add_0 28 rfl) (zb_X10_add_0 29 rfl) rfl
theorem dX10_add_30 : decode cX10_add 30 = .ok (.lload_n 1, 1) := dop_31 (zb_X10_add_0 30 rfl)
theorem dX10_add_31 : decode cX10_add 31 = .ok (.lastore, 1) := dop_80 (zb_X10_add_0 31 rfl)
theorem dX10_add_32 : decode cX10_add 32 = .ok (.aload_n 0, 1) := dop_42 (zb_X10_add_0 32 rfl)
theorem dX10_add_33 : decode cX10_add 33 = .ok (.getfield 15, 3) := dop_180 (zb_X10_add_0 33 rfl) (zb_X10_add_0 34 rfl) (zb_X10_add_0 35 rfl) rfl
theorem dX10_add_36 : decode cX10_add 36 = .ok (.aload_n 0, 1) := dop_42 (zb_X10_add_0 36 rfl)
theorem dX10_add_37 : decode cX10_add 37 = .ok (.getfield 18, 3) := dop_180 (zb_X10_add_0 37 rfl) (zb_X10_add_0 38 rfl) (zb_X10_add_0 39 rfl) rfl
theorem zb_X10_add_1 (j : Nat) {n : Nat} (e : zw_X10_add_1[j]? = some n) : dby cX10_add (40 + j) n := dw_b (t := []) ze_X10_add_1 j e
theorem dX10_add_40 : decode cX10_add 40 = .ok (.lload_n 3, 1) := dop_33 (zb_X10_add_1 0 rfl)
theorem dX10_add_41 : decode cX10_add 41 = .ok (.lastore, 1) := dop_80 (zb_X10_add_1 1 rfl)
theorem dX10_add_42 : decode cX10_add 42 = .ok (.aload_n 0, 1) := dop_42 (zb_X10_add_1 2 rfl)
theorem dX10_add_43 : decode cX10_add 43 = .ok (.aload_n 0, 1) := dop_42 (zb_X10_add_1 3 rfl)
theorem dX10_add_44 : decode cX10_add 44 = .ok (.getfield 22, 3) := dop_180 (zb_X10_add_1 4 rfl) (zb_X10_add_1 5 rfl) (zb_X10_add_1 6 rfl) rfl
theorem dX10_add_47 : decode cX10_add 47 = .ok (.ifCond .ne 8, 3) := dop_154 (zb_X10_add_1 7 rfl) (zb_X10_add_1 8 rfl) (zb_X10_add_1 9 rfl) rfl
theorem dX10_add_50 : decode cX10_add 50 = .ok (.iload 5, 2) := dop_21 (zb_X10_add_1 10 rfl) (zb_X10_add_1 11 rfl)
theorem dX10_add_52 : decode cX10_add 52 = .ok (.ifCond .eq 7, 3) := dop_153 (zb_X10_add_1 12 rfl) (zb_X10_add_1 13 rfl) (zb_X10_add_1 14 rfl) rfl
theorem dX10_add_55 : decode cX10_add 55 = .ok (.iconst 1, 1) := dop_4 (zb_X10_add_1 15 rfl)
theorem dX10_add_56 : decode cX10_add 56 = .ok (.goto 4, 3) := dop_167 (zb_X10_add_1 16 rfl) (zb_X10_add_1 17 rfl) (zb_X10_add_1 18 rfl) rfl
theorem dX10_add_59 : decode cX10_add 59 = .ok (.iconst 0, 1) := dop_3 (zb_X10_add_1 19 rfl)
theorem dX10_add_60 : decode cX10_add 60 = .ok (.putfield 22, 3) := dop_181 (zb_X10_add_1 20 rfl) (zb_X10_add_1 21 rfl) (zb_X10_add_1 22 rfl) rfl
theorem dX10_add_63 : decode cX10_add 63 = .ok (.aload_n 0, 1) := dop_42 (zb_X10_add_1 23 rfl)
theorem dX10_add_64 : decode cX10_add 64 = .ok (.dup, 1) := dop_89 (zb_X10_add_1 24 rfl)
theorem dX10_add_65 : decode cX10_add 65 = .ok (.getfield 18, 3) := dop_180 (zb_X10_add_1 25 rfl) (zb_X10_add_1 26 rfl) (zb_X10_add_1 27 rfl) rfl
theorem dX10_add_68 : decode cX10_add 68 = .ok (.iconst 1, 1) := dop_4 (zb_X10_add_1 28 rfl)
theorem dX10_add_69 : decode cX10_add 69 = .ok (.iadd, 1) := dop_96 (zb_X10_add_1 29 rfl)
theorem dX10_add_70 : decode cX10_add 70 = .ok (.putfield 18, 3) := dop_181 (zb_X10_add_1 30 rfl) (zb_X10_add_1 31 rfl) (zb_X10_add_1 32 rfl) rfl
theorem dX10_add_73 : decode cX10_add 73 = .ok (.return_, 1) := dop_177 (zb_X10_add_1 33 rfl)
def zw_X10_sum_5 : List Nat := [167, 0, 4, 9, 97, 64, 42, 180, 0, 22, 153, 0, 14, 21, 12, 153, 0, 9, 31, 10, 101, 167, 0, 4, 31, 173]
def zt_X10_sum_5 : List Nat := zw_X10_sum_5 ++ []
def zw_X10_sum_4 : List Nat := [47, 184, 0, 38, 54, 11, 21, 11, 153, 0, 17, 22, 7, 9, 148, 154, 0, 14, 22, 9, 9, 148, 154, 0, 7, 4, 167, 0, 4, 3, 54, 12, 31, 21, 11, 155, 0, 7, 10]
def zt_X10_sum_4 : List Nat := zw_X10_sum_4 ++ zt_X10_sum_5
def zw_X10_sum_3 : List Nat := [184, 0, 35, 55, 7, 42, 180, 0, 9, 5, 47, 42, 180, 0, 15, 5, 47, 184, 0, 35, 55, 9, 22, 7, 22, 5, 42, 180, 0, 15, 5, 47, 22, 9, 101, 42, 180, 0, 15, 5]
def zt_X10_sum_3 : List Nat := zw_X10_sum_3 ++ zt_X10_sum_4
def zw_X10_sum_2 : List Nat := [184, 0, 35, 42, 180, 0, 15, 3, 47, 105, 97, 66, 42, 180, 0, 15, 3, 47, 42, 180, 0, 15, 4, 47, 105, 55, 5, 31, 33, 22, 5, 184, 0, 31, 97, 64, 33, 22, 5]
def zt_X10_sum_2 : List Nat := zw_X10_sum_2 ++ zt_X10_sum_3
def zw_X10_sum_1 : List Nat := [132, 3, 1, 167, 255, 230, 42, 180, 0, 9, 3, 47, 42, 180, 0, 15, 3, 47, 184, 0, 35, 42, 180, 0, 15, 4, 47, 105, 42, 180, 0, 9, 4, 47, 42, 180, 0, 15, 4, 47]
def zt_X10_sum_1 : List Nat := zw_X10_sum_1 ++ zt_X10_sum_2
def zw_X10_sum_0 : List Nat := [42, 180, 0, 26, 153, 0, 7, 20, 0, 29, 173, 9, 64, 3, 62, 29, 6, 162, 0, 27, 31, 42, 180, 0, 9, 29, 47, 42, 180, 0, 15, 29, 47, 184, 0, 31, 97, 64]
def zt_X10_sum_0 : List Nat := zw_X10_sum_0 ++ zt_X10_sum_1
theorem ze_X10_sum_0 : (dcn cX10_sum).drop 0 = zt_X10_sum_0 := by decide +kernel
theorem ze_X10_sum_1 : (dcn cX10_sum).drop 38 = zt_X10_sum_1 := dw_n (wl := zw_X10_sum_0) ze_X10_sum_0 rfl
theorem zb_X10_sum_0 (j : Nat) {n : Nat} (e : zw_X10_sum_0[j]? = some n) : dby cX10_sum (0 + j) n := dw_b (t := zt_X10_sum_1) ze_X10_sum_0 j e
theorem dX10_sum_0 : decode cX10_sum 0 = .ok (.aload_n 0, 1) := dop_42 (zb_X10_sum_0 0 rfl)
theorem dX10_sum_1 : decode cX10_sum 1 = .ok (.getfield 26, 3) := dop_180 (zb_X10_sum_0 1 rfl) (zb_X10_sum_0 2 rfl) (zb_X10_sum_0 3 rfl) rfl
theorem dX10_sum_4 : decode cX10_sum 4 = .ok (.ifCond .eq 7, 3) := dop_153 (zb_X10_sum_0 4 rfl) (zb_X10_sum_0 5 rfl) (zb_X10_sum_0 6 rfl) rfl
theorem dX10_sum_7 : decode cX10_sum 7 = .ok (.ldc2_w 29, 3) := dop_20 (zb_X10_sum_0 7 rfl) (zb_X10_sum_0 8 rfl) (zb_X10_sum_0 9 rfl) rfl
theorem dX10_sum_10 : decode cX10_sum 10 = .ok (.lreturn, 1) := dop_173 (zb_X10_sum_0 10 rfl)
theorem dX10_sum_11 : decode cX10_sum 11 = .ok (.lconst 0, 1) := dop_9 (zb_X10_sum_0 11 rfl)
theorem dX10_sum_12 : decode cX10_sum 12 = .ok (.lstore_n 1, 1) := dop_64 (zb_X10_sum_0 12 rfl)
theorem dX10_sum_13 : decode cX10_sum 13 = .ok (.iconst 0, 1) := dop_3 (zb_X10_sum_0 13 rfl)
theorem dX10_sum_14 : decode cX10_sum 14 = .ok (.istore_n 3, 1) := dop_62 (zb_X10_sum_0 14 rfl)
theorem dX10_sum_15 : decode cX10_sum 15 = .ok (.iload_n 3, 1) := dop_29 (zb_X10_sum_0 15 rfl)
theorem dX10_sum_16 : decode cX10_sum 16 = .ok (.iconst 3, 1) := dop_6 (zb_X10_sum_0 16 rfl)
theorem dX10_sum_17 : decode cX10_sum 17 = .ok (.if_icmp .ge 27, 3) := dop_162 (zb_X10_sum_0 17 rfl) (zb_X10_sum_0 18 rfl) (zb_X10_sum_0 19 rfl) rfl
theorem dX10_sum_20 : decode cX10_sum 20 = .ok (.lload_n 1, 1) := dop_31 (zb_X10_sum_0 20 rfl)
theorem dX10_sum_21 : decode cX10_sum 21 = .ok (.aload_n 0, 1) := dop_42 (zb_X10_sum_0 21 rfl)
theorem dX10_sum_22 : decode cX10_sum 22 = .ok (.getfield 9, 3) := dop_180 (zb_X10_sum_0 22 rfl) (zb_X10_sum_0 23 rfl) (zb_X10_sum_0 24 rfl) rfl
theorem dX10_sum_25 : decode cX10_sum 25 = .ok (.iload_n 3, 1) := dop_29 (zb_X10_sum_0 25 rfl)
theorem dX10_sum_26 : decode cX10_sum 26 = .ok (.laload, 1) := dop_47 (zb_X10_sum_0 26 rfl)
theorem dX10_sum_27 : decode cX10_sum 27 = .ok (.aload_n 0, 1) := dop_42 (zb_X10_sum_0 27 rfl)
theorem dX10_sum_28 : decode cX10_sum 28 = .ok (.getfield 15, 3) := dop_180 (zb_X10_sum_0 28 rfl) (zb_X10_sum_0 29 rfl) (zb_X10_sum_0 30 rfl) rfl
theorem dX10_sum_31 : decode cX10_sum 31 = .ok (.iload_n 3, 1) := dop_29 (zb_X10_sum_0 31 rfl)
theorem dX10_sum_32 : decode cX10_sum 32 = .ok (.laload, 1) := dop_47 (zb_X10_sum_0 32 rfl)
theorem dX10_sum_33 : decode cX10_sum 33 = .ok (.invokestatic 31, 3) := dop_184 (zb_X10_sum_0 33 rfl) (zb_X10_sum_0 34 rfl) (zb_X10_sum_0 35 rfl) rfl
theorem dX10_sum_36 : decode cX10_sum 36 = .ok (.ladd, 1) := dop_97 (zb_X10_sum_0 36 rfl)
theorem dX10_sum_37 : decode cX10_sum 37 = .ok (.lstore_n 1, 1) := dop_64 (zb_X10_sum_0 37 rfl)
theorem ze_X10_sum_2 : (dcn cX10_sum).drop 78 = zt_X10_sum_2 := dw_n (wl := zw_X10_sum_1) ze_X10_sum_1 rfl
theorem zb_X10_sum_1 (j : Nat) {n : Nat} (e : zw_X10_sum_1[j]? = some n) : dby cX10_sum (38 + j) n := dw_b (t := zt_X10_sum_2) ze_X10_sum_1 j e
theorem dX10_sum_38 : decode cX10_sum 38 = .ok (.iinc 3 1, 3) := dop_132 (zb_X10_sum_1 0 rfl) (zb_X10_sum_1 1 rfl) (zb_X10_sum_1 2 rfl) rfl
theorem dX10_sum_41 : decode cX10_sum 41 = .ok (.goto (-26), 3) := dop_167 (zb_X10_sum_1 3 rfl) (zb_X10_sum_1 4 rfl) (zb_X10_sum_1 5 rfl) rfl
theorem dX10_sum_44 : decode cX10_sum 44 = .ok (.aload_n 0, 1) := dop_42 (zb_X10_sum_1 6 rfl)
theorem dX10_sum_45 : decode cX10_sum 45 = .ok (.getfield 9, 3) := dop_180 (zb_X10_sum_1 7 rfl) (zb_X10_sum_1 8 rfl) (zb_X10_sum_1 9 rfl) rfl
theorem dX10_sum_48 : decode cX10_sum 48 = .ok (.iconst 0, 1) := dop_3 (zb_X10_sum_1 10 rfl)
theorem dX10_sum_49 : decode cX10_sum 49 = .ok (.laload, 1) := dop_47 (zb_X10_sum_1 11 rfl)
theorem dX10_sum_50 : decode cX10_sum 50 = .ok (.aload_n 0, 1) := dop_42 (zb_X10_sum_1 12 rfl)
theorem dX10_sum_51 : decode cX10_sum 51 = .ok (.getfield 15, 3) := dop_180 (zb_X10_sum_1 13 rfl) (zb_X10_sum_1 14 rfl) (zb_X10_sum_1 15 rfl) rfl
theorem dX10_sum_54 : decode cX10_sum 54 = .ok (.iconst 0, 1) := dop_3 (zb_X10_sum_1 16 rfl)
theorem dX10_sum_55 : decode cX10_sum 55 = .ok (.laload, 1) := dop_47 (zb_X10_sum_1 17 rfl)
theorem dX10_sum_56 : decode cX10_sum 56 = .ok (.invokestatic 35, 3) := dop_184 (zb_X10_sum_1 18 rfl) (zb_X10_sum_1 19 rfl) (zb_X10_sum_1 20 rfl) rfl
theorem dX10_sum_59 : decode cX10_sum 59 = .ok (.aload_n 0, 1) := dop_42 (zb_X10_sum_1 21 rfl)
theorem dX10_sum_60 : decode cX10_sum 60 = .ok (.getfield 15, 3) := dop_180 (zb_X10_sum_1 22 rfl) (zb_X10_sum_1 23 rfl) (zb_X10_sum_1 24 rfl) rfl
theorem dX10_sum_63 : decode cX10_sum 63 = .ok (.iconst 1, 1) := dop_4 (zb_X10_sum_1 25 rfl)
theorem dX10_sum_64 : decode cX10_sum 64 = .ok (.laload, 1) := dop_47 (zb_X10_sum_1 26 rfl)
theorem dX10_sum_65 : decode cX10_sum 65 = .ok (.lmul, 1) := dop_105 (zb_X10_sum_1 27 rfl)
theorem dX10_sum_66 : decode cX10_sum 66 = .ok (.aload_n 0, 1) := dop_42 (zb_X10_sum_1 28 rfl)
theorem dX10_sum_67 : decode cX10_sum 67 = .ok (.getfield 9, 3) := dop_180 (zb_X10_sum_1 29 rfl) (zb_X10_sum_1 30 rfl) (zb_X10_sum_1 31 rfl) rfl
theorem dX10_sum_70 : decode cX10_sum 70 = .ok (.iconst 1, 1) := dop_4 (zb_X10_sum_1 32 rfl)
theorem dX10_sum_71 : decode cX10_sum 71 = .ok (.laload, 1) := dop_47 (zb_X10_sum_1 33 rfl)
theorem dX10_sum_72 : decode cX10_sum 72 = .ok (.aload_n 0, 1) := dop_42 (zb_X10_sum_1 34 rfl)
theorem dX10_sum_73 : decode cX10_sum 73 = .ok (.getfield 15, 3) := dop_180 (zb_X10_sum_1 35 rfl) (zb_X10_sum_1 36 rfl) (zb_X10_sum_1 37 rfl) rfl
theorem dX10_sum_76 : decode cX10_sum 76 = .ok (.iconst 1, 1) := dop_4 (zb_X10_sum_1 38 rfl)
theorem dX10_sum_77 : decode cX10_sum 77 = .ok (.laload, 1) := dop_47 (zb_X10_sum_1 39 rfl)
theorem ze_X10_sum_3 : (dcn cX10_sum).drop 117 = zt_X10_sum_3 := dw_n (wl := zw_X10_sum_2) ze_X10_sum_2 rfl
theorem zb_X10_sum_2 (j : Nat) {n : Nat} (e : zw_X10_sum_2[j]? = some n) : dby cX10_sum (78 + j) n := dw_b (t := zt_X10_sum_3) ze_X10_sum_2 j e
theorem dX10_sum_78 : decode cX10_sum 78 = .ok (.invokestatic 35, 3) := dop_184 (zb_X10_sum_2 0 rfl) (zb_X10_sum_2 1 rfl) (zb_X10_sum_2 2 rfl) rfl
theorem dX10_sum_81 : decode cX10_sum 81 = .ok (.aload_n 0, 1) := dop_42 (zb_X10_sum_2 3 rfl)
theorem dX10_sum_82 : decode cX10_sum 82 = .ok (.getfield 15, 3) := dop_180 (zb_X10_sum_2 4 rfl) (zb_X10_sum_2 5 rfl) (zb_X10_sum_2 6 rfl) rfl
theorem dX10_sum_85 : decode cX10_sum 85 = .ok (.iconst 0, 1) := dop_3 (zb_X10_sum_2 7 rfl)
theorem dX10_sum_86 : decode cX10_sum 86 = .ok (.laload, 1) := dop_47 (zb_X10_sum_2 8 rfl)
theorem dX10_sum_87 : decode cX10_sum 87 = .ok (.lmul, 1) := dop_105 (zb_X10_sum_2 9 rfl)
theorem dX10_sum_88 : decode cX10_sum 88 = .ok (.ladd, 1) := dop_97 (zb_X10_sum_2 10 rfl)
theorem dX10_sum_89 : decode cX10_sum 89 = .ok (.lstore_n 3, 1) := dop_66 (zb_X10_sum_2 11 rfl)
theorem dX10_sum_90 : decode cX10_sum 90 = .ok (.aload_n 0, 1) := dop_42 (zb_X10_sum_2 12 rfl)
theorem dX10_sum_91 : decode cX10_sum 91 = .ok (.getfield 15, 3) := dop_180 (zb_X10_sum_2 13 rfl) (zb_X10_sum_2 14 rfl) (zb_X10_sum_2 15 rfl) rfl
theorem dX10_sum_94 : decode cX10_sum 94 = .ok (.iconst 0, 1) := dop_3 (zb_X10_sum_2 16 rfl)
theorem dX10_sum_95 : decode cX10_sum 95 = .ok (.laload, 1) := dop_47 (zb_X10_sum_2 17 rfl)
theorem dX10_sum_96 : decode cX10_sum 96 = .ok (.aload_n 0, 1) := dop_42 (zb_X10_sum_2 18 rfl)
theorem dX10_sum_97 : decode cX10_sum 97 = .ok (.getfield 15, 3) := dop_180 (zb_X10_sum_2 19 rfl) (zb_X10_sum_2 20 rfl) (zb_X10_sum_2 21 rfl) rfl
theorem dX10_sum_100 : decode cX10_sum 100 = .ok (.iconst 1, 1) := dop_4 (zb_X10_sum_2 22 rfl)
theorem dX10_sum_101 : decode cX10_sum 101 = .ok (.laload, 1) := dop_47 (zb_X10_sum_2 23 rfl)
theorem dX10_sum_102 : decode cX10_sum 102 = .ok (.lmul, 1) := dop_105 (zb_X10_sum_2 24 rfl)
theorem dX10_sum_103 : decode cX10_sum 103 = .ok (.lstore 5, 2) := dop_55 (zb_X10_sum_2 25 rfl) (zb_X10_sum_2 26 rfl)
theorem dX10_sum_105 : decode cX10_sum 105 = .ok (.lload_n 1, 1) := dop_31 (zb_X10_sum_2 27 rfl)
theorem dX10_sum_106 : decode cX10_sum 106 = .ok (.lload_n 3, 1) := dop_33 (zb_X10_sum_2 28 rfl)
theorem dX10_sum_107 : decode cX10_sum 107 = .ok (.lload 5, 2) := dop_22 (zb_X10_sum_2 29 rfl) (zb_X10_sum_2 30 rfl)
theorem dX10_sum_109 : decode cX10_sum 109 = .ok (.invokestatic 31, 3) := dop_184 (zb_X10_sum_2 31 rfl) (zb_X10_sum_2 32 rfl) (zb_X10_sum_2 33 rfl) rfl
theorem dX10_sum_112 : decode cX10_sum 112 = .ok (.ladd, 1) := dop_97 (zb_X10_sum_2 34 rfl)
theorem dX10_sum_113 : decode cX10_sum 113 = .ok (.lstore_n 1, 1) := dop_64 (zb_X10_sum_2 35 rfl)
theorem dX10_sum_114 : decode cX10_sum 114 = .ok (.lload_n 3, 1) := dop_33 (zb_X10_sum_2 36 rfl)
theorem dX10_sum_115 : decode cX10_sum 115 = .ok (.lload 5, 2) := dop_22 (zb_X10_sum_2 37 rfl) (zb_X10_sum_2 38 rfl)
theorem ze_X10_sum_4 : (dcn cX10_sum).drop 157 = zt_X10_sum_4 := dw_n (wl := zw_X10_sum_3) ze_X10_sum_3 rfl
theorem zb_X10_sum_3 (j : Nat) {n : Nat} (e : zw_X10_sum_3[j]? = some n) : dby cX10_sum (117 + j) n := dw_b (t := zt_X10_sum_4) ze_X10_sum_3 j e
theorem dX10_sum_117 : decode cX10_sum 117 = .ok (.invokestatic 35, 3) := dop_184 (zb_X10_sum_3 0 rfl) (zb_X10_sum_3 1 rfl) (zb_X10_sum_3 2 rfl) rfl
theorem dX10_sum_120 : decode cX10_sum 120 = .ok (.lstore 7, 2) := dop_55 (zb_X10_sum_3 3 rfl) (zb_X10_sum_3 4 rfl)
theorem dX10_sum_122 : decode cX10_sum 122 = .ok (.aload_n 0, 1) := dop_42 (zb_X10_sum_3 5 rfl)
theorem dX10_sum_123 : decode cX10_sum 123 = .ok (.getfield 9, 3) := dop_180 (zb_X10_sum_3 6 rfl) (zb_X10_sum_3 7 rfl) (zb_X10_sum_3 8 rfl) rfl
theorem dX10_sum_126 : decode cX10_sum 126 = .ok (.iconst 2, 1) := dop_5 (zb_X10_sum_3 9 rfl)
theorem dX10_sum_127 : decode cX10_sum 127 = .ok (.laload, 1) := dop_47 (zb_X10_sum_3 10 rfl)
theorem dX10_sum_128 : decode cX10_sum 128 = .ok (.aload_n 0, 1) := dop_42 (zb_X10_sum_3 11 rfl)
theorem dX10_sum_129 : decode cX10_sum 129 = .ok (.getfield 15, 3) := dop_180 (zb_X10_sum_3 12 rfl) (zb_X10_sum_3 13 rfl) (zb_X10_sum_3 14 rfl) rfl
theorem dX10_sum_132 : decode cX10_sum 132 = .ok (.iconst 2, 1) := dop_5 (zb_X10_sum_3 15 rfl)
theorem dX10_sum_133 : decode cX10_sum 133 = .ok (.laload, 1) := dop_47 (zb_X10_sum_3 16 rfl)
theorem dX10_sum_134 : decode cX10_sum 134 = .ok (.invokestatic 35, 3) := dop_184 (zb_X10_sum_3 17 rfl) (zb_X10_sum_3 18 rfl) (zb_X10_sum_3 19 rfl) rfl
theorem dX10_sum_137 : decode cX10_sum 137 = .ok (.lstore 9, 2) := dop_55 (zb_X10_sum_3 20 rfl) (zb_X10_sum_3 21 rfl)
theorem dX10_sum_139 : decode cX10_sum 139 = .ok (.lload 7, 2) := dop_22 (zb_X10_sum_3 22 rfl) (zb_X10_sum_3 23 rfl)
theorem dX10_sum_141 : decode cX10_sum 141 = .ok (.lload 5, 2) := dop_22 (zb_X10_sum_3 24 rfl) (zb_X10_sum_3 25 rfl)
theorem dX10_sum_143 : decode cX10_sum 143 = .ok (.aload_n 0, 1) := dop_42 (zb_X10_sum_3 26 rfl)
theorem dX10_sum_144 : decode cX10_sum 144 = .ok (.getfield 15, 3) := dop_180 (zb_X10_sum_3 27 rfl) (zb_X10_sum_3 28 rfl) (zb_X10_sum_3 29 rfl) rfl
theorem dX10_sum_147 : decode cX10_sum 147 = .ok (.iconst 2, 1) := dop_5 (zb_X10_sum_3 30 rfl)
theorem dX10_sum_148 : decode cX10_sum 148 = .ok (.laload, 1) := dop_47 (zb_X10_sum_3 31 rfl)
theorem dX10_sum_149 : decode cX10_sum 149 = .ok (.lload 9, 2) := dop_22 (zb_X10_sum_3 32 rfl) (zb_X10_sum_3 33 rfl)
theorem dX10_sum_151 : decode cX10_sum 151 = .ok (.lsub, 1) := dop_101 (zb_X10_sum_3 34 rfl)
theorem dX10_sum_152 : decode cX10_sum 152 = .ok (.aload_n 0, 1) := dop_42 (zb_X10_sum_3 35 rfl)
theorem dX10_sum_153 : decode cX10_sum 153 = .ok (.getfield 15, 3) := dop_180 (zb_X10_sum_3 36 rfl) (zb_X10_sum_3 37 rfl) (zb_X10_sum_3 38 rfl) rfl
theorem dX10_sum_156 : decode cX10_sum 156 = .ok (.iconst 2, 1) := dop_5 (zb_X10_sum_3 39 rfl)
theorem ze_X10_sum_5 : (dcn cX10_sum).drop 196 = zt_X10_sum_5 := dw_n (wl := zw_X10_sum_4) ze_X10_sum_4 rfl
theorem zb_X10_sum_4 (j : Nat) {n : Nat} (e : zw_X10_sum_4[j]? = some n) : dby cX10_sum (157 + j) n := dw_b (t := zt_X10_sum_5) ze_X10_sum_4 j e
theorem dX10_sum_157 : decode cX10_sum 157 = .ok (.laload, 1) := dop_47 (zb_X10_sum_4 0 rfl)
theorem dX10_sum_158 : decode cX10_sum 158 = .ok (.invokestatic 38, 3) := dop_184 (zb_X10_sum_4 1 rfl) (zb_X10_sum_4 2 rfl) (zb_X10_sum_4 3 rfl) rfl
theorem dX10_sum_161 : decode cX10_sum 161 = .ok (.istore 11, 2) := dop_54 (zb_X10_sum_4 4 rfl) (zb_X10_sum_4 5 rfl)
theorem dX10_sum_163 : decode cX10_sum 163 = .ok (.iload 11, 2) := dop_21 (zb_X10_sum_4 6 rfl) (zb_X10_sum_4 7 rfl)
theorem dX10_sum_165 : decode cX10_sum 165 = .ok (.ifCond .eq 17, 3) := dop_153 (zb_X10_sum_4 8 rfl) (zb_X10_sum_4 9 rfl) (zb_X10_sum_4 10 rfl) rfl
theorem dX10_sum_168 : decode cX10_sum 168 = .ok (.lload 7, 2) := dop_22 (zb_X10_sum_4 11 rfl) (zb_X10_sum_4 12 rfl)
theorem dX10_sum_170 : decode cX10_sum 170 = .ok (.lconst 0, 1) := dop_9 (zb_X10_sum_4 13 rfl)
theorem dX10_sum_171 : decode cX10_sum 171 = .ok (.lcmp, 1) := dop_148 (zb_X10_sum_4 14 rfl)
theorem dX10_sum_172 : decode cX10_sum 172 = .ok (.ifCond .ne 14, 3) := dop_154 (zb_X10_sum_4 15 rfl) (zb_X10_sum_4 16 rfl) (zb_X10_sum_4 17 rfl) rfl
theorem dX10_sum_175 : decode cX10_sum 175 = .ok (.lload 9, 2) := dop_22 (zb_X10_sum_4 18 rfl) (zb_X10_sum_4 19 rfl)
theorem dX10_sum_177 : decode cX10_sum 177 = .ok (.lconst 0, 1) := dop_9 (zb_X10_sum_4 20 rfl)
theorem dX10_sum_178 : decode cX10_sum 178 = .ok (.lcmp, 1) := dop_148 (zb_X10_sum_4 21 rfl)
theorem dX10_sum_179 : decode cX10_sum 179 = .ok (.ifCond .ne 7, 3) := dop_154 (zb_X10_sum_4 22 rfl) (zb_X10_sum_4 23 rfl) (zb_X10_sum_4 24 rfl) rfl
theorem dX10_sum_182 : decode cX10_sum 182 = .ok (.iconst 1, 1) := dop_4 (zb_X10_sum_4 25 rfl)
theorem dX10_sum_183 : decode cX10_sum 183 = .ok (.goto 4, 3) := dop_167 (zb_X10_sum_4 26 rfl) (zb_X10_sum_4 27 rfl) (zb_X10_sum_4 28 rfl) rfl
theorem dX10_sum_186 : decode cX10_sum 186 = .ok (.iconst 0, 1) := dop_3 (zb_X10_sum_4 29 rfl)
theorem dX10_sum_187 : decode cX10_sum 187 = .ok (.istore 12, 2) := dop_54 (zb_X10_sum_4 30 rfl) (zb_X10_sum_4 31 rfl)
theorem dX10_sum_189 : decode cX10_sum 189 = .ok (.lload_n 1, 1) := dop_31 (zb_X10_sum_4 32 rfl)
theorem dX10_sum_190 : decode cX10_sum 190 = .ok (.iload 11, 2) := dop_21 (zb_X10_sum_4 33 rfl) (zb_X10_sum_4 34 rfl)
theorem dX10_sum_192 : decode cX10_sum 192 = .ok (.ifCond .lt 7, 3) := dop_155 (zb_X10_sum_4 35 rfl) (zb_X10_sum_4 36 rfl) (zb_X10_sum_4 37 rfl) rfl
theorem dX10_sum_195 : decode cX10_sum 195 = .ok (.lconst 1, 1) := dop_10 (zb_X10_sum_4 38 rfl)
theorem zb_X10_sum_5 (j : Nat) {n : Nat} (e : zw_X10_sum_5[j]? = some n) : dby cX10_sum (196 + j) n := dw_b (t := []) ze_X10_sum_5 j e
theorem dX10_sum_196 : decode cX10_sum 196 = .ok (.goto 4, 3) := dop_167 (zb_X10_sum_5 0 rfl) (zb_X10_sum_5 1 rfl) (zb_X10_sum_5 2 rfl) rfl
theorem dX10_sum_199 : decode cX10_sum 199 = .ok (.lconst 0, 1) := dop_9 (zb_X10_sum_5 3 rfl)
theorem dX10_sum_200 : decode cX10_sum 200 = .ok (.ladd, 1) := dop_97 (zb_X10_sum_5 4 rfl)
theorem dX10_sum_201 : decode cX10_sum 201 = .ok (.lstore_n 1, 1) := dop_64 (zb_X10_sum_5 5 rfl)
theorem dX10_sum_202 : decode cX10_sum 202 = .ok (.aload_n 0, 1) := dop_42 (zb_X10_sum_5 6 rfl)
theorem dX10_sum_203 : decode cX10_sum 203 = .ok (.getfield 22, 3) := dop_180 (zb_X10_sum_5 7 rfl) (zb_X10_sum_5 8 rfl) (zb_X10_sum_5 9 rfl) rfl
theorem dX10_sum_206 : decode cX10_sum 206 = .ok (.ifCond .eq 14, 3) := dop_153 (zb_X10_sum_5 10 rfl) (zb_X10_sum_5 11 rfl) (zb_X10_sum_5 12 rfl) rfl
theorem dX10_sum_209 : decode cX10_sum 209 = .ok (.iload 12, 2) := dop_21 (zb_X10_sum_5 13 rfl) (zb_X10_sum_5 14 rfl)
theorem dX10_sum_211 : decode cX10_sum 211 = .ok (.ifCond .eq 9, 3) := dop_153 (zb_X10_sum_5 15 rfl) (zb_X10_sum_5 16 rfl) (zb_X10_sum_5 17 rfl) rfl
theorem dX10_sum_214 : decode cX10_sum 214 = .ok (.lload_n 1, 1) := dop_31 (zb_X10_sum_5 18 rfl)
theorem dX10_sum_215 : decode cX10_sum 215 = .ok (.lconst 1, 1) := dop_10 (zb_X10_sum_5 19 rfl)
theorem dX10_sum_216 : decode cX10_sum 216 = .ok (.lsub, 1) := dop_101 (zb_X10_sum_5 20 rfl)
theorem dX10_sum_217 : decode cX10_sum 217 = .ok (.goto 4, 3) := dop_167 (zb_X10_sum_5 21 rfl) (zb_X10_sum_5 22 rfl) (zb_X10_sum_5 23 rfl) rfl
theorem dX10_sum_220 : decode cX10_sum 220 = .ok (.lload_n 1, 1) := dop_31 (zb_X10_sum_5 24 rfl)
theorem dX10_sum_221 : decode cX10_sum 221 = .ok (.lreturn, 1) := dop_173 (zb_X10_sum_5 25 rfl)
def zw_X10_product_1 : List Nat := [33, 184, 0, 31, 55, 5, 42, 180, 0, 22, 153, 0, 19, 22, 5, 33, 105, 31, 148, 154, 0, 10, 22, 5, 10, 101, 167, 0, 5, 22, 5, 173]
def zt_X10_product_1 : List Nat := zw_X10_product_1 ++ []
def zw_X10_product_0 : List Nat := [42, 180, 0, 26, 153, 0, 7, 20, 0, 29, 173, 42, 180, 0, 9, 3, 47, 42, 180, 0, 9, 4, 47, 105, 64, 42, 180, 0, 15, 3, 47, 42, 180, 0, 15, 4, 47, 105, 66, 31]
def zt_X10_product_0 : List Nat := zw_X10_product_0 ++ zt_X10_product_1
theorem ze_X10_product_0 : (dcn cX10_product).drop 0 = zt_X10_product_0 := by decide +kernel
theorem ze_X10_product_1 : (dcn cX10_product).drop 40 = zt_X10_product_1 := dw_n (wl := zw_X10_product_0) ze_X10_product_0 rfl
theorem zb_X10_product_0 (j : Nat) {n : Nat} (e : zw_X10_product_0[j]? = some n) : dby cX10_product (0 + j) n := dw_b (t := zt_X10_product_1) ze_X10_product_0 j e
theorem dX10_product_0 : decode cX10_product 0 = .ok (.aload_n 0, 1) := dop_42 (zb_X10_product_0 0 rfl)
theorem dX10_product_1 : decode cX10_product 1 = .ok (.getfield 26, 3) := dop_180 (zb_X10_product_0 1 rfl) (zb_X10_product_0 2 rfl) (zb_X10_product_0 3 rfl) rfl
theorem dX10_product_4 : decode cX10_product 4 = .ok (.ifCond .eq 7, 3) := dop_153 (zb_X10_product_0 4 rfl) (zb_X10_product_0 5 rfl) (zb_X10_product_0 6 rfl) rfl
theorem dX10_product_7 : decode cX10_product 7 = .ok (.ldc2_w 29, 3) := dop_20 (zb_X10_product_0 7 rfl) (zb_X10_product_0 8 rfl) (zb_X10_product_0 9 rfl) rfl
theorem dX10_product_10 : decode cX10_product 10 = .ok (.lreturn, 1) := dop_173 (zb_X10_product_0 10 rfl)
theorem dX10_product_11 : decode cX10_product 11 = .ok (.aload_n 0, 1) := dop_42 (zb_X10_product_0 11 rfl)
theorem dX10_product_12 : decode cX10_product 12 = .ok (.getfield 9, 3) := dop_180 (zb_X10_product_0 12 rfl) (zb_X10_product_0 13 rfl) (zb_X10_product_0 14 rfl) rfl
theorem dX10_product_15 : decode cX10_product 15 = .ok (.iconst 0, 1) := dop_3 (zb_X10_product_0 15 rfl)
theorem dX10_product_16 : decode cX10_product 16 = .ok (.laload, 1) := dop_47 (zb_X10_product_0 16 rfl)
theorem dX10_product_17 : decode cX10_product 17 = .ok (.aload_n 0, 1) := dop_42 (zb_X10_product_0 17 rfl)
theorem dX10_product_18 : decode cX10_product 18 = .ok (.getfield 9, 3) := dop_180 (zb_X10_product_0 18 rfl) (zb_X10_product_0 19 rfl) (zb_X10_product_0 20 rfl) rfl
theorem dX10_product_21 : decode cX10_product 21 = .ok (.iconst 1, 1) := dop_4 (zb_X10_product_0 21 rfl)
theorem dX10_product_22 : decode cX10_product 22 = .ok (.laload, 1) := dop_47 (zb_X10_product_0 22 rfl)
theorem dX10_product_23 : decode cX10_product 23 = .ok (.lmul, 1) := dop_105 (zb_X10_product_0 23 rfl)
theorem dX10_product_24 : decode cX10_product 24 = .ok (.lstore_n 1, 1) := dop_64 (zb_X10_product_0 24 rfl)
theorem dX10_product_25 : decode cX10_product 25 = .ok (.aload_n 0, 1) := dop_42 (zb_X10_product_0 25 rfl)
theorem dX10_product_26 : decode cX10_product 26 = .ok (.getfield 15, 3) := dop_180 (zb_X10_product_0 26 rfl) (zb_X10_product_0 27 rfl) (zb_X10_product_0 28 rfl) rfl
theorem dX10_product_29 : decode cX10_product 29 = .ok (.iconst 0, 1) := dop_3 (zb_X10_product_0 29 rfl)
theorem dX10_product_30 : decode cX10_product 30 = .ok (.laload, 1) := dop_47 (zb_X10_product_0 30 rfl)
theorem dX10_product_31 : decode cX10_product 31 = .ok (.aload_n 0, 1) := dop_42 (zb_X10_product_0 31 rfl)
theorem dX10_product_32 : decode cX10_product 32 = .ok (.getfield 15, 3) := dop_180 (zb_X10_product_0 32 rfl) (zb_X10_product_0 33 rfl) (zb_X10_product_0 34 rfl) rfl
theorem dX10_product_35 : decode cX10_product 35 = .ok (.iconst 1, 1) := dop_4 (zb_X10_product_0 35 rfl)
theorem dX10_product_36 : decode cX10_product 36 = .ok (.laload, 1) := dop_47 (zb_X10_product_0 36 rfl)
theorem dX10_product_37 : decode cX10_product 37 = .ok (.lmul, 1) := dop_105 (zb_X10_product_0 37 rfl)
theorem dX10_product_38 : decode cX10_product 38 = .ok (.lstore_n 3, 1) := dop_66 (zb_X10_product_0 38 rfl)
theorem dX10_product_39 : decode cX10_product 39 = .ok (.lload_n 1, 1) := dop_31 (zb_X10_product_0 39 rfl)
theorem zb_X10_product_1 (j : Nat) {n : Nat} (e : zw_X10_product_1[j]? = some n) : dby cX10_product (40 + j) n := dw_b (t := []) ze_X10_product_1 j e
theorem dX10_product_40 : decode cX10_product 40 = .ok (.lload_n 3, 1) := dop_33 (zb_X10_product_1 0 rfl)
theorem dX10_product_41 : decode cX10_product 41 = .ok (.invokestatic 31, 3) := dop_184 (zb_X10_product_1 1 rfl) (zb_X10_product_1 2 rfl) (zb_X10_product_1 3 rfl) rfl
theorem dX10_product_44 : decode cX10_product 44 = .ok (.lstore 5, 2) := dop_55 (zb_X10_product_1 4 rfl) (zb_X10_product_1 5 rfl)
theorem dX10_product_46 : decode cX10_product 46 = .ok (.aload_n 0, 1) := dop_42 (zb_X10_product_1 6 rfl)
theorem dX10_product_47 : decode cX10_product 47 = .ok (.getfield 22, 3) := dop_180 (zb_X10_product_1 7 rfl) (zb_X10_product_1 8 rfl) (zb_X10_product_1 9 rfl) rfl
theorem dX10_product_50 : decode cX10_product 50 = .ok (.ifCond .eq 19, 3) := dop_153 (zb_X10_product_1 10 rfl) (zb_X10_product_1 11 rfl) (zb_X10_product_1 12 rfl) rfl
theorem dX10_product_53 : decode cX10_product 53 = .ok (.lload 5, 2) := dop_22 (zb_X10_product_1 13 rfl) (zb_X10_product_1 14 rfl)
theorem dX10_product_55 : decode cX10_product 55 = .ok (.lload_n 3, 1) := dop_33 (zb_X10_product_1 15 rfl)
theorem dX10_product_56 : decode cX10_product 56 = .ok (.lmul, 1) := dop_105 (zb_X10_product_1 16 rfl)
theorem dX10_product_57 : decode cX10_product 57 = .ok (.lload_n 1, 1) := dop_31 (zb_X10_product_1 17 rfl)
theorem dX10_product_58 : decode cX10_product 58 = .ok (.lcmp, 1) := dop_148 (zb_X10_product_1 18 rfl)
theorem dX10_product_59 : decode cX10_product 59 = .ok (.ifCond .ne 10, 3) := dop_154 (zb_X10_product_1 19 rfl) (zb_X10_product_1 20 rfl) (zb_X10_product_1 21 rfl) rfl
theorem dX10_product_62 : decode cX10_product 62 = .ok (.lload 5, 2) := dop_22 (zb_X10_product_1 22 rfl) (zb_X10_product_1 23 rfl)
theorem dX10_product_64 : decode cX10_product 64 = .ok (.lconst 1, 1) := dop_10 (zb_X10_product_1 24 rfl)
theorem dX10_product_65 : decode cX10_product 65 = .ok (.lsub, 1) := dop_101 (zb_X10_product_1 25 rfl)
theorem dX10_product_66 : decode cX10_product 66 = .ok (.goto 5, 3) := dop_167 (zb_X10_product_1 26 rfl) (zb_X10_product_1 27 rfl) (zb_X10_product_1 28 rfl) rfl
theorem dX10_product_69 : decode cX10_product 69 = .ok (.lload 5, 2) := dop_22 (zb_X10_product_1 29 rfl) (zb_X10_product_1 30 rfl)
theorem dX10_product_71 : decode cX10_product 71 = .ok (.lreturn, 1) := dop_173 (zb_X10_product_1 31 rfl)
