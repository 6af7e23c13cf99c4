/-! A quick reading of a method's bytes, that it is the machine's own, and that the tables of instructions are right. -/
theorem ru1 {code : ByteArray} {p : Nat} {b : UInt8} {t : List UInt8} (h : code.data.toList.drop p = b :: t) : (Reader.u1 : Decoder Nat) code p = .ok (b.toNat, p + 1) ∧ code.data.toList.drop (p + 1) = t := by
  have hlt : p < code.data.toList.length := by
    rcases Nat.lt_or_ge p code.data.toList.length with q | q
    · exact q
    · rw [List.drop_eq_nil_of_le q] at h; cases h
  rw [List.drop_eq_getElem_cons hlt] at h
  injection h with h1 h2
  refine ⟨?_, h2⟩
  have hs : p < code.size := hlt
  have e : code[p] = b := h1
  rw [← e]
  show ((if h : p < code.size then (do set (p + 1); pure code[p].toNat) else throw (HasTruncated.truncated p)) : Decoder Nat) code p = _
  rw [dif_pos hs]
  rfl
theorem rbind {α β : Type} {r : Decoder α} {f : α → Decoder β} {code : ByteArray} {p q : Nat} {a : α} (h : r code p = .ok (a, q)) : (r >>= f) code p = f a code q := by
  show Except.bind (r code p) (fun x => f x.1 code x.2) = _
  rw [h]
  rfl
theorem rs1 {code : ByteArray} {p : Nat} {b : UInt8} {t : List UInt8} (h : code.data.toList.drop p = b :: t) : (Reader.s1 : Decoder Int) code p = .ok (Reader.signed 8 b.toNat, p + 1) := by
  show Except.bind ((Reader.u1 : Decoder Nat) code p) (fun x => .ok (Reader.signed 8 x.1, x.2)) = _
  rw [(ru1 h).1]
  rfl
theorem ru2 {code : ByteArray} {p : Nat} {a b : UInt8} {t : List UInt8} (h : code.data.toList.drop p = a :: b :: t) : (Reader.u2 : Decoder Nat) code p = .ok (a.toNat * 256 + b.toNat, p + 2) := by
  unfold Reader.u2
  rw [rbind (ru1 h).1, rbind (ru1 (ru1 h).2).1]
  rfl
theorem rs2 {code : ByteArray} {p : Nat} {a b : UInt8} {t : List UInt8} (h : code.data.toList.drop p = a :: b :: t) : (Reader.s2 : Decoder Int) code p = .ok (Reader.signed 16 (a.toNat * 256 + b.toNat), p + 2) := by
  show Except.bind ((Reader.u2 : Decoder Nat) code p) (fun x => .ok (Reader.signed 16 x.1, x.2)) = _
  rw [ru2 h]
  rfl
theorem dec_of {code : ByteArray} {pc n : Nat} {i : Instr} (h : Decoder.instr pc code pc = .ok (i, pc + n)) : decode code pc = .ok (i, n) := by
  show Except.bind (Decoder.instr pc code pc) (fun x => .ok (x.1, x.2 - pc)) = _
  rw [h]
  show Except.ok (i, pc + n - pc) = _
  rw [Nat.add_sub_cancel_left]
section DEC
variable {code : ByteArray} {pc : Nat} {c : UInt8} {t : List UInt8}
set_option maxRecDepth 20000 in
theorem dc_1 (h : code.data.toList.drop pc = c :: t) (hb : c.toNat = 1) : decode code pc = .ok (.aconst_null, 1) := dec_of (by
  unfold Decoder.instr
  rw [rbind (ru1 h).1, hb]
  rfl)
set_option maxRecDepth 20000 in
theorem dc_9 (h : code.data.toList.drop pc = c :: t) (hb : c.toNat = 9) : decode code pc = .ok ((.lconst 0), 1) := dec_of (by
  unfold Decoder.instr
  rw [rbind (ru1 h).1, hb]
  rfl)
set_option maxRecDepth 20000 in
theorem dc_10 (h : code.data.toList.drop pc = c :: t) (hb : c.toNat = 10) : decode code pc = .ok ((.lconst 1), 1) := dec_of (by
  unfold Decoder.instr
  rw [rbind (ru1 h).1, hb]
  rfl)
set_option maxRecDepth 20000 in
theorem dc_46 (h : code.data.toList.drop pc = c :: t) (hb : c.toNat = 46) : decode code pc = .ok (.iaload, 1) := dec_of (by
  unfold Decoder.instr
  rw [rbind (ru1 h).1, hb]
  rfl)
set_option maxRecDepth 20000 in
theorem dc_47 (h : code.data.toList.drop pc = c :: t) (hb : c.toNat = 47) : decode code pc = .ok (.laload, 1) := dec_of (by
  unfold Decoder.instr
  rw [rbind (ru1 h).1, hb]
  rfl)
set_option maxRecDepth 20000 in
theorem dc_50 (h : code.data.toList.drop pc = c :: t) (hb : c.toNat = 50) : decode code pc = .ok (.aaload, 1) := dec_of (by
  unfold Decoder.instr
  rw [rbind (ru1 h).1, hb]
  rfl)
set_option maxRecDepth 20000 in
theorem dc_51 (h : code.data.toList.drop pc = c :: t) (hb : c.toNat = 51) : decode code pc = .ok (.baload, 1) := dec_of (by
  unfold Decoder.instr
  rw [rbind (ru1 h).1, hb]
  rfl)
set_option maxRecDepth 20000 in
theorem dc_79 (h : code.data.toList.drop pc = c :: t) (hb : c.toNat = 79) : decode code pc = .ok (.iastore, 1) := dec_of (by
  unfold Decoder.instr
  rw [rbind (ru1 h).1, hb]
  rfl)
set_option maxRecDepth 20000 in
theorem dc_80 (h : code.data.toList.drop pc = c :: t) (hb : c.toNat = 80) : decode code pc = .ok (.lastore, 1) := dec_of (by
  unfold Decoder.instr
  rw [rbind (ru1 h).1, hb]
  rfl)
set_option maxRecDepth 20000 in
theorem dc_83 (h : code.data.toList.drop pc = c :: t) (hb : c.toNat = 83) : decode code pc = .ok (.aastore, 1) := dec_of (by
  unfold Decoder.instr
  rw [rbind (ru1 h).1, hb]
  rfl)
set_option maxRecDepth 20000 in
theorem dc_84 (h : code.data.toList.drop pc = c :: t) (hb : c.toNat = 84) : decode code pc = .ok (.bastore, 1) := dec_of (by
  unfold Decoder.instr
  rw [rbind (ru1 h).1, hb]
  rfl)
set_option maxRecDepth 20000 in
theorem dc_87 (h : code.data.toList.drop pc = c :: t) (hb : c.toNat = 87) : decode code pc = .ok (.pop, 1) := dec_of (by
  unfold Decoder.instr
  rw [rbind (ru1 h).1, hb]
  rfl)
set_option maxRecDepth 20000 in
theorem dc_88 (h : code.data.toList.drop pc = c :: t) (hb : c.toNat = 88) : decode code pc = .ok (.pop2, 1) := dec_of (by
  unfold Decoder.instr
  rw [rbind (ru1 h).1, hb]
  rfl)
set_option maxRecDepth 20000 in
theorem dc_89 (h : code.data.toList.drop pc = c :: t) (hb : c.toNat = 89) : decode code pc = .ok (.dup, 1) := dec_of (by
  unfold Decoder.instr
  rw [rbind (ru1 h).1, hb]
  rfl)
set_option maxRecDepth 20000 in
theorem dc_92 (h : code.data.toList.drop pc = c :: t) (hb : c.toNat = 92) : decode code pc = .ok (.dup2, 1) := dec_of (by
  unfold Decoder.instr
  rw [rbind (ru1 h).1, hb]
  rfl)
set_option maxRecDepth 20000 in
theorem dc_96 (h : code.data.toList.drop pc = c :: t) (hb : c.toNat = 96) : decode code pc = .ok (.iadd, 1) := dec_of (by
  unfold Decoder.instr
  rw [rbind (ru1 h).1, hb]
  rfl)
set_option maxRecDepth 20000 in
theorem dc_97 (h : code.data.toList.drop pc = c :: t) (hb : c.toNat = 97) : decode code pc = .ok (.ladd, 1) := dec_of (by
  unfold Decoder.instr
  rw [rbind (ru1 h).1, hb]
  rfl)
set_option maxRecDepth 20000 in
theorem dc_100 (h : code.data.toList.drop pc = c :: t) (hb : c.toNat = 100) : decode code pc = .ok (.isub, 1) := dec_of (by
  unfold Decoder.instr
  rw [rbind (ru1 h).1, hb]
  rfl)
set_option maxRecDepth 20000 in
theorem dc_101 (h : code.data.toList.drop pc = c :: t) (hb : c.toNat = 101) : decode code pc = .ok (.lsub, 1) := dec_of (by
  unfold Decoder.instr
  rw [rbind (ru1 h).1, hb]
  rfl)
set_option maxRecDepth 20000 in
theorem dc_104 (h : code.data.toList.drop pc = c :: t) (hb : c.toNat = 104) : decode code pc = .ok (.imul, 1) := dec_of (by
  unfold Decoder.instr
  rw [rbind (ru1 h).1, hb]
  rfl)
set_option maxRecDepth 20000 in
theorem dc_105 (h : code.data.toList.drop pc = c :: t) (hb : c.toNat = 105) : decode code pc = .ok (.lmul, 1) := dec_of (by
  unfold Decoder.instr
  rw [rbind (ru1 h).1, hb]
  rfl)
set_option maxRecDepth 20000 in
theorem dc_108 (h : code.data.toList.drop pc = c :: t) (hb : c.toNat = 108) : decode code pc = .ok (.idiv, 1) := dec_of (by
  unfold Decoder.instr
  rw [rbind (ru1 h).1, hb]
  rfl)
set_option maxRecDepth 20000 in
theorem dc_109 (h : code.data.toList.drop pc = c :: t) (hb : c.toNat = 109) : decode code pc = .ok (.ldiv, 1) := dec_of (by
  unfold Decoder.instr
  rw [rbind (ru1 h).1, hb]
  rfl)
set_option maxRecDepth 20000 in
theorem dc_112 (h : code.data.toList.drop pc = c :: t) (hb : c.toNat = 112) : decode code pc = .ok (.irem, 1) := dec_of (by
  unfold Decoder.instr
  rw [rbind (ru1 h).1, hb]
  rfl)
set_option maxRecDepth 20000 in
theorem dc_113 (h : code.data.toList.drop pc = c :: t) (hb : c.toNat = 113) : decode code pc = .ok (.lrem, 1) := dec_of (by
  unfold Decoder.instr
  rw [rbind (ru1 h).1, hb]
  rfl)
set_option maxRecDepth 20000 in
theorem dc_116 (h : code.data.toList.drop pc = c :: t) (hb : c.toNat = 116) : decode code pc = .ok (.ineg, 1) := dec_of (by
  unfold Decoder.instr
  rw [rbind (ru1 h).1, hb]
  rfl)
set_option maxRecDepth 20000 in
theorem dc_120 (h : code.data.toList.drop pc = c :: t) (hb : c.toNat = 120) : decode code pc = .ok (.ishl, 1) := dec_of (by
  unfold Decoder.instr
  rw [rbind (ru1 h).1, hb]
  rfl)
set_option maxRecDepth 20000 in
theorem dc_121 (h : code.data.toList.drop pc = c :: t) (hb : c.toNat = 121) : decode code pc = .ok (.lshl, 1) := dec_of (by
  unfold Decoder.instr
  rw [rbind (ru1 h).1, hb]
  rfl)
set_option maxRecDepth 20000 in
theorem dc_122 (h : code.data.toList.drop pc = c :: t) (hb : c.toNat = 122) : decode code pc = .ok (.ishr, 1) := dec_of (by
  unfold Decoder.instr
  rw [rbind (ru1 h).1, hb]
  rfl)
set_option maxRecDepth 20000 in
theorem dc_123 (h : code.data.toList.drop pc = c :: t) (hb : c.toNat = 123) : decode code pc = .ok (.lshr, 1) := dec_of (by
  unfold Decoder.instr
  rw [rbind (ru1 h).1, hb]
  rfl)
set_option maxRecDepth 20000 in
theorem dc_126 (h : code.data.toList.drop pc = c :: t) (hb : c.toNat = 126) : decode code pc = .ok (.iand, 1) := dec_of (by
  unfold Decoder.instr
  rw [rbind (ru1 h).1, hb]
  rfl)
set_option maxRecDepth 20000 in
theorem dc_127 (h : code.data.toList.drop pc = c :: t) (hb : c.toNat = 127) : decode code pc = .ok (.land, 1) := dec_of (by
  unfold Decoder.instr
  rw [rbind (ru1 h).1, hb]
  rfl)
set_option maxRecDepth 20000 in
theorem dc_128 (h : code.data.toList.drop pc = c :: t) (hb : c.toNat = 128) : decode code pc = .ok (.ior, 1) := dec_of (by
  unfold Decoder.instr
  rw [rbind (ru1 h).1, hb]
  rfl)
set_option maxRecDepth 20000 in
theorem dc_129 (h : code.data.toList.drop pc = c :: t) (hb : c.toNat = 129) : decode code pc = .ok (.lor, 1) := dec_of (by
  unfold Decoder.instr
  rw [rbind (ru1 h).1, hb]
  rfl)
set_option maxRecDepth 20000 in
theorem dc_130 (h : code.data.toList.drop pc = c :: t) (hb : c.toNat = 130) : decode code pc = .ok (.ixor, 1) := dec_of (by
  unfold Decoder.instr
  rw [rbind (ru1 h).1, hb]
  rfl)
set_option maxRecDepth 20000 in
theorem dc_131 (h : code.data.toList.drop pc = c :: t) (hb : c.toNat = 131) : decode code pc = .ok (.lxor, 1) := dec_of (by
  unfold Decoder.instr
  rw [rbind (ru1 h).1, hb]
  rfl)
set_option maxRecDepth 20000 in
theorem dc_133 (h : code.data.toList.drop pc = c :: t) (hb : c.toNat = 133) : decode code pc = .ok (.i2l, 1) := dec_of (by
  unfold Decoder.instr
  rw [rbind (ru1 h).1, hb]
  rfl)
set_option maxRecDepth 20000 in
theorem dc_136 (h : code.data.toList.drop pc = c :: t) (hb : c.toNat = 136) : decode code pc = .ok (.l2i, 1) := dec_of (by
  unfold Decoder.instr
  rw [rbind (ru1 h).1, hb]
  rfl)
set_option maxRecDepth 20000 in
theorem dc_145 (h : code.data.toList.drop pc = c :: t) (hb : c.toNat = 145) : decode code pc = .ok (.i2b, 1) := dec_of (by
  unfold Decoder.instr
  rw [rbind (ru1 h).1, hb]
  rfl)
set_option maxRecDepth 20000 in
theorem dc_146 (h : code.data.toList.drop pc = c :: t) (hb : c.toNat = 146) : decode code pc = .ok (.i2c, 1) := dec_of (by
  unfold Decoder.instr
  rw [rbind (ru1 h).1, hb]
  rfl)
set_option maxRecDepth 20000 in
theorem dc_148 (h : code.data.toList.drop pc = c :: t) (hb : c.toNat = 148) : decode code pc = .ok (.lcmp, 1) := dec_of (by
  unfold Decoder.instr
  rw [rbind (ru1 h).1, hb]
  rfl)
set_option maxRecDepth 20000 in
theorem dc_172 (h : code.data.toList.drop pc = c :: t) (hb : c.toNat = 172) : decode code pc = .ok (.ireturn, 1) := dec_of (by
  unfold Decoder.instr
  rw [rbind (ru1 h).1, hb]
  rfl)
set_option maxRecDepth 20000 in
theorem dc_173 (h : code.data.toList.drop pc = c :: t) (hb : c.toNat = 173) : decode code pc = .ok (.lreturn, 1) := dec_of (by
  unfold Decoder.instr
  rw [rbind (ru1 h).1, hb]
  rfl)
set_option maxRecDepth 20000 in
theorem dc_176 (h : code.data.toList.drop pc = c :: t) (hb : c.toNat = 176) : decode code pc = .ok (.areturn, 1) := dec_of (by
  unfold Decoder.instr
  rw [rbind (ru1 h).1, hb]
  rfl)
set_option maxRecDepth 20000 in
theorem dc_177 (h : code.data.toList.drop pc = c :: t) (hb : c.toNat = 177) : decode code pc = .ok (.return_, 1) := dec_of (by
  unfold Decoder.instr
  rw [rbind (ru1 h).1, hb]
  rfl)
set_option maxRecDepth 20000 in
theorem dc_190 (h : code.data.toList.drop pc = c :: t) (hb : c.toNat = 190) : decode code pc = .ok (.arraylength, 1) := dec_of (by
  unfold Decoder.instr
  rw [rbind (ru1 h).1, hb]
  rfl)
set_option maxRecDepth 20000 in
theorem dc_2 (h : code.data.toList.drop pc = c :: t) (hb : c.toNat = 2) : decode code pc = .ok ((.iconst (-1)), 1) := dec_of (by
  unfold Decoder.instr
  rw [rbind (ru1 h).1, hb]
  rfl)
set_option maxRecDepth 20000 in
theorem dc_3 (h : code.data.toList.drop pc = c :: t) (hb : c.toNat = 3) : decode code pc = .ok ((.iconst (0)), 1) := dec_of (by
  unfold Decoder.instr
  rw [rbind (ru1 h).1, hb]
  rfl)
set_option maxRecDepth 20000 in
theorem dc_4 (h : code.data.toList.drop pc = c :: t) (hb : c.toNat = 4) : decode code pc = .ok ((.iconst (1)), 1) := dec_of (by
  unfold Decoder.instr
  rw [rbind (ru1 h).1, hb]
  rfl)
set_option maxRecDepth 20000 in
theorem dc_5 (h : code.data.toList.drop pc = c :: t) (hb : c.toNat = 5) : decode code pc = .ok ((.iconst (2)), 1) := dec_of (by
  unfold Decoder.instr
  rw [rbind (ru1 h).1, hb]
  rfl)
set_option maxRecDepth 20000 in
theorem dc_6 (h : code.data.toList.drop pc = c :: t) (hb : c.toNat = 6) : decode code pc = .ok ((.iconst (3)), 1) := dec_of (by
  unfold Decoder.instr
  rw [rbind (ru1 h).1, hb]
  rfl)
set_option maxRecDepth 20000 in
theorem dc_7 (h : code.data.toList.drop pc = c :: t) (hb : c.toNat = 7) : decode code pc = .ok ((.iconst (4)), 1) := dec_of (by
  unfold Decoder.instr
  rw [rbind (ru1 h).1, hb]
  rfl)
set_option maxRecDepth 20000 in
theorem dc_8 (h : code.data.toList.drop pc = c :: t) (hb : c.toNat = 8) : decode code pc = .ok ((.iconst (5)), 1) := dec_of (by
  unfold Decoder.instr
  rw [rbind (ru1 h).1, hb]
  rfl)
set_option maxRecDepth 20000 in
theorem dc_26 (h : code.data.toList.drop pc = c :: t) (hb : c.toNat = 26) : decode code pc = .ok ((.iload_n 0), 1) := dec_of (by
  unfold Decoder.instr
  rw [rbind (ru1 h).1, hb]
  rfl)
set_option maxRecDepth 20000 in
theorem dc_27 (h : code.data.toList.drop pc = c :: t) (hb : c.toNat = 27) : decode code pc = .ok ((.iload_n 1), 1) := dec_of (by
  unfold Decoder.instr
  rw [rbind (ru1 h).1, hb]
  rfl)
set_option maxRecDepth 20000 in
theorem dc_28 (h : code.data.toList.drop pc = c :: t) (hb : c.toNat = 28) : decode code pc = .ok ((.iload_n 2), 1) := dec_of (by
  unfold Decoder.instr
  rw [rbind (ru1 h).1, hb]
  rfl)
set_option maxRecDepth 20000 in
theorem dc_29 (h : code.data.toList.drop pc = c :: t) (hb : c.toNat = 29) : decode code pc = .ok ((.iload_n 3), 1) := dec_of (by
  unfold Decoder.instr
  rw [rbind (ru1 h).1, hb]
  rfl)
set_option maxRecDepth 20000 in
theorem dc_30 (h : code.data.toList.drop pc = c :: t) (hb : c.toNat = 30) : decode code pc = .ok ((.lload_n 0), 1) := dec_of (by
  unfold Decoder.instr
  rw [rbind (ru1 h).1, hb]
  rfl)
set_option maxRecDepth 20000 in
theorem dc_31 (h : code.data.toList.drop pc = c :: t) (hb : c.toNat = 31) : decode code pc = .ok ((.lload_n 1), 1) := dec_of (by
  unfold Decoder.instr
  rw [rbind (ru1 h).1, hb]
  rfl)
set_option maxRecDepth 20000 in
theorem dc_32 (h : code.data.toList.drop pc = c :: t) (hb : c.toNat = 32) : decode code pc = .ok ((.lload_n 2), 1) := dec_of (by
  unfold Decoder.instr
  rw [rbind (ru1 h).1, hb]
  rfl)
set_option maxRecDepth 20000 in
theorem dc_33 (h : code.data.toList.drop pc = c :: t) (hb : c.toNat = 33) : decode code pc = .ok ((.lload_n 3), 1) := dec_of (by
  unfold Decoder.instr
  rw [rbind (ru1 h).1, hb]
  rfl)
set_option maxRecDepth 20000 in
theorem dc_42 (h : code.data.toList.drop pc = c :: t) (hb : c.toNat = 42) : decode code pc = .ok ((.aload_n 0), 1) := dec_of (by
  unfold Decoder.instr
  rw [rbind (ru1 h).1, hb]
  rfl)
set_option maxRecDepth 20000 in
theorem dc_43 (h : code.data.toList.drop pc = c :: t) (hb : c.toNat = 43) : decode code pc = .ok ((.aload_n 1), 1) := dec_of (by
  unfold Decoder.instr
  rw [rbind (ru1 h).1, hb]
  rfl)
set_option maxRecDepth 20000 in
theorem dc_44 (h : code.data.toList.drop pc = c :: t) (hb : c.toNat = 44) : decode code pc = .ok ((.aload_n 2), 1) := dec_of (by
  unfold Decoder.instr
  rw [rbind (ru1 h).1, hb]
  rfl)
set_option maxRecDepth 20000 in
theorem dc_45 (h : code.data.toList.drop pc = c :: t) (hb : c.toNat = 45) : decode code pc = .ok ((.aload_n 3), 1) := dec_of (by
  unfold Decoder.instr
  rw [rbind (ru1 h).1, hb]
  rfl)
set_option maxRecDepth 20000 in
theorem dc_59 (h : code.data.toList.drop pc = c :: t) (hb : c.toNat = 59) : decode code pc = .ok ((.istore_n 0), 1) := dec_of (by
  unfold Decoder.instr
  rw [rbind (ru1 h).1, hb]
  rfl)
set_option maxRecDepth 20000 in
theorem dc_60 (h : code.data.toList.drop pc = c :: t) (hb : c.toNat = 60) : decode code pc = .ok ((.istore_n 1), 1) := dec_of (by
  unfold Decoder.instr
  rw [rbind (ru1 h).1, hb]
  rfl)
set_option maxRecDepth 20000 in
theorem dc_61 (h : code.data.toList.drop pc = c :: t) (hb : c.toNat = 61) : decode code pc = .ok ((.istore_n 2), 1) := dec_of (by
  unfold Decoder.instr
  rw [rbind (ru1 h).1, hb]
  rfl)
set_option maxRecDepth 20000 in
theorem dc_62 (h : code.data.toList.drop pc = c :: t) (hb : c.toNat = 62) : decode code pc = .ok ((.istore_n 3), 1) := dec_of (by
  unfold Decoder.instr
  rw [rbind (ru1 h).1, hb]
  rfl)
set_option maxRecDepth 20000 in
theorem dc_63 (h : code.data.toList.drop pc = c :: t) (hb : c.toNat = 63) : decode code pc = .ok ((.lstore_n 0), 1) := dec_of (by
  unfold Decoder.instr
  rw [rbind (ru1 h).1, hb]
  rfl)
set_option maxRecDepth 20000 in
theorem dc_64 (h : code.data.toList.drop pc = c :: t) (hb : c.toNat = 64) : decode code pc = .ok ((.lstore_n 1), 1) := dec_of (by
  unfold Decoder.instr
  rw [rbind (ru1 h).1, hb]
  rfl)
set_option maxRecDepth 20000 in
theorem dc_65 (h : code.data.toList.drop pc = c :: t) (hb : c.toNat = 65) : decode code pc = .ok ((.lstore_n 2), 1) := dec_of (by
  unfold Decoder.instr
  rw [rbind (ru1 h).1, hb]
  rfl)
set_option maxRecDepth 20000 in
theorem dc_66 (h : code.data.toList.drop pc = c :: t) (hb : c.toNat = 66) : decode code pc = .ok ((.lstore_n 3), 1) := dec_of (by
  unfold Decoder.instr
  rw [rbind (ru1 h).1, hb]
  rfl)
set_option maxRecDepth 20000 in
theorem dc_75 (h : code.data.toList.drop pc = c :: t) (hb : c.toNat = 75) : decode code pc = .ok ((.astore_n 0), 1) := dec_of (by
  unfold Decoder.instr
  rw [rbind (ru1 h).1, hb]
  rfl)
set_option maxRecDepth 20000 in
theorem dc_76 (h : code.data.toList.drop pc = c :: t) (hb : c.toNat = 76) : decode code pc = .ok ((.astore_n 1), 1) := dec_of (by
  unfold Decoder.instr
  rw [rbind (ru1 h).1, hb]
  rfl)
set_option maxRecDepth 20000 in
theorem dc_77 (h : code.data.toList.drop pc = c :: t) (hb : c.toNat = 77) : decode code pc = .ok ((.astore_n 2), 1) := dec_of (by
  unfold Decoder.instr
  rw [rbind (ru1 h).1, hb]
  rfl)
set_option maxRecDepth 20000 in
theorem dc_78 (h : code.data.toList.drop pc = c :: t) (hb : c.toNat = 78) : decode code pc = .ok ((.astore_n 3), 1) := dec_of (by
  unfold Decoder.instr
  rw [rbind (ru1 h).1, hb]
  rfl)
set_option maxRecDepth 20000 in
theorem dc_16 {a : UInt8} {r : List UInt8} (h : code.data.toList.drop pc = c :: a :: r) (hb : c.toNat = 16) : decode code pc = .ok (.bipush (Reader.signed 8 a.toNat), 2) := dec_of (by
  unfold Decoder.instr
  rw [rbind (ru1 h).1, hb]
  show ((Reader.s1 : Decoder Int) >>= fun x => (pure (.bipush x) : Decoder Instr)) code (pc + 1) = _
  rw [rbind (rs1 (ru1 h).2)]
  rfl)
set_option maxRecDepth 20000 in
theorem dc_18 {a : UInt8} {r : List UInt8} (h : code.data.toList.drop pc = c :: a :: r) (hb : c.toNat = 18) : decode code pc = .ok (.ldc a.toNat, 2) := dec_of (by
  unfold Decoder.instr
  rw [rbind (ru1 h).1, hb]
  show ((Reader.u1 : Decoder Nat) >>= fun x => (pure (.ldc x) : Decoder Instr)) code (pc + 1) = _
  rw [rbind (ru1 (ru1 h).2).1]
  rfl)
set_option maxRecDepth 20000 in
theorem dc_21 {a : UInt8} {r : List UInt8} (h : code.data.toList.drop pc = c :: a :: r) (hb : c.toNat = 21) : decode code pc = .ok (.iload a.toNat, 2) := dec_of (by
  unfold Decoder.instr
  rw [rbind (ru1 h).1, hb]
  show ((Reader.u1 : Decoder Nat) >>= fun x => (pure (.iload x) : Decoder Instr)) code (pc + 1) = _
  rw [rbind (ru1 (ru1 h).2).1]
  rfl)
set_option maxRecDepth 20000 in
theorem dc_22 {a : UInt8} {r : List UInt8} (h : code.data.toList.drop pc = c :: a :: r) (hb : c.toNat = 22) : decode code pc = .ok (.lload a.toNat, 2) := dec_of (by
  unfold Decoder.instr
  rw [rbind (ru1 h).1, hb]
  show ((Reader.u1 : Decoder Nat) >>= fun x => (pure (.lload x) : Decoder Instr)) code (pc + 1) = _
  rw [rbind (ru1 (ru1 h).2).1]
  rfl)
set_option maxRecDepth 20000 in
theorem dc_25 {a : UInt8} {r : List UInt8} (h : code.data.toList.drop pc = c :: a :: r) (hb : c.toNat = 25) : decode code pc = .ok (.aload a.toNat, 2) := dec_of (by
  unfold Decoder.instr
  rw [rbind (ru1 h).1, hb]
  show ((Reader.u1 : Decoder Nat) >>= fun x => (pure (.aload x) : Decoder Instr)) code (pc + 1) = _
  rw [rbind (ru1 (ru1 h).2).1]
  rfl)
set_option maxRecDepth 20000 in
theorem dc_54 {a : UInt8} {r : List UInt8} (h : code.data.toList.drop pc = c :: a :: r) (hb : c.toNat = 54) : decode code pc = .ok (.istore a.toNat, 2) := dec_of (by
  unfold Decoder.instr
  rw [rbind (ru1 h).1, hb]
  show ((Reader.u1 : Decoder Nat) >>= fun x => (pure (.istore x) : Decoder Instr)) code (pc + 1) = _
  rw [rbind (ru1 (ru1 h).2).1]
  rfl)
set_option maxRecDepth 20000 in
theorem dc_55 {a : UInt8} {r : List UInt8} (h : code.data.toList.drop pc = c :: a :: r) (hb : c.toNat = 55) : decode code pc = .ok (.lstore a.toNat, 2) := dec_of (by
  unfold Decoder.instr
  rw [rbind (ru1 h).1, hb]
  show ((Reader.u1 : Decoder Nat) >>= fun x => (pure (.lstore x) : Decoder Instr)) code (pc + 1) = _
  rw [rbind (ru1 (ru1 h).2).1]
  rfl)
set_option maxRecDepth 20000 in
theorem dc_58 {a : UInt8} {r : List UInt8} (h : code.data.toList.drop pc = c :: a :: r) (hb : c.toNat = 58) : decode code pc = .ok (.astore a.toNat, 2) := dec_of (by
  unfold Decoder.instr
  rw [rbind (ru1 h).1, hb]
  show ((Reader.u1 : Decoder Nat) >>= fun x => (pure (.astore x) : Decoder Instr)) code (pc + 1) = _
  rw [rbind (ru1 (ru1 h).2).1]
  rfl)
set_option maxRecDepth 20000 in
theorem dc_17 {a b : UInt8} {r : List UInt8} (h : code.data.toList.drop pc = c :: a :: b :: r) (hb : c.toNat = 17) : decode code pc = .ok (.sipush (Reader.signed 16 (a.toNat * 256 + b.toNat)), 3) := dec_of (by
  unfold Decoder.instr
  rw [rbind (ru1 h).1, hb]
  show ((Reader.s2 : Decoder Int) >>= fun x => (pure (.sipush x) : Decoder Instr)) code (pc + 1) = _
  rw [rbind (rs2 (ru1 h).2)]
  rfl)
set_option maxRecDepth 20000 in
theorem dc_167 {a b : UInt8} {r : List UInt8} (h : code.data.toList.drop pc = c :: a :: b :: r) (hb : c.toNat = 167) : decode code pc = .ok (.goto (Reader.signed 16 (a.toNat * 256 + b.toNat)), 3) := dec_of (by
  unfold Decoder.instr
  rw [rbind (ru1 h).1, hb]
  show ((Reader.s2 : Decoder Int) >>= fun x => (pure (.goto x) : Decoder Instr)) code (pc + 1) = _
  rw [rbind (rs2 (ru1 h).2)]
  rfl)
set_option maxRecDepth 20000 in
theorem dc_198 {a b : UInt8} {r : List UInt8} (h : code.data.toList.drop pc = c :: a :: b :: r) (hb : c.toNat = 198) : decode code pc = .ok (.ifnull (Reader.signed 16 (a.toNat * 256 + b.toNat)), 3) := dec_of (by
  unfold Decoder.instr
  rw [rbind (ru1 h).1, hb]
  show ((Reader.s2 : Decoder Int) >>= fun x => (pure (.ifnull x) : Decoder Instr)) code (pc + 1) = _
  rw [rbind (rs2 (ru1 h).2)]
  rfl)
set_option maxRecDepth 20000 in
theorem dc_199 {a b : UInt8} {r : List UInt8} (h : code.data.toList.drop pc = c :: a :: b :: r) (hb : c.toNat = 199) : decode code pc = .ok (.ifnonnull (Reader.signed 16 (a.toNat * 256 + b.toNat)), 3) := dec_of (by
  unfold Decoder.instr
  rw [rbind (ru1 h).1, hb]
  show ((Reader.s2 : Decoder Int) >>= fun x => (pure (.ifnonnull x) : Decoder Instr)) code (pc + 1) = _
  rw [rbind (rs2 (ru1 h).2)]
  rfl)
set_option maxRecDepth 20000 in
theorem dc_165 {a b : UInt8} {r : List UInt8} (h : code.data.toList.drop pc = c :: a :: b :: r) (hb : c.toNat = 165) : decode code pc = .ok (.if_acmp .eq (Reader.signed 16 (a.toNat * 256 + b.toNat)), 3) := dec_of (by
  unfold Decoder.instr
  rw [rbind (ru1 h).1, hb]
  show ((Reader.s2 : Decoder Int) >>= fun x => (pure (.if_acmp .eq x) : Decoder Instr)) code (pc + 1) = _
  rw [rbind (rs2 (ru1 h).2)]
  rfl)
set_option maxRecDepth 20000 in
theorem dc_166 {a b : UInt8} {r : List UInt8} (h : code.data.toList.drop pc = c :: a :: b :: r) (hb : c.toNat = 166) : decode code pc = .ok (.if_acmp .ne (Reader.signed 16 (a.toNat * 256 + b.toNat)), 3) := dec_of (by
  unfold Decoder.instr
  rw [rbind (ru1 h).1, hb]
  show ((Reader.s2 : Decoder Int) >>= fun x => (pure (.if_acmp .ne x) : Decoder Instr)) code (pc + 1) = _
  rw [rbind (rs2 (ru1 h).2)]
  rfl)
set_option maxRecDepth 20000 in
theorem dc_153 {a b : UInt8} {r : List UInt8} (h : code.data.toList.drop pc = c :: a :: b :: r) (hb : c.toNat = 153) : decode code pc = .ok (.ifCond .eq (Reader.signed 16 (a.toNat * 256 + b.toNat)), 3) := dec_of (by
  unfold Decoder.instr
  rw [rbind (ru1 h).1, hb]
  show ((Reader.s2 : Decoder Int) >>= fun x => (pure (.ifCond .eq x) : Decoder Instr)) code (pc + 1) = _
  rw [rbind (rs2 (ru1 h).2)]
  rfl)
set_option maxRecDepth 20000 in
theorem dc_159 {a b : UInt8} {r : List UInt8} (h : code.data.toList.drop pc = c :: a :: b :: r) (hb : c.toNat = 159) : decode code pc = .ok (.if_icmp .eq (Reader.signed 16 (a.toNat * 256 + b.toNat)), 3) := dec_of (by
  unfold Decoder.instr
  rw [rbind (ru1 h).1, hb]
  show ((Reader.s2 : Decoder Int) >>= fun x => (pure (.if_icmp .eq x) : Decoder Instr)) code (pc + 1) = _
  rw [rbind (rs2 (ru1 h).2)]
  rfl)
set_option maxRecDepth 20000 in
theorem dc_154 {a b : UInt8} {r : List UInt8} (h : code.data.toList.drop pc = c :: a :: b :: r) (hb : c.toNat = 154) : decode code pc = .ok (.ifCond .ne (Reader.signed 16 (a.toNat * 256 + b.toNat)), 3) := dec_of (by
  unfold Decoder.instr
  rw [rbind (ru1 h).1, hb]
  show ((Reader.s2 : Decoder Int) >>= fun x => (pure (.ifCond .ne x) : Decoder Instr)) code (pc + 1) = _
  rw [rbind (rs2 (ru1 h).2)]
  rfl)
set_option maxRecDepth 20000 in
theorem dc_160 {a b : UInt8} {r : List UInt8} (h : code.data.toList.drop pc = c :: a :: b :: r) (hb : c.toNat = 160) : decode code pc = .ok (.if_icmp .ne (Reader.signed 16 (a.toNat * 256 + b.toNat)), 3) := dec_of (by
  unfold Decoder.instr
  rw [rbind (ru1 h).1, hb]
  show ((Reader.s2 : Decoder Int) >>= fun x => (pure (.if_icmp .ne x) : Decoder Instr)) code (pc + 1) = _
  rw [rbind (rs2 (ru1 h).2)]
  rfl)
set_option maxRecDepth 20000 in
theorem dc_155 {a b : UInt8} {r : List UInt8} (h : code.data.toList.drop pc = c :: a :: b :: r) (hb : c.toNat = 155) : decode code pc = .ok (.ifCond .lt (Reader.signed 16 (a.toNat * 256 + b.toNat)), 3) := dec_of (by
  unfold Decoder.instr
  rw [rbind (ru1 h).1, hb]
  show ((Reader.s2 : Decoder Int) >>= fun x => (pure (.ifCond .lt x) : Decoder Instr)) code (pc + 1) = _
  rw [rbind (rs2 (ru1 h).2)]
  rfl)
set_option maxRecDepth 20000 in
theorem dc_161 {a b : UInt8} {r : List UInt8} (h : code.data.toList.drop pc = c :: a :: b :: r) (hb : c.toNat = 161) : decode code pc = .ok (.if_icmp .lt (Reader.signed 16 (a.toNat * 256 + b.toNat)), 3) := dec_of (by
  unfold Decoder.instr
  rw [rbind (ru1 h).1, hb]
  show ((Reader.s2 : Decoder Int) >>= fun x => (pure (.if_icmp .lt x) : Decoder Instr)) code (pc + 1) = _
  rw [rbind (rs2 (ru1 h).2)]
  rfl)
set_option maxRecDepth 20000 in
theorem dc_156 {a b : UInt8} {r : List UInt8} (h : code.data.toList.drop pc = c :: a :: b :: r) (hb : c.toNat = 156) : decode code pc = .ok (.ifCond .ge (Reader.signed 16 (a.toNat * 256 + b.toNat)), 3) := dec_of (by
  unfold Decoder.instr
  rw [rbind (ru1 h).1, hb]
  show ((Reader.s2 : Decoder Int) >>= fun x => (pure (.ifCond .ge x) : Decoder Instr)) code (pc + 1) = _
  rw [rbind (rs2 (ru1 h).2)]
  rfl)
set_option maxRecDepth 20000 in
theorem dc_162 {a b : UInt8} {r : List UInt8} (h : code.data.toList.drop pc = c :: a :: b :: r) (hb : c.toNat = 162) : decode code pc = .ok (.if_icmp .ge (Reader.signed 16 (a.toNat * 256 + b.toNat)), 3) := dec_of (by
  unfold Decoder.instr
  rw [rbind (ru1 h).1, hb]
  show ((Reader.s2 : Decoder Int) >>= fun x => (pure (.if_icmp .ge x) : Decoder Instr)) code (pc + 1) = _
  rw [rbind (rs2 (ru1 h).2)]
  rfl)
set_option maxRecDepth 20000 in
theorem dc_157 {a b : UInt8} {r : List UInt8} (h : code.data.toList.drop pc = c :: a :: b :: r) (hb : c.toNat = 157) : decode code pc = .ok (.ifCond .gt (Reader.signed 16 (a.toNat * 256 + b.toNat)), 3) := dec_of (by
  unfold Decoder.instr
  rw [rbind (ru1 h).1, hb]
  show ((Reader.s2 : Decoder Int) >>= fun x => (pure (.ifCond .gt x) : Decoder Instr)) code (pc + 1) = _
  rw [rbind (rs2 (ru1 h).2)]
  rfl)
set_option maxRecDepth 20000 in
theorem dc_163 {a b : UInt8} {r : List UInt8} (h : code.data.toList.drop pc = c :: a :: b :: r) (hb : c.toNat = 163) : decode code pc = .ok (.if_icmp .gt (Reader.signed 16 (a.toNat * 256 + b.toNat)), 3) := dec_of (by
  unfold Decoder.instr
  rw [rbind (ru1 h).1, hb]
  show ((Reader.s2 : Decoder Int) >>= fun x => (pure (.if_icmp .gt x) : Decoder Instr)) code (pc + 1) = _
  rw [rbind (rs2 (ru1 h).2)]
  rfl)
set_option maxRecDepth 20000 in
theorem dc_158 {a b : UInt8} {r : List UInt8} (h : code.data.toList.drop pc = c :: a :: b :: r) (hb : c.toNat = 158) : decode code pc = .ok (.ifCond .le (Reader.signed 16 (a.toNat * 256 + b.toNat)), 3) := dec_of (by
  unfold Decoder.instr
  rw [rbind (ru1 h).1, hb]
  show ((Reader.s2 : Decoder Int) >>= fun x => (pure (.ifCond .le x) : Decoder Instr)) code (pc + 1) = _
  rw [rbind (rs2 (ru1 h).2)]
  rfl)
set_option maxRecDepth 20000 in
theorem dc_164 {a b : UInt8} {r : List UInt8} (h : code.data.toList.drop pc = c :: a :: b :: r) (hb : c.toNat = 164) : decode code pc = .ok (.if_icmp .le (Reader.signed 16 (a.toNat * 256 + b.toNat)), 3) := dec_of (by
  unfold Decoder.instr
  rw [rbind (ru1 h).1, hb]
  show ((Reader.s2 : Decoder Int) >>= fun x => (pure (.if_icmp .le x) : Decoder Instr)) code (pc + 1) = _
  rw [rbind (rs2 (ru1 h).2)]
  rfl)
set_option maxRecDepth 20000 in
theorem dc_19 {a b : UInt8} {r : List UInt8} (h : code.data.toList.drop pc = c :: a :: b :: r) (hb : c.toNat = 19) : decode code pc = .ok (.ldc_w (a.toNat * 256 + b.toNat), 3) := dec_of (by
  unfold Decoder.instr
  rw [rbind (ru1 h).1, hb]
  show ((Reader.u2 : Decoder Nat) >>= fun x => (pure (.ldc_w x) : Decoder Instr)) code (pc + 1) = _
  rw [rbind (ru2 (ru1 h).2)]
  rfl)
set_option maxRecDepth 20000 in
theorem dc_20 {a b : UInt8} {r : List UInt8} (h : code.data.toList.drop pc = c :: a :: b :: r) (hb : c.toNat = 20) : decode code pc = .ok (.ldc2_w (a.toNat * 256 + b.toNat), 3) := dec_of (by
  unfold Decoder.instr
  rw [rbind (ru1 h).1, hb]
  show ((Reader.u2 : Decoder Nat) >>= fun x => (pure (.ldc2_w x) : Decoder Instr)) code (pc + 1) = _
  rw [rbind (ru2 (ru1 h).2)]
  rfl)
set_option maxRecDepth 20000 in
theorem dc_178 {a b : UInt8} {r : List UInt8} (h : code.data.toList.drop pc = c :: a :: b :: r) (hb : c.toNat = 178) : decode code pc = .ok (.getstatic (a.toNat * 256 + b.toNat), 3) := dec_of (by
  unfold Decoder.instr
  rw [rbind (ru1 h).1, hb]
  show ((Reader.u2 : Decoder Nat) >>= fun x => (pure (.getstatic x) : Decoder Instr)) code (pc + 1) = _
  rw [rbind (ru2 (ru1 h).2)]
  rfl)
set_option maxRecDepth 20000 in
theorem dc_180 {a b : UInt8} {r : List UInt8} (h : code.data.toList.drop pc = c :: a :: b :: r) (hb : c.toNat = 180) : decode code pc = .ok (.getfield (a.toNat * 256 + b.toNat), 3) := dec_of (by
  unfold Decoder.instr
  rw [rbind (ru1 h).1, hb]
  show ((Reader.u2 : Decoder Nat) >>= fun x => (pure (.getfield x) : Decoder Instr)) code (pc + 1) = _
  rw [rbind (ru2 (ru1 h).2)]
  rfl)
set_option maxRecDepth 20000 in
theorem dc_181 {a b : UInt8} {r : List UInt8} (h : code.data.toList.drop pc = c :: a :: b :: r) (hb : c.toNat = 181) : decode code pc = .ok (.putfield (a.toNat * 256 + b.toNat), 3) := dec_of (by
  unfold Decoder.instr
  rw [rbind (ru1 h).1, hb]
  show ((Reader.u2 : Decoder Nat) >>= fun x => (pure (.putfield x) : Decoder Instr)) code (pc + 1) = _
  rw [rbind (ru2 (ru1 h).2)]
  rfl)
set_option maxRecDepth 20000 in
theorem dc_182 {a b : UInt8} {r : List UInt8} (h : code.data.toList.drop pc = c :: a :: b :: r) (hb : c.toNat = 182) : decode code pc = .ok (.invokevirtual (a.toNat * 256 + b.toNat), 3) := dec_of (by
  unfold Decoder.instr
  rw [rbind (ru1 h).1, hb]
  show ((Reader.u2 : Decoder Nat) >>= fun x => (pure (.invokevirtual x) : Decoder Instr)) code (pc + 1) = _
  rw [rbind (ru2 (ru1 h).2)]
  rfl)
set_option maxRecDepth 20000 in
theorem dc_183 {a b : UInt8} {r : List UInt8} (h : code.data.toList.drop pc = c :: a :: b :: r) (hb : c.toNat = 183) : decode code pc = .ok (.invokespecial (a.toNat * 256 + b.toNat), 3) := dec_of (by
  unfold Decoder.instr
  rw [rbind (ru1 h).1, hb]
  show ((Reader.u2 : Decoder Nat) >>= fun x => (pure (.invokespecial x) : Decoder Instr)) code (pc + 1) = _
  rw [rbind (ru2 (ru1 h).2)]
  rfl)
set_option maxRecDepth 20000 in
theorem dc_184 {a b : UInt8} {r : List UInt8} (h : code.data.toList.drop pc = c :: a :: b :: r) (hb : c.toNat = 184) : decode code pc = .ok (.invokestatic (a.toNat * 256 + b.toNat), 3) := dec_of (by
  unfold Decoder.instr
  rw [rbind (ru1 h).1, hb]
  show ((Reader.u2 : Decoder Nat) >>= fun x => (pure (.invokestatic x) : Decoder Instr)) code (pc + 1) = _
  rw [rbind (ru2 (ru1 h).2)]
  rfl)
set_option maxRecDepth 20000 in
theorem dc_187 {a b : UInt8} {r : List UInt8} (h : code.data.toList.drop pc = c :: a :: b :: r) (hb : c.toNat = 187) : decode code pc = .ok (.new (a.toNat * 256 + b.toNat), 3) := dec_of (by
  unfold Decoder.instr
  rw [rbind (ru1 h).1, hb]
  show ((Reader.u2 : Decoder Nat) >>= fun x => (pure (.new x) : Decoder Instr)) code (pc + 1) = _
  rw [rbind (ru2 (ru1 h).2)]
  rfl)
set_option maxRecDepth 20000 in
theorem dc_189 {a b : UInt8} {r : List UInt8} (h : code.data.toList.drop pc = c :: a :: b :: r) (hb : c.toNat = 189) : decode code pc = .ok (.anewarray (a.toNat * 256 + b.toNat), 3) := dec_of (by
  unfold Decoder.instr
  rw [rbind (ru1 h).1, hb]
  show ((Reader.u2 : Decoder Nat) >>= fun x => (pure (.anewarray x) : Decoder Instr)) code (pc + 1) = _
  rw [rbind (ru2 (ru1 h).2)]
  rfl)
set_option maxRecDepth 20000 in
theorem dc_132 {a b : UInt8} {r : List UInt8} (h : code.data.toList.drop pc = c :: a :: b :: r) (hb : c.toNat = 132) : decode code pc = .ok (.iinc a.toNat (Reader.signed 8 b.toNat), 3) := dec_of (by
  unfold Decoder.instr
  rw [rbind (ru1 h).1, hb]
  show ((Reader.u1 : Decoder Nat) >>= fun x => (Reader.s1 : Decoder Int) >>= fun z => (pure (.iinc x z) : Decoder Instr)) code (pc + 1) = _
  rw [rbind (ru1 (ru1 h).2).1, rbind (rs1 (ru1 (ru1 h).2).2)]
  rfl)
set_option maxRecDepth 20000 in
theorem dc_188_4 {a : UInt8} {r : List UInt8} (h : code.data.toList.drop pc = c :: a :: r) (hb : c.toNat = 188) (ha : a.toNat = 4) : decode code pc = .ok (.newarray .boolean, 2) := dec_of (by
  unfold Decoder.instr
  rw [rbind (ru1 h).1, hb]
  show Decoder.newarray pc code (pc + 1) = _
  unfold Decoder.newarray
  rw [rbind (ru1 (ru1 h).2).1, ha]
  rfl)
set_option maxRecDepth 20000 in
theorem dc_188_8 {a : UInt8} {r : List UInt8} (h : code.data.toList.drop pc = c :: a :: r) (hb : c.toNat = 188) (ha : a.toNat = 8) : decode code pc = .ok (.newarray .byte, 2) := dec_of (by
  unfold Decoder.instr
  rw [rbind (ru1 h).1, hb]
  show Decoder.newarray pc code (pc + 1) = _
  unfold Decoder.newarray
  rw [rbind (ru1 (ru1 h).2).1, ha]
  rfl)
set_option maxRecDepth 20000 in
theorem dc_188_10 {a : UInt8} {r : List UInt8} (h : code.data.toList.drop pc = c :: a :: r) (hb : c.toNat = 188) (ha : a.toNat = 10) : decode code pc = .ok (.newarray .int, 2) := dec_of (by
  unfold Decoder.instr
  rw [rbind (ru1 h).1, hb]
  show Decoder.newarray pc code (pc + 1) = _
  unfold Decoder.newarray
  rw [rbind (ru1 (ru1 h).2).1, ha]
  rfl)
set_option maxRecDepth 20000 in
theorem dc_188_11 {a : UInt8} {r : List UInt8} (h : code.data.toList.drop pc = c :: a :: r) (hb : c.toNat = 188) (ha : a.toNat = 11) : decode code pc = .ok (.newarray .long, 2) := dec_of (by
  unfold Decoder.instr
  rw [rbind (ru1 h).1, hb]
  show Decoder.newarray pc code (pc + 1) = _
  unfold Decoder.newarray
  rw [rbind (ru1 (ru1 h).2).1, ha]
  rfl)
def fS (x : Option (Instr × Nat)) (code : ByteArray) (pc : Nat) : Prop := ∀ i len, x = some (i, len) → decode code pc = .ok (i, len)
theorem fS_node {b : Bool} {R L : Option (Instr × Nat)} (hR : fS R code pc) (hL : fS L code pc) : fS (bif b then R else L) code pc := by cases b <;> assumption
theorem fS_none : fS none code pc := fun i len h => by cases h
theorem fS_some {i : Instr} {n : Nat} (h : decode code pc = .ok (i, n)) : fS (some (i, n)) code pc := fun j len e => by cases e; exact h
theorem fS_leaf {n k : Nat} {x : Option (Instr × Nat)} (h : n = k → fS x code pc) : fS (bif Nat.beq n k then x else none) code pc := by
  cases e : Nat.beq n k with
  | true => exact h (Nat.eq_of_beq_eq_true e)
  | false => exact fS_none
def fd1 (f : Nat → Instr) (t : List UInt8) : Option (Instr × Nat) := match t with
  | a :: _ => some (f a.toNat, 2)
  | [] => none
def fd2 (f : Nat → Instr) (t : List UInt8) : Option (Instr × Nat) := match t with
  | a :: b :: _ => some (f (a.toNat * 256 + b.toNat), 3)
  | _ => none
def fdi (t : List UInt8) : Option (Instr × Nat) := match t with
  | a :: b :: _ => some (.iinc a.toNat (Reader.signed 8 b.toNat), 3)
  | _ => none
def fdn (t : List UInt8) : Option (Instr × Nat) := match t with
  | a :: _ => bif Nat.beq a.toNat 4 then some (.newarray .boolean, 2) else ( bif Nat.beq a.toNat 8 then some (.newarray .byte, 2) else ( bif Nat.beq a.toNat 10 then some (.newarray .int, 2) else ( bif Nat.beq a.toNat 11 then some (.newarray .long, 2) else (none))))
  | [] => none
theorem fS_1 {f : Nat → Instr} (h : ∀ a r, t = a :: r → decode code pc = .ok (f a.toNat, 2)) : fS (fd1 f t) code pc := by
  cases t with
  | nil => exact fS_none
  | cons a r => exact fS_some (h a r rfl)
theorem fS_2 {f : Nat → Instr} (h : ∀ a b r, t = a :: b :: r → decode code pc = .ok (f (a.toNat * 256 + b.toNat), 3)) : fS (fd2 f t) code pc := by
  match t with
  | [] => exact fS_none
  | [a] => exact fS_none
  | a :: b :: r => exact fS_some (h a b r rfl)
theorem fS_i (h : ∀ a b r, t = a :: b :: r → decode code pc = .ok (.iinc a.toNat (Reader.signed 8 b.toNat), 3)) : fS (fdi t) code pc := by
  match t with
  | [] => exact fS_none
  | [a] => exact fS_none
  | a :: b :: r => exact fS_some (h a b r rfl)
theorem fS_if {n k : Nat} {x z : Option (Instr × Nat)} (h : n = k → fS x code pc) (g : fS z code pc) : fS (bif Nat.beq n k then x else z) code pc := by
  cases e : Nat.beq n k with
  | true => exact h (Nat.eq_of_beq_eq_true e)
  | false => exact g
theorem fS_n (h : code.data.toList.drop pc = c :: t) (hb : c.toNat = 188) : fS (fdn t) code pc := by
  match t with
  | [] => exact fS_none
  | a :: r =>
    show fS (bif Nat.beq a.toNat 4 then some (.newarray .boolean, 2) else ( bif Nat.beq a.toNat 8 then some (.newarray .byte, 2) else ( bif Nat.beq a.toNat 10 then some (.newarray .int, 2) else ( bif Nat.beq a.toNat 11 then some (.newarray .long, 2) else (none))))) code pc
    exact fS_if (fun e => fS_some (dc_188_4 h hb e)) (fS_if (fun e => fS_some (dc_188_8 h hb e)) (fS_if (fun e => fS_some (dc_188_10 h hb e)) (fS_if (fun e => fS_some (dc_188_11 h hb e)) (fS_none))))
def fdec (n : Nat) (t : List UInt8) : Option (Instr × Nat) := bif Nat.ble 96 n then (bif Nat.ble 155 n then (bif Nat.ble 173 n then (bif Nat.ble 183 n then (bif Nat.ble 189 n then (bif Nat.ble 198 n then (bif Nat.ble 199 n then (bif Nat.beq n 199 then fd2 (fun z => .ifnonnull (Reader.signed 16 z)) t else none) else (bif Nat.beq n 198 then fd2 (fun z => .ifnull (Reader.signed 16 z)) t else none)) else (bif Nat.ble 190 n then (bif Nat.beq n 190 then some (.arraylength, 1) else none) else (bif Nat.beq n 189 then fd2 (fun z => .anewarray z) t else none))) else (bif Nat.ble 187 n then (bif Nat.ble 188 n then (bif Nat.beq n 188 then fdn t else none) else (bif Nat.beq n 187 then fd2 (fun z => .new z) t else none)) else (bif Nat.ble 184 n then (bif Nat.beq n 184 then fd2 (fun z => .invokestatic z) t else none) else (bif Nat.beq n 183 then fd2 (fun z => .invokespecial z) t else none)))) else (bif Nat.ble 178 n then (bif Nat.ble 181 n then (bif Nat.ble 182 n then (bif Nat.beq n 182 then fd2 (fun z => .invokevirtual z) t else none) else (bif Nat.beq n 181 then fd2 (fun z => .putfield z) t else none)) else (bif Nat.ble 180 n then (bif Nat.beq n 180 then fd2 (fun z => .getfield z) t else none) else (bif Nat.beq n 178 then fd2 (fun z => .getstatic z) t else none))) else (bif Nat.ble 176 n then (bif Nat.ble 177 n then (bif Nat.beq n 177 then some (.return_, 1) else none) else (bif Nat.beq n 176 then some (.areturn, 1) else none)) else (bif Nat.beq n 173 then some (.lreturn, 1) else none)))) else (bif Nat.ble 162 n then (bif Nat.ble 165 n then (bif Nat.ble 167 n then (bif Nat.ble 172 n then (bif Nat.beq n 172 then some (.ireturn, 1) else none) else (bif Nat.beq n 167 then fd2 (fun z => .goto (Reader.signed 16 z)) t else none)) else (bif Nat.ble 166 n then (bif Nat.beq n 166 then fd2 (fun z => .if_acmp .ne (Reader.signed 16 z)) t else none) else (bif Nat.beq n 165 then fd2 (fun z => .if_acmp .eq (Reader.signed 16 z)) t else none))) else (bif Nat.ble 163 n then (bif Nat.ble 164 n then (bif Nat.beq n 164 then fd2 (fun z => .if_icmp .le (Reader.signed 16 z)) t else none) else (bif Nat.beq n 163 then fd2 (fun z => .if_icmp .gt (Reader.signed 16 z)) t else none)) else (bif Nat.beq n 162 then fd2 (fun z => .if_icmp .ge (Reader.signed 16 z)) t else none))) else (bif Nat.ble 158 n then (bif Nat.ble 160 n then (bif Nat.ble 161 n then (bif Nat.beq n 161 then fd2 (fun z => .if_icmp .lt (Reader.signed 16 z)) t else none) else (bif Nat.beq n 160 then fd2 (fun z => .if_icmp .ne (Reader.signed 16 z)) t else none)) else (bif Nat.ble 159 n then (bif Nat.beq n 159 then fd2 (fun z => .if_icmp .eq (Reader.signed 16 z)) t else none) else (bif Nat.beq n 158 then fd2 (fun z => .ifCond .le (Reader.signed 16 z)) t else none))) else (bif Nat.ble 156 n then (bif Nat.ble 157 n then (bif Nat.beq n 157 then fd2 (fun z => .ifCond .gt (Reader.signed 16 z)) t else none) else (bif Nat.beq n 156 then fd2 (fun z => .ifCond .ge (Reader.signed 16 z)) t else none)) else (bif Nat.beq n 155 then fd2 (fun z => .ifCond .lt (Reader.signed 16 z)) t else none))))) else (bif Nat.ble 123 n then (bif Nat.ble 132 n then (bif Nat.ble 146 n then (bif Nat.ble 153 n then (bif Nat.ble 154 n then (bif Nat.beq n 154 then fd2 (fun z => .ifCond .ne (Reader.signed 16 z)) t else none) else (bif Nat.beq n 153 then fd2 (fun z => .ifCond .eq (Reader.signed 16 z)) t else none)) else (bif Nat.ble 148 n then (bif Nat.beq n 148 then some (.lcmp, 1) else none) else (bif Nat.beq n 146 then some (.i2c, 1) else none))) else (bif Nat.ble 136 n then (bif Nat.ble 145 n then (bif Nat.beq n 145 then some (.i2b, 1) else none) else (bif Nat.beq n 136 then some (.l2i, 1) else none)) else (bif Nat.ble 133 n then (bif Nat.beq n 133 then some (.i2l, 1) else none) else (bif Nat.beq n 132 then fdi t else none)))) else (bif Nat.ble 128 n then (bif Nat.ble 130 n then (bif Nat.ble 131 n then (bif Nat.beq n 131 then some (.lxor, 1) else none) else (bif Nat.beq n 130 then some (.ixor, 1) else none)) else (bif Nat.ble 129 n then (bif Nat.beq n 129 then some (.lor, 1) else none) else (bif Nat.beq n 128 then some (.ior, 1) else none))) else (bif Nat.ble 126 n then (bif Nat.ble 127 n then (bif Nat.beq n 127 then some (.land, 1) else none) else (bif Nat.beq n 126 then some (.iand, 1) else none)) else (bif Nat.beq n 123 then some (.lshr, 1) else none)))) else (bif Nat.ble 109 n then (bif Nat.ble 116 n then (bif Nat.ble 121 n then (bif Nat.ble 122 n then (bif Nat.beq n 122 then some (.ishr, 1) else none) else (bif Nat.beq n 121 then some (.lshl, 1) else none)) else (bif Nat.ble 120 n then (bif Nat.beq n 120 then some (.ishl, 1) else none) else (bif Nat.beq n 116 then some (.ineg, 1) else none))) else (bif Nat.ble 112 n then (bif Nat.ble 113 n then (bif Nat.beq n 113 then some (.lrem, 1) else none) else (bif Nat.beq n 112 then some (.irem, 1) else none)) else (bif Nat.beq n 109 then some (.ldiv, 1) else none))) else (bif Nat.ble 101 n then (bif Nat.ble 105 n then (bif Nat.ble 108 n then (bif Nat.beq n 108 then some (.idiv, 1) else none) else (bif Nat.beq n 105 then some (.lmul, 1) else none)) else (bif Nat.ble 104 n then (bif Nat.beq n 104 then some (.imul, 1) else none) else (bif Nat.beq n 101 then some (.lsub, 1) else none))) else (bif Nat.ble 97 n then (bif Nat.ble 100 n then (bif Nat.beq n 100 then some (.isub, 1) else none) else (bif Nat.beq n 97 then some (.ladd, 1) else none)) else (bif Nat.beq n 96 then some (.iadd, 1) else none)))))) else (bif Nat.ble 44 n then (bif Nat.ble 64 n then (bif Nat.ble 79 n then (bif Nat.ble 87 n then (bif Nat.ble 89 n then (bif Nat.ble 92 n then (bif Nat.beq n 92 then some (.dup2, 1) else none) else (bif Nat.beq n 89 then some (.dup, 1) else none)) else (bif Nat.ble 88 n then (bif Nat.beq n 88 then some (.pop2, 1) else none) else (bif Nat.beq n 87 then some (.pop, 1) else none))) else (bif Nat.ble 83 n then (bif Nat.ble 84 n then (bif Nat.beq n 84 then some (.bastore, 1) else none) else (bif Nat.beq n 83 then some (.aastore, 1) else none)) else (bif Nat.ble 80 n then (bif Nat.beq n 80 then some (.lastore, 1) else none) else (bif Nat.beq n 79 then some (.iastore, 1) else none)))) else (bif Nat.ble 75 n then (bif Nat.ble 77 n then (bif Nat.ble 78 n then (bif Nat.beq n 78 then some ((.astore_n 3), 1) else none) else (bif Nat.beq n 77 then some ((.astore_n 2), 1) else none)) else (bif Nat.ble 76 n then (bif Nat.beq n 76 then some ((.astore_n 1), 1) else none) else (bif Nat.beq n 75 then some ((.astore_n 0), 1) else none))) else (bif Nat.ble 65 n then (bif Nat.ble 66 n then (bif Nat.beq n 66 then some ((.lstore_n 3), 1) else none) else (bif Nat.beq n 65 then some ((.lstore_n 2), 1) else none)) else (bif Nat.beq n 64 then some ((.lstore_n 1), 1) else none)))) else (bif Nat.ble 55 n then (bif Nat.ble 60 n then (bif Nat.ble 62 n then (bif Nat.ble 63 n then (bif Nat.beq n 63 then some ((.lstore_n 0), 1) else none) else (bif Nat.beq n 62 then some ((.istore_n 3), 1) else none)) else (bif Nat.ble 61 n then (bif Nat.beq n 61 then some ((.istore_n 2), 1) else none) else (bif Nat.beq n 60 then some ((.istore_n 1), 1) else none))) else (bif Nat.ble 58 n then (bif Nat.ble 59 n then (bif Nat.beq n 59 then some ((.istore_n 0), 1) else none) else (bif Nat.beq n 58 then fd1 (fun z => .astore z) t else none)) else (bif Nat.beq n 55 then fd1 (fun z => .lstore z) t else none))) else (bif Nat.ble 47 n then (bif Nat.ble 51 n then (bif Nat.ble 54 n then (bif Nat.beq n 54 then fd1 (fun z => .istore z) t else none) else (bif Nat.beq n 51 then some (.baload, 1) else none)) else (bif Nat.ble 50 n then (bif Nat.beq n 50 then some (.aaload, 1) else none) else (bif Nat.beq n 47 then some (.laload, 1) else none))) else (bif Nat.ble 45 n then (bif Nat.ble 46 n then (bif Nat.beq n 46 then some (.iaload, 1) else none) else (bif Nat.beq n 45 then some ((.aload_n 3), 1) else none)) else (bif Nat.beq n 44 then some ((.aload_n 2), 1) else none))))) else (bif Nat.ble 20 n then (bif Nat.ble 29 n then (bif Nat.ble 32 n then (bif Nat.ble 42 n then (bif Nat.ble 43 n then (bif Nat.beq n 43 then some ((.aload_n 1), 1) else none) else (bif Nat.beq n 42 then some ((.aload_n 0), 1) else none)) else (bif Nat.ble 33 n then (bif Nat.beq n 33 then some ((.lload_n 3), 1) else none) else (bif Nat.beq n 32 then some ((.lload_n 2), 1) else none))) else (bif Nat.ble 30 n then (bif Nat.ble 31 n then (bif Nat.beq n 31 then some ((.lload_n 1), 1) else none) else (bif Nat.beq n 30 then some ((.lload_n 0), 1) else none)) else (bif Nat.beq n 29 then some ((.iload_n 3), 1) else none))) else (bif Nat.ble 25 n then (bif Nat.ble 27 n then (bif Nat.ble 28 n then (bif Nat.beq n 28 then some ((.iload_n 2), 1) else none) else (bif Nat.beq n 27 then some ((.iload_n 1), 1) else none)) else (bif Nat.ble 26 n then (bif Nat.beq n 26 then some ((.iload_n 0), 1) else none) else (bif Nat.beq n 25 then fd1 (fun z => .aload z) t else none))) else (bif Nat.ble 21 n then (bif Nat.ble 22 n then (bif Nat.beq n 22 then fd1 (fun z => .lload z) t else none) else (bif Nat.beq n 21 then fd1 (fun z => .iload z) t else none)) else (bif Nat.beq n 20 then fd2 (fun z => .ldc2_w z) t else none)))) else (bif Nat.ble 8 n then (bif Nat.ble 16 n then (bif Nat.ble 18 n then (bif Nat.ble 19 n then (bif Nat.beq n 19 then fd2 (fun z => .ldc_w z) t else none) else (bif Nat.beq n 18 then fd1 (fun z => .ldc z) t else none)) else (bif Nat.ble 17 n then (bif Nat.beq n 17 then fd2 (fun z => .sipush (Reader.signed 16 z)) t else none) else (bif Nat.beq n 16 then fd1 (fun z => .bipush (Reader.signed 8 z)) t else none))) else (bif Nat.ble 9 n then (bif Nat.ble 10 n then (bif Nat.beq n 10 then some ((.lconst 1), 1) else none) else (bif Nat.beq n 9 then some ((.lconst 0), 1) else none)) else (bif Nat.beq n 8 then some ((.iconst (5)), 1) else none))) else (bif Nat.ble 4 n then (bif Nat.ble 6 n then (bif Nat.ble 7 n then (bif Nat.beq n 7 then some ((.iconst (4)), 1) else none) else (bif Nat.beq n 6 then some ((.iconst (3)), 1) else none)) else (bif Nat.ble 5 n then (bif Nat.beq n 5 then some ((.iconst (2)), 1) else none) else (bif Nat.beq n 4 then some ((.iconst (1)), 1) else none))) else (bif Nat.ble 2 n then (bif Nat.ble 3 n then (bif Nat.beq n 3 then some ((.iconst (0)), 1) else none) else (bif Nat.beq n 2 then some ((.iconst (-1)), 1) else none)) else (bif Nat.beq n 1 then some (.aconst_null, 1) else none))))))
theorem fdec_ok (h : code.data.toList.drop pc = c :: t) : fS (fdec c.toNat t) code pc := fS_node (fS_node (fS_node (fS_node (fS_node (fS_node (fS_node (fS_leaf (fun e => fS_2 (fun a b r q => dc_199 (q ▸ h) e))) (fS_leaf (fun e => fS_2 (fun a b r q => dc_198 (q ▸ h) e)))) (fS_node (fS_leaf (fun e => fS_some (dc_190 h e))) (fS_leaf (fun e => fS_2 (fun a b r q => dc_189 (q ▸ h) e))))) (fS_node (fS_node (fS_leaf (fun e => fS_n h e)) (fS_leaf (fun e => fS_2 (fun a b r q => dc_187 (q ▸ h) e)))) (fS_node (fS_leaf (fun e => fS_2 (fun a b r q => dc_184 (q ▸ h) e))) (fS_leaf (fun e => fS_2 (fun a b r q => dc_183 (q ▸ h) e)))))) (fS_node (fS_node (fS_node (fS_leaf (fun e => fS_2 (fun a b r q => dc_182 (q ▸ h) e))) (fS_leaf (fun e => fS_2 (fun a b r q => dc_181 (q ▸ h) e)))) (fS_node (fS_leaf (fun e => fS_2 (fun a b r q => dc_180 (q ▸ h) e))) (fS_leaf (fun e => fS_2 (fun a b r q => dc_178 (q ▸ h) e))))) (fS_node (fS_node (fS_leaf (fun e => fS_some (dc_177 h e))) (fS_leaf (fun e => fS_some (dc_176 h e)))) (fS_leaf (fun e => fS_some (dc_173 h e)))))) (fS_node (fS_node (fS_node (fS_node (fS_leaf (fun e => fS_some (dc_172 h e))) (fS_leaf (fun e => fS_2 (fun a b r q => dc_167 (q ▸ h) e)))) (fS_node (fS_leaf (fun e => fS_2 (fun a b r q => dc_166 (q ▸ h) e))) (fS_leaf (fun e => fS_2 (fun a b r q => dc_165 (q ▸ h) e))))) (fS_node (fS_node (fS_leaf (fun e => fS_2 (fun a b r q => dc_164 (q ▸ h) e))) (fS_leaf (fun e => fS_2 (fun a b r q => dc_163 (q ▸ h) e)))) (fS_leaf (fun e => fS_2 (fun a b r q => dc_162 (q ▸ h) e))))) (fS_node (fS_node (fS_node (fS_leaf (fun e => fS_2 (fun a b r q => dc_161 (q ▸ h) e))) (fS_leaf (fun e => fS_2 (fun a b r q => dc_160 (q ▸ h) e)))) (fS_node (fS_leaf (fun e => fS_2 (fun a b r q => dc_159 (q ▸ h) e))) (fS_leaf (fun e => fS_2 (fun a b r q => dc_158 (q ▸ h) e))))) (fS_node (fS_node (fS_leaf (fun e => fS_2 (fun a b r q => dc_157 (q ▸ h) e))) (fS_leaf (fun e => fS_2 (fun a b r q => dc_156 (q ▸ h) e)))) (fS_leaf (fun e => fS_2 (fun a b r q => dc_155 (q ▸ h) e))))))) (fS_node (fS_node (fS_node (fS_node (fS_node (fS_leaf (fun e => fS_2 (fun a b r q => dc_154 (q ▸ h) e))) (fS_leaf (fun e => fS_2 (fun a b r q => dc_153 (q ▸ h) e)))) (fS_node (fS_leaf (fun e => fS_some (dc_148 h e))) (fS_leaf (fun e => fS_some (dc_146 h e))))) (fS_node (fS_node (fS_leaf (fun e => fS_some (dc_145 h e))) (fS_leaf (fun e => fS_some (dc_136 h e)))) (fS_node (fS_leaf (fun e => fS_some (dc_133 h e))) (fS_leaf (fun e => fS_i (fun a b r q => dc_132 (q ▸ h) e)))))) (fS_node (fS_node (fS_node (fS_leaf (fun e => fS_some (dc_131 h e))) (fS_leaf (fun e => fS_some (dc_130 h e)))) (fS_node (fS_leaf (fun e => fS_some (dc_129 h e))) (fS_leaf (fun e => fS_some (dc_128 h e))))) (fS_node (fS_node (fS_leaf (fun e => fS_some (dc_127 h e))) (fS_leaf (fun e => fS_some (dc_126 h e)))) (fS_leaf (fun e => fS_some (dc_123 h e)))))) (fS_node (fS_node (fS_node (fS_node (fS_leaf (fun e => fS_some (dc_122 h e))) (fS_leaf (fun e => fS_some (dc_121 h e)))) (fS_node (fS_leaf (fun e => fS_some (dc_120 h e))) (fS_leaf (fun e => fS_some (dc_116 h e))))) (fS_node (fS_node (fS_leaf (fun e => fS_some (dc_113 h e))) (fS_leaf (fun e => fS_some (dc_112 h e)))) (fS_leaf (fun e => fS_some (dc_109 h e))))) (fS_node (fS_node (fS_node (fS_leaf (fun e => fS_some (dc_108 h e))) (fS_leaf (fun e => fS_some (dc_105 h e)))) (fS_node (fS_leaf (fun e => fS_some (dc_104 h e))) (fS_leaf (fun e => fS_some (dc_101 h e))))) (fS_node (fS_node (fS_leaf (fun e => fS_some (dc_100 h e))) (fS_leaf (fun e => fS_some (dc_97 h e)))) (fS_leaf (fun e => fS_some (dc_96 h e)))))))) (fS_node (fS_node (fS_node (fS_node (fS_node (fS_node (fS_leaf (fun e => fS_some (dc_92 h e))) (fS_leaf (fun e => fS_some (dc_89 h e)))) (fS_node (fS_leaf (fun e => fS_some (dc_88 h e))) (fS_leaf (fun e => fS_some (dc_87 h e))))) (fS_node (fS_node (fS_leaf (fun e => fS_some (dc_84 h e))) (fS_leaf (fun e => fS_some (dc_83 h e)))) (fS_node (fS_leaf (fun e => fS_some (dc_80 h e))) (fS_leaf (fun e => fS_some (dc_79 h e)))))) (fS_node (fS_node (fS_node (fS_leaf (fun e => fS_some (dc_78 h e))) (fS_leaf (fun e => fS_some (dc_77 h e)))) (fS_node (fS_leaf (fun e => fS_some (dc_76 h e))) (fS_leaf (fun e => fS_some (dc_75 h e))))) (fS_node (fS_node (fS_leaf (fun e => fS_some (dc_66 h e))) (fS_leaf (fun e => fS_some (dc_65 h e)))) (fS_leaf (fun e => fS_some (dc_64 h e)))))) (fS_node (fS_node (fS_node (fS_node (fS_leaf (fun e => fS_some (dc_63 h e))) (fS_leaf (fun e => fS_some (dc_62 h e)))) (fS_node (fS_leaf (fun e => fS_some (dc_61 h e))) (fS_leaf (fun e => fS_some (dc_60 h e))))) (fS_node (fS_node (fS_leaf (fun e => fS_some (dc_59 h e))) (fS_leaf (fun e => fS_1 (fun a r q => dc_58 (q ▸ h) e)))) (fS_leaf (fun e => fS_1 (fun a r q => dc_55 (q ▸ h) e))))) (fS_node (fS_node (fS_node (fS_leaf (fun e => fS_1 (fun a r q => dc_54 (q ▸ h) e))) (fS_leaf (fun e => fS_some (dc_51 h e)))) (fS_node (fS_leaf (fun e => fS_some (dc_50 h e))) (fS_leaf (fun e => fS_some (dc_47 h e))))) (fS_node (fS_node (fS_leaf (fun e => fS_some (dc_46 h e))) (fS_leaf (fun e => fS_some (dc_45 h e)))) (fS_leaf (fun e => fS_some (dc_44 h e))))))) (fS_node (fS_node (fS_node (fS_node (fS_node (fS_leaf (fun e => fS_some (dc_43 h e))) (fS_leaf (fun e => fS_some (dc_42 h e)))) (fS_node (fS_leaf (fun e => fS_some (dc_33 h e))) (fS_leaf (fun e => fS_some (dc_32 h e))))) (fS_node (fS_node (fS_leaf (fun e => fS_some (dc_31 h e))) (fS_leaf (fun e => fS_some (dc_30 h e)))) (fS_leaf (fun e => fS_some (dc_29 h e))))) (fS_node (fS_node (fS_node (fS_leaf (fun e => fS_some (dc_28 h e))) (fS_leaf (fun e => fS_some (dc_27 h e)))) (fS_node (fS_leaf (fun e => fS_some (dc_26 h e))) (fS_leaf (fun e => fS_1 (fun a r q => dc_25 (q ▸ h) e))))) (fS_node (fS_node (fS_leaf (fun e => fS_1 (fun a r q => dc_22 (q ▸ h) e))) (fS_leaf (fun e => fS_1 (fun a r q => dc_21 (q ▸ h) e)))) (fS_leaf (fun e => fS_2 (fun a b r q => dc_20 (q ▸ h) e)))))) (fS_node (fS_node (fS_node (fS_node (fS_leaf (fun e => fS_2 (fun a b r q => dc_19 (q ▸ h) e))) (fS_leaf (fun e => fS_1 (fun a r q => dc_18 (q ▸ h) e)))) (fS_node (fS_leaf (fun e => fS_2 (fun a b r q => dc_17 (q ▸ h) e))) (fS_leaf (fun e => fS_1 (fun a r q => dc_16 (q ▸ h) e))))) (fS_node (fS_node (fS_leaf (fun e => fS_some (dc_10 h e))) (fS_leaf (fun e => fS_some (dc_9 h e)))) (fS_leaf (fun e => fS_some (dc_8 h e))))) (fS_node (fS_node (fS_node (fS_leaf (fun e => fS_some (dc_7 h e))) (fS_leaf (fun e => fS_some (dc_6 h e)))) (fS_node (fS_leaf (fun e => fS_some (dc_5 h e))) (fS_leaf (fun e => fS_some (dc_4 h e))))) (fS_node (fS_node (fS_leaf (fun e => fS_some (dc_3 h e))) (fS_leaf (fun e => fS_some (dc_2 h e)))) (fS_leaf (fun e => fS_some (dc_1 h e))))))))
end DEC
def hchk (y pc : Nat) (z : hOp × Nat) : Bool := match decode (hmB y) pc with
  | .ok (i, len) => decide (z ∈ hops y pc i len)
  | _ => false
def hP1 (y : Nat) (f : Nat → Option (hOp × Nat)) : Prop := ∀ pc op nx, f pc = some (op, nx) → ∃ i len, decode (hmB y) pc = .ok (i, len) ∧ (op, nx) ∈ hops y pc i len
def fchk (y : Nat) (f : Nat → Option (hOp × Nat)) : Nat → List UInt8 → Bool
  | _, [] => true
  | pc, c :: t => (match f pc with
    | none => true
    | some z => match fdec c.toNat t with
      | some (i, len) => decide (z ∈ hops y pc i len)
      | none => hchk y pc z) && fchk y f (pc + 1) t
theorem fchk_ok {y : Nat} {f : Nat → Option (hOp × Nat)} : ∀ (l : List UInt8) (pc : Nat), fchk y f pc l = true → (hmB y).data.toList.drop pc = l → ∀ q op nx, pc ≤ q → q < pc + l.length → f q = some (op, nx) → ∃ i len, decode (hmB y) q = .ok (i, len) ∧ (op, nx) ∈ hops y q i len := by
  intro l
  induction l with
  | nil => intro pc h1 h2 q op nx h3 h4 h5; simp only [List.length_nil] at h4; omega
  | cons c t ih =>
    intro pc h1 h2 q op nx h3 h4 h5
    unfold fchk at h1
    rw [Bool.and_eq_true] at h1
    by_cases hq : q = pc
    · subst hq
      rw [h5] at h1
      have h6 := h1.1
      dsimp only at h6
      cases e : fdec c.toNat t with
      | none =>
        rw [e] at h6
        dsimp only at h6
        unfold hchk at h6
        split at h6
        · rename_i i len e2
          exact ⟨i, len, e2, of_decide_eq_true h6⟩
        · cases h6
      | some z =>
        obtain ⟨i, len⟩ := z
        rw [e] at h6
        exact ⟨i, len, fdec_ok h2 i len e, of_decide_eq_true h6⟩
    · refine ih (pc + 1) h1.2 (ru1 h2).2 q op nx (by omega) (by simp only [List.length_cons] at h4; omega) h5
theorem hP1_of {y n : Nat} {f : Nat → Option (hOp × Nat)} (h1 : ∀ pc, Nat.ble n pc = true → f pc = none) (h2 : fchk y f 0 (hmB y).data.toList = true) (h3 : Nat.beq (hmB y).data.toList.length n = true) : hP1 y f := by
  intro pc op nx h
  have h3 := Nat.eq_of_beq_eq_true h3
  have hlt : pc < n := by
    rcases Nat.lt_or_ge pc n with q | q
    · exact q
    · rw [h1 pc (Nat.ble_eq.mpr q)] at h; cases h
  exact fchk_ok _ 0 h2 rfl pc op nx (Nat.zero_le _) (by omega) h
set_option maxRecDepth 100000 in
theorem hq_0 : hP1 0 hc_0 := hP1_of (n := 113) (fun pc h => by unfold hc_0; rw [h]; rfl) (by decide +kernel) (by decide +kernel)
set_option maxRecDepth 100000 in
theorem hq_1 : hP1 1 hc_1 := hP1_of (n := 262) (fun pc h => by unfold hc_1; rw [h]; rfl) (by decide +kernel) (by decide +kernel)
set_option maxRecDepth 100000 in
theorem hq_2 : hP1 2 hc_2 := hP1_of (n := 20) (fun pc h => by unfold hc_2; rw [h]; rfl) (by decide +kernel) (by decide +kernel)
set_option maxRecDepth 100000 in
theorem hq_3 : hP1 3 hc_3 := hP1_of (n := 41) (fun pc h => by unfold hc_3; rw [h]; rfl) (by decide +kernel) (by decide +kernel)
set_option maxRecDepth 100000 in
theorem hq_4 : hP1 4 hc_4 := hP1_of (n := 41) (fun pc h => by unfold hc_4; rw [h]; rfl) (by decide +kernel) (by decide +kernel)
set_option maxRecDepth 100000 in
theorem hq_5 : hP1 5 hc_5 := hP1_of (n := 5) (fun pc h => by unfold hc_5; rw [h]; rfl) (by decide +kernel) (by decide +kernel)
set_option maxRecDepth 100000 in
theorem hq_6 : hP1 6 hc_6 := hP1_of (n := 89) (fun pc h => by unfold hc_6; rw [h]; rfl) (by decide +kernel) (by decide +kernel)
set_option maxRecDepth 100000 in
theorem hq_7 : hP1 7 hc_7 := hP1_of (n := 241) (fun pc h => by unfold hc_7; rw [h]; rfl) (by decide +kernel) (by decide +kernel)
set_option maxRecDepth 100000 in
theorem hq_8 : hP1 8 hc_8 := hP1_of (n := 18) (fun pc h => by unfold hc_8; rw [h]; rfl) (by decide +kernel) (by decide +kernel)
set_option maxRecDepth 100000 in
theorem hq_9 : hP1 9 hc_9 := hP1_of (n := 5) (fun pc h => by unfold hc_9; rw [h]; rfl) (by decide +kernel) (by decide +kernel)
set_option maxRecDepth 100000 in
theorem hq_10 : hP1 10 hc_10 := hP1_of (n := 54) (fun pc h => by unfold hc_10; rw [h]; rfl) (by decide +kernel) (by decide +kernel)
set_option maxRecDepth 100000 in
theorem hq_11 : hP1 11 hc_11 := hP1_of (n := 11) (fun pc h => by unfold hc_11; rw [h]; rfl) (by decide +kernel) (by decide +kernel)
set_option maxRecDepth 100000 in
theorem hq_12 : hP1 12 hc_12 := hP1_of (n := 54) (fun pc h => by unfold hc_12; rw [h]; rfl) (by decide +kernel) (by decide +kernel)
set_option maxRecDepth 100000 in
theorem hq_13 : hP1 13 hc_13 := hP1_of (n := 11) (fun pc h => by unfold hc_13; rw [h]; rfl) (by decide +kernel) (by decide +kernel)
set_option maxRecDepth 100000 in
theorem hq_14 : hP1 14 hc_14 := hP1_of (n := 15) (fun pc h => by unfold hc_14; rw [h]; rfl) (by decide +kernel) (by decide +kernel)
set_option maxRecDepth 100000 in
theorem hq_15 : hP1 15 hc_15 := hP1_of (n := 25) (fun pc h => by unfold hc_15; rw [h]; rfl) (by decide +kernel) (by decide +kernel)
set_option maxRecDepth 100000 in
theorem hq_16 : hP1 16 hc_16 := hP1_of (n := 19) (fun pc h => by unfold hc_16; rw [h]; rfl) (by decide +kernel) (by decide +kernel)
set_option maxRecDepth 100000 in
theorem hq_17 : hP1 17 hc_17 := hP1_of (n := 15) (fun pc h => by unfold hc_17; rw [h]; rfl) (by decide +kernel) (by decide +kernel)
set_option maxRecDepth 100000 in
theorem hq_18 : hP1 18 hc_18 := hP1_of (n := 10) (fun pc h => by unfold hc_18; rw [h]; rfl) (by decide +kernel) (by decide +kernel)
set_option maxRecDepth 100000 in
theorem hq_19 : hP1 19 hc_19 := hP1_of (n := 18) (fun pc h => by unfold hc_19; rw [h]; rfl) (by decide +kernel) (by decide +kernel)
set_option maxRecDepth 100000 in
theorem hq_20 : hP1 20 hc_20 := hP1_of (n := 96) (fun pc h => by unfold hc_20; rw [h]; rfl) (by decide +kernel) (by decide +kernel)
set_option maxRecDepth 100000 in
theorem hq_21 : hP1 21 hc_21 := hP1_of (n := 25) (fun pc h => by unfold hc_21; rw [h]; rfl) (by decide +kernel) (by decide +kernel)
set_option maxRecDepth 100000 in
theorem hq_22 : hP1 22 hc_22 := hP1_of (n := 61) (fun pc h => by unfold hc_22; rw [h]; rfl) (by decide +kernel) (by decide +kernel)
set_option maxRecDepth 100000 in
theorem hq_23 : hP1 23 hc_23 := hP1_of (n := 16) (fun pc h => by unfold hc_23; rw [h]; rfl) (by decide +kernel) (by decide +kernel)
set_option maxRecDepth 100000 in
theorem hq_24 : hP1 24 hc_24 := hP1_of (n := 12) (fun pc h => by unfold hc_24; rw [h]; rfl) (by decide +kernel) (by decide +kernel)
set_option maxRecDepth 100000 in
theorem hq_25 : hP1 25 hc_25 := hP1_of (n := 54) (fun pc h => by unfold hc_25; rw [h]; rfl) (by decide +kernel) (by decide +kernel)
set_option maxRecDepth 100000 in
theorem hq_26 : hP1 26 hc_26 := hP1_of (n := 421) (fun pc h => by unfold hc_26; rw [h]; rfl) (by decide +kernel) (by decide +kernel)
set_option maxRecDepth 100000 in
theorem hq_27 : hP1 27 hc_27 := hP1_of (n := 6) (fun pc h => by unfold hc_27; rw [h]; rfl) (by decide +kernel) (by decide +kernel)
set_option maxRecDepth 100000 in
theorem hq_28 : hP1 28 hc_28 := hP1_of (n := 5) (fun pc h => by unfold hc_28; rw [h]; rfl) (by decide +kernel) (by decide +kernel)
set_option maxRecDepth 100000 in
theorem hq_29 : hP1 29 hc_29 := hP1_of (n := 57) (fun pc h => by unfold hc_29; rw [h]; rfl) (by decide +kernel) (by decide +kernel)
set_option maxRecDepth 100000 in
theorem hq_30 : hP1 30 hc_30 := hP1_of (n := 77) (fun pc h => by unfold hc_30; rw [h]; rfl) (by decide +kernel) (by decide +kernel)
set_option maxRecDepth 100000 in
theorem hq_31 : hP1 31 hc_31 := hP1_of (n := 13) (fun pc h => by unfold hc_31; rw [h]; rfl) (by decide +kernel) (by decide +kernel)
set_option maxRecDepth 100000 in
theorem hq_32 : hP1 32 hc_32 := hP1_of (n := 71) (fun pc h => by unfold hc_32; rw [h]; rfl) (by decide +kernel) (by decide +kernel)
set_option maxRecDepth 100000 in
theorem hq_33 : hP1 33 hc_33 := hP1_of (n := 36) (fun pc h => by unfold hc_33; rw [h]; rfl) (by decide +kernel) (by decide +kernel)
set_option maxRecDepth 100000 in
theorem hq_34 : hP1 34 hc_34 := hP1_of (n := 20) (fun pc h => by unfold hc_34; rw [h]; rfl) (by decide +kernel) (by decide +kernel)
set_option maxRecDepth 100000 in
theorem hq_35 : hP1 35 hc_35 := hP1_of (n := 289) (fun pc h => by unfold hc_35; rw [h]; rfl) (by decide +kernel) (by decide +kernel)
set_option maxRecDepth 100000 in
theorem hq_36 : hP1 36 hc_36 := hP1_of (n := 62) (fun pc h => by unfold hc_36; rw [h]; rfl) (by decide +kernel) (by decide +kernel)
set_option maxRecDepth 100000 in
theorem hq_37 : hP1 37 hc_37 := hP1_of (n := 73) (fun pc h => by unfold hc_37; rw [h]; rfl) (by decide +kernel) (by decide +kernel)
set_option maxRecDepth 100000 in
theorem hq_38 : hP1 38 hc_38 := hP1_of (n := 92) (fun pc h => by unfold hc_38; rw [h]; rfl) (by decide +kernel) (by decide +kernel)
set_option maxRecDepth 100000 in
theorem hq_39 : hP1 39 hc_39 := hP1_of (n := 70) (fun pc h => by unfold hc_39; rw [h]; rfl) (by decide +kernel) (by decide +kernel)
set_option maxRecDepth 100000 in
theorem hq_40 : hP1 40 hc_40 := hP1_of (n := 156) (fun pc h => by unfold hc_40; rw [h]; rfl) (by decide +kernel) (by decide +kernel)
set_option maxRecDepth 100000 in
theorem hq_41 : hP1 41 hc_41 := hP1_of (n := 74) (fun pc h => by unfold hc_41; rw [h]; rfl) (by decide +kernel) (by decide +kernel)
set_option maxRecDepth 100000 in
theorem hq_42 : hP1 42 hc_42 := hP1_of (n := 76) (fun pc h => by unfold hc_42; rw [h]; rfl) (by decide +kernel) (by decide +kernel)
set_option maxRecDepth 100000 in
theorem hq_43 : hP1 43 hc_43 := hP1_of (n := 45) (fun pc h => by unfold hc_43; rw [h]; rfl) (by decide +kernel) (by decide +kernel)
set_option maxRecDepth 100000 in
theorem hq_44 : hP1 44 hc_44 := hP1_of (n := 33) (fun pc h => by unfold hc_44; rw [h]; rfl) (by decide +kernel) (by decide +kernel)
set_option maxRecDepth 100000 in
theorem hq_45 : hP1 45 hc_45 := hP1_of (n := 16) (fun pc h => by unfold hc_45; rw [h]; rfl) (by decide +kernel) (by decide +kernel)
set_option maxRecDepth 100000 in
theorem hq_46 : hP1 46 hc_46 := hP1_of (n := 135) (fun pc h => by unfold hc_46; rw [h]; rfl) (by decide +kernel) (by decide +kernel)
set_option maxRecDepth 100000 in
theorem hq_47 : hP1 47 hc_47 := hP1_of (n := 65) (fun pc h => by unfold hc_47; rw [h]; rfl) (by decide +kernel) (by decide +kernel)
set_option maxRecDepth 100000 in
theorem hq_48 : hP1 48 hc_48 := hP1_of (n := 121) (fun pc h => by unfold hc_48; rw [h]; rfl) (by decide +kernel) (by decide +kernel)
set_option maxRecDepth 100000 in
theorem hq_49 : hP1 49 hc_49 := hP1_of (n := 54) (fun pc h => by unfold hc_49; rw [h]; rfl) (by decide +kernel) (by decide +kernel)
set_option maxRecDepth 100000 in
theorem hq_50 : hP1 50 hc_50 := hP1_of (n := 51) (fun pc h => by unfold hc_50; rw [h]; rfl) (by decide +kernel) (by decide +kernel)
set_option maxRecDepth 100000 in
theorem hq_51 : hP1 51 hc_51 := hP1_of (n := 51) (fun pc h => by unfold hc_51; rw [h]; rfl) (by decide +kernel) (by decide +kernel)
set_option maxRecDepth 100000 in
theorem hq_52 : hP1 52 hc_52 := hP1_of (n := 41) (fun pc h => by unfold hc_52; rw [h]; rfl) (by decide +kernel) (by decide +kernel)
set_option maxRecDepth 100000 in
theorem hq_53 : hP1 53 hc_53 := hP1_of (n := 33) (fun pc h => by unfold hc_53; rw [h]; rfl) (by decide +kernel) (by decide +kernel)
set_option maxRecDepth 100000 in
theorem hq_54 : hP1 54 hc_54 := hP1_of (n := 292) (fun pc h => by unfold hc_54; rw [h]; rfl) (by decide +kernel) (by decide +kernel)
set_option maxRecDepth 100000 in
theorem hq_55 : hP1 55 hc_55 := hP1_of (n := 16) (fun pc h => by unfold hc_55; rw [h]; rfl) (by decide +kernel) (by decide +kernel)
set_option maxRecDepth 100000 in
theorem hq_56 : hP1 56 hc_56 := hP1_of (n := 93) (fun pc h => by unfold hc_56; rw [h]; rfl) (by decide +kernel) (by decide +kernel)
set_option maxRecDepth 100000 in
theorem hq_57 : hP1 57 hc_57 := hP1_of (n := 52) (fun pc h => by unfold hc_57; rw [h]; rfl) (by decide +kernel) (by decide +kernel)
set_option maxRecDepth 100000 in
theorem hq_58 : hP1 58 hc_58 := hP1_of (n := 62) (fun pc h => by unfold hc_58; rw [h]; rfl) (by decide +kernel) (by decide +kernel)
set_option maxRecDepth 100000 in
theorem hq_59 : hP1 59 hc_59 := hP1_of (n := 133) (fun pc h => by unfold hc_59; rw [h]; rfl) (by decide +kernel) (by decide +kernel)
set_option maxRecDepth 100000 in
theorem hq_60 : hP1 60 hc_60 := hP1_of (n := 123) (fun pc h => by unfold hc_60; rw [h]; rfl) (by decide +kernel) (by decide +kernel)
set_option maxRecDepth 100000 in
theorem hq_61 : hP1 61 hc_61 := hP1_of (n := 16) (fun pc h => by unfold hc_61; rw [h]; rfl) (by decide +kernel) (by decide +kernel)
set_option maxRecDepth 100000 in
theorem hq_62 : hP1 62 hc_62 := hP1_of (n := 78) (fun pc h => by unfold hc_62; rw [h]; rfl) (by decide +kernel) (by decide +kernel)
set_option maxRecDepth 100000 in
theorem hq_63 : hP1 63 hc_63 := hP1_of (n := 11) (fun pc h => by unfold hc_63; rw [h]; rfl) (by decide +kernel) (by decide +kernel)
set_option maxRecDepth 100000 in
theorem hq_64 : hP1 64 hc_64 := hP1_of (n := 322) (fun pc h => by unfold hc_64; rw [h]; rfl) (by decide +kernel) (by decide +kernel)
set_option maxRecDepth 100000 in
theorem hq_65 : hP1 65 hc_65 := hP1_of (n := 129) (fun pc h => by unfold hc_65; rw [h]; rfl) (by decide +kernel) (by decide +kernel)
set_option maxRecDepth 100000 in
theorem hq_66 : hP1 66 hc_66 := hP1_of (n := 83) (fun pc h => by unfold hc_66; rw [h]; rfl) (by decide +kernel) (by decide +kernel)
set_option maxRecDepth 100000 in
theorem hq_67 : hP1 67 hc_67 := hP1_of (n := 109) (fun pc h => by unfold hc_67; rw [h]; rfl) (by decide +kernel) (by decide +kernel)
set_option maxRecDepth 100000 in
theorem hq_68 : hP1 68 hc_68 := hP1_of (n := 286) (fun pc h => by unfold hc_68; rw [h]; rfl) (by decide +kernel) (by decide +kernel)
set_option maxRecDepth 100000 in
theorem hq_69 : hP1 69 hc_69 := hP1_of (n := 293) (fun pc h => by unfold hc_69; rw [h]; rfl) (by decide +kernel) (by decide +kernel)
set_option maxRecDepth 100000 in
theorem hq_70 : hP1 70 hc_70 := hP1_of (n := 11) (fun pc h => by unfold hc_70; rw [h]; rfl) (by decide +kernel) (by decide +kernel)
set_option maxRecDepth 100000 in
theorem hq_71 : hP1 71 hc_71 := hP1_of (n := 66) (fun pc h => by unfold hc_71; rw [h]; rfl) (by decide +kernel) (by decide +kernel)
set_option maxRecDepth 100000 in
theorem hq_72 : hP1 72 hc_72 := hP1_of (n := 19) (fun pc h => by unfold hc_72; rw [h]; rfl) (by decide +kernel) (by decide +kernel)
set_option maxRecDepth 100000 in
theorem hq_73 : hP1 73 hc_73 := hP1_of (n := 37) (fun pc h => by unfold hc_73; rw [h]; rfl) (by decide +kernel) (by decide +kernel)
set_option maxRecDepth 100000 in
theorem hq_74 : hP1 74 hc_74 := hP1_of (n := 35) (fun pc h => by unfold hc_74; rw [h]; rfl) (by decide +kernel) (by decide +kernel)
set_option maxRecDepth 100000 in
theorem hq_75 : hP1 75 hc_75 := hP1_of (n := 93) (fun pc h => by unfold hc_75; rw [h]; rfl) (by decide +kernel) (by decide +kernel)
set_option maxRecDepth 100000 in
theorem hq_76 : hP1 76 hc_76 := hP1_of (n := 11) (fun pc h => by unfold hc_76; rw [h]; rfl) (by decide +kernel) (by decide +kernel)
set_option maxRecDepth 100000 in
theorem hq_77 : hP1 77 hc_77 := hP1_of (n := 234) (fun pc h => by unfold hc_77; rw [h]; rfl) (by decide +kernel) (by decide +kernel)
set_option maxRecDepth 100000 in
theorem hq_78 : hP1 78 hc_78 := hP1_of (n := 80) (fun pc h => by unfold hc_78; rw [h]; rfl) (by decide +kernel) (by decide +kernel)
set_option maxRecDepth 100000 in
theorem hq_79 : hP1 79 hc_79 := hP1_of (n := 169) (fun pc h => by unfold hc_79; rw [h]; rfl) (by decide +kernel) (by decide +kernel)
set_option maxRecDepth 100000 in
theorem hq_80 : hP1 80 hc_80 := hP1_of (n := 11) (fun pc h => by unfold hc_80; rw [h]; rfl) (by decide +kernel) (by decide +kernel)
set_option maxRecDepth 100000 in
theorem hq_81 : hP1 81 hc_81 := hP1_of (n := 39) (fun pc h => by unfold hc_81; rw [h]; rfl) (by decide +kernel) (by decide +kernel)
set_option maxRecDepth 100000 in
theorem hq_82 : hP1 82 hc_82 := hP1_of (n := 95) (fun pc h => by unfold hc_82; rw [h]; rfl) (by decide +kernel) (by decide +kernel)
set_option maxRecDepth 100000 in
theorem hq_83 : hP1 83 hc_83 := hP1_of (n := 27) (fun pc h => by unfold hc_83; rw [h]; rfl) (by decide +kernel) (by decide +kernel)
set_option maxRecDepth 100000 in
theorem hq_84 : hP1 84 hc_84 := hP1_of (n := 22) (fun pc h => by unfold hc_84; rw [h]; rfl) (by decide +kernel) (by decide +kernel)
set_option maxRecDepth 100000 in
theorem hq_85 : hP1 85 hc_85 := hP1_of (n := 35) (fun pc h => by unfold hc_85; rw [h]; rfl) (by decide +kernel) (by decide +kernel)
set_option maxRecDepth 100000 in
theorem hq_86 : hP1 86 hc_86 := hP1_of (n := 372) (fun pc h => by unfold hc_86; rw [h]; rfl) (by decide +kernel) (by decide +kernel)
set_option maxRecDepth 100000 in
theorem hq_87 : hP1 87 hc_87 := hP1_of (n := 39) (fun pc h => by unfold hc_87; rw [h]; rfl) (by decide +kernel) (by decide +kernel)
set_option maxRecDepth 100000 in
theorem hq_88 : hP1 88 hc_88 := hP1_of (n := 46) (fun pc h => by unfold hc_88; rw [h]; rfl) (by decide +kernel) (by decide +kernel)
set_option maxRecDepth 100000 in
theorem hq_89 : hP1 89 hc_89 := hP1_of (n := 37) (fun pc h => by unfold hc_89; rw [h]; rfl) (by decide +kernel) (by decide +kernel)
set_option maxRecDepth 100000 in
theorem hq_90 : hP1 90 hc_90 := hP1_of (n := 47) (fun pc h => by unfold hc_90; rw [h]; rfl) (by decide +kernel) (by decide +kernel)
set_option maxRecDepth 100000 in
theorem hq_91 : hP1 91 hc_91 := hP1_of (n := 140) (fun pc h => by unfold hc_91; rw [h]; rfl) (by decide +kernel) (by decide +kernel)
set_option maxRecDepth 100000 in
theorem hq_92 : hP1 92 hc_92 := hP1_of (n := 81) (fun pc h => by unfold hc_92; rw [h]; rfl) (by decide +kernel) (by decide +kernel)
set_option maxRecDepth 100000 in
theorem hq_93 : hP1 93 hc_93 := hP1_of (n := 54) (fun pc h => by unfold hc_93; rw [h]; rfl) (by decide +kernel) (by decide +kernel)
set_option maxRecDepth 100000 in
theorem hq_94 : hP1 94 hc_94 := hP1_of (n := 48) (fun pc h => by unfold hc_94; rw [h]; rfl) (by decide +kernel) (by decide +kernel)
set_option maxRecDepth 100000 in
theorem hq_95 : hP1 95 hc_95 := hP1_of (n := 48) (fun pc h => by unfold hc_95; rw [h]; rfl) (by decide +kernel) (by decide +kernel)
set_option maxRecDepth 100000 in
theorem hq_96 : hP1 96 hc_96 := hP1_of (n := 606) (fun pc h => by unfold hc_96; rw [h]; rfl) (by decide +kernel) (by decide +kernel)
set_option maxRecDepth 100000 in
theorem hq_97 : hP1 97 hc_97 := hP1_of (n := 43) (fun pc h => by unfold hc_97; rw [h]; rfl) (by decide +kernel) (by decide +kernel)
set_option maxRecDepth 100000 in
theorem hq_98 : hP1 98 hc_98 := hP1_of (n := 40) (fun pc h => by unfold hc_98; rw [h]; rfl) (by decide +kernel) (by decide +kernel)
set_option maxRecDepth 100000 in
theorem hq_99 : hP1 99 hc_99 := hP1_of (n := 20) (fun pc h => by unfold hc_99; rw [h]; rfl) (by decide +kernel) (by decide +kernel)
set_option maxRecDepth 100000 in
theorem hq_100 : hP1 100 hc_100 := hP1_of (n := 141) (fun pc h => by unfold hc_100; rw [h]; rfl) (by decide +kernel) (by decide +kernel)
set_option maxRecDepth 100000 in
theorem hq_101 : hP1 101 hc_101 := hP1_of (n := 144) (fun pc h => by unfold hc_101; rw [h]; rfl) (by decide +kernel) (by decide +kernel)
set_option maxRecDepth 100000 in
theorem hq_102 : hP1 102 hc_102 := hP1_of (n := 120) (fun pc h => by unfold hc_102; rw [h]; rfl) (by decide +kernel) (by decide +kernel)
set_option maxRecDepth 100000 in
theorem hq_103 : hP1 103 hc_103 := hP1_of (n := 41) (fun pc h => by unfold hc_103; rw [h]; rfl) (by decide +kernel) (by decide +kernel)
set_option maxRecDepth 100000 in
theorem hq_104 : hP1 104 hc_104 := hP1_of (n := 32) (fun pc h => by unfold hc_104; rw [h]; rfl) (by decide +kernel) (by decide +kernel)
set_option maxRecDepth 100000 in
theorem hq_105 : hP1 105 hc_105 := hP1_of (n := 12) (fun pc h => by unfold hc_105; rw [h]; rfl) (by decide +kernel) (by decide +kernel)
set_option maxRecDepth 100000 in
theorem hq_106 : hP1 106 hc_106 := hP1_of (n := 32) (fun pc h => by unfold hc_106; rw [h]; rfl) (by decide +kernel) (by decide +kernel)
set_option maxRecDepth 100000 in
theorem hq_107 : hP1 107 hc_107 := hP1_of (n := 21) (fun pc h => by unfold hc_107; rw [h]; rfl) (by decide +kernel) (by decide +kernel)
set_option maxRecDepth 100000 in
theorem hq_108 : hP1 108 hc_108 := hP1_of (n := 50) (fun pc h => by unfold hc_108; rw [h]; rfl) (by decide +kernel) (by decide +kernel)
set_option maxRecDepth 100000 in
theorem hq_109 : hP1 109 hc_109 := hP1_of (n := 134) (fun pc h => by unfold hc_109; rw [h]; rfl) (by decide +kernel) (by decide +kernel)
set_option maxRecDepth 100000 in
theorem hq_110 : hP1 110 hc_110 := hP1_of (n := 46) (fun pc h => by unfold hc_110; rw [h]; rfl) (by decide +kernel) (by decide +kernel)
set_option maxRecDepth 100000 in
theorem hq_111 : hP1 111 hc_111 := hP1_of (n := 195) (fun pc h => by unfold hc_111; rw [h]; rfl) (by decide +kernel) (by decide +kernel)
set_option maxRecDepth 100000 in
theorem hq_112 : hP1 112 hc_112 := hP1_of (n := 115) (fun pc h => by unfold hc_112; rw [h]; rfl) (by decide +kernel) (by decide +kernel)
set_option maxRecDepth 100000 in
theorem hq_113 : hP1 113 hc_113 := hP1_of (n := 49) (fun pc h => by unfold hc_113; rw [h]; rfl) (by decide +kernel) (by decide +kernel)
set_option maxRecDepth 100000 in
theorem hq_114 : hP1 114 hc_114 := hP1_of (n := 384) (fun pc h => by unfold hc_114; rw [h]; rfl) (by decide +kernel) (by decide +kernel)
set_option maxRecDepth 100000 in
theorem hq_115 : hP1 115 hc_115 := hP1_of (n := 35) (fun pc h => by unfold hc_115; rw [h]; rfl) (by decide +kernel) (by decide +kernel)
set_option maxRecDepth 100000 in
theorem hq_116 : hP1 116 hc_116 := hP1_of (n := 85) (fun pc h => by unfold hc_116; rw [h]; rfl) (by decide +kernel) (by decide +kernel)
set_option maxRecDepth 100000 in
theorem hq_117 : hP1 117 hc_117 := hP1_of (n := 33) (fun pc h => by unfold hc_117; rw [h]; rfl) (by decide +kernel) (by decide +kernel)
set_option maxRecDepth 100000 in
theorem hq_118 : hP1 118 hc_118 := hP1_of (n := 271) (fun pc h => by unfold hc_118; rw [h]; rfl) (by decide +kernel) (by decide +kernel)
set_option maxRecDepth 100000 in
theorem hq_119 : hP1 119 hc_119 := hP1_of (n := 95) (fun pc h => by unfold hc_119; rw [h]; rfl) (by decide +kernel) (by decide +kernel)
set_option maxRecDepth 100000 in
theorem hq_120 : hP1 120 hc_120 := hP1_of (n := 158) (fun pc h => by unfold hc_120; rw [h]; rfl) (by decide +kernel) (by decide +kernel)
set_option maxRecDepth 100000 in
theorem hq_121 : hP1 121 hc_121 := hP1_of (n := 452) (fun pc h => by unfold hc_121; rw [h]; rfl) (by decide +kernel) (by decide +kernel)
set_option maxRecDepth 100000 in
theorem hq_122 : hP1 122 hc_122 := hP1_of (n := 20) (fun pc h => by unfold hc_122; rw [h]; rfl) (by decide +kernel) (by decide +kernel)
set_option maxRecDepth 100000 in
theorem hq_123 : hP1 123 hc_123 := hP1_of (n := 84) (fun pc h => by unfold hc_123; rw [h]; rfl) (by decide +kernel) (by decide +kernel)
set_option maxRecDepth 100000 in
theorem hq_124 : hP1 124 hc_124 := hP1_of (n := 71) (fun pc h => by unfold hc_124; rw [h]; rfl) (by decide +kernel) (by decide +kernel)
set_option maxRecDepth 100000 in
theorem hq_125 : hP1 125 hc_125 := hP1_of (n := 20) (fun pc h => by unfold hc_125; rw [h]; rfl) (by decide +kernel) (by decide +kernel)
set_option maxRecDepth 100000 in
theorem hq_126 : hP1 126 hc_126 := hP1_of (n := 68) (fun pc h => by unfold hc_126; rw [h]; rfl) (by decide +kernel) (by decide +kernel)
set_option maxRecDepth 100000 in
theorem hq_127 : hP1 127 hc_127 := hP1_of (n := 90) (fun pc h => by unfold hc_127; rw [h]; rfl) (by decide +kernel) (by decide +kernel)
set_option maxRecDepth 100000 in
theorem hq_128 : hP1 128 hc_128 := hP1_of (n := 42) (fun pc h => by unfold hc_128; rw [h]; rfl) (by decide +kernel) (by decide +kernel)
set_option maxRecDepth 100000 in
theorem hq_129 : hP1 129 hc_129 := hP1_of (n := 57) (fun pc h => by unfold hc_129; rw [h]; rfl) (by decide +kernel) (by decide +kernel)
set_option maxRecDepth 100000 in
theorem hq_130 : hP1 130 hc_130 := hP1_of (n := 29) (fun pc h => by unfold hc_130; rw [h]; rfl) (by decide +kernel) (by decide +kernel)
set_option maxRecDepth 100000 in
theorem hq_131 : hP1 131 hc_131 := hP1_of (n := 18) (fun pc h => by unfold hc_131; rw [h]; rfl) (by decide +kernel) (by decide +kernel)
set_option maxRecDepth 100000 in
theorem hq_132 : hP1 132 hc_132 := hP1_of (n := 27) (fun pc h => by unfold hc_132; rw [h]; rfl) (by decide +kernel) (by decide +kernel)
set_option maxRecDepth 100000 in
theorem hq_133 : hP1 133 hc_133 := hP1_of (n := 44) (fun pc h => by unfold hc_133; rw [h]; rfl) (by decide +kernel) (by decide +kernel)
set_option maxRecDepth 100000 in
theorem hq_134 : hP1 134 hc_134 := hP1_of (n := 158) (fun pc h => by unfold hc_134; rw [h]; rfl) (by decide +kernel) (by decide +kernel)
set_option maxRecDepth 100000 in
theorem hq_135 : hP1 135 hc_135 := hP1_of (n := 29) (fun pc h => by unfold hc_135; rw [h]; rfl) (by decide +kernel) (by decide +kernel)
set_option maxRecDepth 100000 in
theorem hq_136 : hP1 136 hc_136 := hP1_of (n := 24) (fun pc h => by unfold hc_136; rw [h]; rfl) (by decide +kernel) (by decide +kernel)
set_option maxRecDepth 100000 in
theorem hq_137 : hP1 137 hc_137 := hP1_of (n := 40) (fun pc h => by unfold hc_137; rw [h]; rfl) (by decide +kernel) (by decide +kernel)
set_option maxRecDepth 100000 in
theorem hq_138 : hP1 138 hc_138 := hP1_of (n := 165) (fun pc h => by unfold hc_138; rw [h]; rfl) (by decide +kernel) (by decide +kernel)
set_option maxRecDepth 100000 in
theorem hq_139 : hP1 139 hc_139 := hP1_of (n := 134) (fun pc h => by unfold hc_139; rw [h]; rfl) (by decide +kernel) (by decide +kernel)
set_option maxRecDepth 100000 in
theorem hq_140 : hP1 140 hc_140 := hP1_of (n := 99) (fun pc h => by unfold hc_140; rw [h]; rfl) (by decide +kernel) (by decide +kernel)
set_option maxRecDepth 100000 in
theorem hq_141 : hP1 141 hc_141 := hP1_of (n := 56) (fun pc h => by unfold hc_141; rw [h]; rfl) (by decide +kernel) (by decide +kernel)
set_option maxRecDepth 100000 in
theorem hq_142 : hP1 142 hc_142 := hP1_of (n := 388) (fun pc h => by unfold hc_142; rw [h]; rfl) (by decide +kernel) (by decide +kernel)
set_option maxRecDepth 100000 in
theorem hq_143 : hP1 143 hc_143 := hP1_of (n := 182) (fun pc h => by unfold hc_143; rw [h]; rfl) (by decide +kernel) (by decide +kernel)
set_option maxRecDepth 100000 in
theorem hq_144 : hP1 144 hc_144 := hP1_of (n := 43) (fun pc h => by unfold hc_144; rw [h]; rfl) (by decide +kernel) (by decide +kernel)
set_option maxRecDepth 100000 in
theorem hq_145 : hP1 145 hc_145 := hP1_of (n := 49) (fun pc h => by unfold hc_145; rw [h]; rfl) (by decide +kernel) (by decide +kernel)
set_option maxRecDepth 100000 in
theorem hq_146 : hP1 146 hc_146 := hP1_of (n := 57) (fun pc h => by unfold hc_146; rw [h]; rfl) (by decide +kernel) (by decide +kernel)
set_option maxRecDepth 100000 in
theorem hq_147 : hP1 147 hc_147 := hP1_of (n := 41) (fun pc h => by unfold hc_147; rw [h]; rfl) (by decide +kernel) (by decide +kernel)
set_option maxRecDepth 100000 in
theorem hq_148 : hP1 148 hc_148 := hP1_of (n := 77) (fun pc h => by unfold hc_148; rw [h]; rfl) (by decide +kernel) (by decide +kernel)
set_option maxRecDepth 100000 in
theorem hq_149 : hP1 149 hc_149 := hP1_of (n := 9) (fun pc h => by unfold hc_149; rw [h]; rfl) (by decide +kernel) (by decide +kernel)
set_option maxRecDepth 100000 in
theorem hq_150 : hP1 150 hc_150 := hP1_of (n := 93) (fun pc h => by unfold hc_150; rw [h]; rfl) (by decide +kernel) (by decide +kernel)
set_option maxRecDepth 100000 in
theorem hq_151 : hP1 151 hc_151 := hP1_of (n := 9) (fun pc h => by unfold hc_151; rw [h]; rfl) (by decide +kernel) (by decide +kernel)
set_option maxRecDepth 100000 in
theorem hq_152 : hP1 152 hc_152 := hP1_of (n := 27) (fun pc h => by unfold hc_152; rw [h]; rfl) (by decide +kernel) (by decide +kernel)
set_option maxRecDepth 100000 in
theorem hq_153 : hP1 153 hc_153 := hP1_of (n := 76) (fun pc h => by unfold hc_153; rw [h]; rfl) (by decide +kernel) (by decide +kernel)
set_option maxRecDepth 100000 in
theorem hq_154 : hP1 154 hc_154 := hP1_of (n := 43) (fun pc h => by unfold hc_154; rw [h]; rfl) (by decide +kernel) (by decide +kernel)
set_option maxRecDepth 100000 in
theorem hq_155 : hP1 155 hc_155 := hP1_of (n := 18) (fun pc h => by unfold hc_155; rw [h]; rfl) (by decide +kernel) (by decide +kernel)
set_option maxRecDepth 100000 in
theorem hq_156 : hP1 156 hc_156 := hP1_of (n := 60) (fun pc h => by unfold hc_156; rw [h]; rfl) (by decide +kernel) (by decide +kernel)
set_option maxRecDepth 100000 in
theorem hq_157 : hP1 157 hc_157 := hP1_of (n := 88) (fun pc h => by unfold hc_157; rw [h]; rfl) (by decide +kernel) (by decide +kernel)
set_option maxRecDepth 100000 in
theorem hq_158 : hP1 158 hc_158 := hP1_of (n := 158) (fun pc h => by unfold hc_158; rw [h]; rfl) (by decide +kernel) (by decide +kernel)
set_option maxRecDepth 100000 in
theorem hq_159 : hP1 159 hc_159 := hP1_of (n := 94) (fun pc h => by unfold hc_159; rw [h]; rfl) (by decide +kernel) (by decide +kernel)
set_option maxRecDepth 100000 in
theorem hq_160 : hP1 160 hc_160 := hP1_of (n := 9) (fun pc h => by unfold hc_160; rw [h]; rfl) (by decide +kernel) (by decide +kernel)
set_option maxRecDepth 100000 in
theorem hq_161 : hP1 161 hc_161 := hP1_of (n := 150) (fun pc h => by unfold hc_161; rw [h]; rfl) (by decide +kernel) (by decide +kernel)
set_option maxRecDepth 100000 in
theorem hq_162 : hP1 162 hc_162 := hP1_of (n := 84) (fun pc h => by unfold hc_162; rw [h]; rfl) (by decide +kernel) (by decide +kernel)
set_option maxRecDepth 100000 in
theorem hq_163 : hP1 163 hc_163 := hP1_of (n := 184) (fun pc h => by unfold hc_163; rw [h]; rfl) (by decide +kernel) (by decide +kernel)
set_option maxRecDepth 100000 in
theorem hq_164 : hP1 164 hc_164 := hP1_of (n := 115) (fun pc h => by unfold hc_164; rw [h]; rfl) (by decide +kernel) (by decide +kernel)
set_option maxRecDepth 100000 in
theorem hq_165 : hP1 165 hc_165 := hP1_of (n := 142) (fun pc h => by unfold hc_165; rw [h]; rfl) (by decide +kernel) (by decide +kernel)
set_option maxRecDepth 100000 in
theorem hq_166 : hP1 166 hc_166 := hP1_of (n := 21) (fun pc h => by unfold hc_166; rw [h]; rfl) (by decide +kernel) (by decide +kernel)
set_option maxRecDepth 100000 in
theorem hq_167 : hP1 167 hc_167 := hP1_of (n := 109) (fun pc h => by unfold hc_167; rw [h]; rfl) (by decide +kernel) (by decide +kernel)
set_option maxRecDepth 100000 in
theorem hq_168 : hP1 168 hc_168 := hP1_of (n := 59) (fun pc h => by unfold hc_168; rw [h]; rfl) (by decide +kernel) (by decide +kernel)
set_option maxRecDepth 100000 in
theorem hq_169 : hP1 169 hc_169 := hP1_of (n := 44) (fun pc h => by unfold hc_169; rw [h]; rfl) (by decide +kernel) (by decide +kernel)
set_option maxRecDepth 100000 in
theorem hq_170 : hP1 170 hc_170 := hP1_of (n := 62) (fun pc h => by unfold hc_170; rw [h]; rfl) (by decide +kernel) (by decide +kernel)
set_option maxRecDepth 100000 in
theorem hq_171 : hP1 171 hc_171 := hP1_of (n := 102) (fun pc h => by unfold hc_171; rw [h]; rfl) (by decide +kernel) (by decide +kernel)
set_option maxRecDepth 100000 in
theorem hq_172 : hP1 172 hc_172 := hP1_of (n := 111) (fun pc h => by unfold hc_172; rw [h]; rfl) (by decide +kernel) (by decide +kernel)
set_option maxRecDepth 100000 in
theorem hq_173 : hP1 173 hc_173 := hP1_of (n := 59) (fun pc h => by unfold hc_173; rw [h]; rfl) (by decide +kernel) (by decide +kernel)
set_option maxRecDepth 100000 in
theorem hq_174 : hP1 174 hc_174 := hP1_of (n := 313) (fun pc h => by unfold hc_174; rw [h]; rfl) (by decide +kernel) (by decide +kernel)
set_option maxRecDepth 100000 in
theorem hq_175 : hP1 175 hc_175 := hP1_of (n := 116) (fun pc h => by unfold hc_175; rw [h]; rfl) (by decide +kernel) (by decide +kernel)
set_option maxRecDepth 100000 in
theorem hq_176 : hP1 176 hc_176 := hP1_of (n := 295) (fun pc h => by unfold hc_176; rw [h]; rfl) (by decide +kernel) (by decide +kernel)
set_option maxRecDepth 100000 in
theorem hq_177 : hP1 177 hc_177 := hP1_of (n := 64) (fun pc h => by unfold hc_177; rw [h]; rfl) (by decide +kernel) (by decide +kernel)
set_option maxRecDepth 100000 in
theorem hq_178 : hP1 178 hc_178 := hP1_of (n := 67) (fun pc h => by unfold hc_178; rw [h]; rfl) (by decide +kernel) (by decide +kernel)
set_option maxRecDepth 100000 in
theorem hq_179 : hP1 179 hc_179 := hP1_of (n := 111) (fun pc h => by unfold hc_179; rw [h]; rfl) (by decide +kernel) (by decide +kernel)
set_option maxRecDepth 100000 in
theorem hq_180 : hP1 180 hc_180 := hP1_of (n := 156) (fun pc h => by unfold hc_180; rw [h]; rfl) (by decide +kernel) (by decide +kernel)
set_option maxRecDepth 100000 in
theorem hq_181 : hP1 181 hc_181 := hP1_of (n := 143) (fun pc h => by unfold hc_181; rw [h]; rfl) (by decide +kernel) (by decide +kernel)
set_option maxRecDepth 100000 in
theorem hq_182 : hP1 182 hc_182 := hP1_of (n := 136) (fun pc h => by unfold hc_182; rw [h]; rfl) (by decide +kernel) (by decide +kernel)
set_option maxRecDepth 100000 in
theorem hq_183 : hP1 183 hc_183 := hP1_of (n := 77) (fun pc h => by unfold hc_183; rw [h]; rfl) (by decide +kernel) (by decide +kernel)
set_option maxRecDepth 100000 in
theorem hq_184 : hP1 184 hc_184 := hP1_of (n := 70) (fun pc h => by unfold hc_184; rw [h]; rfl) (by decide +kernel) (by decide +kernel)
set_option maxRecDepth 100000 in
theorem hq_185 : hP1 185 hc_185 := hP1_of (n := 256) (fun pc h => by unfold hc_185; rw [h]; rfl) (by decide +kernel) (by decide +kernel)
set_option maxRecDepth 100000 in
theorem hq_186 : hP1 186 hc_186 := hP1_of (n := 35) (fun pc h => by unfold hc_186; rw [h]; rfl) (by decide +kernel) (by decide +kernel)
set_option maxRecDepth 100000 in
theorem hq_187 : hP1 187 hc_187 := hP1_of (n := 50) (fun pc h => by unfold hc_187; rw [h]; rfl) (by decide +kernel) (by decide +kernel)
set_option maxRecDepth 100000 in
theorem hq_188 : hP1 188 hc_188 := hP1_of (n := 199) (fun pc h => by unfold hc_188; rw [h]; rfl) (by decide +kernel) (by decide +kernel)
set_option maxRecDepth 100000 in
theorem hq_189 : hP1 189 hc_189 := hP1_of (n := 29) (fun pc h => by unfold hc_189; rw [h]; rfl) (by decide +kernel) (by decide +kernel)
set_option maxRecDepth 100000 in
theorem hq_190 : hP1 190 hc_190 := hP1_of (n := 63) (fun pc h => by unfold hc_190; rw [h]; rfl) (by decide +kernel) (by decide +kernel)
set_option maxRecDepth 100000 in
theorem hq_191 : hP1 191 hc_191 := hP1_of (n := 89) (fun pc h => by unfold hc_191; rw [h]; rfl) (by decide +kernel) (by decide +kernel)
set_option maxRecDepth 100000 in
theorem hq_192 : hP1 192 hc_192 := hP1_of (n := 111) (fun pc h => by unfold hc_192; rw [h]; rfl) (by decide +kernel) (by decide +kernel)
set_option maxRecDepth 100000 in
theorem hq_193 : hP1 193 hc_193 := hP1_of (n := 135) (fun pc h => by unfold hc_193; rw [h]; rfl) (by decide +kernel) (by decide +kernel)
set_option maxRecDepth 100000 in
theorem hq_194 : hP1 194 hc_194 := hP1_of (n := 18) (fun pc h => by unfold hc_194; rw [h]; rfl) (by decide +kernel) (by decide +kernel)
set_option maxRecDepth 100000 in
theorem hq_195 : hP1 195 hc_195 := hP1_of (n := 64) (fun pc h => by unfold hc_195; rw [h]; rfl) (by decide +kernel) (by decide +kernel)
set_option maxRecDepth 100000 in
theorem hq_196 : hP1 196 hc_196 := hP1_of (n := 81) (fun pc h => by unfold hc_196; rw [h]; rfl) (by decide +kernel) (by decide +kernel)
set_option maxRecDepth 100000 in
theorem hq_197 : hP1 197 hc_197 := hP1_of (n := 85) (fun pc h => by unfold hc_197; rw [h]; rfl) (by decide +kernel) (by decide +kernel)
set_option maxRecDepth 100000 in
theorem hq_198 : hP1 198 hc_198 := hP1_of (n := 78) (fun pc h => by unfold hc_198; rw [h]; rfl) (by decide +kernel) (by decide +kernel)
set_option maxRecDepth 100000 in
theorem hq_199 : hP1 199 hc_199 := hP1_of (n := 77) (fun pc h => by unfold hc_199; rw [h]; rfl) (by decide +kernel) (by decide +kernel)
set_option maxRecDepth 100000 in
theorem hq_200 : hP1 200 hc_200 := hP1_of (n := 49) (fun pc h => by unfold hc_200; rw [h]; rfl) (by decide +kernel) (by decide +kernel)
set_option maxRecDepth 100000 in
theorem hq_201 : hP1 201 hc_201 := hP1_of (n := 126) (fun pc h => by unfold hc_201; rw [h]; rfl) (by decide +kernel) (by decide +kernel)
set_option maxRecDepth 100000 in
theorem hq_202 : hP1 202 hc_202 := hP1_of (n := 41) (fun pc h => by unfold hc_202; rw [h]; rfl) (by decide +kernel) (by decide +kernel)
set_option maxRecDepth 100000 in
theorem hq_203 : hP1 203 hc_203 := hP1_of (n := 5) (fun pc h => by unfold hc_203; rw [h]; rfl) (by decide +kernel) (by decide +kernel)
set_option maxRecDepth 100000 in
theorem hq_204 : hP1 204 hc_204 := hP1_of (n := 23) (fun pc h => by unfold hc_204; rw [h]; rfl) (by decide +kernel) (by decide +kernel)
set_option maxRecDepth 100000 in
theorem hq_205 : hP1 205 hc_205 := hP1_of (n := 66) (fun pc h => by unfold hc_205; rw [h]; rfl) (by decide +kernel) (by decide +kernel)
set_option maxRecDepth 100000 in
theorem hq_206 : hP1 206 hc_206 := hP1_of (n := 26) (fun pc h => by unfold hc_206; rw [h]; rfl) (by decide +kernel) (by decide +kernel)
set_option maxRecDepth 100000 in
theorem hq_207 : hP1 207 hc_207 := hP1_of (n := 33) (fun pc h => by unfold hc_207; rw [h]; rfl) (by decide +kernel) (by decide +kernel)
set_option maxRecDepth 100000 in
theorem hq_208 : hP1 208 hc_208 := hP1_of (n := 12) (fun pc h => by unfold hc_208; rw [h]; rfl) (by decide +kernel) (by decide +kernel)
set_option maxRecDepth 100000 in
theorem hq_209 : hP1 209 hc_209 := hP1_of (n := 32) (fun pc h => by unfold hc_209; rw [h]; rfl) (by decide +kernel) (by decide +kernel)
set_option maxRecDepth 100000 in
theorem hq_210 : hP1 210 hc_210 := hP1_of (n := 12) (fun pc h => by unfold hc_210; rw [h]; rfl) (by decide +kernel) (by decide +kernel)
set_option maxRecDepth 100000 in
theorem hq_211 : hP1 211 hc_211 := hP1_of (n := 8) (fun pc h => by unfold hc_211; rw [h]; rfl) (by decide +kernel) (by decide +kernel)
set_option maxRecDepth 100000 in
theorem hq_212 : hP1 212 hc_212 := hP1_of (n := 23) (fun pc h => by unfold hc_212; rw [h]; rfl) (by decide +kernel) (by decide +kernel)
set_option maxRecDepth 100000 in
theorem hq_213 : hP1 213 hc_213 := hP1_of (n := 37) (fun pc h => by unfold hc_213; rw [h]; rfl) (by decide +kernel) (by decide +kernel)
set_option maxRecDepth 100000 in
theorem hq_214 : hP1 214 hc_214 := hP1_of (n := 8) (fun pc h => by unfold hc_214; rw [h]; rfl) (by decide +kernel) (by decide +kernel)
set_option maxRecDepth 100000 in
theorem hq_215 : hP1 215 hc_215 := hP1_of (n := 9) (fun pc h => by unfold hc_215; rw [h]; rfl) (by decide +kernel) (by decide +kernel)
set_option maxRecDepth 100000 in
theorem hq_216 : hP1 216 hc_216 := hP1_of (n := 69) (fun pc h => by unfold hc_216; rw [h]; rfl) (by decide +kernel) (by decide +kernel)
set_option maxRecDepth 100000 in
theorem hq_217 : hP1 217 hc_217 := hP1_of (n := 9) (fun pc h => by unfold hc_217; rw [h]; rfl) (by decide +kernel) (by decide +kernel)
set_option maxRecDepth 100000 in
theorem hq_218 : hP1 218 hc_218 := hP1_of (n := 133) (fun pc h => by unfold hc_218; rw [h]; rfl) (by decide +kernel) (by decide +kernel)
set_option maxRecDepth 100000 in
theorem hq_219 : hP1 219 hc_219 := hP1_of (n := 43) (fun pc h => by unfold hc_219; rw [h]; rfl) (by decide +kernel) (by decide +kernel)
set_option maxRecDepth 100000 in
theorem hq_220 : hP1 220 hc_220 := hP1_of (n := 26) (fun pc h => by unfold hc_220; rw [h]; rfl) (by decide +kernel) (by decide +kernel)
set_option maxRecDepth 100000 in
theorem hq_221 : hP1 221 hc_221 := hP1_of (n := 85) (fun pc h => by unfold hc_221; rw [h]; rfl) (by decide +kernel) (by decide +kernel)
set_option maxRecDepth 100000 in
theorem hq_222 : hP1 222 hc_222 := hP1_of (n := 123) (fun pc h => by unfold hc_222; rw [h]; rfl) (by decide +kernel) (by decide +kernel)
set_option maxRecDepth 100000 in
theorem hq_223 : hP1 223 hc_223 := hP1_of (n := 91) (fun pc h => by unfold hc_223; rw [h]; rfl) (by decide +kernel) (by decide +kernel)
set_option maxRecDepth 100000 in
theorem hq_224 : hP1 224 hc_224 := hP1_of (n := 97) (fun pc h => by unfold hc_224; rw [h]; rfl) (by decide +kernel) (by decide +kernel)
set_option maxRecDepth 100000 in
theorem hq_225 : hP1 225 hc_225 := hP1_of (n := 53) (fun pc h => by unfold hc_225; rw [h]; rfl) (by decide +kernel) (by decide +kernel)
set_option maxRecDepth 100000 in
theorem hq_226 : hP1 226 hc_226 := hP1_of (n := 85) (fun pc h => by unfold hc_226; rw [h]; rfl) (by decide +kernel) (by decide +kernel)
set_option maxRecDepth 100000 in
theorem hq_227 : hP1 227 hc_227 := hP1_of (n := 2233) (fun pc h => by unfold hc_227; rw [h]; rfl) (by decide +kernel) (by decide +kernel)
set_option maxRecDepth 100000 in
theorem hq_228 : hP1 228 hc_228 := hP1_of (n := 20) (fun pc h => by unfold hc_228; rw [h]; rfl) (by decide +kernel) (by decide +kernel)
set_option maxRecDepth 100000 in
theorem hq_229 : hP1 229 hc_229 := hP1_of (n := 47) (fun pc h => by unfold hc_229; rw [h]; rfl) (by decide +kernel) (by decide +kernel)
set_option maxRecDepth 100000 in
theorem hq_230 : hP1 230 hc_230 := hP1_of (n := 36) (fun pc h => by unfold hc_230; rw [h]; rfl) (by decide +kernel) (by decide +kernel)
set_option maxRecDepth 100000 in
theorem hq_231 : hP1 231 hc_231 := hP1_of (n := 149) (fun pc h => by unfold hc_231; rw [h]; rfl) (by decide +kernel) (by decide +kernel)
set_option maxRecDepth 100000 in
theorem hq_232 : hP1 232 hc_232 := hP1_of (n := 35) (fun pc h => by unfold hc_232; rw [h]; rfl) (by decide +kernel) (by decide +kernel)
set_option maxRecDepth 100000 in
theorem hq_233 : hP1 233 hc_233 := hP1_of (n := 116) (fun pc h => by unfold hc_233; rw [h]; rfl) (by decide +kernel) (by decide +kernel)
set_option maxRecDepth 100000 in
theorem hq_234 : hP1 234 hc_234 := hP1_of (n := 81) (fun pc h => by unfold hc_234; rw [h]; rfl) (by decide +kernel) (by decide +kernel)
set_option maxRecDepth 100000 in
theorem hq_235 : hP1 235 hc_235 := hP1_of (n := 70) (fun pc h => by unfold hc_235; rw [h]; rfl) (by decide +kernel) (by decide +kernel)
set_option maxRecDepth 100000 in
theorem hq_236 : hP1 236 hc_236 := hP1_of (n := 45) (fun pc h => by unfold hc_236; rw [h]; rfl) (by decide +kernel) (by decide +kernel)
set_option maxRecDepth 100000 in
theorem hq_237 : hP1 237 hc_237 := hP1_of (n := 47) (fun pc h => by unfold hc_237; rw [h]; rfl) (by decide +kernel) (by decide +kernel)
set_option maxRecDepth 100000 in
theorem hq_238 : hP1 238 hc_238 := hP1_of (n := 133) (fun pc h => by unfold hc_238; rw [h]; rfl) (by decide +kernel) (by decide +kernel)
set_option maxRecDepth 100000 in
theorem hq_239 : hP1 239 hc_239 := hP1_of (n := 179) (fun pc h => by unfold hc_239; rw [h]; rfl) (by decide +kernel) (by decide +kernel)
set_option maxRecDepth 100000 in
theorem hq_240 : hP1 240 hc_240 := hP1_of (n := 96) (fun pc h => by unfold hc_240; rw [h]; rfl) (by decide +kernel) (by decide +kernel)
set_option maxRecDepth 100000 in
theorem hq_241 : hP1 241 hc_241 := hP1_of (n := 28) (fun pc h => by unfold hc_241; rw [h]; rfl) (by decide +kernel) (by decide +kernel)
set_option maxRecDepth 100000 in
theorem hq_242 : hP1 242 hc_242 := hP1_of (n := 68) (fun pc h => by unfold hc_242; rw [h]; rfl) (by decide +kernel) (by decide +kernel)
set_option maxRecDepth 100000 in
theorem hq_243 : hP1 243 hc_243 := hP1_of (n := 9) (fun pc h => by unfold hc_243; rw [h]; rfl) (by decide +kernel) (by decide +kernel)
set_option maxRecDepth 100000 in
theorem hq_244 : hP1 244 hc_244 := hP1_of (n := 85) (fun pc h => by unfold hc_244; rw [h]; rfl) (by decide +kernel) (by decide +kernel)
set_option maxRecDepth 100000 in
theorem hq_245 : hP1 245 hc_245 := hP1_of (n := 53) (fun pc h => by unfold hc_245; rw [h]; rfl) (by decide +kernel) (by decide +kernel)
set_option maxRecDepth 100000 in
theorem hq_246 : hP1 246 hc_246 := hP1_of (n := 43) (fun pc h => by unfold hc_246; rw [h]; rfl) (by decide +kernel) (by decide +kernel)
set_option maxRecDepth 100000 in
theorem hq_247 : hP1 247 hc_247 := hP1_of (n := 7) (fun pc h => by unfold hc_247; rw [h]; rfl) (by decide +kernel) (by decide +kernel)
set_option maxRecDepth 100000 in
theorem hq_248 : hP1 248 hc_248 := hP1_of (n := 61) (fun pc h => by unfold hc_248; rw [h]; rfl) (by decide +kernel) (by decide +kernel)
set_option maxRecDepth 100000 in
theorem hq_249 : hP1 249 hc_249 := hP1_of (n := 60) (fun pc h => by unfold hc_249; rw [h]; rfl) (by decide +kernel) (by decide +kernel)
set_option maxRecDepth 100000 in
theorem hq_250 : hP1 250 hc_250 := hP1_of (n := 40) (fun pc h => by unfold hc_250; rw [h]; rfl) (by decide +kernel) (by decide +kernel)
set_option maxRecDepth 100000 in
theorem hq_251 : hP1 251 hc_251 := hP1_of (n := 25) (fun pc h => by unfold hc_251; rw [h]; rfl) (by decide +kernel) (by decide +kernel)
set_option maxRecDepth 100000 in
theorem hq_252 : hP1 252 hc_252 := hP1_of (n := 15) (fun pc h => by unfold hc_252; rw [h]; rfl) (by decide +kernel) (by decide +kernel)
set_option maxRecDepth 100000 in
theorem hq_253 : hP1 253 hc_253 := hP1_of (n := 241) (fun pc h => by unfold hc_253; rw [h]; rfl) (by decide +kernel) (by decide +kernel)
set_option maxRecDepth 100000 in
theorem hq_254 : hP1 254 hc_254 := hP1_of (n := 129) (fun pc h => by unfold hc_254; rw [h]; rfl) (by decide +kernel) (by decide +kernel)
set_option maxRecDepth 100000 in
theorem hq_255 : hP1 255 hc_255 := hP1_of (n := 26) (fun pc h => by unfold hc_255; rw [h]; rfl) (by decide +kernel) (by decide +kernel)
set_option maxRecDepth 100000 in
theorem hq_256 : hP1 256 hc_256 := hP1_of (n := 64) (fun pc h => by unfold hc_256; rw [h]; rfl) (by decide +kernel) (by decide +kernel)
set_option maxRecDepth 100000 in
theorem hq_257 : hP1 257 hc_257 := hP1_of (n := 43) (fun pc h => by unfold hc_257; rw [h]; rfl) (by decide +kernel) (by decide +kernel)
set_option maxRecDepth 100000 in
theorem hq_258 : hP1 258 hc_258 := hP1_of (n := 155) (fun pc h => by unfold hc_258; rw [h]; rfl) (by decide +kernel) (by decide +kernel)
set_option maxRecDepth 100000 in
theorem hq_259 : hP1 259 hc_259 := hP1_of (n := 80) (fun pc h => by unfold hc_259; rw [h]; rfl) (by decide +kernel) (by decide +kernel)
set_option maxRecDepth 100000 in
theorem hq_260 : hP1 260 hc_260 := hP1_of (n := 37) (fun pc h => by unfold hc_260; rw [h]; rfl) (by decide +kernel) (by decide +kernel)
set_option maxRecDepth 100000 in
theorem hq_261 : hP1 261 hc_261 := hP1_of (n := 53) (fun pc h => by unfold hc_261; rw [h]; rfl) (by decide +kernel) (by decide +kernel)
set_option maxRecDepth 100000 in
theorem hq_262 : hP1 262 hc_262 := hP1_of (n := 75) (fun pc h => by unfold hc_262; rw [h]; rfl) (by decide +kernel) (by decide +kernel)
set_option maxRecDepth 100000 in
theorem hq_263 : hP1 263 hc_263 := hP1_of (n := 20) (fun pc h => by unfold hc_263; rw [h]; rfl) (by decide +kernel) (by decide +kernel)
set_option maxRecDepth 100000 in
theorem hq_264 : hP1 264 hc_264 := hP1_of (n := 63) (fun pc h => by unfold hc_264; rw [h]; rfl) (by decide +kernel) (by decide +kernel)
set_option maxRecDepth 100000 in
theorem hq_265 : hP1 265 hc_265 := hP1_of (n := 20) (fun pc h => by unfold hc_265; rw [h]; rfl) (by decide +kernel) (by decide +kernel)
set_option maxRecDepth 100000 in
theorem hq_266 : hP1 266 hc_266 := hP1_of (n := 327) (fun pc h => by unfold hc_266; rw [h]; rfl) (by decide +kernel) (by decide +kernel)
set_option maxRecDepth 100000 in
theorem hq_267 : hP1 267 hc_267 := hP1_of (n := 129) (fun pc h => by unfold hc_267; rw [h]; rfl) (by decide +kernel) (by decide +kernel)
set_option maxRecDepth 100000 in
theorem hq_268 : hP1 268 hc_268 := hP1_of (n := 120) (fun pc h => by unfold hc_268; rw [h]; rfl) (by decide +kernel) (by decide +kernel)
set_option maxRecDepth 100000 in
theorem hq_269 : hP1 269 hc_269 := hP1_of (n := 69) (fun pc h => by unfold hc_269; rw [h]; rfl) (by decide +kernel) (by decide +kernel)
set_option maxRecDepth 100000 in
theorem hq_270 : hP1 270 hc_270 := hP1_of (n := 26) (fun pc h => by unfold hc_270; rw [h]; rfl) (by decide +kernel) (by decide +kernel)
set_option maxRecDepth 100000 in
theorem hq_271 : hP1 271 hc_271 := hP1_of (n := 55) (fun pc h => by unfold hc_271; rw [h]; rfl) (by decide +kernel) (by decide +kernel)
set_option maxRecDepth 100000 in
theorem hq_272 : hP1 272 hc_272 := hP1_of (n := 27) (fun pc h => by unfold hc_272; rw [h]; rfl) (by decide +kernel) (by decide +kernel)
set_option maxRecDepth 100000 in
theorem hq_273 : hP1 273 hc_273 := hP1_of (n := 45) (fun pc h => by unfold hc_273; rw [h]; rfl) (by decide +kernel) (by decide +kernel)
set_option maxRecDepth 100000 in
theorem hq_274 : hP1 274 hc_274 := hP1_of (n := 191) (fun pc h => by unfold hc_274; rw [h]; rfl) (by decide +kernel) (by decide +kernel)
set_option maxRecDepth 100000 in
theorem hq_275 : hP1 275 hc_275 := hP1_of (n := 197) (fun pc h => by unfold hc_275; rw [h]; rfl) (by decide +kernel) (by decide +kernel)
set_option maxRecDepth 100000 in
theorem hq_276 : hP1 276 hc_276 := hP1_of (n := 70) (fun pc h => by unfold hc_276; rw [h]; rfl) (by decide +kernel) (by decide +kernel)
set_option maxRecDepth 100000 in
theorem hq_277 : hP1 277 hc_277 := hP1_of (n := 22) (fun pc h => by unfold hc_277; rw [h]; rfl) (by decide +kernel) (by decide +kernel)
set_option maxRecDepth 100000 in
theorem hq_278 : hP1 278 hc_278 := hP1_of (n := 121) (fun pc h => by unfold hc_278; rw [h]; rfl) (by decide +kernel) (by decide +kernel)
set_option maxRecDepth 100000 in
theorem hq_279 : hP1 279 hc_279 := hP1_of (n := 366) (fun pc h => by unfold hc_279; rw [h]; rfl) (by decide +kernel) (by decide +kernel)
set_option maxRecDepth 100000 in
theorem hq_280 : hP1 280 hc_280 := hP1_of (n := 215) (fun pc h => by unfold hc_280; rw [h]; rfl) (by decide +kernel) (by decide +kernel)
set_option maxRecDepth 100000 in
theorem hq_281 : hP1 281 hc_281 := hP1_of (n := 102) (fun pc h => by unfold hc_281; rw [h]; rfl) (by decide +kernel) (by decide +kernel)
set_option maxRecDepth 100000 in
theorem hq_282 : hP1 282 hc_282 := hP1_of (n := 19) (fun pc h => by unfold hc_282; rw [h]; rfl) (by decide +kernel) (by decide +kernel)
set_option maxRecDepth 100000 in
theorem hq_283 : hP1 283 hc_283 := hP1_of (n := 26) (fun pc h => by unfold hc_283; rw [h]; rfl) (by decide +kernel) (by decide +kernel)
set_option maxRecDepth 100000 in
theorem hq_284 : hP1 284 hc_284 := hP1_of (n := 55) (fun pc h => by unfold hc_284; rw [h]; rfl) (by decide +kernel) (by decide +kernel)
set_option maxRecDepth 100000 in
theorem hq_285 : hP1 285 hc_285 := hP1_of (n := 318) (fun pc h => by unfold hc_285; rw [h]; rfl) (by decide +kernel) (by decide +kernel)
set_option maxRecDepth 100000 in
theorem hq_286 : hP1 286 hc_286 := hP1_of (n := 117) (fun pc h => by unfold hc_286; rw [h]; rfl) (by decide +kernel) (by decide +kernel)
set_option maxRecDepth 100000 in
theorem hq_287 : hP1 287 hc_287 := hP1_of (n := 10) (fun pc h => by unfold hc_287; rw [h]; rfl) (by decide +kernel) (by decide +kernel)
set_option maxRecDepth 100000 in
theorem hq_288 : hP1 288 hc_288 := hP1_of (n := 143) (fun pc h => by unfold hc_288; rw [h]; rfl) (by decide +kernel) (by decide +kernel)
set_option maxRecDepth 100000 in
theorem hq_289 : hP1 289 hc_289 := hP1_of (n := 29) (fun pc h => by unfold hc_289; rw [h]; rfl) (by decide +kernel) (by decide +kernel)
set_option maxRecDepth 100000 in
theorem hq_290 : hP1 290 hc_290 := hP1_of (n := 38) (fun pc h => by unfold hc_290; rw [h]; rfl) (by decide +kernel) (by decide +kernel)
set_option maxRecDepth 100000 in
theorem hq_291 : hP1 291 hc_291 := hP1_of (n := 25) (fun pc h => by unfold hc_291; rw [h]; rfl) (by decide +kernel) (by decide +kernel)
set_option maxRecDepth 100000 in
theorem hq_292 : hP1 292 hc_292 := hP1_of (n := 80) (fun pc h => by unfold hc_292; rw [h]; rfl) (by decide +kernel) (by decide +kernel)
set_option maxRecDepth 100000 in
theorem hq_293 : hP1 293 hc_293 := hP1_of (n := 83) (fun pc h => by unfold hc_293; rw [h]; rfl) (by decide +kernel) (by decide +kernel)
set_option maxRecDepth 100000 in
theorem hq_294 : hP1 294 hc_294 := hP1_of (n := 56) (fun pc h => by unfold hc_294; rw [h]; rfl) (by decide +kernel) (by decide +kernel)
set_option maxRecDepth 100000 in
theorem hq_295 : hP1 295 hc_295 := hP1_of (n := 107) (fun pc h => by unfold hc_295; rw [h]; rfl) (by decide +kernel) (by decide +kernel)
set_option maxRecDepth 100000 in
theorem hq_296 : hP1 296 hc_296 := hP1_of (n := 40) (fun pc h => by unfold hc_296; rw [h]; rfl) (by decide +kernel) (by decide +kernel)
set_option maxRecDepth 100000 in
theorem hq_297 : hP1 297 hc_297 := hP1_of (n := 336) (fun pc h => by unfold hc_297; rw [h]; rfl) (by decide +kernel) (by decide +kernel)
set_option maxRecDepth 100000 in
theorem hq_298 : hP1 298 hc_298 := hP1_of (n := 132) (fun pc h => by unfold hc_298; rw [h]; rfl) (by decide +kernel) (by decide +kernel)
set_option maxRecDepth 100000 in
theorem hq_299 : hP1 299 hc_299 := hP1_of (n := 41) (fun pc h => by unfold hc_299; rw [h]; rfl) (by decide +kernel) (by decide +kernel)
set_option maxRecDepth 100000 in
theorem hq_300 : hP1 300 hc_300 := hP1_of (n := 133) (fun pc h => by unfold hc_300; rw [h]; rfl) (by decide +kernel) (by decide +kernel)
set_option maxRecDepth 100000 in
theorem hq_301 : hP1 301 hc_301 := hP1_of (n := 205) (fun pc h => by unfold hc_301; rw [h]; rfl) (by decide +kernel) (by decide +kernel)
set_option maxRecDepth 100000 in
theorem hq_302 : hP1 302 hc_302 := hP1_of (n := 482) (fun pc h => by unfold hc_302; rw [h]; rfl) (by decide +kernel) (by decide +kernel)
set_option maxRecDepth 100000 in
theorem hq_303 : hP1 303 hc_303 := hP1_of (n := 242) (fun pc h => by unfold hc_303; rw [h]; rfl) (by decide +kernel) (by decide +kernel)
set_option maxRecDepth 100000 in
theorem hq_304 : hP1 304 hc_304 := hP1_of (n := 91) (fun pc h => by unfold hc_304; rw [h]; rfl) (by decide +kernel) (by decide +kernel)
set_option maxRecDepth 100000 in
theorem hq_305 : hP1 305 hc_305 := hP1_of (n := 33) (fun pc h => by unfold hc_305; rw [h]; rfl) (by decide +kernel) (by decide +kernel)
set_option maxRecDepth 100000 in
theorem hq_306 : hP1 306 hc_306 := hP1_of (n := 80) (fun pc h => by unfold hc_306; rw [h]; rfl) (by decide +kernel) (by decide +kernel)
set_option maxRecDepth 100000 in
theorem hq_307 : hP1 307 hc_307 := hP1_of (n := 65) (fun pc h => by unfold hc_307; rw [h]; rfl) (by decide +kernel) (by decide +kernel)
set_option maxRecDepth 100000 in
theorem hq_308 : hP1 308 hc_308 := hP1_of (n := 27) (fun pc h => by unfold hc_308; rw [h]; rfl) (by decide +kernel) (by decide +kernel)
set_option maxRecDepth 100000 in
theorem hq_309 : hP1 309 hc_309 := hP1_of (n := 93) (fun pc h => by unfold hc_309; rw [h]; rfl) (by decide +kernel) (by decide +kernel)
set_option maxRecDepth 100000 in
theorem hq_310 : hP1 310 hc_310 := hP1_of (n := 267) (fun pc h => by unfold hc_310; rw [h]; rfl) (by decide +kernel) (by decide +kernel)
set_option maxRecDepth 100000 in
theorem hq_311 : hP1 311 hc_311 := hP1_of (n := 144) (fun pc h => by unfold hc_311; rw [h]; rfl) (by decide +kernel) (by decide +kernel)
set_option maxRecDepth 100000 in
theorem hq_312 : hP1 312 hc_312 := hP1_of (n := 54) (fun pc h => by unfold hc_312; rw [h]; rfl) (by decide +kernel) (by decide +kernel)
set_option maxRecDepth 100000 in
theorem hq_313 : hP1 313 hc_313 := hP1_of (n := 63) (fun pc h => by unfold hc_313; rw [h]; rfl) (by decide +kernel) (by decide +kernel)
set_option maxRecDepth 100000 in
theorem hq_314 : hP1 314 hc_314 := hP1_of (n := 54) (fun pc h => by unfold hc_314; rw [h]; rfl) (by decide +kernel) (by decide +kernel)
set_option maxRecDepth 100000 in
theorem hq_315 : hP1 315 hc_315 := hP1_of (n := 91) (fun pc h => by unfold hc_315; rw [h]; rfl) (by decide +kernel) (by decide +kernel)
set_option maxRecDepth 100000 in
theorem hq_316 : hP1 316 hc_316 := hP1_of (n := 70) (fun pc h => by unfold hc_316; rw [h]; rfl) (by decide +kernel) (by decide +kernel)
set_option maxRecDepth 100000 in
theorem hq_317 : hP1 317 hc_317 := hP1_of (n := 56) (fun pc h => by unfold hc_317; rw [h]; rfl) (by decide +kernel) (by decide +kernel)
set_option maxRecDepth 100000 in
theorem hq_318 : hP1 318 hc_318 := hP1_of (n := 14) (fun pc h => by unfold hc_318; rw [h]; rfl) (by decide +kernel) (by decide +kernel)
set_option maxRecDepth 100000 in
theorem hq_319 : hP1 319 hc_319 := hP1_of (n := 14) (fun pc h => by unfold hc_319; rw [h]; rfl) (by decide +kernel) (by decide +kernel)
set_option maxRecDepth 100000 in
theorem hq_320 : hP1 320 hc_320 := hP1_of (n := 137) (fun pc h => by unfold hc_320; rw [h]; rfl) (by decide +kernel) (by decide +kernel)
set_option maxRecDepth 100000 in
theorem hq_321 : hP1 321 hc_321 := hP1_of (n := 67) (fun pc h => by unfold hc_321; rw [h]; rfl) (by decide +kernel) (by decide +kernel)
set_option maxRecDepth 100000 in
theorem hq_322 : hP1 322 hc_322 := hP1_of (n := 90) (fun pc h => by unfold hc_322; rw [h]; rfl) (by decide +kernel) (by decide +kernel)
set_option maxRecDepth 100000 in
theorem hq_323 : hP1 323 hc_323 := hP1_of (n := 126) (fun pc h => by unfold hc_323; rw [h]; rfl) (by decide +kernel) (by decide +kernel)
set_option maxRecDepth 100000 in
theorem hq_324 : hP1 324 hc_324 := hP1_of (n := 51) (fun pc h => by unfold hc_324; rw [h]; rfl) (by decide +kernel) (by decide +kernel)
set_option maxRecDepth 100000 in
theorem hq_325 : hP1 325 hc_325 := hP1_of (n := 73) (fun pc h => by unfold hc_325; rw [h]; rfl) (by decide +kernel) (by decide +kernel)
set_option maxRecDepth 100000 in
theorem hq_326 : hP1 326 hc_326 := hP1_of (n := 225) (fun pc h => by unfold hc_326; rw [h]; rfl) (by decide +kernel) (by decide +kernel)
set_option maxRecDepth 100000 in
theorem hq_327 : hP1 327 hc_327 := hP1_of (n := 29) (fun pc h => by unfold hc_327; rw [h]; rfl) (by decide +kernel) (by decide +kernel)
set_option maxRecDepth 100000 in
theorem hq_328 : hP1 328 hc_328 := hP1_of (n := 283) (fun pc h => by unfold hc_328; rw [h]; rfl) (by decide +kernel) (by decide +kernel)
set_option maxRecDepth 100000 in
theorem hq_329 : hP1 329 hc_329 := hP1_of (n := 19) (fun pc h => by unfold hc_329; rw [h]; rfl) (by decide +kernel) (by decide +kernel)
set_option maxRecDepth 100000 in
theorem hq_330 : hP1 330 hc_330 := hP1_of (n := 182) (fun pc h => by unfold hc_330; rw [h]; rfl) (by decide +kernel) (by decide +kernel)
set_option maxRecDepth 100000 in
theorem hq_331 : hP1 331 hc_331 := hP1_of (n := 225) (fun pc h => by unfold hc_331; rw [h]; rfl) (by decide +kernel) (by decide +kernel)
set_option maxRecDepth 100000 in
theorem hq_332 : hP1 332 hc_332 := hP1_of (n := 216) (fun pc h => by unfold hc_332; rw [h]; rfl) (by decide +kernel) (by decide +kernel)
set_option maxRecDepth 100000 in
theorem hq_333 : hP1 333 hc_333 := hP1_of (n := 43) (fun pc h => by unfold hc_333; rw [h]; rfl) (by decide +kernel) (by decide +kernel)
set_option maxRecDepth 100000 in
theorem hq_334 : hP1 334 hc_334 := hP1_of (n := 29) (fun pc h => by unfold hc_334; rw [h]; rfl) (by decide +kernel) (by decide +kernel)
set_option maxRecDepth 100000 in
theorem hq_335 : hP1 335 hc_335 := hP1_of (n := 33) (fun pc h => by unfold hc_335; rw [h]; rfl) (by decide +kernel) (by decide +kernel)
set_option maxRecDepth 100000 in
theorem hq_336 : hP1 336 hc_336 := hP1_of (n := 62) (fun pc h => by unfold hc_336; rw [h]; rfl) (by decide +kernel) (by decide +kernel)
set_option maxRecDepth 100000 in
theorem hq_337 : hP1 337 hc_337 := hP1_of (n := 53) (fun pc h => by unfold hc_337; rw [h]; rfl) (by decide +kernel) (by decide +kernel)
set_option maxRecDepth 100000 in
theorem hq_338 : hP1 338 hc_338 := hP1_of (n := 74) (fun pc h => by unfold hc_338; rw [h]; rfl) (by decide +kernel) (by decide +kernel)
set_option maxRecDepth 100000 in
theorem hq_339 : hP1 339 hc_339 := hP1_of (n := 38) (fun pc h => by unfold hc_339; rw [h]; rfl) (by decide +kernel) (by decide +kernel)
set_option maxRecDepth 100000 in
theorem hq_340 : hP1 340 hc_340 := hP1_of (n := 74) (fun pc h => by unfold hc_340; rw [h]; rfl) (by decide +kernel) (by decide +kernel)
set_option maxRecDepth 100000 in
theorem hq_341 : hP1 341 hc_341 := hP1_of (n := 58) (fun pc h => by unfold hc_341; rw [h]; rfl) (by decide +kernel) (by decide +kernel)
set_option maxRecDepth 100000 in
theorem hq_342 : hP1 342 hc_342 := hP1_of (n := 51) (fun pc h => by unfold hc_342; rw [h]; rfl) (by decide +kernel) (by decide +kernel)
set_option maxRecDepth 100000 in
theorem hq_343 : hP1 343 hc_343 := hP1_of (n := 35) (fun pc h => by unfold hc_343; rw [h]; rfl) (by decide +kernel) (by decide +kernel)
set_option maxRecDepth 100000 in
theorem hq_344 : hP1 344 hc_344 := hP1_of (n := 36) (fun pc h => by unfold hc_344; rw [h]; rfl) (by decide +kernel) (by decide +kernel)
set_option maxRecDepth 100000 in
theorem hq_345 : hP1 345 hc_345 := hP1_of (n := 19) (fun pc h => by unfold hc_345; rw [h]; rfl) (by decide +kernel) (by decide +kernel)
set_option maxRecDepth 100000 in
theorem hq_346 : hP1 346 hc_346 := hP1_of (n := 107) (fun pc h => by unfold hc_346; rw [h]; rfl) (by decide +kernel) (by decide +kernel)
set_option maxRecDepth 100000 in
theorem hq_347 : hP1 347 hc_347 := hP1_of (n := 101) (fun pc h => by unfold hc_347; rw [h]; rfl) (by decide +kernel) (by decide +kernel)
set_option maxRecDepth 100000 in
theorem hq_348 : hP1 348 hc_348 := hP1_of (n := 19) (fun pc h => by unfold hc_348; rw [h]; rfl) (by decide +kernel) (by decide +kernel)
set_option maxRecDepth 100000 in
theorem hq_349 : hP1 349 hc_349 := hP1_of (n := 27) (fun pc h => by unfold hc_349; rw [h]; rfl) (by decide +kernel) (by decide +kernel)
set_option maxRecDepth 100000 in
theorem hq_350 : hP1 350 hc_350 := hP1_of (n := 36) (fun pc h => by unfold hc_350; rw [h]; rfl) (by decide +kernel) (by decide +kernel)
set_option maxRecDepth 100000 in
theorem hq_351 : hP1 351 hc_351 := hP1_of (n := 41) (fun pc h => by unfold hc_351; rw [h]; rfl) (by decide +kernel) (by decide +kernel)
set_option maxRecDepth 100000 in
theorem hq_352 : hP1 352 hc_352 := hP1_of (n := 15) (fun pc h => by unfold hc_352; rw [h]; rfl) (by decide +kernel) (by decide +kernel)
set_option maxRecDepth 100000 in
theorem hq_353 : hP1 353 hc_353 := hP1_of (n := 232) (fun pc h => by unfold hc_353; rw [h]; rfl) (by decide +kernel) (by decide +kernel)
set_option maxRecDepth 100000 in
theorem hq_354 : hP1 354 hc_354 := hP1_of (n := 479) (fun pc h => by unfold hc_354; rw [h]; rfl) (by decide +kernel) (by decide +kernel)
set_option maxRecDepth 100000 in
theorem hq_355 : hP1 355 hc_355 := hP1_of (n := 255) (fun pc h => by unfold hc_355; rw [h]; rfl) (by decide +kernel) (by decide +kernel)
set_option maxRecDepth 100000 in
theorem hq_356 : hP1 356 hc_356 := hP1_of (n := 30) (fun pc h => by unfold hc_356; rw [h]; rfl) (by decide +kernel) (by decide +kernel)
set_option maxRecDepth 100000 in
theorem hq_357 : hP1 357 hc_357 := hP1_of (n := 30) (fun pc h => by unfold hc_357; rw [h]; rfl) (by decide +kernel) (by decide +kernel)
set_option maxRecDepth 100000 in
theorem hq_358 : hP1 358 hc_358 := hP1_of (n := 449) (fun pc h => by unfold hc_358; rw [h]; rfl) (by decide +kernel) (by decide +kernel)
set_option maxRecDepth 100000 in
theorem hq_359 : hP1 359 hc_359 := hP1_of (n := 44) (fun pc h => by unfold hc_359; rw [h]; rfl) (by decide +kernel) (by decide +kernel)
set_option maxRecDepth 100000 in
theorem hq_360 : hP1 360 hc_360 := hP1_of (n := 59) (fun pc h => by unfold hc_360; rw [h]; rfl) (by decide +kernel) (by decide +kernel)
set_option maxRecDepth 100000 in
theorem hq_361 : hP1 361 hc_361 := hP1_of (n := 12) (fun pc h => by unfold hc_361; rw [h]; rfl) (by decide +kernel) (by decide +kernel)
set_option maxRecDepth 100000 in
theorem hq_362 : hP1 362 hc_362 := hP1_of (n := 49) (fun pc h => by unfold hc_362; rw [h]; rfl) (by decide +kernel) (by decide +kernel)
set_option maxRecDepth 100000 in
theorem hq_363 : hP1 363 hc_363 := hP1_of (n := 310) (fun pc h => by unfold hc_363; rw [h]; rfl) (by decide +kernel) (by decide +kernel)
set_option maxRecDepth 100000 in
theorem hq_364 : hP1 364 hc_364 := hP1_of (n := 81) (fun pc h => by unfold hc_364; rw [h]; rfl) (by decide +kernel) (by decide +kernel)
set_option maxRecDepth 100000 in
theorem hq_365 : hP1 365 hc_365 := hP1_of (n := 115) (fun pc h => by unfold hc_365; rw [h]; rfl) (by decide +kernel) (by decide +kernel)
set_option maxRecDepth 100000 in
theorem hq_366 : hP1 366 hc_366 := hP1_of (n := 57) (fun pc h => by unfold hc_366; rw [h]; rfl) (by decide +kernel) (by decide +kernel)
set_option maxRecDepth 100000 in
theorem hq_367 : hP1 367 hc_367 := hP1_of (n := 48) (fun pc h => by unfold hc_367; rw [h]; rfl) (by decide +kernel) (by decide +kernel)
set_option maxRecDepth 100000 in
theorem hq_368 : hP1 368 hc_368 := hP1_of (n := 296) (fun pc h => by unfold hc_368; rw [h]; rfl) (by decide +kernel) (by decide +kernel)
set_option maxRecDepth 100000 in
theorem hq_369 : hP1 369 hc_369 := hP1_of (n := 112) (fun pc h => by unfold hc_369; rw [h]; rfl) (by decide +kernel) (by decide +kernel)
set_option maxRecDepth 100000 in
theorem hq_370 : hP1 370 hc_370 := hP1_of (n := 61) (fun pc h => by unfold hc_370; rw [h]; rfl) (by decide +kernel) (by decide +kernel)
set_option maxRecDepth 100000 in
theorem hq_371 : hP1 371 hc_371 := hP1_of (n := 77) (fun pc h => by unfold hc_371; rw [h]; rfl) (by decide +kernel) (by decide +kernel)
set_option maxRecDepth 100000 in
theorem hq_372 : hP1 372 hc_372 := hP1_of (n := 69) (fun pc h => by unfold hc_372; rw [h]; rfl) (by decide +kernel) (by decide +kernel)
set_option maxRecDepth 100000 in
theorem hq_373 : hP1 373 hc_373 := hP1_of (n := 164) (fun pc h => by unfold hc_373; rw [h]; rfl) (by decide +kernel) (by decide +kernel)
set_option maxRecDepth 100000 in
theorem hq_374 : hP1 374 hc_374 := hP1_of (n := 74) (fun pc h => by unfold hc_374; rw [h]; rfl) (by decide +kernel) (by decide +kernel)
set_option maxRecDepth 100000 in
theorem hq_375 : hP1 375 hc_375 := hP1_of (n := 143) (fun pc h => by unfold hc_375; rw [h]; rfl) (by decide +kernel) (by decide +kernel)
set_option maxRecDepth 100000 in
theorem hq_376 : hP1 376 hc_376 := hP1_of (n := 217) (fun pc h => by unfold hc_376; rw [h]; rfl) (by decide +kernel) (by decide +kernel)
set_option maxRecDepth 100000 in
theorem hq_377 : hP1 377 hc_377 := hP1_of (n := 49) (fun pc h => by unfold hc_377; rw [h]; rfl) (by decide +kernel) (by decide +kernel)
set_option maxRecDepth 100000 in
theorem hq_378 : hP1 378 hc_378 := hP1_of (n := 333) (fun pc h => by unfold hc_378; rw [h]; rfl) (by decide +kernel) (by decide +kernel)
set_option maxRecDepth 100000 in
theorem hq_379 : hP1 379 hc_379 := hP1_of (n := 62) (fun pc h => by unfold hc_379; rw [h]; rfl) (by decide +kernel) (by decide +kernel)
set_option maxRecDepth 100000 in
theorem hq_380 : hP1 380 hc_380 := hP1_of (n := 60) (fun pc h => by unfold hc_380; rw [h]; rfl) (by decide +kernel) (by decide +kernel)
set_option maxRecDepth 100000 in
theorem hq_381 : hP1 381 hc_381 := hP1_of (n := 48) (fun pc h => by unfold hc_381; rw [h]; rfl) (by decide +kernel) (by decide +kernel)
set_option maxRecDepth 100000 in
theorem hq_382 : hP1 382 hc_382 := hP1_of (n := 456) (fun pc h => by unfold hc_382; rw [h]; rfl) (by decide +kernel) (by decide +kernel)
set_option maxRecDepth 100000 in
theorem hq_383 : hP1 383 hc_383 := hP1_of (n := 27) (fun pc h => by unfold hc_383; rw [h]; rfl) (by decide +kernel) (by decide +kernel)
set_option maxRecDepth 100000 in
theorem hq_384 : hP1 384 hc_384 := hP1_of (n := 25) (fun pc h => by unfold hc_384; rw [h]; rfl) (by decide +kernel) (by decide +kernel)
set_option maxRecDepth 100000 in
theorem hq_385 : hP1 385 hc_385 := hP1_of (n := 45) (fun pc h => by unfold hc_385; rw [h]; rfl) (by decide +kernel) (by decide +kernel)
set_option maxRecDepth 100000 in
theorem hq_386 : hP1 386 hc_386 := hP1_of (n := 120) (fun pc h => by unfold hc_386; rw [h]; rfl) (by decide +kernel) (by decide +kernel)
set_option maxRecDepth 100000 in
theorem hq_387 : hP1 387 hc_387 := hP1_of (n := 158) (fun pc h => by unfold hc_387; rw [h]; rfl) (by decide +kernel) (by decide +kernel)
set_option maxRecDepth 100000 in
theorem hq_388 : hP1 388 hc_388 := hP1_of (n := 293) (fun pc h => by unfold hc_388; rw [h]; rfl) (by decide +kernel) (by decide +kernel)
set_option maxRecDepth 100000 in
theorem hq_389 : hP1 389 hc_389 := hP1_of (n := 175) (fun pc h => by unfold hc_389; rw [h]; rfl) (by decide +kernel) (by decide +kernel)
set_option maxRecDepth 100000 in
theorem hq_390 : hP1 390 hc_390 := hP1_of (n := 95) (fun pc h => by unfold hc_390; rw [h]; rfl) (by decide +kernel) (by decide +kernel)
set_option maxRecDepth 100000 in
theorem hq_391 : hP1 391 hc_391 := hP1_of (n := 107) (fun pc h => by unfold hc_391; rw [h]; rfl) (by decide +kernel) (by decide +kernel)
set_option maxRecDepth 100000 in
theorem hq_392 : hP1 392 hc_392 := hP1_of (n := 80) (fun pc h => by unfold hc_392; rw [h]; rfl) (by decide +kernel) (by decide +kernel)
set_option maxRecDepth 100000 in
theorem hq_393 : hP1 393 hc_393 := hP1_of (n := 32) (fun pc h => by unfold hc_393; rw [h]; rfl) (by decide +kernel) (by decide +kernel)
set_option maxRecDepth 100000 in
theorem hq_394 : hP1 394 hc_394 := hP1_of (n := 106) (fun pc h => by unfold hc_394; rw [h]; rfl) (by decide +kernel) (by decide +kernel)
set_option maxRecDepth 100000 in
theorem hq_395 : hP1 395 hc_395 := hP1_of (n := 148) (fun pc h => by unfold hc_395; rw [h]; rfl) (by decide +kernel) (by decide +kernel)
set_option maxRecDepth 100000 in
theorem hq_396 : hP1 396 hc_396 := hP1_of (n := 99) (fun pc h => by unfold hc_396; rw [h]; rfl) (by decide +kernel) (by decide +kernel)
set_option maxRecDepth 100000 in
theorem hq_397 : hP1 397 hc_397 := hP1_of (n := 62) (fun pc h => by unfold hc_397; rw [h]; rfl) (by decide +kernel) (by decide +kernel)
set_option maxRecDepth 100000 in
theorem hq_398 : hP1 398 hc_398 := hP1_of (n := 128) (fun pc h => by unfold hc_398; rw [h]; rfl) (by decide +kernel) (by decide +kernel)
set_option maxRecDepth 100000 in
theorem hq_399 : hP1 399 hc_399 := hP1_of (n := 49) (fun pc h => by unfold hc_399; rw [h]; rfl) (by decide +kernel) (by decide +kernel)
set_option maxRecDepth 100000 in
theorem hq_400 : hP1 400 hc_400 := hP1_of (n := 229) (fun pc h => by unfold hc_400; rw [h]; rfl) (by decide +kernel) (by decide +kernel)
set_option maxRecDepth 100000 in
theorem hq_401 : hP1 401 hc_401 := hP1_of (n := 38) (fun pc h => by unfold hc_401; rw [h]; rfl) (by decide +kernel) (by decide +kernel)
set_option maxRecDepth 100000 in
theorem hq_402 : hP1 402 hc_402 := hP1_of (n := 196) (fun pc h => by unfold hc_402; rw [h]; rfl) (by decide +kernel) (by decide +kernel)
set_option maxRecDepth 100000 in
theorem hq_403 : hP1 403 hc_403 := hP1_of (n := 64) (fun pc h => by unfold hc_403; rw [h]; rfl) (by decide +kernel) (by decide +kernel)
set_option maxRecDepth 100000 in
theorem hq_404 : hP1 404 hc_404 := hP1_of (n := 43) (fun pc h => by unfold hc_404; rw [h]; rfl) (by decide +kernel) (by decide +kernel)
set_option maxRecDepth 100000 in
theorem hq_405 : hP1 405 hc_405 := hP1_of (n := 27) (fun pc h => by unfold hc_405; rw [h]; rfl) (by decide +kernel) (by decide +kernel)
set_option maxRecDepth 100000 in
theorem hq_406 : hP1 406 hc_406 := hP1_of (n := 53) (fun pc h => by unfold hc_406; rw [h]; rfl) (by decide +kernel) (by decide +kernel)
set_option maxRecDepth 100000 in
theorem hq_407 : hP1 407 hc_407 := hP1_of (n := 27) (fun pc h => by unfold hc_407; rw [h]; rfl) (by decide +kernel) (by decide +kernel)
set_option maxRecDepth 100000 in
theorem hq_408 : hP1 408 hc_408 := hP1_of (n := 5) (fun pc h => by unfold hc_408; rw [h]; rfl) (by decide +kernel) (by decide +kernel)
set_option maxRecDepth 100000 in
theorem hq_409 : hP1 409 hc_409 := hP1_of (n := 74) (fun pc h => by unfold hc_409; rw [h]; rfl) (by decide +kernel) (by decide +kernel)
set_option maxRecDepth 100000 in
theorem hq_410 : hP1 410 hc_410 := hP1_of (n := 5) (fun pc h => by unfold hc_410; rw [h]; rfl) (by decide +kernel) (by decide +kernel)
set_option maxRecDepth 100000 in
theorem hq_411 : hP1 411 hc_411 := hP1_of (n := 53) (fun pc h => by unfold hc_411; rw [h]; rfl) (by decide +kernel) (by decide +kernel)
set_option maxRecDepth 100000 in
theorem hq_412 : hP1 412 hc_412 := hP1_of (n := 118) (fun pc h => by unfold hc_412; rw [h]; rfl) (by decide +kernel) (by decide +kernel)
set_option maxRecDepth 100000 in
theorem hq_413 : hP1 413 hc_413 := hP1_of (n := 27) (fun pc h => by unfold hc_413; rw [h]; rfl) (by decide +kernel) (by decide +kernel)
set_option maxRecDepth 100000 in
theorem hq_414 : hP1 414 hc_414 := hP1_of (n := 144) (fun pc h => by unfold hc_414; rw [h]; rfl) (by decide +kernel) (by decide +kernel)
set_option maxRecDepth 100000 in
theorem hq_415 : hP1 415 hc_415 := hP1_of (n := 76) (fun pc h => by unfold hc_415; rw [h]; rfl) (by decide +kernel) (by decide +kernel)
set_option maxRecDepth 100000 in
theorem hq_416 : hP1 416 hc_416 := hP1_of (n := 42) (fun pc h => by unfold hc_416; rw [h]; rfl) (by decide +kernel) (by decide +kernel)
set_option maxRecDepth 100000 in
theorem hq_417 : hP1 417 hc_417 := hP1_of (n := 93) (fun pc h => by unfold hc_417; rw [h]; rfl) (by decide +kernel) (by decide +kernel)
set_option maxRecDepth 100000 in
theorem hq_418 : hP1 418 hc_418 := hP1_of (n := 150) (fun pc h => by unfold hc_418; rw [h]; rfl) (by decide +kernel) (by decide +kernel)
set_option maxRecDepth 100000 in
theorem hq_419 : hP1 419 hc_419 := hP1_of (n := 110) (fun pc h => by unfold hc_419; rw [h]; rfl) (by decide +kernel) (by decide +kernel)
set_option maxRecDepth 100000 in
theorem hq_420 : hP1 420 hc_420 := hP1_of (n := 150) (fun pc h => by unfold hc_420; rw [h]; rfl) (by decide +kernel) (by decide +kernel)
set_option maxRecDepth 100000 in
theorem hq_421 : hP1 421 hc_421 := hP1_of (n := 48) (fun pc h => by unfold hc_421; rw [h]; rfl) (by decide +kernel) (by decide +kernel)
set_option maxRecDepth 100000 in
theorem hq_422 : hP1 422 hc_422 := hP1_of (n := 103) (fun pc h => by unfold hc_422; rw [h]; rfl) (by decide +kernel) (by decide +kernel)
set_option maxRecDepth 100000 in
theorem hq_423 : hP1 423 hc_423 := hP1_of (n := 804) (fun pc h => by unfold hc_423; rw [h]; rfl) (by decide +kernel) (by decide +kernel)
theorem hqb_0 : ∀ y ∈ ([0, 1, 2, 3, 4, 5, 6, 7, 8, 9, 10, 11, 12, 13, 14, 15, 16, 17, 18, 19, 20, 21, 22, 23, 24] : List Nat), hP1 y (hTab y) := List.forall_mem_cons.mpr ⟨hq_0, List.forall_mem_cons.mpr ⟨hq_1, List.forall_mem_cons.mpr ⟨hq_2, List.forall_mem_cons.mpr ⟨hq_3, List.forall_mem_cons.mpr ⟨hq_4, List.forall_mem_cons.mpr ⟨hq_5, List.forall_mem_cons.mpr ⟨hq_6, List.forall_mem_cons.mpr ⟨hq_7, List.forall_mem_cons.mpr ⟨hq_8, List.forall_mem_cons.mpr ⟨hq_9, List.forall_mem_cons.mpr ⟨hq_10, List.forall_mem_cons.mpr ⟨hq_11, List.forall_mem_cons.mpr ⟨hq_12, List.forall_mem_cons.mpr ⟨hq_13, List.forall_mem_cons.mpr ⟨hq_14, List.forall_mem_cons.mpr ⟨hq_15, List.forall_mem_cons.mpr ⟨hq_16, List.forall_mem_cons.mpr ⟨hq_17, List.forall_mem_cons.mpr ⟨hq_18, List.forall_mem_cons.mpr ⟨hq_19, List.forall_mem_cons.mpr ⟨hq_20, List.forall_mem_cons.mpr ⟨hq_21, List.forall_mem_cons.mpr ⟨hq_22, List.forall_mem_cons.mpr ⟨hq_23, List.forall_mem_cons.mpr ⟨hq_24, fun _ h => absurd h List.not_mem_nil⟩⟩⟩⟩⟩⟩⟩⟩⟩⟩⟩⟩⟩⟩⟩⟩⟩⟩⟩⟩⟩⟩⟩⟩⟩
theorem hqb_1 : ∀ y ∈ ([25, 26, 27, 28, 29, 30, 31, 32, 33, 34, 35, 36, 37, 38, 39, 40, 41, 42, 43, 44, 45, 46, 47, 48, 49] : List Nat), hP1 y (hTab y) := List.forall_mem_cons.mpr ⟨hq_25, List.forall_mem_cons.mpr ⟨hq_26, List.forall_mem_cons.mpr ⟨hq_27, List.forall_mem_cons.mpr ⟨hq_28, List.forall_mem_cons.mpr ⟨hq_29, List.forall_mem_cons.mpr ⟨hq_30, List.forall_mem_cons.mpr ⟨hq_31, List.forall_mem_cons.mpr ⟨hq_32, List.forall_mem_cons.mpr ⟨hq_33, List.forall_mem_cons.mpr ⟨hq_34, List.forall_mem_cons.mpr ⟨hq_35, List.forall_mem_cons.mpr ⟨hq_36, List.forall_mem_cons.mpr ⟨hq_37, List.forall_mem_cons.mpr ⟨hq_38, List.forall_mem_cons.mpr ⟨hq_39, List.forall_mem_cons.mpr ⟨hq_40, List.forall_mem_cons.mpr ⟨hq_41, List.forall_mem_cons.mpr ⟨hq_42, List.forall_mem_cons.mpr ⟨hq_43, List.forall_mem_cons.mpr ⟨hq_44, List.forall_mem_cons.mpr ⟨hq_45, List.forall_mem_cons.mpr ⟨hq_46, List.forall_mem_cons.mpr ⟨hq_47, List.forall_mem_cons.mpr ⟨hq_48, List.forall_mem_cons.mpr ⟨hq_49, fun _ h => absurd h List.not_mem_nil⟩⟩⟩⟩⟩⟩⟩⟩⟩⟩⟩⟩⟩⟩⟩⟩⟩⟩⟩⟩⟩⟩⟩⟩⟩
theorem hqb_2 : ∀ y ∈ ([50, 51, 52, 53, 54, 55, 56, 57, 58, 59, 60, 61, 62, 63, 64, 65, 66, 67, 68, 69, 70, 71, 72, 73, 74] : List Nat), hP1 y (hTab y) := List.forall_mem_cons.mpr ⟨hq_50, List.forall_mem_cons.mpr ⟨hq_51, List.forall_mem_cons.mpr ⟨hq_52, List.forall_mem_cons.mpr ⟨hq_53, List.forall_mem_cons.mpr ⟨hq_54, List.forall_mem_cons.mpr ⟨hq_55, List.forall_mem_cons.mpr ⟨hq_56, List.forall_mem_cons.mpr ⟨hq_57, List.forall_mem_cons.mpr ⟨hq_58, List.forall_mem_cons.mpr ⟨hq_59, List.forall_mem_cons.mpr ⟨hq_60, List.forall_mem_cons.mpr ⟨hq_61, List.forall_mem_cons.mpr ⟨hq_62, List.forall_mem_cons.mpr ⟨hq_63, List.forall_mem_cons.mpr ⟨hq_64, List.forall_mem_cons.mpr ⟨hq_65, List.forall_mem_cons.mpr ⟨hq_66, List.forall_mem_cons.mpr ⟨hq_67, List.forall_mem_cons.mpr ⟨hq_68, List.forall_mem_cons.mpr ⟨hq_69, List.forall_mem_cons.mpr ⟨hq_70, List.forall_mem_cons.mpr ⟨hq_71, List.forall_mem_cons.mpr ⟨hq_72, List.forall_mem_cons.mpr ⟨hq_73, List.forall_mem_cons.mpr ⟨hq_74, fun _ h => absurd h List.not_mem_nil⟩⟩⟩⟩⟩⟩⟩⟩⟩⟩⟩⟩⟩⟩⟩⟩⟩⟩⟩⟩⟩⟩⟩⟩⟩
theorem hqb_3 : ∀ y ∈ ([75, 76, 77, 78, 79, 80, 81, 82, 83, 84, 85, 86, 87, 88, 89, 90, 91, 92, 93, 94, 95, 96, 97, 98, 99] : List Nat), hP1 y (hTab y) := List.forall_mem_cons.mpr ⟨hq_75, List.forall_mem_cons.mpr ⟨hq_76, List.forall_mem_cons.mpr ⟨hq_77, List.forall_mem_cons.mpr ⟨hq_78, List.forall_mem_cons.mpr ⟨hq_79, List.forall_mem_cons.mpr ⟨hq_80, List.forall_mem_cons.mpr ⟨hq_81, List.forall_mem_cons.mpr ⟨hq_82, List.forall_mem_cons.mpr ⟨hq_83, List.forall_mem_cons.mpr ⟨hq_84, List.forall_mem_cons.mpr ⟨hq_85, List.forall_mem_cons.mpr ⟨hq_86, List.forall_mem_cons.mpr ⟨hq_87, List.forall_mem_cons.mpr ⟨hq_88, List.forall_mem_cons.mpr ⟨hq_89, List.forall_mem_cons.mpr ⟨hq_90, List.forall_mem_cons.mpr ⟨hq_91, List.forall_mem_cons.mpr ⟨hq_92, List.forall_mem_cons.mpr ⟨hq_93, List.forall_mem_cons.mpr ⟨hq_94, List.forall_mem_cons.mpr ⟨hq_95, List.forall_mem_cons.mpr ⟨hq_96, List.forall_mem_cons.mpr ⟨hq_97, List.forall_mem_cons.mpr ⟨hq_98, List.forall_mem_cons.mpr ⟨hq_99, fun _ h => absurd h List.not_mem_nil⟩⟩⟩⟩⟩⟩⟩⟩⟩⟩⟩⟩⟩⟩⟩⟩⟩⟩⟩⟩⟩⟩⟩⟩⟩
theorem hqb_4 : ∀ y ∈ ([100, 101, 102, 103, 104, 105, 106, 107, 108, 109, 110, 111, 112, 113, 114, 115, 116, 117, 118, 119, 120, 121, 122, 123, 124] : List Nat), hP1 y (hTab y) := List.forall_mem_cons.mpr ⟨hq_100, List.forall_mem_cons.mpr ⟨hq_101, List.forall_mem_cons.mpr ⟨hq_102, List.forall_mem_cons.mpr ⟨hq_103, List.forall_mem_cons.mpr ⟨hq_104, List.forall_mem_cons.mpr ⟨hq_105, List.forall_mem_cons.mpr ⟨hq_106, List.forall_mem_cons.mpr ⟨hq_107, List.forall_mem_cons.mpr ⟨hq_108, List.forall_mem_cons.mpr ⟨hq_109, List.forall_mem_cons.mpr ⟨hq_110, List.forall_mem_cons.mpr ⟨hq_111, List.forall_mem_cons.mpr ⟨hq_112, List.forall_mem_cons.mpr ⟨hq_113, List.forall_mem_cons.mpr ⟨hq_114, List.forall_mem_cons.mpr ⟨hq_115, List.forall_mem_cons.mpr ⟨hq_116, List.forall_mem_cons.mpr ⟨hq_117, List.forall_mem_cons.mpr ⟨hq_118, List.forall_mem_cons.mpr ⟨hq_119, List.forall_mem_cons.mpr ⟨hq_120, List.forall_mem_cons.mpr ⟨hq_121, List.forall_mem_cons.mpr ⟨hq_122, List.forall_mem_cons.mpr ⟨hq_123, List.forall_mem_cons.mpr ⟨hq_124, fun _ h => absurd h List.not_mem_nil⟩⟩⟩⟩⟩⟩⟩⟩⟩⟩⟩⟩⟩⟩⟩⟩⟩⟩⟩⟩⟩⟩⟩⟩⟩
theorem hqb_5 : ∀ y ∈ ([125, 126, 127, 128, 129, 130, 131, 132, 133, 134, 135, 136, 137, 138, 139, 140, 141, 142, 143, 144, 145, 146, 147, 148, 149] : List Nat), hP1 y (hTab y) := List.forall_mem_cons.mpr ⟨hq_125, List.forall_mem_cons.mpr ⟨hq_126, List.forall_mem_cons.mpr ⟨hq_127, List.forall_mem_cons.mpr ⟨hq_128, List.forall_mem_cons.mpr ⟨hq_129, List.forall_mem_cons.mpr ⟨hq_130, List.forall_mem_cons.mpr ⟨hq_131, List.forall_mem_cons.mpr ⟨hq_132, List.forall_mem_cons.mpr ⟨hq_133, List.forall_mem_cons.mpr ⟨hq_134, List.forall_mem_cons.mpr ⟨hq_135, List.forall_mem_cons.mpr ⟨hq_136, List.forall_mem_cons.mpr ⟨hq_137, List.forall_mem_cons.mpr ⟨hq_138, List.forall_mem_cons.mpr ⟨hq_139, List.forall_mem_cons.mpr ⟨hq_140, List.forall_mem_cons.mpr ⟨hq_141, List.forall_mem_cons.mpr ⟨hq_142, List.forall_mem_cons.mpr ⟨hq_143, List.forall_mem_cons.mpr ⟨hq_144, List.forall_mem_cons.mpr ⟨hq_145, List.forall_mem_cons.mpr ⟨hq_146, List.forall_mem_cons.mpr ⟨hq_147, List.forall_mem_cons.mpr ⟨hq_148, List.forall_mem_cons.mpr ⟨hq_149, fun _ h => absurd h List.not_mem_nil⟩⟩⟩⟩⟩⟩⟩⟩⟩⟩⟩⟩⟩⟩⟩⟩⟩⟩⟩⟩⟩⟩⟩⟩⟩
theorem hqb_6 : ∀ y ∈ ([150, 151, 152, 153, 154, 155, 156, 157, 158, 159, 160, 161, 162, 163, 164, 165, 166, 167, 168, 169, 170, 171, 172, 173, 174] : List Nat), hP1 y (hTab y) := List.forall_mem_cons.mpr ⟨hq_150, List.forall_mem_cons.mpr ⟨hq_151, List.forall_mem_cons.mpr ⟨hq_152, List.forall_mem_cons.mpr ⟨hq_153, List.forall_mem_cons.mpr ⟨hq_154, List.forall_mem_cons.mpr ⟨hq_155, List.forall_mem_cons.mpr ⟨hq_156, List.forall_mem_cons.mpr ⟨hq_157, List.forall_mem_cons.mpr ⟨hq_158, List.forall_mem_cons.mpr ⟨hq_159, List.forall_mem_cons.mpr ⟨hq_160, List.forall_mem_cons.mpr ⟨hq_161, List.forall_mem_cons.mpr ⟨hq_162, List.forall_mem_cons.mpr ⟨hq_163, List.forall_mem_cons.mpr ⟨hq_164, List.forall_mem_cons.mpr ⟨hq_165, List.forall_mem_cons.mpr ⟨hq_166, List.forall_mem_cons.mpr ⟨hq_167, List.forall_mem_cons.mpr ⟨hq_168, List.forall_mem_cons.mpr ⟨hq_169, List.forall_mem_cons.mpr ⟨hq_170, List.forall_mem_cons.mpr ⟨hq_171, List.forall_mem_cons.mpr ⟨hq_172, List.forall_mem_cons.mpr ⟨hq_173, List.forall_mem_cons.mpr ⟨hq_174, fun _ h => absurd h List.not_mem_nil⟩⟩⟩⟩⟩⟩⟩⟩⟩⟩⟩⟩⟩⟩⟩⟩⟩⟩⟩⟩⟩⟩⟩⟩⟩
theorem hqb_7 : ∀ y ∈ ([175, 176, 177, 178, 179, 180, 181, 182, 183, 184, 185, 186, 187, 188, 189, 190, 191, 192, 193, 194, 195, 196, 197, 198, 199] : List Nat), hP1 y (hTab y) := List.forall_mem_cons.mpr ⟨hq_175, List.forall_mem_cons.mpr ⟨hq_176, List.forall_mem_cons.mpr ⟨hq_177, List.forall_mem_cons.mpr ⟨hq_178, List.forall_mem_cons.mpr ⟨hq_179, List.forall_mem_cons.mpr ⟨hq_180, List.forall_mem_cons.mpr ⟨hq_181, List.forall_mem_cons.mpr ⟨hq_182, List.forall_mem_cons.mpr ⟨hq_183, List.forall_mem_cons.mpr ⟨hq_184, List.forall_mem_cons.mpr ⟨hq_185, List.forall_mem_cons.mpr ⟨hq_186, List.forall_mem_cons.mpr ⟨hq_187, List.forall_mem_cons.mpr ⟨hq_188, List.forall_mem_cons.mpr ⟨hq_189, List.forall_mem_cons.mpr ⟨hq_190, List.forall_mem_cons.mpr ⟨hq_191, List.forall_mem_cons.mpr ⟨hq_192, List.forall_mem_cons.mpr ⟨hq_193, List.forall_mem_cons.mpr ⟨hq_194, List.forall_mem_cons.mpr ⟨hq_195, List.forall_mem_cons.mpr ⟨hq_196, List.forall_mem_cons.mpr ⟨hq_197, List.forall_mem_cons.mpr ⟨hq_198, List.forall_mem_cons.mpr ⟨hq_199, fun _ h => absurd h List.not_mem_nil⟩⟩⟩⟩⟩⟩⟩⟩⟩⟩⟩⟩⟩⟩⟩⟩⟩⟩⟩⟩⟩⟩⟩⟩⟩
theorem hqb_8 : ∀ y ∈ ([200, 201, 202, 203, 204, 205, 206, 207, 208, 209, 210, 211, 212, 213, 214, 215, 216, 217, 218, 219, 220, 221, 222, 223, 224] : List Nat), hP1 y (hTab y) := List.forall_mem_cons.mpr ⟨hq_200, List.forall_mem_cons.mpr ⟨hq_201, List.forall_mem_cons.mpr ⟨hq_202, List.forall_mem_cons.mpr ⟨hq_203, List.forall_mem_cons.mpr ⟨hq_204, List.forall_mem_cons.mpr ⟨hq_205, List.forall_mem_cons.mpr ⟨hq_206, List.forall_mem_cons.mpr ⟨hq_207, List.forall_mem_cons.mpr ⟨hq_208, List.forall_mem_cons.mpr ⟨hq_209, List.forall_mem_cons.mpr ⟨hq_210, List.forall_mem_cons.mpr ⟨hq_211, List.forall_mem_cons.mpr ⟨hq_212, List.forall_mem_cons.mpr ⟨hq_213, List.forall_mem_cons.mpr ⟨hq_214, List.forall_mem_cons.mpr ⟨hq_215, List.forall_mem_cons.mpr ⟨hq_216, List.forall_mem_cons.mpr ⟨hq_217, List.forall_mem_cons.mpr ⟨hq_218, List.forall_mem_cons.mpr ⟨hq_219, List.forall_mem_cons.mpr ⟨hq_220, List.forall_mem_cons.mpr ⟨hq_221, List.forall_mem_cons.mpr ⟨hq_222, List.forall_mem_cons.mpr ⟨hq_223, List.forall_mem_cons.mpr ⟨hq_224, fun _ h => absurd h List.not_mem_nil⟩⟩⟩⟩⟩⟩⟩⟩⟩⟩⟩⟩⟩⟩⟩⟩⟩⟩⟩⟩⟩⟩⟩⟩⟩
theorem hqb_9 : ∀ y ∈ ([225, 226, 227, 228, 229, 230, 231, 232, 233, 234, 235, 236, 237, 238, 239, 240, 241, 242, 243, 244, 245, 246, 247, 248, 249] : List Nat), hP1 y (hTab y) := List.forall_mem_cons.mpr ⟨hq_225, List.forall_mem_cons.mpr ⟨hq_226, List.forall_mem_cons.mpr ⟨hq_227, List.forall_mem_cons.mpr ⟨hq_228, List.forall_mem_cons.mpr ⟨hq_229, List.forall_mem_cons.mpr ⟨hq_230, List.forall_mem_cons.mpr ⟨hq_231, List.forall_mem_cons.mpr ⟨hq_232, List.forall_mem_cons.mpr ⟨hq_233, List.forall_mem_cons.mpr ⟨hq_234, List.forall_mem_cons.mpr ⟨hq_235, List.forall_mem_cons.mpr ⟨hq_236, List.forall_mem_cons.mpr ⟨hq_237, List.forall_mem_cons.mpr ⟨hq_238, List.forall_mem_cons.mpr ⟨hq_239, List.forall_mem_cons.mpr ⟨hq_240, List.forall_mem_cons.mpr ⟨hq_241, List.forall_mem_cons.mpr ⟨hq_242, List.forall_mem_cons.mpr ⟨hq_243, List.forall_mem_cons.mpr ⟨hq_244, List.forall_mem_cons.mpr ⟨hq_245, List.forall_mem_cons.mpr ⟨hq_246, List.forall_mem_cons.mpr ⟨hq_247, List.forall_mem_cons.mpr ⟨hq_248, List.forall_mem_cons.mpr ⟨hq_249, fun _ h => absurd h List.not_mem_nil⟩⟩⟩⟩⟩⟩⟩⟩⟩⟩⟩⟩⟩⟩⟩⟩⟩⟩⟩⟩⟩⟩⟩⟩⟩
theorem hqb_10 : ∀ y ∈ ([250, 251, 252, 253, 254, 255, 256, 257, 258, 259, 260, 261, 262, 263, 264, 265, 266, 267, 268, 269, 270, 271, 272, 273, 274] : List Nat), hP1 y (hTab y) := List.forall_mem_cons.mpr ⟨hq_250, List.forall_mem_cons.mpr ⟨hq_251, List.forall_mem_cons.mpr ⟨hq_252, List.forall_mem_cons.mpr ⟨hq_253, List.forall_mem_cons.mpr ⟨hq_254, List.forall_mem_cons.mpr ⟨hq_255, List.forall_mem_cons.mpr ⟨hq_256, List.forall_mem_cons.mpr ⟨hq_257, List.forall_mem_cons.mpr ⟨hq_258, List.forall_mem_cons.mpr ⟨hq_259, List.forall_mem_cons.mpr ⟨hq_260, List.forall_mem_cons.mpr ⟨hq_261, List.forall_mem_cons.mpr ⟨hq_262, List.forall_mem_cons.mpr ⟨hq_263, List.forall_mem_cons.mpr ⟨hq_264, List.forall_mem_cons.mpr ⟨hq_265, List.forall_mem_cons.mpr ⟨hq_266, List.forall_mem_cons.mpr ⟨hq_267, List.forall_mem_cons.mpr ⟨hq_268, List.forall_mem_cons.mpr ⟨hq_269, List.forall_mem_cons.mpr ⟨hq_270, List.forall_mem_cons.mpr ⟨hq_271, List.forall_mem_cons.mpr ⟨hq_272, List.forall_mem_cons.mpr ⟨hq_273, List.forall_mem_cons.mpr ⟨hq_274, fun _ h => absurd h List.not_mem_nil⟩⟩⟩⟩⟩⟩⟩⟩⟩⟩⟩⟩⟩⟩⟩⟩⟩⟩⟩⟩⟩⟩⟩⟩⟩
theorem hqb_11 : ∀ y ∈ ([275, 276, 277, 278, 279, 280, 281, 282, 283, 284, 285, 286, 287, 288, 289, 290, 291, 292, 293, 294, 295, 296, 297, 298, 299] : List Nat), hP1 y (hTab y) := List.forall_mem_cons.mpr ⟨hq_275, List.forall_mem_cons.mpr ⟨hq_276, List.forall_mem_cons.mpr ⟨hq_277, List.forall_mem_cons.mpr ⟨hq_278, List.forall_mem_cons.mpr ⟨hq_279, List.forall_mem_cons.mpr ⟨hq_280, List.forall_mem_cons.mpr ⟨hq_281, List.forall_mem_cons.mpr ⟨hq_282, List.forall_mem_cons.mpr ⟨hq_283, List.forall_mem_cons.mpr ⟨hq_284, List.forall_mem_cons.mpr ⟨hq_285, List.forall_mem_cons.mpr ⟨hq_286, List.forall_mem_cons.mpr ⟨hq_287, List.forall_mem_cons.mpr ⟨hq_288, List.forall_mem_cons.mpr ⟨hq_289, List.forall_mem_cons.mpr ⟨hq_290, List.forall_mem_cons.mpr ⟨hq_291, List.forall_mem_cons.mpr ⟨hq_292, List.forall_mem_cons.mpr ⟨hq_293, List.forall_mem_cons.mpr ⟨hq_294, List.forall_mem_cons.mpr ⟨hq_295, List.forall_mem_cons.mpr ⟨hq_296, List.forall_mem_cons.mpr ⟨hq_297, List.forall_mem_cons.mpr ⟨hq_298, List.forall_mem_cons.mpr ⟨hq_299, fun _ h => absurd h List.not_mem_nil⟩⟩⟩⟩⟩⟩⟩⟩⟩⟩⟩⟩⟩⟩⟩⟩⟩⟩⟩⟩⟩⟩⟩⟩⟩
theorem hqb_12 : ∀ y ∈ ([300, 301, 302, 303, 304, 305, 306, 307, 308, 309, 310, 311, 312, 313, 314, 315, 316, 317, 318, 319, 320, 321, 322, 323, 324] : List Nat), hP1 y (hTab y) := List.forall_mem_cons.mpr ⟨hq_300, List.forall_mem_cons.mpr ⟨hq_301, List.forall_mem_cons.mpr ⟨hq_302, List.forall_mem_cons.mpr ⟨hq_303, List.forall_mem_cons.mpr ⟨hq_304, List.forall_mem_cons.mpr ⟨hq_305, List.forall_mem_cons.mpr ⟨hq_306, List.forall_mem_cons.mpr ⟨hq_307, List.forall_mem_cons.mpr ⟨hq_308, List.forall_mem_cons.mpr ⟨hq_309, List.forall_mem_cons.mpr ⟨hq_310, List.forall_mem_cons.mpr ⟨hq_311, List.forall_mem_cons.mpr ⟨hq_312, List.forall_mem_cons.mpr ⟨hq_313, List.forall_mem_cons.mpr ⟨hq_314, List.forall_mem_cons.mpr ⟨hq_315, List.forall_mem_cons.mpr ⟨hq_316, List.forall_mem_cons.mpr ⟨hq_317, List.forall_mem_cons.mpr ⟨hq_318, List.forall_mem_cons.mpr ⟨hq_319, List.forall_mem_cons.mpr ⟨hq_320, List.forall_mem_cons.mpr ⟨hq_321, List.forall_mem_cons.mpr ⟨hq_322, List.forall_mem_cons.mpr ⟨hq_323, List.forall_mem_cons.mpr ⟨hq_324, fun _ h => absurd h List.not_mem_nil⟩⟩⟩⟩⟩⟩⟩⟩⟩⟩⟩⟩⟩⟩⟩⟩⟩⟩⟩⟩⟩⟩⟩⟩⟩
theorem hqb_13 : ∀ y ∈ ([325, 326, 327, 328, 329, 330, 331, 332, 333, 334, 335, 336, 337, 338, 339, 340, 341, 342, 343, 344, 345, 346, 347, 348, 349] : List Nat), hP1 y (hTab y) := List.forall_mem_cons.mpr ⟨hq_325, List.forall_mem_cons.mpr ⟨hq_326, List.forall_mem_cons.mpr ⟨hq_327, List.forall_mem_cons.mpr ⟨hq_328, List.forall_mem_cons.mpr ⟨hq_329, List.forall_mem_cons.mpr ⟨hq_330, List.forall_mem_cons.mpr ⟨hq_331, List.forall_mem_cons.mpr ⟨hq_332, List.forall_mem_cons.mpr ⟨hq_333, List.forall_mem_cons.mpr ⟨hq_334, List.forall_mem_cons.mpr ⟨hq_335, List.forall_mem_cons.mpr ⟨hq_336, List.forall_mem_cons.mpr ⟨hq_337, List.forall_mem_cons.mpr ⟨hq_338, List.forall_mem_cons.mpr ⟨hq_339, List.forall_mem_cons.mpr ⟨hq_340, List.forall_mem_cons.mpr ⟨hq_341, List.forall_mem_cons.mpr ⟨hq_342, List.forall_mem_cons.mpr ⟨hq_343, List.forall_mem_cons.mpr ⟨hq_344, List.forall_mem_cons.mpr ⟨hq_345, List.forall_mem_cons.mpr ⟨hq_346, List.forall_mem_cons.mpr ⟨hq_347, List.forall_mem_cons.mpr ⟨hq_348, List.forall_mem_cons.mpr ⟨hq_349, fun _ h => absurd h List.not_mem_nil⟩⟩⟩⟩⟩⟩⟩⟩⟩⟩⟩⟩⟩⟩⟩⟩⟩⟩⟩⟩⟩⟩⟩⟩⟩
theorem hqb_14 : ∀ y ∈ ([350, 351, 352, 353, 354, 355, 356, 357, 358, 359, 360, 361, 362, 363, 364, 365, 366, 367, 368, 369, 370, 371, 372, 373, 374] : List Nat), hP1 y (hTab y) := List.forall_mem_cons.mpr ⟨hq_350, List.forall_mem_cons.mpr ⟨hq_351, List.forall_mem_cons.mpr ⟨hq_352, List.forall_mem_cons.mpr ⟨hq_353, List.forall_mem_cons.mpr ⟨hq_354, List.forall_mem_cons.mpr ⟨hq_355, List.forall_mem_cons.mpr ⟨hq_356, List.forall_mem_cons.mpr ⟨hq_357, List.forall_mem_cons.mpr ⟨hq_358, List.forall_mem_cons.mpr ⟨hq_359, List.forall_mem_cons.mpr ⟨hq_360, List.forall_mem_cons.mpr ⟨hq_361, List.forall_mem_cons.mpr ⟨hq_362, List.forall_mem_cons.mpr ⟨hq_363, List.forall_mem_cons.mpr ⟨hq_364, List.forall_mem_cons.mpr ⟨hq_365, List.forall_mem_cons.mpr ⟨hq_366, List.forall_mem_cons.mpr ⟨hq_367, List.forall_mem_cons.mpr ⟨hq_368, List.forall_mem_cons.mpr ⟨hq_369, List.forall_mem_cons.mpr ⟨hq_370, List.forall_mem_cons.mpr ⟨hq_371, List.forall_mem_cons.mpr ⟨hq_372, List.forall_mem_cons.mpr ⟨hq_373, List.forall_mem_cons.mpr ⟨hq_374, fun _ h => absurd h List.not_mem_nil⟩⟩⟩⟩⟩⟩⟩⟩⟩⟩⟩⟩⟩⟩⟩⟩⟩⟩⟩⟩⟩⟩⟩⟩⟩
theorem hqb_15 : ∀ y ∈ ([375, 376, 377, 378, 379, 380, 381, 382, 383, 384, 385, 386, 387, 388, 389, 390, 391, 392, 393, 394, 395, 396, 397, 398, 399] : List Nat), hP1 y (hTab y) := List.forall_mem_cons.mpr ⟨hq_375, List.forall_mem_cons.mpr ⟨hq_376, List.forall_mem_cons.mpr ⟨hq_377, List.forall_mem_cons.mpr ⟨hq_378, List.forall_mem_cons.mpr ⟨hq_379, List.forall_mem_cons.mpr ⟨hq_380, List.forall_mem_cons.mpr ⟨hq_381, List.forall_mem_cons.mpr ⟨hq_382, List.forall_mem_cons.mpr ⟨hq_383, List.forall_mem_cons.mpr ⟨hq_384, List.forall_mem_cons.mpr ⟨hq_385, List.forall_mem_cons.mpr ⟨hq_386, List.forall_mem_cons.mpr ⟨hq_387, List.forall_mem_cons.mpr ⟨hq_388, List.forall_mem_cons.mpr ⟨hq_389, List.forall_mem_cons.mpr ⟨hq_390, List.forall_mem_cons.mpr ⟨hq_391, List.forall_mem_cons.mpr ⟨hq_392, List.forall_mem_cons.mpr ⟨hq_393, List.forall_mem_cons.mpr ⟨hq_394, List.forall_mem_cons.mpr ⟨hq_395, List.forall_mem_cons.mpr ⟨hq_396, List.forall_mem_cons.mpr ⟨hq_397, List.forall_mem_cons.mpr ⟨hq_398, List.forall_mem_cons.mpr ⟨hq_399, fun _ h => absurd h List.not_mem_nil⟩⟩⟩⟩⟩⟩⟩⟩⟩⟩⟩⟩⟩⟩⟩⟩⟩⟩⟩⟩⟩⟩⟩⟩⟩
theorem hqb_16 : ∀ y ∈ ([400, 401, 402, 403, 404, 405, 406, 407, 408, 409, 410, 411, 412, 413, 414, 415, 416, 417, 418, 419, 420, 421, 422, 423] : List Nat), hP1 y (hTab y) := List.forall_mem_cons.mpr ⟨hq_400, List.forall_mem_cons.mpr ⟨hq_401, List.forall_mem_cons.mpr ⟨hq_402, List.forall_mem_cons.mpr ⟨hq_403, List.forall_mem_cons.mpr ⟨hq_404, List.forall_mem_cons.mpr ⟨hq_405, List.forall_mem_cons.mpr ⟨hq_406, List.forall_mem_cons.mpr ⟨hq_407, List.forall_mem_cons.mpr ⟨hq_408, List.forall_mem_cons.mpr ⟨hq_409, List.forall_mem_cons.mpr ⟨hq_410, List.forall_mem_cons.mpr ⟨hq_411, List.forall_mem_cons.mpr ⟨hq_412, List.forall_mem_cons.mpr ⟨hq_413, List.forall_mem_cons.mpr ⟨hq_414, List.forall_mem_cons.mpr ⟨hq_415, List.forall_mem_cons.mpr ⟨hq_416, List.forall_mem_cons.mpr ⟨hq_417, List.forall_mem_cons.mpr ⟨hq_418, List.forall_mem_cons.mpr ⟨hq_419, List.forall_mem_cons.mpr ⟨hq_420, List.forall_mem_cons.mpr ⟨hq_421, List.forall_mem_cons.mpr ⟨hq_422, List.forall_mem_cons.mpr ⟨hq_423, fun _ h => absurd h List.not_mem_nil⟩⟩⟩⟩⟩⟩⟩⟩⟩⟩⟩⟩⟩⟩⟩⟩⟩⟩⟩⟩⟩⟩⟩⟩
set_option maxRecDepth 20000 in
theorem hTab_ok : hTok hTab := by
  intro y pc op nx h
  have hy : y < 424 := by
    rcases Nat.lt_or_ge y 424 with q | q
    · exact q
    · unfold hTab at h; rw [Nat.ble_eq.mpr q] at h; cases h
  have e : List.range 424 = [0, 1, 2, 3, 4, 5, 6, 7, 8, 9, 10, 11, 12, 13, 14, 15, 16, 17, 18, 19, 20, 21, 22, 23, 24] ++ ([25, 26, 27, 28, 29, 30, 31, 32, 33, 34, 35, 36, 37, 38, 39, 40, 41, 42, 43, 44, 45, 46, 47, 48, 49] ++ ([50, 51, 52, 53, 54, 55, 56, 57, 58, 59, 60, 61, 62, 63, 64, 65, 66, 67, 68, 69, 70, 71, 72, 73, 74] ++ ([75, 76, 77, 78, 79, 80, 81, 82, 83, 84, 85, 86, 87, 88, 89, 90, 91, 92, 93, 94, 95, 96, 97, 98, 99] ++ ([100, 101, 102, 103, 104, 105, 106, 107, 108, 109, 110, 111, 112, 113, 114, 115, 116, 117, 118, 119, 120, 121, 122, 123, 124] ++ ([125, 126, 127, 128, 129, 130, 131, 132, 133, 134, 135, 136, 137, 138, 139, 140, 141, 142, 143, 144, 145, 146, 147, 148, 149] ++ ([150, 151, 152, 153, 154, 155, 156, 157, 158, 159, 160, 161, 162, 163, 164, 165, 166, 167, 168, 169, 170, 171, 172, 173, 174] ++ ([175, 176, 177, 178, 179, 180, 181, 182, 183, 184, 185, 186, 187, 188, 189, 190, 191, 192, 193, 194, 195, 196, 197, 198, 199] ++ ([200, 201, 202, 203, 204, 205, 206, 207, 208, 209, 210, 211, 212, 213, 214, 215, 216, 217, 218, 219, 220, 221, 222, 223, 224] ++ ([225, 226, 227, 228, 229, 230, 231, 232, 233, 234, 235, 236, 237, 238, 239, 240, 241, 242, 243, 244, 245, 246, 247, 248, 249] ++ ([250, 251, 252, 253, 254, 255, 256, 257, 258, 259, 260, 261, 262, 263, 264, 265, 266, 267, 268, 269, 270, 271, 272, 273, 274] ++ ([275, 276, 277, 278, 279, 280, 281, 282, 283, 284, 285, 286, 287, 288, 289, 290, 291, 292, 293, 294, 295, 296, 297, 298, 299] ++ ([300, 301, 302, 303, 304, 305, 306, 307, 308, 309, 310, 311, 312, 313, 314, 315, 316, 317, 318, 319, 320, 321, 322, 323, 324] ++ ([325, 326, 327, 328, 329, 330, 331, 332, 333, 334, 335, 336, 337, 338, 339, 340, 341, 342, 343, 344, 345, 346, 347, 348, 349] ++ ([350, 351, 352, 353, 354, 355, 356, 357, 358, 359, 360, 361, 362, 363, 364, 365, 366, 367, 368, 369, 370, 371, 372, 373, 374] ++ ([375, 376, 377, 378, 379, 380, 381, 382, 383, 384, 385, 386, 387, 388, 389, 390, 391, 392, 393, 394, 395, 396, 397, 398, 399] ++ ([400, 401, 402, 403, 404, 405, 406, 407, 408, 409, 410, 411, 412, 413, 414, 415, 416, 417, 418, 419, 420, 421, 422, 423])))))))))))))))) := by decide +kernel
  exact (hmem_app hqb_0 (hmem_app hqb_1 (hmem_app hqb_2 (hmem_app hqb_3 (hmem_app hqb_4 (hmem_app hqb_5 (hmem_app hqb_6 (hmem_app hqb_7 (hmem_app hqb_8 (hmem_app hqb_9 (hmem_app hqb_10 (hmem_app hqb_11 (hmem_app hqb_12 (hmem_app hqb_13 (hmem_app hqb_14 (hmem_app hqb_15 hqb_16)))))))))))))))) y (by rw [← e]; exact List.mem_range.mpr hy) pc op nx h
