/-! A quick reading of a method's bytes, that it is the machine's own, and that the tables of instructions are right. -/
theorem ru1 {code : ByteArray} {p : Nat} {b : UInt8} {t : List UInt8} (h : code.data.toList.drop p = b :: t) : (Reader.u1 : Decoder Nat) code p = .ok (b.toNat, p + 1) ∧ code.data.toList.drop (p + 1) = t := by
  have hlt : p < code.data.toList.length := by
    rcases Nat.lt_or_ge p code.data.toList.length with q | q
    · exact q
    · rw [List.drop_eq_nil_of_le q] at h; cases h
  rw [List.drop_eq_getElem_cons hlt] at h
  injection h with h1 h2
  refine ⟨?_, h2⟩
  have hs : p < code.size := hlt
  have e : code[p] = b := h1
  rw [← e]
  show ((if h : p < code.size then (do set (p + 1); pure code[p].toNat) else throw (HasTruncated.truncated p)) : Decoder Nat) code p = _
  rw [dif_pos hs]
  rfl
theorem rbind {α β : Type} {r : Decoder α} {f : α → Decoder β} {code : ByteArray} {p q : Nat} {a : α} (h : r code p = .ok (a, q)) : (r >>= f) code p = f a code q := by
  show Except.bind (r code p) (fun x => f x.1 code x.2) = _
  rw [h]
  rfl
theorem rs1 {code : ByteArray} {p : Nat} {b : UInt8} {t : List UInt8} (h : code.data.toList.drop p = b :: t) : (Reader.s1 : Decoder Int) code p = .ok (Reader.signed 8 b.toNat, p + 1) := by
  show Except.bind ((Reader.u1 : Decoder Nat) code p) (fun x => .ok (Reader.signed 8 x.1, x.2)) = _
  rw [(ru1 h).1]
  rfl
theorem ru2 {code : ByteArray} {p : Nat} {a b : UInt8} {t : List UInt8} (h : code.data.toList.drop p = a :: b :: t) : (Reader.u2 : Decoder Nat) code p = .ok (a.toNat * 256 + b.toNat, p + 2) := by
  unfold Reader.u2
  rw [rbind (ru1 h).1, rbind (ru1 (ru1 h).2).1]
  rfl
theorem rs2 {code : ByteArray} {p : Nat} {a b : UInt8} {t : List UInt8} (h : code.data.toList.drop p = a :: b :: t) : (Reader.s2 : Decoder Int) code p = .ok (Reader.signed 16 (a.toNat * 256 + b.toNat), p + 2) := by
  show Except.bind ((Reader.u2 : Decoder Nat) code p) (fun x => .ok (Reader.signed 16 x.1, x.2)) = _
  rw [ru2 h]
  rfl
theorem dec_of {code : ByteArray} {pc n : Nat} {i : Instr} (h : Decoder.instr pc code pc = .ok (i, pc + n)) : decode code pc = .ok (i, n) := by
  show Except.bind (Decoder.instr pc code pc) (fun x => .ok (x.1, x.2 - pc)) = _
  rw [h]
  show Except.ok (i, pc + n - pc) = _
  rw [Nat.add_sub_cancel_left]
section DEC
variable {code : ByteArray} {pc : Nat} {c : UInt8} {t : List UInt8}
set_option maxRecDepth 20000 in
theorem dc_1 (h : code.data.toList.drop pc = c :: t) (hb : c.toNat = 1) : decode code pc = .ok (.aconst_null, 1) := dec_of (by
  unfold Decoder.instr
  rw [rbind (ru1 h).1, hb]
  rfl)
set_option maxRecDepth 20000 in
theorem dc_9 (h : code.data.toList.drop pc = c :: t) (hb : c.toNat = 9) : decode code pc = .ok ((.lconst 0), 1) := dec_of (by
  unfold Decoder.instr
  rw [rbind (ru1 h).1, hb]
  rfl)
set_option maxRecDepth 20000 in
theorem dc_10 (h : code.data.toList.drop pc = c :: t) (hb : c.toNat = 10) : decode code pc = .ok ((.lconst 1), 1) := dec_of (by
  unfold Decoder.instr
  rw [rbind (ru1 h).1, hb]
  rfl)
set_option maxRecDepth 20000 in
theorem dc_46 (h : code.data.toList.drop pc = c :: t) (hb : c.toNat = 46) : decode code pc = .ok (.iaload, 1) := dec_of (by
  unfold Decoder.instr
  rw [rbind (ru1 h).1, hb]
  rfl)
set_option maxRecDepth 20000 in
theorem dc_47 (h : code.data.toList.drop pc = c :: t) (hb : c.toNat = 47) : decode code pc = .ok (.laload, 1) := dec_of (by
  unfold Decoder.instr
  rw [rbind (ru1 h).1, hb]
  rfl)
set_option maxRecDepth 20000 in
theorem dc_50 (h : code.data.toList.drop pc = c :: t) (hb : c.toNat = 50) : decode code pc = .ok (.aaload, 1) := dec_of (by
  unfold Decoder.instr
  rw [rbind (ru1 h).1, hb]
  rfl)
set_option maxRecDepth 20000 in
theorem dc_51 (h : code.data.toList.drop pc = c :: t) (hb : c.toNat = 51) : decode code pc = .ok (.baload, 1) := dec_of (by
  unfold Decoder.instr
  rw [rbind (ru1 h).1, hb]
  rfl)
set_option maxRecDepth 20000 in
theorem dc_79 (h : code.data.toList.drop pc = c :: t) (hb : c.toNat = 79) : decode code pc = .ok (.iastore, 1) := dec_of (by
  unfold Decoder.instr
  rw [rbind (ru1 h).1, hb]
  rfl)
set_option maxRecDepth 20000 in
theorem dc_80 (h : code.data.toList.drop pc = c :: t) (hb : c.toNat = 80) : decode code pc = .ok (.lastore, 1) := dec_of (by
  unfold Decoder.instr
  rw [rbind (ru1 h).1, hb]
  rfl)
set_option maxRecDepth 20000 in
theorem dc_83 (h : code.data.toList.drop pc = c :: t) (hb : c.toNat = 83) : decode code pc = .ok (.aastore, 1) := dec_of (by
  unfold Decoder.instr
  rw [rbind (ru1 h).1, hb]
  rfl)
set_option maxRecDepth 20000 in
theorem dc_84 (h : code.data.toList.drop pc = c :: t) (hb : c.toNat = 84) : decode code pc = .ok (.bastore, 1) := dec_of (by
  unfold Decoder.instr
  rw [rbind (ru1 h).1, hb]
  rfl)
set_option maxRecDepth 20000 in
theorem dc_87 (h : code.data.toList.drop pc = c :: t) (hb : c.toNat = 87) : decode code pc = .ok (.pop, 1) := dec_of (by
  unfold Decoder.instr
  rw [rbind (ru1 h).1, hb]
  rfl)
set_option maxRecDepth 20000 in
theorem dc_88 (h : code.data.toList.drop pc = c :: t) (hb : c.toNat = 88) : decode code pc = .ok (.pop2, 1) := dec_of (by
  unfold Decoder.instr
  rw [rbind (ru1 h).1, hb]
  rfl)
set_option maxRecDepth 20000 in
theorem dc_89 (h : code.data.toList.drop pc = c :: t) (hb : c.toNat = 89) : decode code pc = .ok (.dup, 1) := dec_of (by
  unfold Decoder.instr
  rw [rbind (ru1 h).1, hb]
  rfl)
set_option maxRecDepth 20000 in
theorem dc_92 (h : code.data.toList.drop pc = c :: t) (hb : c.toNat = 92) : decode code pc = .ok (.dup2, 1) := dec_of (by
  unfold Decoder.instr
  rw [rbind (ru1 h).1, hb]
  rfl)
set_option maxRecDepth 20000 in
theorem dc_96 (h : code.data.toList.drop pc = c :: t) (hb : c.toNat = 96) : decode code pc = .ok (.iadd, 1) := dec_of (by
  unfold Decoder.instr
  rw [rbind (ru1 h).1, hb]
  rfl)
set_option maxRecDepth 20000 in
theorem dc_97 (h : code.data.toList.drop pc = c :: t) (hb : c.toNat = 97) : decode code pc = .ok (.ladd, 1) := dec_of (by
  unfold Decoder.instr
  rw [rbind (ru1 h).1, hb]
  rfl)
set_option maxRecDepth 20000 in
theorem dc_100 (h : code.data.toList.drop pc = c :: t) (hb : c.toNat = 100) : decode code pc = .ok (.isub, 1) := dec_of (by
  unfold Decoder.instr
  rw [rbind (ru1 h).1, hb]
  rfl)
set_option maxRecDepth 20000 in
theorem dc_101 (h : code.data.toList.drop pc = c :: t) (hb : c.toNat = 101) : decode code pc = .ok (.lsub, 1) := dec_of (by
  unfold Decoder.instr
  rw [rbind (ru1 h).1, hb]
  rfl)
set_option maxRecDepth 20000 in
theorem dc_104 (h : code.data.toList.drop pc = c :: t) (hb : c.toNat = 104) : decode code pc = .ok (.imul, 1) := dec_of (by
  unfold Decoder.instr
  rw [rbind (ru1 h).1, hb]
  rfl)
set_option maxRecDepth 20000 in
theorem dc_105 (h : code.data.toList.drop pc = c :: t) (hb : c.toNat = 105) : decode code pc = .ok (.lmul, 1) := dec_of (by
  unfold Decoder.instr
  rw [rbind (ru1 h).1, hb]
  rfl)
set_option maxRecDepth 20000 in
theorem dc_108 (h : code.data.toList.drop pc = c :: t) (hb : c.toNat = 108) : decode code pc = .ok (.idiv, 1) := dec_of (by
  unfold Decoder.instr
  rw [rbind (ru1 h).1, hb]
  rfl)
set_option maxRecDepth 20000 in
theorem dc_109 (h : code.data.toList.drop pc = c :: t) (hb : c.toNat = 109) : decode code pc = .ok (.ldiv, 1) := dec_of (by
  unfold Decoder.instr
  rw [rbind (ru1 h).1, hb]
  rfl)
set_option maxRecDepth 20000 in
theorem dc_112 (h : code.data.toList.drop pc = c :: t) (hb : c.toNat = 112) : decode code pc = .ok (.irem, 1) := dec_of (by
  unfold Decoder.instr
  rw [rbind (ru1 h).1, hb]
  rfl)
set_option maxRecDepth 20000 in
theorem dc_113 (h : code.data.toList.drop pc = c :: t) (hb : c.toNat = 113) : decode code pc = .ok (.lrem, 1) := dec_of (by
  unfold Decoder.instr
  rw [rbind (ru1 h).1, hb]
  rfl)
set_option maxRecDepth 20000 in
theorem dc_116 (h : code.data.toList.drop pc = c :: t) (hb : c.toNat = 116) : decode code pc = .ok (.ineg, 1) := dec_of (by
  unfold Decoder.instr
  rw [rbind (ru1 h).1, hb]
  rfl)
set_option maxRecDepth 20000 in
theorem dc_120 (h : code.data.toList.drop pc = c :: t) (hb : c.toNat = 120) : decode code pc = .ok (.ishl, 1) := dec_of (by
  unfold Decoder.instr
  rw [rbind (ru1 h).1, hb]
  rfl)
set_option maxRecDepth 20000 in
theorem dc_121 (h : code.data.toList.drop pc = c :: t) (hb : c.toNat = 121) : decode code pc = .ok (.lshl, 1) := dec_of (by
  unfold Decoder.instr
  rw [rbind (ru1 h).1, hb]
  rfl)
set_option maxRecDepth 20000 in
theorem dc_122 (h : code.data.toList.drop pc = c :: t) (hb : c.toNat = 122) : decode code pc = .ok (.ishr, 1) := dec_of (by
  unfold Decoder.instr
  rw [rbind (ru1 h).1, hb]
  rfl)
set_option maxRecDepth 20000 in
theorem dc_123 (h : code.data.toList.drop pc = c :: t) (hb : c.toNat = 123) : decode code pc = .ok (.lshr, 1) := dec_of (by
  unfold Decoder.instr
  rw [rbind (ru1 h).1, hb]
  rfl)
set_option maxRecDepth 20000 in
theorem dc_126 (h : code.data.toList.drop pc = c :: t) (hb : c.toNat = 126) : decode code pc = .ok (.iand, 1) := dec_of (by
  unfold Decoder.instr
  rw [rbind (ru1 h).1, hb]
  rfl)
set_option maxRecDepth 20000 in
theorem dc_127 (h : code.data.toList.drop pc = c :: t) (hb : c.toNat = 127) : decode code pc = .ok (.land, 1) := dec_of (by
  unfold Decoder.instr
  rw [rbind (ru1 h).1, hb]
  rfl)
set_option maxRecDepth 20000 in
theorem dc_128 (h : code.data.toList.drop pc = c :: t) (hb : c.toNat = 128) : decode code pc = .ok (.ior, 1) := dec_of (by
  unfold Decoder.instr
  rw [rbind (ru1 h).1, hb]
  rfl)
set_option maxRecDepth 20000 in
theorem dc_129 (h : code.data.toList.drop pc = c :: t) (hb : c.toNat = 129) : decode code pc = .ok (.lor, 1) := dec_of (by
  unfold Decoder.instr
  rw [rbind (ru1 h).1, hb]
  rfl)
set_option maxRecDepth 20000 in
theorem dc_130 (h : code.data.toList.drop pc = c :: t) (hb : c.toNat = 130) : decode code pc = .ok (.ixor, 1) := dec_of (by
  unfold Decoder.instr
  rw [rbind (ru1 h).1, hb]
  rfl)
set_option maxRecDepth 20000 in
theorem dc_131 (h : code.data.toList.drop pc = c :: t) (hb : c.toNat = 131) : decode code pc = .ok (.lxor, 1) := dec_of (by
  unfold Decoder.instr
  rw [rbind (ru1 h).1, hb]
  rfl)
set_option maxRecDepth 20000 in
theorem dc_133 (h : code.data.toList.drop pc = c :: t) (hb : c.toNat = 133) : decode code pc = .ok (.i2l, 1) := dec_of (by
  unfold Decoder.instr
  rw [rbind (ru1 h).1, hb]
  rfl)
set_option maxRecDepth 20000 in
theorem dc_136 (h : code.data.toList.drop pc = c :: t) (hb : c.toNat = 136) : decode code pc = .ok (.l2i, 1) := dec_of (by
  unfold Decoder.instr
  rw [rbind (ru1 h).1, hb]
  rfl)
set_option maxRecDepth 20000 in
theorem dc_145 (h : code.data.toList.drop pc = c :: t) (hb : c.toNat = 145) : decode code pc = .ok (.i2b, 1) := dec_of (by
  unfold Decoder.instr
  rw [rbind (ru1 h).1, hb]
  rfl)
set_option maxRecDepth 20000 in
theorem dc_146 (h : code.data.toList.drop pc = c :: t) (hb : c.toNat = 146) : decode code pc = .ok (.i2c, 1) := dec_of (by
  unfold Decoder.instr
  rw [rbind (ru1 h).1, hb]
  rfl)
set_option maxRecDepth 20000 in
theorem dc_148 (h : code.data.toList.drop pc = c :: t) (hb : c.toNat = 148) : decode code pc = .ok (.lcmp, 1) := dec_of (by
  unfold Decoder.instr
  rw [rbind (ru1 h).1, hb]
  rfl)
set_option maxRecDepth 20000 in
theorem dc_172 (h : code.data.toList.drop pc = c :: t) (hb : c.toNat = 172) : decode code pc = .ok (.ireturn, 1) := dec_of (by
  unfold Decoder.instr
  rw [rbind (ru1 h).1, hb]
  rfl)
set_option maxRecDepth 20000 in
theorem dc_173 (h : code.data.toList.drop pc = c :: t) (hb : c.toNat = 173) : decode code pc = .ok (.lreturn, 1) := dec_of (by
  unfold Decoder.instr
  rw [rbind (ru1 h).1, hb]
  rfl)
set_option maxRecDepth 20000 in
theorem dc_176 (h : code.data.toList.drop pc = c :: t) (hb : c.toNat = 176) : decode code pc = .ok (.areturn, 1) := dec_of (by
  unfold Decoder.instr
  rw [rbind (ru1 h).1, hb]
  rfl)
set_option maxRecDepth 20000 in
theorem dc_177 (h : code.data.toList.drop pc = c :: t) (hb : c.toNat = 177) : decode code pc = .ok (.return_, 1) := dec_of (by
  unfold Decoder.instr
  rw [rbind (ru1 h).1, hb]
  rfl)
set_option maxRecDepth 20000 in
theorem dc_190 (h : code.data.toList.drop pc = c :: t) (hb : c.toNat = 190) : decode code pc = .ok (.arraylength, 1) := dec_of (by
  unfold Decoder.instr
  rw [rbind (ru1 h).1, hb]
  rfl)
set_option maxRecDepth 20000 in
theorem dc_2 (h : code.data.toList.drop pc = c :: t) (hb : c.toNat = 2) : decode code pc = .ok ((.iconst (-1)), 1) := dec_of (by
  unfold Decoder.instr
  rw [rbind (ru1 h).1, hb]
  rfl)
set_option maxRecDepth 20000 in
theorem dc_3 (h : code.data.toList.drop pc = c :: t) (hb : c.toNat = 3) : decode code pc = .ok ((.iconst (0)), 1) := dec_of (by
  unfold Decoder.instr
  rw [rbind (ru1 h).1, hb]
  rfl)
set_option maxRecDepth 20000 in
theorem dc_4 (h : code.data.toList.drop pc = c :: t) (hb : c.toNat = 4) : decode code pc = .ok ((.iconst (1)), 1) := dec_of (by
  unfold Decoder.instr
  rw [rbind (ru1 h).1, hb]
  rfl)
set_option maxRecDepth 20000 in
theorem dc_5 (h : code.data.toList.drop pc = c :: t) (hb : c.toNat = 5) : decode code pc = .ok ((.iconst (2)), 1) := dec_of (by
  unfold Decoder.instr
  rw [rbind (ru1 h).1, hb]
  rfl)
set_option maxRecDepth 20000 in
theorem dc_6 (h : code.data.toList.drop pc = c :: t) (hb : c.toNat = 6) : decode code pc = .ok ((.iconst (3)), 1) := dec_of (by
  unfold Decoder.instr
  rw [rbind (ru1 h).1, hb]
  rfl)
set_option maxRecDepth 20000 in
theorem dc_7 (h : code.data.toList.drop pc = c :: t) (hb : c.toNat = 7) : decode code pc = .ok ((.iconst (4)), 1) := dec_of (by
  unfold Decoder.instr
  rw [rbind (ru1 h).1, hb]
  rfl)
set_option maxRecDepth 20000 in
theorem dc_8 (h : code.data.toList.drop pc = c :: t) (hb : c.toNat = 8) : decode code pc = .ok ((.iconst (5)), 1) := dec_of (by
  unfold Decoder.instr
  rw [rbind (ru1 h).1, hb]
  rfl)
set_option maxRecDepth 20000 in
theorem dc_26 (h : code.data.toList.drop pc = c :: t) (hb : c.toNat = 26) : decode code pc = .ok ((.iload_n 0), 1) := dec_of (by
  unfold Decoder.instr
  rw [rbind (ru1 h).1, hb]
  rfl)
set_option maxRecDepth 20000 in
theorem dc_27 (h : code.data.toList.drop pc = c :: t) (hb : c.toNat = 27) : decode code pc = .ok ((.iload_n 1), 1) := dec_of (by
  unfold Decoder.instr
  rw [rbind (ru1 h).1, hb]
  rfl)
set_option maxRecDepth 20000 in
theorem dc_28 (h : code.data.toList.drop pc = c :: t) (hb : c.toNat = 28) : decode code pc = .ok ((.iload_n 2), 1) := dec_of (by
  unfold Decoder.instr
  rw [rbind (ru1 h).1, hb]
  rfl)
set_option maxRecDepth 20000 in
theorem dc_29 (h : code.data.toList.drop pc = c :: t) (hb : c.toNat = 29) : decode code pc = .ok ((.iload_n 3), 1) := dec_of (by
  unfold Decoder.instr
  rw [rbind (ru1 h).1, hb]
  rfl)
set_option maxRecDepth 20000 in
theorem dc_30 (h : code.data.toList.drop pc = c :: t) (hb : c.toNat = 30) : decode code pc = .ok ((.lload_n 0), 1) := dec_of (by
  unfold Decoder.instr
  rw [rbind (ru1 h).1, hb]
  rfl)
set_option maxRecDepth 20000 in
theorem dc_31 (h : code.data.toList.drop pc = c :: t) (hb : c.toNat = 31) : decode code pc = .ok ((.lload_n 1), 1) := dec_of (by
  unfold Decoder.instr
  rw [rbind (ru1 h).1, hb]
  rfl)
set_option maxRecDepth 20000 in
theorem dc_32 (h : code.data.toList.drop pc = c :: t) (hb : c.toNat = 32) : decode code pc = .ok ((.lload_n 2), 1) := dec_of (by
  unfold Decoder.instr
  rw [rbind (ru1 h).1, hb]
  rfl)
set_option maxRecDepth 20000 in
theorem dc_33 (h : code.data.toList.drop pc = c :: t) (hb : c.toNat = 33) : decode code pc = .ok ((.lload_n 3), 1) := dec_of (by
  unfold Decoder.instr
  rw [rbind (ru1 h).1, hb]
  rfl)
set_option maxRecDepth 20000 in
theorem dc_42 (h : code.data.toList.drop pc = c :: t) (hb : c.toNat = 42) : decode code pc = .ok ((.aload_n 0), 1) := dec_of (by
  unfold Decoder.instr
  rw [rbind (ru1 h).1, hb]
  rfl)
set_option maxRecDepth 20000 in
theorem dc_43 (h : code.data.toList.drop pc = c :: t) (hb : c.toNat = 43) : decode code pc = .ok ((.aload_n 1), 1) := dec_of (by
  unfold Decoder.instr
  rw [rbind (ru1 h).1, hb]
  rfl)
set_option maxRecDepth 20000 in
theorem dc_44 (h : code.data.toList.drop pc = c :: t) (hb : c.toNat = 44) : decode code pc = .ok ((.aload_n 2), 1) := dec_of (by
  unfold Decoder.instr
  rw [rbind (ru1 h).1, hb]
  rfl)
set_option maxRecDepth 20000 in
theorem dc_45 (h : code.data.toList.drop pc = c :: t) (hb : c.toNat = 45) : decode code pc = .ok ((.aload_n 3), 1) := dec_of (by
  unfold Decoder.instr
  rw [rbind (ru1 h).1, hb]
  rfl)
set_option maxRecDepth 20000 in
theorem dc_59 (h : code.data.toList.drop pc = c :: t) (hb : c.toNat = 59) : decode code pc = .ok ((.istore_n 0), 1) := dec_of (by
  unfold Decoder.instr
  rw [rbind (ru1 h).1, hb]
  rfl)
set_option maxRecDepth 20000 in
theorem dc_60 (h : code.data.toList.drop pc = c :: t) (hb : c.toNat = 60) : decode code pc = .ok ((.istore_n 1), 1) := dec_of (by
  unfold Decoder.instr
  rw [rbind (ru1 h).1, hb]
  rfl)
set_option maxRecDepth 20000 in
theorem dc_61 (h : code.data.toList.drop pc = c :: t) (hb : c.toNat = 61) : decode code pc = .ok ((.istore_n 2), 1) := dec_of (by
  unfold Decoder.instr
  rw [rbind (ru1 h).1, hb]
  rfl)
set_option maxRecDepth 20000 in
theorem dc_62 (h : code.data.toList.drop pc = c :: t) (hb : c.toNat = 62) : decode code pc = .ok ((.istore_n 3), 1) := dec_of (by
  unfold Decoder.instr
  rw [rbind (ru1 h).1, hb]
  rfl)
set_option maxRecDepth 20000 in
theorem dc_63 (h : code.data.toList.drop pc = c :: t) (hb : c.toNat = 63) : decode code pc = .ok ((.lstore_n 0), 1) := dec_of (by
  unfold Decoder.instr
  rw [rbind (ru1 h).1, hb]
  rfl)
set_option maxRecDepth 20000 in
theorem dc_64 (h : code.data.toList.drop pc = c :: t) (hb : c.toNat = 64) : decode code pc = .ok ((.lstore_n 1), 1) := dec_of (by
  unfold Decoder.instr
  rw [rbind (ru1 h).1, hb]
  rfl)
set_option maxRecDepth 20000 in
theorem dc_65 (h : code.data.toList.drop pc = c :: t) (hb : c.toNat = 65) : decode code pc = .ok ((.lstore_n 2), 1) := dec_of (by
  unfold Decoder.instr
  rw [rbind (ru1 h).1, hb]
  rfl)
set_option maxRecDepth 20000 in
theorem dc_66 (h : code.data.toList.drop pc = c :: t) (hb : c.toNat = 66) : decode code pc = .ok ((.lstore_n 3), 1) := dec_of (by
  unfold Decoder.instr
  rw [rbind (ru1 h).1, hb]
  rfl)
set_option maxRecDepth 20000 in
theorem dc_75 (h : code.data.toList.drop pc = c :: t) (hb : c.toNat = 75) : decode code pc = .ok ((.astore_n 0), 1) := dec_of (by
  unfold Decoder.instr
  rw [rbind (ru1 h).1, hb]
  rfl)
set_option maxRecDepth 20000 in
theorem dc_76 (h : code.data.toList.drop pc = c :: t) (hb : c.toNat = 76) : decode code pc = .ok ((.astore_n 1), 1) := dec_of (by
  unfold Decoder.instr
  rw [rbind (ru1 h).1, hb]
  rfl)
set_option maxRecDepth 20000 in
theorem dc_77 (h : code.data.toList.drop pc = c :: t) (hb : c.toNat = 77) : decode code pc = .ok ((.astore_n 2), 1) := dec_of (by
  unfold Decoder.instr
  rw [rbind (ru1 h).1, hb]
  rfl)
set_option maxRecDepth 20000 in
theorem dc_78 (h : code.data.toList.drop pc = c :: t) (hb : c.toNat = 78) : decode code pc = .ok ((.astore_n 3), 1) := dec_of (by
  unfold Decoder.instr
  rw [rbind (ru1 h).1, hb]
  rfl)
set_option maxRecDepth 20000 in
theorem dc_16 {a : UInt8} {r : List UInt8} (h : code.data.toList.drop pc = c :: a :: r) (hb : c.toNat = 16) : decode code pc = .ok (.bipush (Reader.signed 8 a.toNat), 2) := dec_of (by
  unfold Decoder.instr
  rw [rbind (ru1 h).1, hb]
  show ((Reader.s1 : Decoder Int) >>= fun x => (pure (.bipush x) : Decoder Instr)) code (pc + 1) = _
  rw [rbind (rs1 (ru1 h).2)]
  rfl)
set_option maxRecDepth 20000 in
theorem dc_18 {a : UInt8} {r : List UInt8} (h : code.data.toList.drop pc = c :: a :: r) (hb : c.toNat = 18) : decode code pc = .ok (.ldc a.toNat, 2) := dec_of (by
  unfold Decoder.instr
  rw [rbind (ru1 h).1, hb]
  show ((Reader.u1 : Decoder Nat) >>= fun x => (pure (.ldc x) : Decoder Instr)) code (pc + 1) = _
  rw [rbind (ru1 (ru1 h).2).1]
  rfl)
set_option maxRecDepth 20000 in
theorem dc_21 {a : UInt8} {r : List UInt8} (h : code.data.toList.drop pc = c :: a :: r) (hb : c.toNat = 21) : decode code pc = .ok (.iload a.toNat, 2) := dec_of (by
  unfold Decoder.instr
  rw [rbind (ru1 h).1, hb]
  show ((Reader.u1 : Decoder Nat) >>= fun x => (pure (.iload x) : Decoder Instr)) code (pc + 1) = _
  rw [rbind (ru1 (ru1 h).2).1]
  rfl)
set_option maxRecDepth 20000 in
theorem dc_22 {a : UInt8} {r : List UInt8} (h : code.data.toList.drop pc = c :: a :: r) (hb : c.toNat = 22) : decode code pc = .ok (.lload a.toNat, 2) := dec_of (by
  unfold Decoder.instr
  rw [rbind (ru1 h).1, hb]
  show ((Reader.u1 : Decoder Nat) >>= fun x => (pure (.lload x) : Decoder Instr)) code (pc + 1) = _
  rw [rbind (ru1 (ru1 h).2).1]
  rfl)
set_option maxRecDepth 20000 in
theorem dc_25 {a : UInt8} {r : List UInt8} (h : code.data.toList.drop pc = c :: a :: r) (hb : c.toNat = 25) : decode code pc = .ok (.aload a.toNat, 2) := dec_of (by
  unfold Decoder.instr
  rw [rbind (ru1 h).1, hb]
  show ((Reader.u1 : Decoder Nat) >>= fun x => (pure (.aload x) : Decoder Instr)) code (pc + 1) = _
  rw [rbind (ru1 (ru1 h).2).1]
  rfl)
set_option maxRecDepth 20000 in
theorem dc_54 {a : UInt8} {r : List UInt8} (h : code.data.toList.drop pc = c :: a :: r) (hb : c.toNat = 54) : decode code pc = .ok (.istore a.toNat, 2) := dec_of (by
  unfold Decoder.instr
  rw [rbind (ru1 h).1, hb]
  show ((Reader.u1 : Decoder Nat) >>= fun x => (pure (.istore x) : Decoder Instr)) code (pc + 1) = _
  rw [rbind (ru1 (ru1 h).2).1]
  rfl)
set_option maxRecDepth 20000 in
theorem dc_55 {a : UInt8} {r : List UInt8} (h : code.data.toList.drop pc = c :: a :: r) (hb : c.toNat = 55) : decode code pc = .ok (.lstore a.toNat, 2) := dec_of (by
  unfold Decoder.instr
  rw [rbind (ru1 h).1, hb]
  show ((Reader.u1 : Decoder Nat) >>= fun x => (pure (.lstore x) : Decoder Instr)) code (pc + 1) = _
  rw [rbind (ru1 (ru1 h).2).1]
  rfl)
set_option maxRecDepth 20000 in
theorem dc_58 {a : UInt8} {r : List UInt8} (h : code.data.toList.drop pc = c :: a :: r) (hb : c.toNat = 58) : decode code pc = .ok (.astore a.toNat, 2) := dec_of (by
  unfold Decoder.instr
  rw [rbind (ru1 h).1, hb]
  show ((Reader.u1 : Decoder Nat) >>= fun x => (pure (.astore x) : Decoder Instr)) code (pc + 1) = _
  rw [rbind (ru1 (ru1 h).2).1]
  rfl)
set_option maxRecDepth 20000 in
theorem dc_17 {a b : UInt8} {r : List UInt8} (h : code.data.toList.drop pc = c :: a :: b :: r) (hb : c.toNat = 17) : decode code pc = .ok (.sipush (Reader.signed 16 (a.toNat * 256 + b.toNat)), 3) := dec_of (by
  unfold Decoder.instr
  rw [rbind (ru1 h).1, hb]
  show ((Reader.s2 : Decoder Int) >>= fun x => (pure (.sipush x) : Decoder Instr)) code (pc + 1) = _
  rw [rbind (rs2 (ru1 h).2)]
  rfl)
set_option maxRecDepth 20000 in
theorem dc_167 {a b : UInt8} {r : List UInt8} (h : code.data.toList.drop pc = c :: a :: b :: r) (hb : c.toNat = 167) : decode code pc = .ok (.goto (Reader.signed 16 (a.toNat * 256 + b.toNat)), 3) := dec_of (by
  unfold Decoder.instr
  rw [rbind (ru1 h).1, hb]
  show ((Reader.s2 : Decoder Int) >>= fun x => (pure (.goto x) : Decoder Instr)) code (pc + 1) = _
  rw [rbind (rs2 (ru1 h).2)]
  rfl)
set_option maxRecDepth 20000 in
theorem dc_198 {a b : UInt8} {r : List UInt8} (h : code.data.toList.drop pc = c :: a :: b :: r) (hb : c.toNat = 198) : decode code pc = .ok (.ifnull (Reader.signed 16 (a.toNat * 256 + b.toNat)), 3) := dec_of (by
  unfold Decoder.instr
  rw [rbind (ru1 h).1, hb]
  show ((Reader.s2 : Decoder Int) >>= fun x => (pure (.ifnull x) : Decoder Instr)) code (pc + 1) = _
  rw [rbind (rs2 (ru1 h).2)]
  rfl)
set_option maxRecDepth 20000 in
theorem dc_199 {a b : UInt8} {r : List UInt8} (h : code.data.toList.drop pc = c :: a :: b :: r) (hb : c.toNat = 199) : decode code pc = .ok (.ifnonnull (Reader.signed 16 (a.toNat * 256 + b.toNat)), 3) := dec_of (by
  unfold Decoder.instr
  rw [rbind (ru1 h).1, hb]
  show ((Reader.s2 : Decoder Int) >>= fun x => (pure (.ifnonnull x) : Decoder Instr)) code (pc + 1) = _
  rw [rbind (rs2 (ru1 h).2)]
  rfl)
set_option maxRecDepth 20000 in
theorem dc_165 {a b : UInt8} {r : List UInt8} (h : code.data.toList.drop pc = c :: a :: b :: r) (hb : c.toNat = 165) : decode code pc = .ok (.if_acmp .eq (Reader.signed 16 (a.toNat * 256 + b.toNat)), 3) := dec_of (by
  unfold Decoder.instr
  rw [rbind (ru1 h).1, hb]
  show ((Reader.s2 : Decoder Int) >>= fun x => (pure (.if_acmp .eq x) : Decoder Instr)) code (pc + 1) = _
  rw [rbind (rs2 (ru1 h).2)]
  rfl)
set_option maxRecDepth 20000 in
theorem dc_166 {a b : UInt8} {r : List UInt8} (h : code.data.toList.drop pc = c :: a :: b :: r) (hb : c.toNat = 166) : decode code pc = .ok (.if_acmp .ne (Reader.signed 16 (a.toNat * 256 + b.toNat)), 3) := dec_of (by
  unfold Decoder.instr
  rw [rbind (ru1 h).1, hb]
  show ((Reader.s2 : Decoder Int) >>= fun x => (pure (.if_acmp .ne x) : Decoder Instr)) code (pc + 1) = _
  rw [rbind (rs2 (ru1 h).2)]
  rfl)
set_option maxRecDepth 20000 in
theorem dc_153 {a b : UInt8} {r : List UInt8} (h : code.data.toList.drop pc = c :: a :: b :: r) (hb : c.toNat = 153) : decode code pc = .ok (.ifCond .eq (Reader.signed 16 (a.toNat * 256 + b.toNat)), 3) := dec_of (by
  unfold Decoder.instr
  rw [rbind (ru1 h).1, hb]
  show ((Reader.s2 : Decoder Int) >>= fun x => (pure (.ifCond .eq x) : Decoder Instr)) code (pc + 1) = _
  rw [rbind (rs2 (ru1 h).2)]
  rfl)
set_option maxRecDepth 20000 in
theorem dc_159 {a b : UInt8} {r : List UInt8} (h : code.data.toList.drop pc = c :: a :: b :: r) (hb : c.toNat = 159) : decode code pc = .ok (.if_icmp .eq (Reader.signed 16 (a.toNat * 256 + b.toNat)), 3) := dec_of (by
  unfold Decoder.instr
  rw [rbind (ru1 h).1, hb]
  show ((Reader.s2 : Decoder Int) >>= fun x => (pure (.if_icmp .eq x) : Decoder Instr)) code (pc + 1) = _
  rw [rbind (rs2 (ru1 h).2)]
  rfl)
set_option maxRecDepth 20000 in
theorem dc_154 {a b : UInt8} {r : List UInt8} (h : code.data.toList.drop pc = c :: a :: b :: r) (hb : c.toNat = 154) : decode code pc = .ok (.ifCond .ne (Reader.signed 16 (a.toNat * 256 + b.toNat)), 3) := dec_of (by
  unfold Decoder.instr
  rw [rbind (ru1 h).1, hb]
  show ((Reader.s2 : Decoder Int) >>= fun x => (pure (.ifCond .ne x) : Decoder Instr)) code (pc + 1) = _
  rw [rbind (rs2 (ru1 h).2)]
  rfl)
set_option maxRecDepth 20000 in
theorem dc_160 {a b : UInt8} {r : List UInt8} (h : code.data.toList.drop pc = c :: a :: b :: r) (hb : c.toNat = 160) : decode code pc = .ok (.if_icmp .ne (Reader.signed 16 (a.toNat * 256 + b.toNat)), 3) := dec_of (by
  unfold Decoder.instr
  rw [rbind (ru1 h).1, hb]
  show ((Reader.s2 : Decoder Int) >>= fun x => (pure (.if_icmp .ne x) : Decoder Instr)) code (pc + 1) = _
  rw [rbind (rs2 (ru1 h).2)]
  rfl)
set_option maxRecDepth 20000 in
theorem dc_155 {a b : UInt8} {r : List UInt8} (h : code.data.toList.drop pc = c :: a :: b :: r) (hb : c.toNat = 155) : decode code pc = .ok (.ifCond .lt (Reader.signed 16 (a.toNat * 256 + b.toNat)), 3) := dec_of (by
  unfold Decoder.instr
  rw [rbind (ru1 h).1, hb]
  show ((Reader.s2 : Decoder Int) >>= fun x => (pure (.ifCond .lt x) : Decoder Instr)) code (pc + 1) = _
  rw [rbind (rs2 (ru1 h).2)]
  rfl)
set_option maxRecDepth 20000 in
theorem dc_161 {a b : UInt8} {r : List UInt8} (h : code.data.toList.drop pc = c :: a :: b :: r) (hb : c.toNat = 161) : decode code pc = .ok (.if_icmp .lt (Reader.signed 16 (a.toNat * 256 + b.toNat)), 3) := dec_of (by
  unfold Decoder.instr
  rw [rbind (ru1 h).1, hb]
  show ((Reader.s2 : Decoder Int) >>= fun x => (pure (.if_icmp .lt x) : Decoder Instr)) code (pc + 1) = _
  rw [rbind (rs2 (ru1 h).2)]
  rfl)
set_option maxRecDepth 20000 in
theorem dc_156 {a b : UInt8} {r : List UInt8} (h : code.data.toList.drop pc = c :: a :: b :: r) (hb : c.toNat = 156) : decode code pc = .ok (.ifCond .ge (Reader.signed 16 (a.toNat * 256 + b.toNat)), 3) := dec_of (by
  unfold Decoder.instr
  rw [rbind (ru1 h).1, hb]
  show ((Reader.s2 : Decoder Int) >>= fun x => (pure (.ifCond .ge x) : Decoder Instr)) code (pc + 1) = _
  rw [rbind (rs2 (ru1 h).2)]
  rfl)
set_option maxRecDepth 20000 in
theorem dc_162 {a b : UInt8} {r : List UInt8} (h : code.data.toList.drop pc = c :: a :: b :: r) (hb : c.toNat = 162) : decode code pc = .ok (.if_icmp .ge (Reader.signed 16 (a.toNat * 256 + b.toNat)), 3) := dec_of (by
  unfold Decoder.instr
  rw [rbind (ru1 h).1, hb]
  show ((Reader.s2 : Decoder Int) >>= fun x => (pure (.if_icmp .ge x) : Decoder Instr)) code (pc + 1) = _
  rw [rbind (rs2 (ru1 h).2)]
  rfl)
set_option maxRecDepth 20000 in
theorem dc_157 {a b : UInt8} {r : List UInt8} (h : code.data.toList.drop pc = c :: a :: b :: r) (hb : c.toNat = 157) : decode code pc = .ok (.ifCond .gt (Reader.signed 16 (a.toNat * 256 + b.toNat)), 3) := dec_of (by
  unfold Decoder.instr
  rw [rbind (ru1 h).1, hb]
  show ((Reader.s2 : Decoder Int) >>= fun x => (pure (.ifCond .gt x) : Decoder Instr)) code (pc + 1) = _
  rw [rbind (rs2 (ru1 h).2)]
  rfl)
set_option maxRecDepth 20000 in
theorem dc_163 {a b : UInt8} {r : List UInt8} (h : code.data.toList.drop pc = c :: a :: b :: r) (hb : c.toNat = 163) : decode code pc = .ok (.if_icmp .gt (Reader.signed 16 (a.toNat * 256 + b.toNat)), 3) := dec_of (by
  unfold Decoder.instr
  rw [rbind (ru1 h).1, hb]
  show ((Reader.s2 : Decoder Int) >>= fun x => (pure (.if_icmp .gt x) : Decoder Instr)) code (pc + 1) = _
  rw [rbind (rs2 (ru1 h).2)]
  rfl)
set_option maxRecDepth 20000 in
theorem dc_158 {a b : UInt8} {r : List UInt8} (h : code.data.toList.drop pc = c :: a :: b :: r) (hb : c.toNat = 158) : decode code pc = .ok (.ifCond .le (Reader.signed 16 (a.toNat * 256 + b.toNat)), 3) := dec_of (by
  unfold Decoder.instr
  rw [rbind (ru1 h).1, hb]
  show ((Reader.s2 : Decoder Int) >>= fun x => (pure (.ifCond .le x) : Decoder Instr)) code (pc + 1) = _
  rw [rbind (rs2 (ru1 h).2)]
  rfl)
set_option maxRecDepth 20000 in
theorem dc_164 {a b : UInt8} {r : List UInt8} (h : code.data.toList.drop pc = c :: a :: b :: r) (hb : c.toNat = 164) : decode code pc = .ok (.if_icmp .le (Reader.signed 16 (a.toNat * 256 + b.toNat)), 3) := dec_of (by
  unfold Decoder.instr
  rw [rbind (ru1 h).1, hb]
  show ((Reader.s2 : Decoder Int) >>= fun x => (pure (.if_icmp .le x) : Decoder Instr)) code (pc + 1) = _
  rw [rbind (rs2 (ru1 h).2)]
  rfl)
set_option maxRecDepth 20000 in
theorem dc_19 {a b : UInt8} {r : List UInt8} (h : code.data.toList.drop pc = c :: a :: b :: r) (hb : c.toNat = 19) : decode code pc = .ok (.ldc_w (a.toNat * 256 + b.toNat), 3) := dec_of (by
  unfold Decoder.instr
  rw [rbind (ru1 h).1, hb]
  show ((Reader.u2 : Decoder Nat) >>= fun x => (pure (.ldc_w x) : Decoder Instr)) code (pc + 1) = _
  rw [rbind (ru2 (ru1 h).2)]
  rfl)
set_option maxRecDepth 20000 in
theorem dc_20 {a b : UInt8} {r : List UInt8} (h : code.data.toList.drop pc = c :: a :: b :: r) (hb : c.toNat = 20) : decode code pc = .ok (.ldc2_w (a.toNat * 256 + b.toNat), 3) := dec_of (by
  unfold Decoder.instr
  rw [rbind (ru1 h).1, hb]
  show ((Reader.u2 : Decoder Nat) >>= fun x => (pure (.ldc2_w x) : Decoder Instr)) code (pc + 1) = _
  rw [rbind (ru2 (ru1 h).2)]
  rfl)
set_option maxRecDepth 20000 in
theorem dc_178 {a b : UInt8} {r : List UInt8} (h : code.data.toList.drop pc = c :: a :: b :: r) (hb : c.toNat = 178) : decode code pc = .ok (.getstatic (a.toNat * 256 + b.toNat), 3) := dec_of (by
  unfold Decoder.instr
  rw [rbind (ru1 h).1, hb]
  show ((Reader.u2 : Decoder Nat) >>= fun x => (pure (.getstatic x) : Decoder Instr)) code (pc + 1) = _
  rw [rbind (ru2 (ru1 h).2)]
  rfl)
set_option maxRecDepth 20000 in
theorem dc_180 {a b : UInt8} {r : List UInt8} (h : code.data.toList.drop pc = c :: a :: b :: r) (hb : c.toNat = 180) : decode code pc = .ok (.getfield (a.toNat * 256 + b.toNat), 3) := dec_of (by
  unfold Decoder.instr
  rw [rbind (ru1 h).1, hb]
  show ((Reader.u2 : Decoder Nat) >>= fun x => (pure (.getfield x) : Decoder Instr)) code (pc + 1) = _
  rw [rbind (ru2 (ru1 h).2)]
  rfl)
set_option maxRecDepth 20000 in
theorem dc_181 {a b : UInt8} {r : List UInt8} (h : code.data.toList.drop pc = c :: a :: b :: r) (hb : c.toNat = 181) : decode code pc = .ok (.putfield (a.toNat * 256 + b.toNat), 3) := dec_of (by
  unfold Decoder.instr
  rw [rbind (ru1 h).1, hb]
  show ((Reader.u2 : Decoder Nat) >>= fun x => (pure (.putfield x) : Decoder Instr)) code (pc + 1) = _
  rw [rbind (ru2 (ru1 h).2)]
  rfl)
set_option maxRecDepth 20000 in
theorem dc_182 {a b : UInt8} {r : List UInt8} (h : code.data.toList.drop pc = c :: a :: b :: r) (hb : c.toNat = 182) : decode code pc = .ok (.invokevirtual (a.toNat * 256 + b.toNat), 3) := dec_of (by
  unfold Decoder.instr
  rw [rbind (ru1 h).1, hb]
  show ((Reader.u2 : Decoder Nat) >>= fun x => (pure (.invokevirtual x) : Decoder Instr)) code (pc + 1) = _
  rw [rbind (ru2 (ru1 h).2)]
  rfl)
set_option maxRecDepth 20000 in
theorem dc_183 {a b : UInt8} {r : List UInt8} (h : code.data.toList.drop pc = c :: a :: b :: r) (hb : c.toNat = 183) : decode code pc = .ok (.invokespecial (a.toNat * 256 + b.toNat), 3) := dec_of (by
  unfold Decoder.instr
  rw [rbind (ru1 h).1, hb]
  show ((Reader.u2 : Decoder Nat) >>= fun x => (pure (.invokespecial x) : Decoder Instr)) code (pc + 1) = _
  rw [rbind (ru2 (ru1 h).2)]
  rfl)
set_option maxRecDepth 20000 in
theorem dc_184 {a b : UInt8} {r : List UInt8} (h : code.data.toList.drop pc = c :: a :: b :: r) (hb : c.toNat = 184) : decode code pc = .ok (.invokestatic (a.toNat * 256 + b.toNat), 3) := dec_of (by
  unfold Decoder.instr
  rw [rbind (ru1 h).1, hb]
  show ((Reader.u2 : Decoder Nat) >>= fun x => (pure (.invokestatic x) : Decoder Instr)) code (pc + 1) = _
  rw [rbind (ru2 (ru1 h).2)]
  rfl)
set_option maxRecDepth 20000 in
theorem dc_187 {a b : UInt8} {r : List UInt8} (h : code.data.toList.drop pc = c :: a :: b :: r) (hb : c.toNat = 187) : decode code pc = .ok (.new (a.toNat * 256 + b.toNat), 3) := dec_of (by
  unfold Decoder.instr
  rw [rbind (ru1 h).1, hb]
  show ((Reader.u2 : Decoder Nat) >>= fun x => (pure (.new x) : Decoder Instr)) code (pc + 1) = _
  rw [rbind (ru2 (ru1 h).2)]
  rfl)
set_option maxRecDepth 20000 in
theorem dc_189 {a b : UInt8} {r : List UInt8} (h : code.data.toList.drop pc = c :: a :: b :: r) (hb : c.toNat = 189) : decode code pc = .ok (.anewarray (a.toNat * 256 + b.toNat), 3) := dec_of (by
  unfold Decoder.instr
  rw [rbind (ru1 h).1, hb]
  show ((Reader.u2 : Decoder Nat) >>= fun x => (pure (.anewarray x) : Decoder Instr)) code (pc + 1) = _
  rw [rbind (ru2 (ru1 h).2)]
  rfl)
set_option maxRecDepth 20000 in
theorem dc_132 {a b : UInt8} {r : List UInt8} (h : code.data.toList.drop pc = c :: a :: b :: r) (hb : c.toNat = 132) : decode code pc = .ok (.iinc a.toNat (Reader.signed 8 b.toNat), 3) := dec_of (by
  unfold Decoder.instr
  rw [rbind (ru1 h).1, hb]
  show ((Reader.u1 : Decoder Nat) >>= fun x => (Reader.s1 : Decoder Int) >>= fun z => (pure (.iinc x z) : Decoder Instr)) code (pc + 1) = _
  rw [rbind (ru1 (ru1 h).2).1, rbind (rs1 (ru1 (ru1 h).2).2)]
  rfl)
set_option maxRecDepth 20000 in
theorem dc_188_4 {a : UInt8} {r : List UInt8} (h : code.data.toList.drop pc = c :: a :: r) (hb : c.toNat = 188) (ha : a.toNat = 4) : decode code pc = .ok (.newarray .boolean, 2) := dec_of (by
  unfold Decoder.instr
  rw [rbind (ru1 h).1, hb]
  show Decoder.newarray pc code (pc + 1) = _
  unfold Decoder.newarray
  rw [rbind (ru1 (ru1 h).2).1, ha]
  rfl)
set_option maxRecDepth 20000 in
theorem dc_188_8 {a : UInt8} {r : List UInt8} (h : code.data.toList.drop pc = c :: a :: r) (hb : c.toNat = 188) (ha : a.toNat = 8) : decode code pc = .ok (.newarray .byte, 2) := dec_of (by
  unfold Decoder.instr
  rw [rbind (ru1 h).1, hb]
  show Decoder.newarray pc code (pc + 1) = _
  unfold Decoder.newarray
  rw [rbind (ru1 (ru1 h).2).1, ha]
  rfl)
set_option maxRecDepth 20000 in
theorem dc_188_10 {a : UInt8} {r : List UInt8} (h : code.data.toList.drop pc = c :: a :: r) (hb : c.toNat = 188) (ha : a.toNat = 10) : decode code pc = .ok (.newarray .int, 2) := dec_of (by
  unfold Decoder.instr
  rw [rbind (ru1 h).1, hb]
  show Decoder.newarray pc code (pc + 1) = _
  unfold Decoder.newarray
  rw [rbind (ru1 (ru1 h).2).1, ha]
  rfl)
set_option maxRecDepth 20000 in
theorem dc_188_11 {a : UInt8} {r : List UInt8} (h : code.data.toList.drop pc = c :: a :: r) (hb : c.toNat = 188) (ha : a.toNat = 11) : decode code pc = .ok (.newarray .long, 2) := dec_of (by
  unfold Decoder.instr
  rw [rbind (ru1 h).1, hb]
  show Decoder.newarray pc code (pc + 1) = _
  unfold Decoder.newarray
  rw [rbind (ru1 (ru1 h).2).1, ha]
  rfl)
def fS (x : Option (Instr × Nat)) (code : ByteArray) (pc : Nat) : Prop := ∀ i len, x = some (i, len) → decode code pc = .ok (i, len)
theorem fS_node {b : Bool} {R L : Option (Instr × Nat)} (hR : fS R code pc) (hL : fS L code pc) : fS (bif b then R else L) code pc := by cases b <;> assumption
theorem fS_none : fS none code pc := fun i len h => by cases h
theorem fS_some {i : Instr} {n : Nat} (h : decode code pc = .ok (i, n)) : fS (some (i, n)) code pc := fun j len e => by cases e; exact h
theorem fS_leaf {n k : Nat} {x : Option (Instr × Nat)} (h : n = k → fS x code pc) : fS (bif Nat.beq n k then x else none) code pc := by
  cases e : Nat.beq n k with
  | true => exact h (Nat.eq_of_beq_eq_true e)
  | false => exact fS_none
def fd1 (f : Nat → Instr) (t : List UInt8) : Option (Instr × Nat) := match t with
  | a :: _ => some (f a.toNat, 2)
  | [] => none
def fd2 (f : Nat → Instr) (t : List UInt8) : Option (Instr × Nat) := match t with
  | a :: b :: _ => some (f (a.toNat * 256 + b.toNat), 3)
  | _ => none
def fdi (t : List UInt8) : Option (Instr × Nat) := match t with
  | a :: b :: _ => some (.iinc a.toNat (Reader.signed 8 b.toNat), 3)
  | _ => none
def fdn (t : List UInt8) : Option (Instr × Nat) := match t with
  | a :: _ => bif Nat.beq a.toNat 4 then some (.newarray .boolean, 2) else ( bif Nat.beq a.toNat 8 then some (.newarray .byte, 2) else ( bif Nat.beq a.toNat 10 then some (.newarray .int, 2) else ( bif Nat.beq a.toNat 11 then some (.newarray .long, 2) else (none))))
  | [] => none
theorem fS_1 {f : Nat → Instr} (h : ∀ a r, t = a :: r → decode code pc = .ok (f a.toNat, 2)) : fS (fd1 f t) code pc := by
  cases t with
  | nil => exact fS_none
  | cons a r => exact fS_some (h a r rfl)
theorem fS_2 {f : Nat → Instr} (h : ∀ a b r, t = a :: b :: r → decode code pc = .ok (f (a.toNat * 256 + b.toNat), 3)) : fS (fd2 f t) code pc := by
  match t with
  | [] => exact fS_none
  | [a] => exact fS_none
  | a :: b :: r => exact fS_some (h a b r rfl)
theorem fS_i (h : ∀ a b r, t = a :: b :: r → decode code pc = .ok (.iinc a.toNat (Reader.signed 8 b.toNat), 3)) : fS (fdi t) code pc := by
  match t with
  | [] => exact fS_none
  | [a] => exact fS_none
  | a :: b :: r => exact fS_some (h a b r rfl)
theorem fS_if {n k : Nat} {x z : Option (Instr × Nat)} (h : n = k → fS x code pc) (g : fS z code pc) : fS (bif Nat.beq n k then x else z) code pc := by
  cases e : Nat.beq n k with
  | true => exact h (Nat.eq_of_beq_eq_true e)
  | false => exact g
theorem fS_n (h : code.data.toList.drop pc = c :: t) (hb : c.toNat = 188) : fS (fdn t) code pc := by
  match t with
  | [] => exact fS_none
  | a :: r =>
    show fS (bif Nat.beq a.toNat 4 then some (.newarray .boolean, 2) else ( bif Nat.beq a.toNat 8 then some (.newarray .byte, 2) else ( bif Nat.beq a.toNat 10 then some (.newarray .int, 2) else ( bif Nat.beq a.toNat 11 then some (.newarray .long, 2) else (none))))) code pc
    exact fS_if (fun e => fS_some (dc_188_4 h hb e)) (fS_if (fun e => fS_some (dc_188_8 h hb e)) (fS_if (fun e => fS_some (dc_188_10 h hb e)) (fS_if (fun e => fS_some (dc_188_11 h hb e)) (fS_none))))
def fdec (n : Nat) (t : List UInt8) : Option (Instr × Nat) := bif Nat.ble 96 n then (bif Nat.ble 155 n then (bif Nat.ble 173 n then (bif Nat.ble 183 n then (bif Nat.ble 189 n then (bif Nat.ble 198 n then (bif Nat.ble 199 n then (bif Nat.beq n 199 then fd2 (fun z => .ifnonnull (Reader.signed 16 z)) t else none) else (bif Nat.beq n 198 then fd2 (fun z => .ifnull (Reader.signed 16 z)) t else none)) else (bif Nat.ble 190 n then (bif Nat.beq n 190 then some (.arraylength, 1) else none) else (bif Nat.beq n 189 then fd2 (fun z => .anewarray z) t else none))) else (bif Nat.ble 187 n then (bif Nat.ble 188 n then (bif Nat.beq n 188 then fdn t else none) else (bif Nat.beq n 187 then fd2 (fun z => .new z) t else none)) else (bif Nat.ble 184 n then (bif Nat.beq n 184 then fd2 (fun z => .invokestatic z) t else none) else (bif Nat.beq n 183 then fd2 (fun z => .invokespecial z) t else none)))) else (bif Nat.ble 178 n then (bif Nat.ble 181 n then (bif Nat.ble 182 n then (bif Nat.beq n 182 then fd2 (fun z => .invokevirtual z) t else none) else (bif Nat.beq n 181 then fd2 (fun z => .putfield z) t else none)) else (bif Nat.ble 180 n then (bif Nat.beq n 180 then fd2 (fun z => .getfield z) t else none) else (bif Nat.beq n 178 then fd2 (fun z => .getstatic z) t else none))) else (bif Nat.ble 176 n then (bif Nat.ble 177 n then (bif Nat.beq n 177 then some (.return_, 1) else none) else (bif Nat.beq n 176 then some (.areturn, 1) else none)) else (bif Nat.beq n 173 then some (.lreturn, 1) else none)))) else (bif Nat.ble 162 n then (bif Nat.ble 165 n then (bif Nat.ble 167 n then (bif Nat.ble 172 n then (bif Nat.beq n 172 then some (.ireturn, 1) else none) else (bif Nat.beq n 167 then fd2 (fun z => .goto (Reader.signed 16 z)) t else none)) else (bif Nat.ble 166 n then (bif Nat.beq n 166 then fd2 (fun z => .if_acmp .ne (Reader.signed 16 z)) t else none) else (bif Nat.beq n 165 then fd2 (fun z => .if_acmp .eq (Reader.signed 16 z)) t else none))) else (bif Nat.ble 163 n then (bif Nat.ble 164 n then (bif Nat.beq n 164 then fd2 (fun z => .if_icmp .le (Reader.signed 16 z)) t else none) else (bif Nat.beq n 163 then fd2 (fun z => .if_icmp .gt (Reader.signed 16 z)) t else none)) else (bif Nat.beq n 162 then fd2 (fun z => .if_icmp .ge (Reader.signed 16 z)) t else none))) else (bif Nat.ble 158 n then (bif Nat.ble 160 n then (bif Nat.ble 161 n then (bif Nat.beq n 161 then fd2 (fun z => .if_icmp .lt (Reader.signed 16 z)) t else none) else (bif Nat.beq n 160 then fd2 (fun z => .if_icmp .ne (Reader.signed 16 z)) t else none)) else (bif Nat.ble 159 n then (bif Nat.beq n 159 then fd2 (fun z => .if_icmp .eq (Reader.signed 16 z)) t else none) else (bif Nat.beq n 158 then fd2 (fun z => .ifCond .le (Reader.signed 16 z)) t else none))) else (bif Nat.ble 156 n then (bif Nat.ble 157 n then (bif Nat.beq n 157 then fd2 (fun z => .ifCond .gt (Reader.signed 16 z)) t else none) else (bif Nat.beq n 156 then fd2 (fun z => .ifCond .ge (Reader.signed 16 z)) t else none)) else (bif Nat.beq n 155 then fd2 (fun z => .ifCond .lt (Reader.signed 16 z)) t else none))))) else (bif Nat.ble 123 n then (bif Nat.ble 132 n then (bif Nat.ble 146 n then (bif Nat.ble 153 n then (bif Nat.ble 154 n then (bif Nat.beq n 154 then fd2 (fun z => .ifCond .ne (Reader.signed 16 z)) t else none) else (bif Nat.beq n 153 then fd2 (fun z => .ifCond .eq (Reader.signed 16 z)) t else none)) else (bif Nat.ble 148 n then (bif Nat.beq n 148 then some (.lcmp, 1) else none) else (bif Nat.beq n 146 then some (.i2c, 1) else none))) else (bif Nat.ble 136 n then (bif Nat.ble 145 n then (bif Nat.beq n 145 then some (.i2b, 1) else none) else (bif Nat.beq n 136 then some (.l2i, 1) else none)) else (bif Nat.ble 133 n then (bif Nat.beq n 133 then some (.i2l, 1) else none) else (bif Nat.beq n 132 then fdi t else none)))) else (bif Nat.ble 128 n then (bif Nat.ble 130 n then (bif Nat.ble 131 n then (bif Nat.beq n 131 then some (.lxor, 1) else none) else (bif Nat.beq n 130 then some (.ixor, 1) else none)) else (bif Nat.ble 129 n then (bif Nat.beq n 129 then some (.lor, 1) else none) else (bif Nat.beq n 128 then some (.ior, 1) else none))) else (bif Nat.ble 126 n then (bif Nat.ble 127 n then (bif Nat.beq n 127 then some (.land, 1) else none) else (bif Nat.beq n 126 then some (.iand, 1) else none)) else (bif Nat.beq n 123 then some (.lshr, 1) else none)))) else (bif Nat.ble 109 n then (bif Nat.ble 116 n then (bif Nat.ble 121 n then (bif Nat.ble 122 n then (bif Nat.beq n 122 then some (.ishr, 1) else none) else (bif Nat.beq n 121 then some (.lshl, 1) else none)) else (bif Nat.ble 120 n then (bif Nat.beq n 120 then some (.ishl, 1) else none) else (bif Nat.beq n 116 then some (.ineg, 1) else none))) else (bif Nat.ble 112 n then (bif Nat.ble 113 n then (bif Nat.beq n 113 then some (.lrem, 1) else none) else (bif Nat.beq n 112 then some (.irem, 1) else none)) else (bif Nat.beq n 109 then some (.ldiv, 1) else none))) else (bif Nat.ble 101 n then (bif Nat.ble 105 n then (bif Nat.ble 108 n then (bif Nat.beq n 108 then some (.idiv, 1) else none) else (bif Nat.beq n 105 then some (.lmul, 1) else none)) else (bif Nat.ble 104 n then (bif Nat.beq n 104 then some (.imul, 1) else none) else (bif Nat.beq n 101 then some (.lsub, 1) else none))) else (bif Nat.ble 97 n then (bif Nat.ble 100 n then (bif Nat.beq n 100 then some (.isub, 1) else none) else (bif Nat.beq n 97 then some (.ladd, 1) else none)) else (bif Nat.beq n 96 then some (.iadd, 1) else none)))))) else (bif Nat.ble 44 n then (bif Nat.ble 64 n then (bif Nat.ble 79 n then (bif Nat.ble 87 n then (bif Nat.ble 89 n then (bif Nat.ble 92 n then (bif Nat.beq n 92 then some (.dup2, 1) else none) else (bif Nat.beq n 89 then some (.dup, 1) else none)) else (bif Nat.ble 88 n then (bif Nat.beq n 88 then some (.pop2, 1) else none) else (bif Nat.beq n 87 then some (.pop, 1) else none))) else (bif Nat.ble 83 n then (bif Nat.ble 84 n then (bif Nat.beq n 84 then some (.bastore, 1) else none) else (bif Nat.beq n 83 then some (.aastore, 1) else none)) else (bif Nat.ble 80 n then (bif Nat.beq n 80 then some (.lastore, 1) else none) else (bif Nat.beq n 79 then some (.iastore, 1) else none)))) else (bif Nat.ble 75 n then (bif Nat.ble 77 n then (bif Nat.ble 78 n then (bif Nat.beq n 78 then some ((.astore_n 3), 1) else none) else (bif Nat.beq n 77 then some ((.astore_n 2), 1) else none)) else (bif Nat.ble 76 n then (bif Nat.beq n 76 then some ((.astore_n 1), 1) else none) else (bif Nat.beq n 75 then some ((.astore_n 0), 1) else none))) else (bif Nat.ble 65 n then (bif Nat.ble 66 n then (bif Nat.beq n 66 then some ((.lstore_n 3), 1) else none) else (bif Nat.beq n 65 then some ((.lstore_n 2), 1) else none)) else (bif Nat.beq n 64 then some ((.lstore_n 1), 1) else none)))) else (bif Nat.ble 55 n then (bif Nat.ble 60 n then (bif Nat.ble 62 n then (bif Nat.ble 63 n then (bif Nat.beq n 63 then some ((.lstore_n 0), 1) else none) else (bif Nat.beq n 62 then some ((.istore_n 3), 1) else none)) else (bif Nat.ble 61 n then (bif Nat.beq n 61 then some ((.istore_n 2), 1) else none) else (bif Nat.beq n 60 then some ((.istore_n 1), 1) else none))) else (bif Nat.ble 58 n then (bif Nat.ble 59 n then (bif Nat.beq n 59 then some ((.istore_n 0), 1) else none) else (bif Nat.beq n 58 then fd1 (fun z => .astore z) t else none)) else (bif Nat.beq n 55 then fd1 (fun z => .lstore z) t else none))) else (bif Nat.ble 47 n then (bif Nat.ble 51 n then (bif Nat.ble 54 n then (bif Nat.beq n 54 then fd1 (fun z => .istore z) t else none) else (bif Nat.beq n 51 then some (.baload, 1) else none)) else (bif Nat.ble 50 n then (bif Nat.beq n 50 then some (.aaload, 1) else none) else (bif Nat.beq n 47 then some (.laload, 1) else none))) else (bif Nat.ble 45 n then (bif Nat.ble 46 n then (bif Nat.beq n 46 then some (.iaload, 1) else none) else (bif Nat.beq n 45 then some ((.aload_n 3), 1) else none)) else (bif Nat.beq n 44 then some ((.aload_n 2), 1) else none))))) else (bif Nat.ble 20 n then (bif Nat.ble 29 n then (bif Nat.ble 32 n then (bif Nat.ble 42 n then (bif Nat.ble 43 n then (bif Nat.beq n 43 then some ((.aload_n 1), 1) else none) else (bif Nat.beq n 42 then some ((.aload_n 0), 1) else none)) else (bif Nat.ble 33 n then (bif Nat.beq n 33 then some ((.lload_n 3), 1) else none) else (bif Nat.beq n 32 then some ((.lload_n 2), 1) else none))) else (bif Nat.ble 30 n then (bif Nat.ble 31 n then (bif Nat.beq n 31 then some ((.lload_n 1), 1) else none) else (bif Nat.beq n 30 then some ((.lload_n 0), 1) else none)) else (bif Nat.beq n 29 then some ((.iload_n 3), 1) else none))) else (bif Nat.ble 25 n then (bif Nat.ble 27 n then (bif Nat.ble 28 n then (bif Nat.beq n 28 then some ((.iload_n 2), 1) else none) else (bif Nat.beq n 27 then some ((.iload_n 1), 1) else none)) else (bif Nat.ble 26 n then (bif Nat.beq n 26 then some ((.iload_n 0), 1) else none) else (bif Nat.beq n 25 then fd1 (fun z => .aload z) t else none))) else (bif Nat.ble 21 n then (bif Nat.ble 22 n then (bif Nat.beq n 22 then fd1 (fun z => .lload z) t else none) else (bif Nat.beq n 21 then fd1 (fun z => .iload z) t else none)) else (bif Nat.beq n 20 then fd2 (fun z => .ldc2_w z) t else none)))) else (bif Nat.ble 8 n then (bif Nat.ble 16 n then (bif Nat.ble 18 n then (bif Nat.ble 19 n then (bif Nat.beq n 19 then fd2 (fun z => .ldc_w z) t else none) else (bif Nat.beq n 18 then fd1 (fun z => .ldc z) t else none)) else (bif Nat.ble 17 n then (bif Nat.beq n 17 then fd2 (fun z => .sipush (Reader.signed 16 z)) t else none) else (bif Nat.beq n 16 then fd1 (fun z => .bipush (Reader.signed 8 z)) t else none))) else (bif Nat.ble 9 n then (bif Nat.ble 10 n then (bif Nat.beq n 10 then some ((.lconst 1), 1) else none) else (bif Nat.beq n 9 then some ((.lconst 0), 1) else none)) else (bif Nat.beq n 8 then some ((.iconst (5)), 1) else none))) else (bif Nat.ble 4 n then (bif Nat.ble 6 n then (bif Nat.ble 7 n then (bif Nat.beq n 7 then some ((.iconst (4)), 1) else none) else (bif Nat.beq n 6 then some ((.iconst (3)), 1) else none)) else (bif Nat.ble 5 n then (bif Nat.beq n 5 then some ((.iconst (2)), 1) else none) else (bif Nat.beq n 4 then some ((.iconst (1)), 1) else none))) else (bif Nat.ble 2 n then (bif Nat.ble 3 n then (bif Nat.beq n 3 then some ((.iconst (0)), 1) else none) else (bif Nat.beq n 2 then some ((.iconst (-1)), 1) else none)) else (bif Nat.beq n 1 then some (.aconst_null, 1) else none))))))
theorem fdec_ok (h : code.data.toList.drop pc = c :: t) : fS (fdec c.toNat t) code pc := fS_node (fS_node (fS_node (fS_node (fS_node (fS_node (fS_node (fS_leaf (fun e => fS_2 (fun a b r q => dc_199 (q ▸ h) e))) (fS_leaf (fun e => fS_2 (fun a b r q => dc_198 (q ▸ h) e)))) (fS_node (fS_leaf (fun e => fS_some (dc_190 h e))) (fS_leaf (fun e => fS_2 (fun a b r q => dc_189 (q ▸ h) e))))) (fS_node (fS_node (fS_leaf (fun e => fS_n h e)) (fS_leaf (fun e => fS_2 (fun a b r q => dc_187 (q ▸ h) e)))) (fS_node (fS_leaf (fun e => fS_2 (fun a b r q => dc_184 (q ▸ h) e))) (fS_leaf (fun e => fS_2 (fun a b r q => dc_183 (q ▸ h) e)))))) (fS_node (fS_node (fS_node (fS_leaf (fun e => fS_2 (fun a b r q => dc_182 (q ▸ h) e))) (fS_leaf (fun e => fS_2 (fun a b r q => dc_181 (q ▸ h) e)))) (fS_node (fS_leaf (fun e => fS_2 (fun a b r q => dc_180 (q ▸ h) e))) (fS_leaf (fun e => fS_2 (fun a b r q => dc_178 (q ▸ h) e))))) (fS_node (fS_node (fS_leaf (fun e => fS_some (dc_177 h e))) (fS_leaf (fun e => fS_some (dc_176 h e)))) (fS_leaf (fun e => fS_some (dc_173 h e)))))) (fS_node (fS_node (fS_node (fS_node (fS_leaf (fun e => fS_some (dc_172 h e))) (fS_leaf (fun e => fS_2 (fun a b r q => dc_167 (q ▸ h) e)))) (fS_node (fS_leaf (fun e => fS_2 (fun a b r q => dc_166 (q ▸ h) e))) (fS_leaf (fun e => fS_2 (fun a b r q => dc_165 (q ▸ h) e))))) (fS_node (fS_node (fS_leaf (fun e => fS_2 (fun a b r q => dc_164 (q ▸ h) e))) (fS_leaf (fun e => fS_2 (fun a b r q => dc_163 (q ▸ h) e)))) (fS_leaf (fun e => fS_2 (fun a b r q => dc_162 (q ▸ h) e))))) (fS_node (fS_node (fS_node (fS_leaf (fun e => fS_2 (fun a b r q => dc_161 (q ▸ h) e))) (fS_leaf (fun e => fS_2 (fun a b r q => dc_160 (q ▸ h) e)))) (fS_node (fS_leaf (fun e => fS_2 (fun a b r q => dc_159 (q ▸ h) e))) (fS_leaf (fun e => fS_2 (fun a b r q => dc_158 (q ▸ h) e))))) (fS_node (fS_node (fS_leaf (fun e => fS_2 (fun a b r q => dc_157 (q ▸ h) e))) (fS_leaf (fun e => fS_2 (fun a b r q => dc_156 (q ▸ h) e)))) (fS_leaf (fun e => fS_2 (fun a b r q => dc_155 (q ▸ h) e))))))) (fS_node (fS_node (fS_node (fS_node (fS_node (fS_leaf (fun e => fS_2 (fun a b r q => dc_154 (q ▸ h) e))) (fS_leaf (fun e => fS_2 (fun a b r q => dc_153 (q ▸ h) e)))) (fS_node (fS_leaf (fun e => fS_some (dc_148 h e))) (fS_leaf (fun e => fS_some (dc_146 h e))))) (fS_node (fS_node (fS_leaf (fun e => fS_some (dc_145 h e))) (fS_leaf (fun e => fS_some (dc_136 h e)))) (fS_node (fS_leaf (fun e => fS_some (dc_133 h e))) (fS_leaf (fun e => fS_i (fun a b r q => dc_132 (q ▸ h) e)))))) (fS_node (fS_node (fS_node (fS_leaf (fun e => fS_some (dc_131 h e))) (fS_leaf (fun e => fS_some (dc_130 h e)))) (fS_node (fS_leaf (fun e => fS_some (dc_129 h e))) (fS_leaf (fun e => fS_some (dc_128 h e))))) (fS_node (fS_node (fS_leaf (fun e => fS_some (dc_127 h e))) (fS_leaf (fun e => fS_some (dc_126 h e)))) (fS_leaf (fun e => fS_some (dc_123 h e)))))) (fS_node (fS_node (fS_node (fS_node (fS_leaf (fun e => fS_some (dc_122 h e))) (fS_leaf (fun e => fS_some (dc_121 h e)))) (fS_node (fS_leaf (fun e => fS_some (dc_120 h e))) (fS_leaf (fun e => fS_some (dc_116 h e))))) (fS_node (fS_node (fS_leaf (fun e => fS_some (dc_113 h e))) (fS_leaf (fun e => fS_some (dc_112 h e)))) (fS_leaf (fun e => fS_some (dc_109 h e))))) (fS_node (fS_node (fS_node (fS_leaf (fun e => fS_some (dc_108 h e))) (fS_leaf (fun e => fS_some (dc_105 h e)))) (fS_node (fS_leaf (fun e => fS_some (dc_104 h e))) (fS_leaf (fun e => fS_some (dc_101 h e))))) (fS_node (fS_node (fS_leaf (fun e => fS_some (dc_100 h e))) (fS_leaf (fun e => fS_some (dc_97 h e)))) (fS_leaf (fun e => fS_some (dc_96 h e)))))))) (fS_node (fS_node (fS_node (fS_node (fS_node (fS_node (fS_leaf (fun e => fS_some (dc_92 h e))) (fS_leaf (fun e => fS_some (dc_89 h e)))) (fS_node (fS_leaf (fun e => fS_some (dc_88 h e))) (fS_leaf (fun e => fS_some (dc_87 h e))))) (fS_node (fS_node (fS_leaf (fun e => fS_some (dc_84 h e))) (fS_leaf (fun e => fS_some (dc_83 h e)))) (fS_node (fS_leaf (fun e => fS_some (dc_80 h e))) (fS_leaf (fun e => fS_some (dc_79 h e)))))) (fS_node (fS_node (fS_node (fS_leaf (fun e => fS_some (dc_78 h e))) (fS_leaf (fun e => fS_some (dc_77 h e)))) (fS_node (fS_leaf (fun e => fS_some (dc_76 h e))) (fS_leaf (fun e => fS_some (dc_75 h e))))) (fS_node (fS_node (fS_leaf (fun e => fS_some (dc_66 h e))) (fS_leaf (fun e => fS_some (dc_65 h e)))) (fS_leaf (fun e => fS_some (dc_64 h e)))))) (fS_node (fS_node (fS_node (fS_node (fS_leaf (fun e => fS_some (dc_63 h e))) (fS_leaf (fun e => fS_some (dc_62 h e)))) (fS_node (fS_leaf (fun e => fS_some (dc_61 h e))) (fS_leaf (fun e => fS_some (dc_60 h e))))) (fS_node (fS_node (fS_leaf (fun e => fS_some (dc_59 h e))) (fS_leaf (fun e => fS_1 (fun a r q => dc_58 (q ▸ h) e)))) (fS_leaf (fun e => fS_1 (fun a r q => dc_55 (q ▸ h) e))))) (fS_node (fS_node (fS_node (fS_leaf (fun e => fS_1 (fun a r q => dc_54 (q ▸ h) e))) (fS_leaf (fun e => fS_some (dc_51 h e)))) (fS_node (fS_leaf (fun e => fS_some (dc_50 h e))) (fS_leaf (fun e => fS_some (dc_47 h e))))) (fS_node (fS_node (fS_leaf (fun e => fS_some (dc_46 h e))) (fS_leaf (fun e => fS_some (dc_45 h e)))) (fS_leaf (fun e => fS_some (dc_44 h e))))))) (fS_node (fS_node (fS_node (fS_node (fS_node (fS_leaf (fun e => fS_some (dc_43 h e))) (fS_leaf (fun e => fS_some (dc_42 h e)))) (fS_node (fS_leaf (fun e => fS_some (dc_33 h e))) (fS_leaf (fun e => fS_some (dc_32 h e))))) (fS_node (fS_node (fS_leaf (fun e => fS_some (dc_31 h e))) (fS_leaf (fun e => fS_some (dc_30 h e)))) (fS_leaf (fun e => fS_some (dc_29 h e))))) (fS_node (fS_node (fS_node (fS_leaf (fun e => fS_some (dc_28 h e))) (fS_leaf (fun e => fS_some (dc_27 h e)))) (fS_node (fS_leaf (fun e => fS_some (dc_26 h e))) (fS_leaf (fun e => fS_1 (fun a r q => dc_25 (q ▸ h) e))))) (fS_node (fS_node (fS_leaf (fun e => fS_1 (fun a r q => dc_22 (q ▸ h) e))) (fS_leaf (fun e => fS_1 (fun a r q => dc_21 (q ▸ h) e)))) (fS_leaf (fun e => fS_2 (fun a b r q => dc_20 (q ▸ h) e)))))) (fS_node (fS_node (fS_node (fS_node (fS_leaf (fun e => fS_2 (fun a b r q => dc_19 (q ▸ h) e))) (fS_leaf (fun e => fS_1 (fun a r q => dc_18 (q ▸ h) e)))) (fS_node (fS_leaf (fun e => fS_2 (fun a b r q => dc_17 (q ▸ h) e))) (fS_leaf (fun e => fS_1 (fun a r q => dc_16 (q ▸ h) e))))) (fS_node (fS_node (fS_leaf (fun e => fS_some (dc_10 h e))) (fS_leaf (fun e => fS_some (dc_9 h e)))) (fS_leaf (fun e => fS_some (dc_8 h e))))) (fS_node (fS_node (fS_node (fS_leaf (fun e => fS_some (dc_7 h e))) (fS_leaf (fun e => fS_some (dc_6 h e)))) (fS_node (fS_leaf (fun e => fS_some (dc_5 h e))) (fS_leaf (fun e => fS_some (dc_4 h e))))) (fS_node (fS_node (fS_leaf (fun e => fS_some (dc_3 h e))) (fS_leaf (fun e => fS_some (dc_2 h e)))) (fS_leaf (fun e => fS_some (dc_1 h e))))))))
end DEC
def hchk (y pc : Nat) (z : hOp × Nat) : Bool := match decode (hmB y) pc with
  | .ok (i, len) => decide (z ∈ hops y pc i len)
  | _ => false
def hP1 (y : Nat) (f : Nat → Option (hOp × Nat)) : Prop := ∀ pc op nx, f pc = some (op, nx) → ∃ i len, decode (hmB y) pc = .ok (i, len) ∧ (op, nx) ∈ hops y pc i len
def fchk (y : Nat) (f : Nat → Option (hOp × Nat)) : Nat → List UInt8 → Bool
  | _, [] => true
  | pc, c :: t => (match f pc with
    | none => true
    | some z => match fdec c.toNat t with
      | some (i, len) => decide (z ∈ hops y pc i len)
      | none => hchk y pc z) && fchk y f (pc + 1) t
theorem fchk_ok {y : Nat} {f : Nat → Option (hOp × Nat)} : ∀ (l : List UInt8) (pc : Nat), fchk y f pc l = true → (hmB y).data.toList.drop pc = l → ∀ q op nx, pc ≤ q → q < pc + l.length → f q = some (op, nx) → ∃ i len, decode (hmB y) q = .ok (i, len) ∧ (op, nx) ∈ hops y q i len := by
  intro l
  induction l with
  | nil => intro pc h1 h2 q op nx h3 h4 h5; simp only [List.length_nil] at h4; omega
  | cons c t ih =>
    intro pc h1 h2 q op nx h3 h4 h5
    unfold fchk at h1
    rw [Bool.and_eq_true] at h1
    by_cases hq : q = pc
    · subst hq
      rw [h5] at h1
      have h6 := h1.1
      dsimp only at h6
      cases e : fdec c.toNat t with
      | none =>
        rw [e] at h6
        dsimp only at h6
        unfold hchk at h6
        split at h6
        · rename_i i len e2
          exact ⟨i, len, e2, of_decide_eq_true h6⟩
        · cases h6
      | some z =>
        obtain ⟨i, len⟩ := z
        rw [e] at h6
        exact ⟨i, len, fdec_ok h2 i len e, of_decide_eq_true h6⟩
    · refine ih (pc + 1) h1.2 (ru1 h2).2 q op nx (by omega) (by simp only [List.length_cons] at h4; omega) h5
theorem hP1_of {y n : Nat} {f : Nat → Option (hOp × Nat)} (h1 : ∀ pc, Nat.ble n pc = true → f pc = none) (h2 : fchk y f 0 (hmB y).data.toList = true) (h3 : Nat.beq (hmB y).data.toList.length n = true) : hP1 y f := by
  intro pc op nx h
  have h3 := Nat.eq_of_beq_eq_true h3
  have hlt : pc < n := by
    rcases Nat.lt_or_ge pc n with q | q
    · exact q
    · rw [h1 pc (Nat.ble_eq.mpr q)] at h; cases h
  exact fchk_ok _ 0 h2 rfl pc op nx (Nat.zero_le _) (by omega) h
