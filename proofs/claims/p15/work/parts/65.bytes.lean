/-! WHAT DECODE GIVES, BY THE BYTES THAT STAND THERE (written by wip/p2/gen65.py) -/
def bAt (c : ByteArray) (p b : Nat) : Prop := ∃ h : p < c.size, (c[p]'h).toNat = b
def bIs (c : ByteArray) : Nat → List Nat → Prop
  | _, [] => True
  | p, b :: l => bAt c p b ∧ bIs c (p + 1) l
theorem u1_at {c : ByteArray} {p b : Nat} (h : bAt c p b) : (Reader.u1 : Decoder Nat) c p = .ok (b, p + 1) := by
  obtain ⟨hi, e⟩ := h
  subst e
  show (do if h : p < c.size then do set (p + 1); Pure.pure c[p].toNat else MonadExcept.throw (HasTruncated.truncated p) : Decoder Nat) c p = _
  rw [dif_pos hi]
  rfl
theorem bind_at {α β : Type} {r : Decoder α} {f : α → Decoder β} {c : ByteArray} {p p' : Nat} {a : α} (h : r c p = .ok (a, p')) : (r >>= f) c p = f a c p' := by
  have e : (r >>= f) c p = (match r c p with | .error e => Except.error e | .ok (a, s) => f a c s) := by
    show (do let (a, s) ← r c p; f a c s : Except DecodeError (β × Nat)) = _
    cases r c p <;> rfl
  rw [e, h]
theorem map_at {α β : Type} {r : Decoder α} {f : α → β} {c : ByteArray} {p p' : Nat} {a : α} (h : r c p = .ok (a, p')) : (f <$> r) c p = .ok (f a, p') := by
  have e : (f <$> r) c p = (match r c p with | .error e => Except.error e | .ok (a, s) => .ok (f a, s)) := by
    show (do let (a, s) ← r c p; Pure.pure (f a, s) : Except DecodeError (β × Nat)) = _
    cases r c p <;> rfl
  rw [e, h]
theorem s1_at {c : ByteArray} {p b : Nat} (h : bAt c p b) : (Reader.s1 : Decoder Int) c p = .ok (Reader.signed 8 b, p + 1) := map_at (u1_at h)
theorem u2_at {c : ByteArray} {p a b : Nat} (h : bAt c p a) (h2 : bAt c (p + 1) b) : (Reader.u2 : Decoder Nat) c p = .ok (a * 256 + b, p + 2) := by
  delta Reader.u2
  exact (bind_at (u1_at h)).trans ((bind_at (u1_at h2)).trans rfl)
theorem s2_at {c : ByteArray} {p a b : Nat} (h : bAt c p a) (h2 : bAt c (p + 1) b) : (Reader.s2 : Decoder Int) c p = .ok (Reader.signed 16 (a * 256 + b), p + 2) := map_at (u2_at h h2)
theorem dec_of {c : ByteArray} {pc n : Nat} {i : Instr} (h : Decoder.instr pc c pc = .ok (i, pc + n)) : decode c pc = .ok (i, n) := by
  show (do let (instr, next) ← Decoder.instr pc c pc; Pure.pure (instr, next - pc) : Except DecodeError (Instr × Nat)) = _
  rw [h]
  show (Except.ok (i, pc + n - pc) : Except DecodeError (Instr × Nat)) = _
  rw [Nat.add_sub_cancel_left]
section
variable {c : ByteArray} {pc a b d : Nat}
theorem dc1 (h : bAt c pc 1) : decode c pc = .ok (.aconst_null, 1) := by
  refine dec_of ?_
  delta Decoder.instr
  exact (bind_at (u1_at h)).trans rfl
theorem dc2 (h : bAt c pc 2) : decode c pc = .ok ((.iconst (-1)), 1) := by
  refine dec_of ?_
  delta Decoder.instr
  exact (bind_at (u1_at h)).trans rfl
theorem dc3 (h : bAt c pc 3) : decode c pc = .ok ((.iconst 0), 1) := by
  refine dec_of ?_
  delta Decoder.instr
  exact (bind_at (u1_at h)).trans rfl
theorem dc4 (h : bAt c pc 4) : decode c pc = .ok ((.iconst 1), 1) := by
  refine dec_of ?_
  delta Decoder.instr
  exact (bind_at (u1_at h)).trans rfl
theorem dc5 (h : bAt c pc 5) : decode c pc = .ok ((.iconst 2), 1) := by
  refine dec_of ?_
  delta Decoder.instr
  exact (bind_at (u1_at h)).trans rfl
theorem dc6 (h : bAt c pc 6) : decode c pc = .ok ((.iconst 3), 1) := by
  refine dec_of ?_
  delta Decoder.instr
  exact (bind_at (u1_at h)).trans rfl
theorem dc7 (h : bAt c pc 7) : decode c pc = .ok ((.iconst 4), 1) := by
  refine dec_of ?_
  delta Decoder.instr
  exact (bind_at (u1_at h)).trans rfl
theorem dc8 (h : bAt c pc 8) : decode c pc = .ok ((.iconst 5), 1) := by
  refine dec_of ?_
  delta Decoder.instr
  exact (bind_at (u1_at h)).trans rfl
theorem dc9 (h : bAt c pc 9) : decode c pc = .ok ((.lconst 0), 1) := by
  refine dec_of ?_
  delta Decoder.instr
  exact (bind_at (u1_at h)).trans rfl
theorem dc10 (h : bAt c pc 10) : decode c pc = .ok ((.lconst 1), 1) := by
  refine dec_of ?_
  delta Decoder.instr
  exact (bind_at (u1_at h)).trans rfl
theorem dc26 (h : bAt c pc 26) : decode c pc = .ok ((.iload_n 0), 1) := by
  refine dec_of ?_
  delta Decoder.instr
  exact (bind_at (u1_at h)).trans rfl
theorem dc27 (h : bAt c pc 27) : decode c pc = .ok ((.iload_n 1), 1) := by
  refine dec_of ?_
  delta Decoder.instr
  exact (bind_at (u1_at h)).trans rfl
theorem dc28 (h : bAt c pc 28) : decode c pc = .ok ((.iload_n 2), 1) := by
  refine dec_of ?_
  delta Decoder.instr
  exact (bind_at (u1_at h)).trans rfl
theorem dc29 (h : bAt c pc 29) : decode c pc = .ok ((.iload_n 3), 1) := by
  refine dec_of ?_
  delta Decoder.instr
  exact (bind_at (u1_at h)).trans rfl
theorem dc30 (h : bAt c pc 30) : decode c pc = .ok ((.lload_n 0), 1) := by
  refine dec_of ?_
  delta Decoder.instr
  exact (bind_at (u1_at h)).trans rfl
theorem dc31 (h : bAt c pc 31) : decode c pc = .ok ((.lload_n 1), 1) := by
  refine dec_of ?_
  delta Decoder.instr
  exact (bind_at (u1_at h)).trans rfl
theorem dc32 (h : bAt c pc 32) : decode c pc = .ok ((.lload_n 2), 1) := by
  refine dec_of ?_
  delta Decoder.instr
  exact (bind_at (u1_at h)).trans rfl
theorem dc33 (h : bAt c pc 33) : decode c pc = .ok ((.lload_n 3), 1) := by
  refine dec_of ?_
  delta Decoder.instr
  exact (bind_at (u1_at h)).trans rfl
theorem dc42 (h : bAt c pc 42) : decode c pc = .ok ((.aload_n 0), 1) := by
  refine dec_of ?_
  delta Decoder.instr
  exact (bind_at (u1_at h)).trans rfl
theorem dc43 (h : bAt c pc 43) : decode c pc = .ok ((.aload_n 1), 1) := by
  refine dec_of ?_
  delta Decoder.instr
  exact (bind_at (u1_at h)).trans rfl
theorem dc44 (h : bAt c pc 44) : decode c pc = .ok ((.aload_n 2), 1) := by
  refine dec_of ?_
  delta Decoder.instr
  exact (bind_at (u1_at h)).trans rfl
theorem dc45 (h : bAt c pc 45) : decode c pc = .ok ((.aload_n 3), 1) := by
  refine dec_of ?_
  delta Decoder.instr
  exact (bind_at (u1_at h)).trans rfl
theorem dc46 (h : bAt c pc 46) : decode c pc = .ok (.iaload, 1) := by
  refine dec_of ?_
  delta Decoder.instr
  exact (bind_at (u1_at h)).trans rfl
theorem dc47 (h : bAt c pc 47) : decode c pc = .ok (.laload, 1) := by
  refine dec_of ?_
  delta Decoder.instr
  exact (bind_at (u1_at h)).trans rfl
theorem dc50 (h : bAt c pc 50) : decode c pc = .ok (.aaload, 1) := by
  refine dec_of ?_
  delta Decoder.instr
  exact (bind_at (u1_at h)).trans rfl
theorem dc51 (h : bAt c pc 51) : decode c pc = .ok (.baload, 1) := by
  refine dec_of ?_
  delta Decoder.instr
  exact (bind_at (u1_at h)).trans rfl
theorem dc59 (h : bAt c pc 59) : decode c pc = .ok ((.istore_n 0), 1) := by
  refine dec_of ?_
  delta Decoder.instr
  exact (bind_at (u1_at h)).trans rfl
theorem dc60 (h : bAt c pc 60) : decode c pc = .ok ((.istore_n 1), 1) := by
  refine dec_of ?_
  delta Decoder.instr
  exact (bind_at (u1_at h)).trans rfl
theorem dc61 (h : bAt c pc 61) : decode c pc = .ok ((.istore_n 2), 1) := by
  refine dec_of ?_
  delta Decoder.instr
  exact (bind_at (u1_at h)).trans rfl
theorem dc62 (h : bAt c pc 62) : decode c pc = .ok ((.istore_n 3), 1) := by
  refine dec_of ?_
  delta Decoder.instr
  exact (bind_at (u1_at h)).trans rfl
theorem dc63 (h : bAt c pc 63) : decode c pc = .ok ((.lstore_n 0), 1) := by
  refine dec_of ?_
  delta Decoder.instr
  exact (bind_at (u1_at h)).trans rfl
theorem dc64 (h : bAt c pc 64) : decode c pc = .ok ((.lstore_n 1), 1) := by
  refine dec_of ?_
  delta Decoder.instr
  exact (bind_at (u1_at h)).trans rfl
theorem dc65 (h : bAt c pc 65) : decode c pc = .ok ((.lstore_n 2), 1) := by
  refine dec_of ?_
  delta Decoder.instr
  exact (bind_at (u1_at h)).trans rfl
theorem dc66 (h : bAt c pc 66) : decode c pc = .ok ((.lstore_n 3), 1) := by
  refine dec_of ?_
  delta Decoder.instr
  exact (bind_at (u1_at h)).trans rfl
theorem dc75 (h : bAt c pc 75) : decode c pc = .ok ((.astore_n 0), 1) := by
  refine dec_of ?_
  delta Decoder.instr
  exact (bind_at (u1_at h)).trans rfl
theorem dc76 (h : bAt c pc 76) : decode c pc = .ok ((.astore_n 1), 1) := by
  refine dec_of ?_
  delta Decoder.instr
  exact (bind_at (u1_at h)).trans rfl
theorem dc77 (h : bAt c pc 77) : decode c pc = .ok ((.astore_n 2), 1) := by
  refine dec_of ?_
  delta Decoder.instr
  exact (bind_at (u1_at h)).trans rfl
theorem dc78 (h : bAt c pc 78) : decode c pc = .ok ((.astore_n 3), 1) := by
  refine dec_of ?_
  delta Decoder.instr
  exact (bind_at (u1_at h)).trans rfl
theorem dc79 (h : bAt c pc 79) : decode c pc = .ok (.iastore, 1) := by
  refine dec_of ?_
  delta Decoder.instr
  exact (bind_at (u1_at h)).trans rfl
theorem dc80 (h : bAt c pc 80) : decode c pc = .ok (.lastore, 1) := by
  refine dec_of ?_
  delta Decoder.instr
  exact (bind_at (u1_at h)).trans rfl
theorem dc84 (h : bAt c pc 84) : decode c pc = .ok (.bastore, 1) := by
  refine dec_of ?_
  delta Decoder.instr
  exact (bind_at (u1_at h)).trans rfl
theorem dc87 (h : bAt c pc 87) : decode c pc = .ok (.pop, 1) := by
  refine dec_of ?_
  delta Decoder.instr
  exact (bind_at (u1_at h)).trans rfl
theorem dc88 (h : bAt c pc 88) : decode c pc = .ok (.pop2, 1) := by
  refine dec_of ?_
  delta Decoder.instr
  exact (bind_at (u1_at h)).trans rfl
theorem dc89 (h : bAt c pc 89) : decode c pc = .ok (.dup, 1) := by
  refine dec_of ?_
  delta Decoder.instr
  exact (bind_at (u1_at h)).trans rfl
theorem dc90 (h : bAt c pc 90) : decode c pc = .ok (.dup_x1, 1) := by
  refine dec_of ?_
  delta Decoder.instr
  exact (bind_at (u1_at h)).trans rfl
theorem dc91 (h : bAt c pc 91) : decode c pc = .ok (.dup_x2, 1) := by
  refine dec_of ?_
  delta Decoder.instr
  exact (bind_at (u1_at h)).trans rfl
theorem dc92 (h : bAt c pc 92) : decode c pc = .ok (.dup2, 1) := by
  refine dec_of ?_
  delta Decoder.instr
  exact (bind_at (u1_at h)).trans rfl
theorem dc93 (h : bAt c pc 93) : decode c pc = .ok (.dup2_x1, 1) := by
  refine dec_of ?_
  delta Decoder.instr
  exact (bind_at (u1_at h)).trans rfl
theorem dc96 (h : bAt c pc 96) : decode c pc = .ok (.iadd, 1) := by
  refine dec_of ?_
  delta Decoder.instr
  exact (bind_at (u1_at h)).trans rfl
theorem dc97 (h : bAt c pc 97) : decode c pc = .ok (.ladd, 1) := by
  refine dec_of ?_
  delta Decoder.instr
  exact (bind_at (u1_at h)).trans rfl
theorem dc100 (h : bAt c pc 100) : decode c pc = .ok (.isub, 1) := by
  refine dec_of ?_
  delta Decoder.instr
  exact (bind_at (u1_at h)).trans rfl
theorem dc101 (h : bAt c pc 101) : decode c pc = .ok (.lsub, 1) := by
  refine dec_of ?_
  delta Decoder.instr
  exact (bind_at (u1_at h)).trans rfl
theorem dc104 (h : bAt c pc 104) : decode c pc = .ok (.imul, 1) := by
  refine dec_of ?_
  delta Decoder.instr
  exact (bind_at (u1_at h)).trans rfl
theorem dc105 (h : bAt c pc 105) : decode c pc = .ok (.lmul, 1) := by
  refine dec_of ?_
  delta Decoder.instr
  exact (bind_at (u1_at h)).trans rfl
theorem dc108 (h : bAt c pc 108) : decode c pc = .ok (.idiv, 1) := by
  refine dec_of ?_
  delta Decoder.instr
  exact (bind_at (u1_at h)).trans rfl
theorem dc109 (h : bAt c pc 109) : decode c pc = .ok (.ldiv, 1) := by
  refine dec_of ?_
  delta Decoder.instr
  exact (bind_at (u1_at h)).trans rfl
theorem dc112 (h : bAt c pc 112) : decode c pc = .ok (.irem, 1) := by
  refine dec_of ?_
  delta Decoder.instr
  exact (bind_at (u1_at h)).trans rfl
theorem dc113 (h : bAt c pc 113) : decode c pc = .ok (.lrem, 1) := by
  refine dec_of ?_
  delta Decoder.instr
  exact (bind_at (u1_at h)).trans rfl
theorem dc116 (h : bAt c pc 116) : decode c pc = .ok (.ineg, 1) := by
  refine dec_of ?_
  delta Decoder.instr
  exact (bind_at (u1_at h)).trans rfl
theorem dc117 (h : bAt c pc 117) : decode c pc = .ok (.lneg, 1) := by
  refine dec_of ?_
  delta Decoder.instr
  exact (bind_at (u1_at h)).trans rfl
theorem dc120 (h : bAt c pc 120) : decode c pc = .ok (.ishl, 1) := by
  refine dec_of ?_
  delta Decoder.instr
  exact (bind_at (u1_at h)).trans rfl
theorem dc121 (h : bAt c pc 121) : decode c pc = .ok (.lshl, 1) := by
  refine dec_of ?_
  delta Decoder.instr
  exact (bind_at (u1_at h)).trans rfl
theorem dc122 (h : bAt c pc 122) : decode c pc = .ok (.ishr, 1) := by
  refine dec_of ?_
  delta Decoder.instr
  exact (bind_at (u1_at h)).trans rfl
theorem dc123 (h : bAt c pc 123) : decode c pc = .ok (.lshr, 1) := by
  refine dec_of ?_
  delta Decoder.instr
  exact (bind_at (u1_at h)).trans rfl
theorem dc124 (h : bAt c pc 124) : decode c pc = .ok (.iushr, 1) := by
  refine dec_of ?_
  delta Decoder.instr
  exact (bind_at (u1_at h)).trans rfl
theorem dc125 (h : bAt c pc 125) : decode c pc = .ok (.lushr, 1) := by
  refine dec_of ?_
  delta Decoder.instr
  exact (bind_at (u1_at h)).trans rfl
theorem dc126 (h : bAt c pc 126) : decode c pc = .ok (.iand, 1) := by
  refine dec_of ?_
  delta Decoder.instr
  exact (bind_at (u1_at h)).trans rfl
theorem dc127 (h : bAt c pc 127) : decode c pc = .ok (.land, 1) := by
  refine dec_of ?_
  delta Decoder.instr
  exact (bind_at (u1_at h)).trans rfl
theorem dc128 (h : bAt c pc 128) : decode c pc = .ok (.ior, 1) := by
  refine dec_of ?_
  delta Decoder.instr
  exact (bind_at (u1_at h)).trans rfl
theorem dc129 (h : bAt c pc 129) : decode c pc = .ok (.lor, 1) := by
  refine dec_of ?_
  delta Decoder.instr
  exact (bind_at (u1_at h)).trans rfl
theorem dc130 (h : bAt c pc 130) : decode c pc = .ok (.ixor, 1) := by
  refine dec_of ?_
  delta Decoder.instr
  exact (bind_at (u1_at h)).trans rfl
theorem dc131 (h : bAt c pc 131) : decode c pc = .ok (.lxor, 1) := by
  refine dec_of ?_
  delta Decoder.instr
  exact (bind_at (u1_at h)).trans rfl
theorem dc133 (h : bAt c pc 133) : decode c pc = .ok (.i2l, 1) := by
  refine dec_of ?_
  delta Decoder.instr
  exact (bind_at (u1_at h)).trans rfl
theorem dc136 (h : bAt c pc 136) : decode c pc = .ok (.l2i, 1) := by
  refine dec_of ?_
  delta Decoder.instr
  exact (bind_at (u1_at h)).trans rfl
theorem dc145 (h : bAt c pc 145) : decode c pc = .ok (.i2b, 1) := by
  refine dec_of ?_
  delta Decoder.instr
  exact (bind_at (u1_at h)).trans rfl
theorem dc147 (h : bAt c pc 147) : decode c pc = .ok (.i2s, 1) := by
  refine dec_of ?_
  delta Decoder.instr
  exact (bind_at (u1_at h)).trans rfl
theorem dc148 (h : bAt c pc 148) : decode c pc = .ok (.lcmp, 1) := by
  refine dec_of ?_
  delta Decoder.instr
  exact (bind_at (u1_at h)).trans rfl
theorem dc172 (h : bAt c pc 172) : decode c pc = .ok (.ireturn, 1) := by
  refine dec_of ?_
  delta Decoder.instr
  exact (bind_at (u1_at h)).trans rfl
theorem dc173 (h : bAt c pc 173) : decode c pc = .ok (.lreturn, 1) := by
  refine dec_of ?_
  delta Decoder.instr
  exact (bind_at (u1_at h)).trans rfl
theorem dc176 (h : bAt c pc 176) : decode c pc = .ok (.areturn, 1) := by
  refine dec_of ?_
  delta Decoder.instr
  exact (bind_at (u1_at h)).trans rfl
theorem dc177 (h : bAt c pc 177) : decode c pc = .ok (.return_, 1) := by
  refine dec_of ?_
  delta Decoder.instr
  exact (bind_at (u1_at h)).trans rfl
theorem dc190 (h : bAt c pc 190) : decode c pc = .ok (.arraylength, 1) := by
  refine dec_of ?_
  delta Decoder.instr
  exact (bind_at (u1_at h)).trans rfl
theorem dc16 (h : bAt c pc 16) (h2 : bAt c (pc + 1) a) : decode c pc = .ok (.bipush (Reader.signed 8 a), 2) := by
  refine dec_of ?_
  delta Decoder.instr
  refine (bind_at (u1_at h)).trans ?_
  show ((Reader.s1 : Decoder Int) >>= fun x => Pure.pure (Instr.bipush x)) c (pc + 1) = _
  exact (bind_at (s1_at h2)).trans rfl
theorem dc18 (h : bAt c pc 18) (h2 : bAt c (pc + 1) a) : decode c pc = .ok (.ldc a, 2) := by
  refine dec_of ?_
  delta Decoder.instr
  refine (bind_at (u1_at h)).trans ?_
  show ((Reader.u1 : Decoder Nat) >>= fun x => Pure.pure (Instr.ldc x)) c (pc + 1) = _
  exact (bind_at (u1_at h2)).trans rfl
theorem dc21 (h : bAt c pc 21) (h2 : bAt c (pc + 1) a) : decode c pc = .ok (.iload a, 2) := by
  refine dec_of ?_
  delta Decoder.instr
  refine (bind_at (u1_at h)).trans ?_
  show ((Reader.u1 : Decoder Nat) >>= fun x => Pure.pure (Instr.iload x)) c (pc + 1) = _
  exact (bind_at (u1_at h2)).trans rfl
theorem dc22 (h : bAt c pc 22) (h2 : bAt c (pc + 1) a) : decode c pc = .ok (.lload a, 2) := by
  refine dec_of ?_
  delta Decoder.instr
  refine (bind_at (u1_at h)).trans ?_
  show ((Reader.u1 : Decoder Nat) >>= fun x => Pure.pure (Instr.lload x)) c (pc + 1) = _
  exact (bind_at (u1_at h2)).trans rfl
theorem dc25 (h : bAt c pc 25) (h2 : bAt c (pc + 1) a) : decode c pc = .ok (.aload a, 2) := by
  refine dec_of ?_
  delta Decoder.instr
  refine (bind_at (u1_at h)).trans ?_
  show ((Reader.u1 : Decoder Nat) >>= fun x => Pure.pure (Instr.aload x)) c (pc + 1) = _
  exact (bind_at (u1_at h2)).trans rfl
theorem dc54 (h : bAt c pc 54) (h2 : bAt c (pc + 1) a) : decode c pc = .ok (.istore a, 2) := by
  refine dec_of ?_
  delta Decoder.instr
  refine (bind_at (u1_at h)).trans ?_
  show ((Reader.u1 : Decoder Nat) >>= fun x => Pure.pure (Instr.istore x)) c (pc + 1) = _
  exact (bind_at (u1_at h2)).trans rfl
theorem dc55 (h : bAt c pc 55) (h2 : bAt c (pc + 1) a) : decode c pc = .ok (.lstore a, 2) := by
  refine dec_of ?_
  delta Decoder.instr
  refine (bind_at (u1_at h)).trans ?_
  show ((Reader.u1 : Decoder Nat) >>= fun x => Pure.pure (Instr.lstore x)) c (pc + 1) = _
  exact (bind_at (u1_at h2)).trans rfl
theorem dc58 (h : bAt c pc 58) (h2 : bAt c (pc + 1) a) : decode c pc = .ok (.astore a, 2) := by
  refine dec_of ?_
  delta Decoder.instr
  refine (bind_at (u1_at h)).trans ?_
  show ((Reader.u1 : Decoder Nat) >>= fun x => Pure.pure (Instr.astore x)) c (pc + 1) = _
  exact (bind_at (u1_at h2)).trans rfl
theorem dc17 (h : bAt c pc 17) (h2 : bAt c (pc + 1) a) (h3 : bAt c (pc + 2) b) : decode c pc = .ok (.sipush (Reader.signed 16 (a * 256 + b)), 3) := by
  refine dec_of ?_
  delta Decoder.instr
  refine (bind_at (u1_at h)).trans ?_
  show ((Reader.s2 : Decoder Int) >>= fun x => Pure.pure (Instr.sipush x)) c (pc + 1) = _
  exact (bind_at (s2_at h2 h3)).trans rfl
theorem dc19 (h : bAt c pc 19) (h2 : bAt c (pc + 1) a) (h3 : bAt c (pc + 2) b) : decode c pc = .ok (.ldc_w (a * 256 + b), 3) := by
  refine dec_of ?_
  delta Decoder.instr
  refine (bind_at (u1_at h)).trans ?_
  show ((Reader.u2 : Decoder Nat) >>= fun x => Pure.pure (Instr.ldc_w x)) c (pc + 1) = _
  exact (bind_at (u2_at h2 h3)).trans rfl
theorem dc20 (h : bAt c pc 20) (h2 : bAt c (pc + 1) a) (h3 : bAt c (pc + 2) b) : decode c pc = .ok (.ldc2_w (a * 256 + b), 3) := by
  refine dec_of ?_
  delta Decoder.instr
  refine (bind_at (u1_at h)).trans ?_
  show ((Reader.u2 : Decoder Nat) >>= fun x => Pure.pure (Instr.ldc2_w x)) c (pc + 1) = _
  exact (bind_at (u2_at h2 h3)).trans rfl
theorem dc153 (h : bAt c pc 153) (h2 : bAt c (pc + 1) a) (h3 : bAt c (pc + 2) b) : decode c pc = .ok (.ifCond .eq (Reader.signed 16 (a * 256 + b)), 3) := by
  refine dec_of ?_
  delta Decoder.instr
  refine (bind_at (u1_at h)).trans ?_
  show ((Reader.s2 : Decoder Int) >>= fun x => Pure.pure (Instr.ifCond .eq x)) c (pc + 1) = _
  exact (bind_at (s2_at h2 h3)).trans rfl
theorem dc154 (h : bAt c pc 154) (h2 : bAt c (pc + 1) a) (h3 : bAt c (pc + 2) b) : decode c pc = .ok (.ifCond .ne (Reader.signed 16 (a * 256 + b)), 3) := by
  refine dec_of ?_
  delta Decoder.instr
  refine (bind_at (u1_at h)).trans ?_
  show ((Reader.s2 : Decoder Int) >>= fun x => Pure.pure (Instr.ifCond .ne x)) c (pc + 1) = _
  exact (bind_at (s2_at h2 h3)).trans rfl
theorem dc155 (h : bAt c pc 155) (h2 : bAt c (pc + 1) a) (h3 : bAt c (pc + 2) b) : decode c pc = .ok (.ifCond .lt (Reader.signed 16 (a * 256 + b)), 3) := by
  refine dec_of ?_
  delta Decoder.instr
  refine (bind_at (u1_at h)).trans ?_
  show ((Reader.s2 : Decoder Int) >>= fun x => Pure.pure (Instr.ifCond .lt x)) c (pc + 1) = _
  exact (bind_at (s2_at h2 h3)).trans rfl
theorem dc156 (h : bAt c pc 156) (h2 : bAt c (pc + 1) a) (h3 : bAt c (pc + 2) b) : decode c pc = .ok (.ifCond .ge (Reader.signed 16 (a * 256 + b)), 3) := by
  refine dec_of ?_
  delta Decoder.instr
  refine (bind_at (u1_at h)).trans ?_
  show ((Reader.s2 : Decoder Int) >>= fun x => Pure.pure (Instr.ifCond .ge x)) c (pc + 1) = _
  exact (bind_at (s2_at h2 h3)).trans rfl
theorem dc157 (h : bAt c pc 157) (h2 : bAt c (pc + 1) a) (h3 : bAt c (pc + 2) b) : decode c pc = .ok (.ifCond .gt (Reader.signed 16 (a * 256 + b)), 3) := by
  refine dec_of ?_
  delta Decoder.instr
  refine (bind_at (u1_at h)).trans ?_
  show ((Reader.s2 : Decoder Int) >>= fun x => Pure.pure (Instr.ifCond .gt x)) c (pc + 1) = _
  exact (bind_at (s2_at h2 h3)).trans rfl
theorem dc158 (h : bAt c pc 158) (h2 : bAt c (pc + 1) a) (h3 : bAt c (pc + 2) b) : decode c pc = .ok (.ifCond .le (Reader.signed 16 (a * 256 + b)), 3) := by
  refine dec_of ?_
  delta Decoder.instr
  refine (bind_at (u1_at h)).trans ?_
  show ((Reader.s2 : Decoder Int) >>= fun x => Pure.pure (Instr.ifCond .le x)) c (pc + 1) = _
  exact (bind_at (s2_at h2 h3)).trans rfl
theorem dc159 (h : bAt c pc 159) (h2 : bAt c (pc + 1) a) (h3 : bAt c (pc + 2) b) : decode c pc = .ok (.if_icmp .eq (Reader.signed 16 (a * 256 + b)), 3) := by
  refine dec_of ?_
  delta Decoder.instr
  refine (bind_at (u1_at h)).trans ?_
  show ((Reader.s2 : Decoder Int) >>= fun x => Pure.pure (Instr.if_icmp .eq x)) c (pc + 1) = _
  exact (bind_at (s2_at h2 h3)).trans rfl
theorem dc160 (h : bAt c pc 160) (h2 : bAt c (pc + 1) a) (h3 : bAt c (pc + 2) b) : decode c pc = .ok (.if_icmp .ne (Reader.signed 16 (a * 256 + b)), 3) := by
  refine dec_of ?_
  delta Decoder.instr
  refine (bind_at (u1_at h)).trans ?_
  show ((Reader.s2 : Decoder Int) >>= fun x => Pure.pure (Instr.if_icmp .ne x)) c (pc + 1) = _
  exact (bind_at (s2_at h2 h3)).trans rfl
theorem dc161 (h : bAt c pc 161) (h2 : bAt c (pc + 1) a) (h3 : bAt c (pc + 2) b) : decode c pc = .ok (.if_icmp .lt (Reader.signed 16 (a * 256 + b)), 3) := by
  refine dec_of ?_
  delta Decoder.instr
  refine (bind_at (u1_at h)).trans ?_
  show ((Reader.s2 : Decoder Int) >>= fun x => Pure.pure (Instr.if_icmp .lt x)) c (pc + 1) = _
  exact (bind_at (s2_at h2 h3)).trans rfl
theorem dc162 (h : bAt c pc 162) (h2 : bAt c (pc + 1) a) (h3 : bAt c (pc + 2) b) : decode c pc = .ok (.if_icmp .ge (Reader.signed 16 (a * 256 + b)), 3) := by
  refine dec_of ?_
  delta Decoder.instr
  refine (bind_at (u1_at h)).trans ?_
  show ((Reader.s2 : Decoder Int) >>= fun x => Pure.pure (Instr.if_icmp .ge x)) c (pc + 1) = _
  exact (bind_at (s2_at h2 h3)).trans rfl
theorem dc163 (h : bAt c pc 163) (h2 : bAt c (pc + 1) a) (h3 : bAt c (pc + 2) b) : decode c pc = .ok (.if_icmp .gt (Reader.signed 16 (a * 256 + b)), 3) := by
  refine dec_of ?_
  delta Decoder.instr
  refine (bind_at (u1_at h)).trans ?_
  show ((Reader.s2 : Decoder Int) >>= fun x => Pure.pure (Instr.if_icmp .gt x)) c (pc + 1) = _
  exact (bind_at (s2_at h2 h3)).trans rfl
theorem dc164 (h : bAt c pc 164) (h2 : bAt c (pc + 1) a) (h3 : bAt c (pc + 2) b) : decode c pc = .ok (.if_icmp .le (Reader.signed 16 (a * 256 + b)), 3) := by
  refine dec_of ?_
  delta Decoder.instr
  refine (bind_at (u1_at h)).trans ?_
  show ((Reader.s2 : Decoder Int) >>= fun x => Pure.pure (Instr.if_icmp .le x)) c (pc + 1) = _
  exact (bind_at (s2_at h2 h3)).trans rfl
theorem dc167 (h : bAt c pc 167) (h2 : bAt c (pc + 1) a) (h3 : bAt c (pc + 2) b) : decode c pc = .ok (.goto (Reader.signed 16 (a * 256 + b)), 3) := by
  refine dec_of ?_
  delta Decoder.instr
  refine (bind_at (u1_at h)).trans ?_
  show ((Reader.s2 : Decoder Int) >>= fun x => Pure.pure (Instr.goto x)) c (pc + 1) = _
  exact (bind_at (s2_at h2 h3)).trans rfl
theorem dc178 (h : bAt c pc 178) (h2 : bAt c (pc + 1) a) (h3 : bAt c (pc + 2) b) : decode c pc = .ok (.getstatic (a * 256 + b), 3) := by
  refine dec_of ?_
  delta Decoder.instr
  refine (bind_at (u1_at h)).trans ?_
  show ((Reader.u2 : Decoder Nat) >>= fun x => Pure.pure (Instr.getstatic x)) c (pc + 1) = _
  exact (bind_at (u2_at h2 h3)).trans rfl
theorem dc180 (h : bAt c pc 180) (h2 : bAt c (pc + 1) a) (h3 : bAt c (pc + 2) b) : decode c pc = .ok (.getfield (a * 256 + b), 3) := by
  refine dec_of ?_
  delta Decoder.instr
  refine (bind_at (u1_at h)).trans ?_
  show ((Reader.u2 : Decoder Nat) >>= fun x => Pure.pure (Instr.getfield x)) c (pc + 1) = _
  exact (bind_at (u2_at h2 h3)).trans rfl
theorem dc181 (h : bAt c pc 181) (h2 : bAt c (pc + 1) a) (h3 : bAt c (pc + 2) b) : decode c pc = .ok (.putfield (a * 256 + b), 3) := by
  refine dec_of ?_
  delta Decoder.instr
  refine (bind_at (u1_at h)).trans ?_
  show ((Reader.u2 : Decoder Nat) >>= fun x => Pure.pure (Instr.putfield x)) c (pc + 1) = _
  exact (bind_at (u2_at h2 h3)).trans rfl
theorem dc182 (h : bAt c pc 182) (h2 : bAt c (pc + 1) a) (h3 : bAt c (pc + 2) b) : decode c pc = .ok (.invokevirtual (a * 256 + b), 3) := by
  refine dec_of ?_
  delta Decoder.instr
  refine (bind_at (u1_at h)).trans ?_
  show ((Reader.u2 : Decoder Nat) >>= fun x => Pure.pure (Instr.invokevirtual x)) c (pc + 1) = _
  exact (bind_at (u2_at h2 h3)).trans rfl
theorem dc183 (h : bAt c pc 183) (h2 : bAt c (pc + 1) a) (h3 : bAt c (pc + 2) b) : decode c pc = .ok (.invokespecial (a * 256 + b), 3) := by
  refine dec_of ?_
  delta Decoder.instr
  refine (bind_at (u1_at h)).trans ?_
  show ((Reader.u2 : Decoder Nat) >>= fun x => Pure.pure (Instr.invokespecial x)) c (pc + 1) = _
  exact (bind_at (u2_at h2 h3)).trans rfl
theorem dc184 (h : bAt c pc 184) (h2 : bAt c (pc + 1) a) (h3 : bAt c (pc + 2) b) : decode c pc = .ok (.invokestatic (a * 256 + b), 3) := by
  refine dec_of ?_
  delta Decoder.instr
  refine (bind_at (u1_at h)).trans ?_
  show ((Reader.u2 : Decoder Nat) >>= fun x => Pure.pure (Instr.invokestatic x)) c (pc + 1) = _
  exact (bind_at (u2_at h2 h3)).trans rfl
theorem dc132 (h : bAt c pc 132) (h2 : bAt c (pc + 1) a) (h3 : bAt c (pc + 2) b) : decode c pc = .ok (.iinc a (Reader.signed 8 b), 3) := by
  refine dec_of ?_
  delta Decoder.instr
  refine (bind_at (u1_at h)).trans ?_
  show ((Reader.u1 : Decoder Nat) >>= fun x => (Reader.s1 : Decoder Int) >>= fun y => Pure.pure (Instr.iinc x y)) c (pc + 1) = _
  exact (bind_at (u1_at h2)).trans ((bind_at (s1_at h3)).trans rfl)
end
/-- the bytes of a method, as numbers -/
noncomputable def zby (c : ByteArray) : List Nat := List.rec (motive := fun _ => List Nat) [] (fun x _ ih => x.toNat :: ih) c.data.toList
noncomputable def zdr {α : Type} (n : Nat) (l : List α) : List α := Nat.rec (motive := fun _ => List α → List α) (fun l => l) (fun _ ih l => List.rec (motive := fun _ => List α) [] (fun _ t _ => ih t) l) n l
theorem zdr_eq {α : Type} : ∀ (n : Nat) (l : List α), zdr n l = l.drop n
  | 0, l => rfl
  | n + 1, [] => rfl
  | n + 1, x :: l => zdr_eq n l
theorem zby_eq (c : ByteArray) : zby c = c.data.toList.map UInt8.toNat := by
  unfold zby
  induction c.data.toList with
  | nil => rfl
  | cons x l ih => show x.toNat :: _ = x.toNat :: l.map UInt8.toNat; rw [← ih]
theorem bIs_of {c : ByteArray} : ∀ (l : List Nat) (p : Nat), (∀ i x, l[i]? = some x → bAt c (p + i) x) → bIs c p l
  | [], p, h => trivial
  | b :: l, p, h => ⟨h 0 b rfl, bIs_of l (p + 1) (fun i x hx => by
    have := h (i + 1) x hx
    rw [show p + 1 + i = p + (i + 1) by omega]; exact this)⟩
theorem bIs_at (c : ByteArray) (p : Nat) : bIs c p (zdr p (zby c)) := by
  refine bIs_of _ p (fun i x hx => ?_)
  rw [zdr_eq, zby_eq, List.getElem?_drop, List.getElem?_map] at hx
  cases e : c.data.toList[p + i]? with
  | none => rw [e] at hx; cases hx
  | some y =>
    rw [e] at hx
    cases hx
    obtain ⟨h1, h2⟩ := List.getElem?_eq_some_iff.mp e
    have h3 : p + i < c.size := by simpa using h1
    exact ⟨h3, congrArg UInt8.toNat h2⟩
theorem bIs_dr {c : ByteArray} : ∀ (n : Nat) (p : Nat) (l : List Nat), bIs c p l → bIs c (p + n) (zdr n l)
  | 0, p, l, h => h
  | n + 1, p, [], h => trivial
  | n + 1, p, b :: l, h => by
    rw [show p + (n + 1) = p + 1 + n by omega]
    exact bIs_dr n (p + 1) l h.2
