/-! decoded by bytes -/
abbrev kdB (c : ByteArray) (p b : Nat) : Prop := ∃ h : p < c.size, c[p].toNat = b
def kdL (c : ByteArray) : Nat → List Nat → Prop
  | _, [] => True
  | k, b :: l => kdB c k b ∧ kdL c (k + 1) l
def kdC : List UInt8 → List Nat → Bool
  | _, [] => true
  | a :: as, b :: bs => Nat.beq a.toNat b && kdC as bs
  | [], _ :: _ => false
theorem kdL_of {c : ByteArray} : ∀ (l : List Nat) (k : Nat), kdC (c.data.toList.drop k) l = true → kdL c k l
  | [], _, _ => trivial
  | b :: l, k, h => by
    by_cases hk : k < c.data.toList.length
    · rw [List.drop_eq_getElem_cons hk] at h
      have h2 : (Nat.beq (c.data.toList[k]).toNat b && kdC (c.data.toList.drop (k + 1)) l) = true := h
      rw [Bool.and_eq_true] at h2
      exact ⟨⟨hk, Nat.eq_of_beq_eq_true h2.1⟩, kdL_of l (k + 1) h2.2⟩
    · rw [List.drop_eq_nil_of_le (by omega)] at h
      exact absurd h Bool.false_ne_true
theorem kd_u1 {c : ByteArray} {p b : Nat} (h : kdB c p b) : (Jvm.ClassFile.Reader.u1 : Jvm.ClassFile.Decoder Nat) c p = .ok (b, p + 1) := by
  obtain ⟨h1, h2⟩ := h
  subst h2
  change (dite (p < c.size) (fun h => (fun (_ : ByteArray) (_ : Nat) => (Except.ok (c[p].toNat, p + 1) : Except Jvm.ClassFile.DecodeError (Nat × Nat)))) (fun _ => fun _ _ => Except.error (Jvm.ClassFile.DecodeError.truncated p))) c p = _
  rw [dif_pos h1]
theorem kd_u2 {c : ByteArray} {p a b : Nat} (h : kdB c p a) (h' : kdB c (p + 1) b) : (Jvm.ClassFile.Reader.u2 : Jvm.ClassFile.Decoder Nat) c p = .ok (a * 256 + b, p + 2) := by
  change Except.bind ((Jvm.ClassFile.Reader.u1 : Jvm.ClassFile.Decoder Nat) c p) (fun q => Except.bind ((Jvm.ClassFile.Reader.u1 : Jvm.ClassFile.Decoder Nat) c q.2) (fun r => Except.ok (q.1 * 256 + r.1, r.2))) = _
  rw [kd_u1 h]
  change Except.bind ((Jvm.ClassFile.Reader.u1 : Jvm.ClassFile.Decoder Nat) c (p + 1)) (fun r => Except.ok (a * 256 + r.1, r.2)) = _
  rw [kd_u1 h']
  rfl
theorem kd_s1 {c : ByteArray} {p b : Nat} (h : kdB c p b) : (Jvm.ClassFile.Reader.s1 : Jvm.ClassFile.Decoder Int) c p = .ok (Jvm.ClassFile.Reader.signed 8 b, p + 1) := by
  change Except.bind ((Jvm.ClassFile.Reader.u1 : Jvm.ClassFile.Decoder Nat) c p) (fun q => Except.ok (Jvm.ClassFile.Reader.signed 8 q.1, q.2)) = _
  rw [kd_u1 h]
  rfl
theorem kd_s2 {c : ByteArray} {p a b : Nat} (h : kdB c p a) (h' : kdB c (p + 1) b) : (Jvm.ClassFile.Reader.s2 : Jvm.ClassFile.Decoder Int) c p = .ok (Jvm.ClassFile.Reader.signed 16 (a * 256 + b), p + 2) := by
  change Except.bind ((Jvm.ClassFile.Reader.u2 : Jvm.ClassFile.Decoder Nat) c p) (fun q => Except.ok (Jvm.ClassFile.Reader.signed 16 q.1, q.2)) = _
  rw [kd_u2 h h']
  rfl
noncomputable def kdK (pc : Nat) : {K : Nat → Jvm.ClassFile.Decoder Jvm.ClassFile.Instr // Jvm.ClassFile.Decoder.instr pc = (Jvm.ClassFile.Reader.u1 >>= K)} := ⟨_, rfl⟩
theorem kd_dec {c : ByteArray} {pc b n : Nat} {i : Jvm.ClassFile.Instr} (h : kdB c pc b) (hk : (kdK pc).1 b c (pc + 1) = .ok (i, pc + n)) : decode c pc = .ok (i, n) := by
  have e : Jvm.ClassFile.Decoder.instr pc c pc = .ok (i, pc + n) := by
    refine (congrFun (congrFun (kdK pc).2 c) pc).trans ?_
    change Except.bind ((Jvm.ClassFile.Reader.u1 : Jvm.ClassFile.Decoder Nat) c pc) (fun q => (kdK pc).1 q.1 c q.2) = _
    rw [kd_u1 h]
    exact hk
  change Except.bind (Jvm.ClassFile.Decoder.instr pc c pc) (fun q => Except.ok (q.1, q.2 - pc)) = _
  rw [e]
  change Except.ok (i, pc + n - pc) = _
  rw [Nat.add_sub_cancel_left]
theorem kd_n {c : ByteArray} {pc o : Nat} {i : Jvm.ClassFile.Instr} (h : kdB c pc o) (hk : (kdK pc).1 o = Pure.pure i) : decode c pc = .ok (i, 1) := kd_dec h (by rw [hk]; rfl)
theorem kd_1u {c : ByteArray} {pc o a : Nat} {f : Nat → Jvm.ClassFile.Instr} (h : kdB c pc o) (h1 : kdB c (pc + 1) a) (hk : (kdK pc).1 o = (Jvm.ClassFile.Reader.u1 >>= fun x => Pure.pure (f x))) : decode c pc = .ok (f a, 2) := kd_dec h (by
  rw [hk]
  change Except.bind ((Jvm.ClassFile.Reader.u1 : Jvm.ClassFile.Decoder Nat) c (pc + 1)) (fun q => Except.ok (f q.1, q.2)) = _
  rw [kd_u1 h1]
  rfl)
theorem kd_1s {c : ByteArray} {pc o a : Nat} {v : Int} {f : Int → Jvm.ClassFile.Instr} (h : kdB c pc o) (h1 : kdB c (pc + 1) a) (hv : Jvm.ClassFile.Reader.signed 8 a = v) (hk : (kdK pc).1 o = (Jvm.ClassFile.Reader.s1 >>= fun x => Pure.pure (f x))) : decode c pc = .ok (f v, 2) := kd_dec h (by
  rw [hk]
  change Except.bind ((Jvm.ClassFile.Reader.s1 : Jvm.ClassFile.Decoder Int) c (pc + 1)) (fun q => Except.ok (f q.1, q.2)) = _
  rw [kd_s1 h1, hv]
  rfl)
theorem kd_2u {c : ByteArray} {pc o a b v : Nat} {f : Nat → Jvm.ClassFile.Instr} (h : kdB c pc o) (h1 : kdB c (pc + 1) a) (h2 : kdB c (pc + 1 + 1) b) (hv : a * 256 + b = v) (hk : (kdK pc).1 o = (Jvm.ClassFile.Reader.u2 >>= fun x => Pure.pure (f x))) : decode c pc = .ok (f v, 3) := kd_dec h (by
  rw [hk]
  change Except.bind ((Jvm.ClassFile.Reader.u2 : Jvm.ClassFile.Decoder Nat) c (pc + 1)) (fun q => Except.ok (f q.1, q.2)) = _
  rw [kd_u2 h1 h2, hv]
  rfl)
theorem kd_2s {c : ByteArray} {pc o a b : Nat} {v : Int} {f : Int → Jvm.ClassFile.Instr} (h : kdB c pc o) (h1 : kdB c (pc + 1) a) (h2 : kdB c (pc + 1 + 1) b) (hv : Jvm.ClassFile.Reader.signed 16 (a * 256 + b) = v) (hk : (kdK pc).1 o = (Jvm.ClassFile.Reader.s2 >>= fun x => Pure.pure (f x))) : decode c pc = .ok (f v, 3) := kd_dec h (by
  rw [hk]
  change Except.bind ((Jvm.ClassFile.Reader.s2 : Jvm.ClassFile.Decoder Int) c (pc + 1)) (fun q => Except.ok (f q.1, q.2)) = _
  rw [kd_s2 h1 h2, hv]
  rfl)
theorem kd_us {c : ByteArray} {pc o a b : Nat} {v : Int} (h : kdB c pc o) (h1 : kdB c (pc + 1) a) (h2 : kdB c (pc + 1 + 1) b) (hv : Jvm.ClassFile.Reader.signed 8 b = v) (hk : (kdK pc).1 o = (Jvm.ClassFile.Reader.u1 >>= fun x => Jvm.ClassFile.Reader.s1 >>= fun y => Pure.pure (Jvm.ClassFile.Instr.iinc x y))) : decode c pc = .ok (.iinc a v, 3) := kd_dec h (by
  rw [hk]
  change Except.bind ((Jvm.ClassFile.Reader.u1 : Jvm.ClassFile.Decoder Nat) c (pc + 1)) (fun r => Except.bind ((Jvm.ClassFile.Reader.s1 : Jvm.ClassFile.Decoder Int) c r.2) (fun q => Except.ok (Jvm.ClassFile.Instr.iinc r.1 q.1, q.2))) = _
  rw [kd_u1 h1]
  change Except.bind ((Jvm.ClassFile.Reader.s1 : Jvm.ClassFile.Decoder Int) c (pc + 1 + 1)) (fun q => Except.ok (Jvm.ClassFile.Instr.iinc a q.1, q.2)) = _
  rw [kd_s1 h2, hv]
  rfl)
theorem kd_o2 {c : ByteArray} {pc : Nat} (h : kdB c pc 2) : decode c pc = .ok (.iconst (-1), 1) := kd_n h rfl
theorem kd_o3 {c : ByteArray} {pc : Nat} (h : kdB c pc 3) : decode c pc = .ok (.iconst 0, 1) := kd_n h rfl
theorem kd_o4 {c : ByteArray} {pc : Nat} (h : kdB c pc 4) : decode c pc = .ok (.iconst 1, 1) := kd_n h rfl
theorem kd_o5 {c : ByteArray} {pc : Nat} (h : kdB c pc 5) : decode c pc = .ok (.iconst 2, 1) := kd_n h rfl
theorem kd_o6 {c : ByteArray} {pc : Nat} (h : kdB c pc 6) : decode c pc = .ok (.iconst 3, 1) := kd_n h rfl
theorem kd_o7 {c : ByteArray} {pc : Nat} (h : kdB c pc 7) : decode c pc = .ok (.iconst 4, 1) := kd_n h rfl
theorem kd_o8 {c : ByteArray} {pc : Nat} (h : kdB c pc 8) : decode c pc = .ok (.iconst 5, 1) := kd_n h rfl
theorem kd_o9 {c : ByteArray} {pc : Nat} (h : kdB c pc 9) : decode c pc = .ok (.lconst 0, 1) := kd_n h rfl
theorem kd_o10 {c : ByteArray} {pc : Nat} (h : kdB c pc 10) : decode c pc = .ok (.lconst 1, 1) := kd_n h rfl
theorem kd_o16 {c : ByteArray} {pc a : Nat} {v : Int} (h : kdB c pc 16) (h1 : kdB c (pc + 1) a) (hv : Jvm.ClassFile.Reader.signed 8 a = v) : decode c pc = .ok (.bipush v, 2) := kd_1s (f := .bipush) h h1 hv rfl
theorem kd_o17 {c : ByteArray} {pc a b : Nat} {v : Int} (h : kdB c pc 17) (h1 : kdB c (pc + 1) a) (h2 : kdB c (pc + 1 + 1) b) (hv : Jvm.ClassFile.Reader.signed 16 (a * 256 + b) = v) : decode c pc = .ok (.sipush v, 3) := kd_2s (f := .sipush) h h1 h2 hv rfl
theorem kd_o18 {c : ByteArray} {pc a : Nat} (h : kdB c pc 18) (h1 : kdB c (pc + 1) a) : decode c pc = .ok (.ldc a, 2) := kd_1u (f := .ldc) h h1 rfl
theorem kd_o19 {c : ByteArray} {pc a b v : Nat} (h : kdB c pc 19) (h1 : kdB c (pc + 1) a) (h2 : kdB c (pc + 1 + 1) b) (hv : a * 256 + b = v) : decode c pc = .ok (.ldc_w v, 3) := kd_2u (f := .ldc_w) h h1 h2 hv rfl
theorem kd_o20 {c : ByteArray} {pc a b v : Nat} (h : kdB c pc 20) (h1 : kdB c (pc + 1) a) (h2 : kdB c (pc + 1 + 1) b) (hv : a * 256 + b = v) : decode c pc = .ok (.ldc2_w v, 3) := kd_2u (f := .ldc2_w) h h1 h2 hv rfl
theorem kd_o21 {c : ByteArray} {pc a : Nat} (h : kdB c pc 21) (h1 : kdB c (pc + 1) a) : decode c pc = .ok (.iload a, 2) := kd_1u (f := .iload) h h1 rfl
theorem kd_o22 {c : ByteArray} {pc a : Nat} (h : kdB c pc 22) (h1 : kdB c (pc + 1) a) : decode c pc = .ok (.lload a, 2) := kd_1u (f := .lload) h h1 rfl
theorem kd_o26 {c : ByteArray} {pc : Nat} (h : kdB c pc 26) : decode c pc = .ok (.iload_n 0, 1) := kd_n h rfl
theorem kd_o27 {c : ByteArray} {pc : Nat} (h : kdB c pc 27) : decode c pc = .ok (.iload_n 1, 1) := kd_n h rfl
theorem kd_o28 {c : ByteArray} {pc : Nat} (h : kdB c pc 28) : decode c pc = .ok (.iload_n 2, 1) := kd_n h rfl
theorem kd_o29 {c : ByteArray} {pc : Nat} (h : kdB c pc 29) : decode c pc = .ok (.iload_n 3, 1) := kd_n h rfl
theorem kd_o30 {c : ByteArray} {pc : Nat} (h : kdB c pc 30) : decode c pc = .ok (.lload_n 0, 1) := kd_n h rfl
theorem kd_o31 {c : ByteArray} {pc : Nat} (h : kdB c pc 31) : decode c pc = .ok (.lload_n 1, 1) := kd_n h rfl
theorem kd_o32 {c : ByteArray} {pc : Nat} (h : kdB c pc 32) : decode c pc = .ok (.lload_n 2, 1) := kd_n h rfl
theorem kd_o33 {c : ByteArray} {pc : Nat} (h : kdB c pc 33) : decode c pc = .ok (.lload_n 3, 1) := kd_n h rfl
theorem kd_o42 {c : ByteArray} {pc : Nat} (h : kdB c pc 42) : decode c pc = .ok (.aload_n 0, 1) := kd_n h rfl
theorem kd_o43 {c : ByteArray} {pc : Nat} (h : kdB c pc 43) : decode c pc = .ok (.aload_n 1, 1) := kd_n h rfl
theorem kd_o44 {c : ByteArray} {pc : Nat} (h : kdB c pc 44) : decode c pc = .ok (.aload_n 2, 1) := kd_n h rfl
theorem kd_o45 {c : ByteArray} {pc : Nat} (h : kdB c pc 45) : decode c pc = .ok (.aload_n 3, 1) := kd_n h rfl
theorem kd_o46 {c : ByteArray} {pc : Nat} (h : kdB c pc 46) : decode c pc = .ok (.iaload, 1) := kd_n h rfl
theorem kd_o47 {c : ByteArray} {pc : Nat} (h : kdB c pc 47) : decode c pc = .ok (.laload, 1) := kd_n h rfl
theorem kd_o51 {c : ByteArray} {pc : Nat} (h : kdB c pc 51) : decode c pc = .ok (.baload, 1) := kd_n h rfl
theorem kd_o54 {c : ByteArray} {pc a : Nat} (h : kdB c pc 54) (h1 : kdB c (pc + 1) a) : decode c pc = .ok (.istore a, 2) := kd_1u (f := .istore) h h1 rfl
theorem kd_o55 {c : ByteArray} {pc a : Nat} (h : kdB c pc 55) (h1 : kdB c (pc + 1) a) : decode c pc = .ok (.lstore a, 2) := kd_1u (f := .lstore) h h1 rfl
theorem kd_o58 {c : ByteArray} {pc a : Nat} (h : kdB c pc 58) (h1 : kdB c (pc + 1) a) : decode c pc = .ok (.astore a, 2) := kd_1u (f := .astore) h h1 rfl
theorem kd_o59 {c : ByteArray} {pc : Nat} (h : kdB c pc 59) : decode c pc = .ok (.istore_n 0, 1) := kd_n h rfl
theorem kd_o60 {c : ByteArray} {pc : Nat} (h : kdB c pc 60) : decode c pc = .ok (.istore_n 1, 1) := kd_n h rfl
theorem kd_o61 {c : ByteArray} {pc : Nat} (h : kdB c pc 61) : decode c pc = .ok (.istore_n 2, 1) := kd_n h rfl
theorem kd_o62 {c : ByteArray} {pc : Nat} (h : kdB c pc 62) : decode c pc = .ok (.istore_n 3, 1) := kd_n h rfl
theorem kd_o64 {c : ByteArray} {pc : Nat} (h : kdB c pc 64) : decode c pc = .ok (.lstore_n 1, 1) := kd_n h rfl
theorem kd_o65 {c : ByteArray} {pc : Nat} (h : kdB c pc 65) : decode c pc = .ok (.lstore_n 2, 1) := kd_n h rfl
theorem kd_o66 {c : ByteArray} {pc : Nat} (h : kdB c pc 66) : decode c pc = .ok (.lstore_n 3, 1) := kd_n h rfl
theorem kd_o76 {c : ByteArray} {pc : Nat} (h : kdB c pc 76) : decode c pc = .ok (.astore_n 1, 1) := kd_n h rfl
theorem kd_o77 {c : ByteArray} {pc : Nat} (h : kdB c pc 77) : decode c pc = .ok (.astore_n 2, 1) := kd_n h rfl
theorem kd_o78 {c : ByteArray} {pc : Nat} (h : kdB c pc 78) : decode c pc = .ok (.astore_n 3, 1) := kd_n h rfl
theorem kd_o79 {c : ByteArray} {pc : Nat} (h : kdB c pc 79) : decode c pc = .ok (.iastore, 1) := kd_n h rfl
theorem kd_o80 {c : ByteArray} {pc : Nat} (h : kdB c pc 80) : decode c pc = .ok (.lastore, 1) := kd_n h rfl
theorem kd_o84 {c : ByteArray} {pc : Nat} (h : kdB c pc 84) : decode c pc = .ok (.bastore, 1) := kd_n h rfl
theorem kd_o87 {c : ByteArray} {pc : Nat} (h : kdB c pc 87) : decode c pc = .ok (.pop, 1) := kd_n h rfl
theorem kd_o88 {c : ByteArray} {pc : Nat} (h : kdB c pc 88) : decode c pc = .ok (.pop2, 1) := kd_n h rfl
theorem kd_o89 {c : ByteArray} {pc : Nat} (h : kdB c pc 89) : decode c pc = .ok (.dup, 1) := kd_n h rfl
theorem kd_o92 {c : ByteArray} {pc : Nat} (h : kdB c pc 92) : decode c pc = .ok (.dup2, 1) := kd_n h rfl
theorem kd_o96 {c : ByteArray} {pc : Nat} (h : kdB c pc 96) : decode c pc = .ok (.iadd, 1) := kd_n h rfl
theorem kd_o97 {c : ByteArray} {pc : Nat} (h : kdB c pc 97) : decode c pc = .ok (.ladd, 1) := kd_n h rfl
theorem kd_o100 {c : ByteArray} {pc : Nat} (h : kdB c pc 100) : decode c pc = .ok (.isub, 1) := kd_n h rfl
theorem kd_o101 {c : ByteArray} {pc : Nat} (h : kdB c pc 101) : decode c pc = .ok (.lsub, 1) := kd_n h rfl
theorem kd_o104 {c : ByteArray} {pc : Nat} (h : kdB c pc 104) : decode c pc = .ok (.imul, 1) := kd_n h rfl
theorem kd_o105 {c : ByteArray} {pc : Nat} (h : kdB c pc 105) : decode c pc = .ok (.lmul, 1) := kd_n h rfl
theorem kd_o108 {c : ByteArray} {pc : Nat} (h : kdB c pc 108) : decode c pc = .ok (.idiv, 1) := kd_n h rfl
theorem kd_o109 {c : ByteArray} {pc : Nat} (h : kdB c pc 109) : decode c pc = .ok (.ldiv, 1) := kd_n h rfl
theorem kd_o112 {c : ByteArray} {pc : Nat} (h : kdB c pc 112) : decode c pc = .ok (.irem, 1) := kd_n h rfl
theorem kd_o113 {c : ByteArray} {pc : Nat} (h : kdB c pc 113) : decode c pc = .ok (.lrem, 1) := kd_n h rfl
theorem kd_o117 {c : ByteArray} {pc : Nat} (h : kdB c pc 117) : decode c pc = .ok (.lneg, 1) := kd_n h rfl
theorem kd_o120 {c : ByteArray} {pc : Nat} (h : kdB c pc 120) : decode c pc = .ok (.ishl, 1) := kd_n h rfl
theorem kd_o122 {c : ByteArray} {pc : Nat} (h : kdB c pc 122) : decode c pc = .ok (.ishr, 1) := kd_n h rfl
theorem kd_o124 {c : ByteArray} {pc : Nat} (h : kdB c pc 124) : decode c pc = .ok (.iushr, 1) := kd_n h rfl
theorem kd_o126 {c : ByteArray} {pc : Nat} (h : kdB c pc 126) : decode c pc = .ok (.iand, 1) := kd_n h rfl
theorem kd_o127 {c : ByteArray} {pc : Nat} (h : kdB c pc 127) : decode c pc = .ok (.land, 1) := kd_n h rfl
theorem kd_o128 {c : ByteArray} {pc : Nat} (h : kdB c pc 128) : decode c pc = .ok (.ior, 1) := kd_n h rfl
theorem kd_o132 {c : ByteArray} {pc a b : Nat} {v : Int} (h : kdB c pc 132) (h1 : kdB c (pc + 1) a) (h2 : kdB c (pc + 1 + 1) b) (hv : Jvm.ClassFile.Reader.signed 8 b = v) : decode c pc = .ok (.iinc a v, 3) := kd_us h h1 h2 hv rfl
theorem kd_o133 {c : ByteArray} {pc : Nat} (h : kdB c pc 133) : decode c pc = .ok (.i2l, 1) := kd_n h rfl
theorem kd_o136 {c : ByteArray} {pc : Nat} (h : kdB c pc 136) : decode c pc = .ok (.l2i, 1) := kd_n h rfl
theorem kd_o146 {c : ByteArray} {pc : Nat} (h : kdB c pc 146) : decode c pc = .ok (.i2c, 1) := kd_n h rfl
theorem kd_o148 {c : ByteArray} {pc : Nat} (h : kdB c pc 148) : decode c pc = .ok (.lcmp, 1) := kd_n h rfl
theorem kd_o153 {c : ByteArray} {pc a b : Nat} {v : Int} (h : kdB c pc 153) (h1 : kdB c (pc + 1) a) (h2 : kdB c (pc + 1 + 1) b) (hv : Jvm.ClassFile.Reader.signed 16 (a * 256 + b) = v) : decode c pc = .ok (.ifCond .eq v, 3) := kd_2s (f := (.ifCond .eq)) h h1 h2 hv rfl
theorem kd_o154 {c : ByteArray} {pc a b : Nat} {v : Int} (h : kdB c pc 154) (h1 : kdB c (pc + 1) a) (h2 : kdB c (pc + 1 + 1) b) (hv : Jvm.ClassFile.Reader.signed 16 (a * 256 + b) = v) : decode c pc = .ok (.ifCond .ne v, 3) := kd_2s (f := (.ifCond .ne)) h h1 h2 hv rfl
theorem kd_o155 {c : ByteArray} {pc a b : Nat} {v : Int} (h : kdB c pc 155) (h1 : kdB c (pc + 1) a) (h2 : kdB c (pc + 1 + 1) b) (hv : Jvm.ClassFile.Reader.signed 16 (a * 256 + b) = v) : decode c pc = .ok (.ifCond .lt v, 3) := kd_2s (f := (.ifCond .lt)) h h1 h2 hv rfl
theorem kd_o156 {c : ByteArray} {pc a b : Nat} {v : Int} (h : kdB c pc 156) (h1 : kdB c (pc + 1) a) (h2 : kdB c (pc + 1 + 1) b) (hv : Jvm.ClassFile.Reader.signed 16 (a * 256 + b) = v) : decode c pc = .ok (.ifCond .ge v, 3) := kd_2s (f := (.ifCond .ge)) h h1 h2 hv rfl
theorem kd_o157 {c : ByteArray} {pc a b : Nat} {v : Int} (h : kdB c pc 157) (h1 : kdB c (pc + 1) a) (h2 : kdB c (pc + 1 + 1) b) (hv : Jvm.ClassFile.Reader.signed 16 (a * 256 + b) = v) : decode c pc = .ok (.ifCond .gt v, 3) := kd_2s (f := (.ifCond .gt)) h h1 h2 hv rfl
theorem kd_o158 {c : ByteArray} {pc a b : Nat} {v : Int} (h : kdB c pc 158) (h1 : kdB c (pc + 1) a) (h2 : kdB c (pc + 1 + 1) b) (hv : Jvm.ClassFile.Reader.signed 16 (a * 256 + b) = v) : decode c pc = .ok (.ifCond .le v, 3) := kd_2s (f := (.ifCond .le)) h h1 h2 hv rfl
theorem kd_o159 {c : ByteArray} {pc a b : Nat} {v : Int} (h : kdB c pc 159) (h1 : kdB c (pc + 1) a) (h2 : kdB c (pc + 1 + 1) b) (hv : Jvm.ClassFile.Reader.signed 16 (a * 256 + b) = v) : decode c pc = .ok (.if_icmp .eq v, 3) := kd_2s (f := (.if_icmp .eq)) h h1 h2 hv rfl
theorem kd_o160 {c : ByteArray} {pc a b : Nat} {v : Int} (h : kdB c pc 160) (h1 : kdB c (pc + 1) a) (h2 : kdB c (pc + 1 + 1) b) (hv : Jvm.ClassFile.Reader.signed 16 (a * 256 + b) = v) : decode c pc = .ok (.if_icmp .ne v, 3) := kd_2s (f := (.if_icmp .ne)) h h1 h2 hv rfl
theorem kd_o161 {c : ByteArray} {pc a b : Nat} {v : Int} (h : kdB c pc 161) (h1 : kdB c (pc + 1) a) (h2 : kdB c (pc + 1 + 1) b) (hv : Jvm.ClassFile.Reader.signed 16 (a * 256 + b) = v) : decode c pc = .ok (.if_icmp .lt v, 3) := kd_2s (f := (.if_icmp .lt)) h h1 h2 hv rfl
theorem kd_o162 {c : ByteArray} {pc a b : Nat} {v : Int} (h : kdB c pc 162) (h1 : kdB c (pc + 1) a) (h2 : kdB c (pc + 1 + 1) b) (hv : Jvm.ClassFile.Reader.signed 16 (a * 256 + b) = v) : decode c pc = .ok (.if_icmp .ge v, 3) := kd_2s (f := (.if_icmp .ge)) h h1 h2 hv rfl
theorem kd_o163 {c : ByteArray} {pc a b : Nat} {v : Int} (h : kdB c pc 163) (h1 : kdB c (pc + 1) a) (h2 : kdB c (pc + 1 + 1) b) (hv : Jvm.ClassFile.Reader.signed 16 (a * 256 + b) = v) : decode c pc = .ok (.if_icmp .gt v, 3) := kd_2s (f := (.if_icmp .gt)) h h1 h2 hv rfl
theorem kd_o164 {c : ByteArray} {pc a b : Nat} {v : Int} (h : kdB c pc 164) (h1 : kdB c (pc + 1) a) (h2 : kdB c (pc + 1 + 1) b) (hv : Jvm.ClassFile.Reader.signed 16 (a * 256 + b) = v) : decode c pc = .ok (.if_icmp .le v, 3) := kd_2s (f := (.if_icmp .le)) h h1 h2 hv rfl
theorem kd_o167 {c : ByteArray} {pc a b : Nat} {v : Int} (h : kdB c pc 167) (h1 : kdB c (pc + 1) a) (h2 : kdB c (pc + 1 + 1) b) (hv : Jvm.ClassFile.Reader.signed 16 (a * 256 + b) = v) : decode c pc = .ok (.goto v, 3) := kd_2s (f := .goto) h h1 h2 hv rfl
theorem kd_o172 {c : ByteArray} {pc : Nat} (h : kdB c pc 172) : decode c pc = .ok (.ireturn, 1) := kd_n h rfl
theorem kd_o173 {c : ByteArray} {pc : Nat} (h : kdB c pc 173) : decode c pc = .ok (.lreturn, 1) := kd_n h rfl
theorem kd_o176 {c : ByteArray} {pc : Nat} (h : kdB c pc 176) : decode c pc = .ok (.areturn, 1) := kd_n h rfl
theorem kd_o177 {c : ByteArray} {pc : Nat} (h : kdB c pc 177) : decode c pc = .ok (.return_, 1) := kd_n h rfl
theorem kd_o178 {c : ByteArray} {pc a b v : Nat} (h : kdB c pc 178) (h1 : kdB c (pc + 1) a) (h2 : kdB c (pc + 1 + 1) b) (hv : a * 256 + b = v) : decode c pc = .ok (.getstatic v, 3) := kd_2u (f := .getstatic) h h1 h2 hv rfl
theorem kd_o180 {c : ByteArray} {pc a b v : Nat} (h : kdB c pc 180) (h1 : kdB c (pc + 1) a) (h2 : kdB c (pc + 1 + 1) b) (hv : a * 256 + b = v) : decode c pc = .ok (.getfield v, 3) := kd_2u (f := .getfield) h h1 h2 hv rfl
theorem kd_o181 {c : ByteArray} {pc a b v : Nat} (h : kdB c pc 181) (h1 : kdB c (pc + 1) a) (h2 : kdB c (pc + 1 + 1) b) (hv : a * 256 + b = v) : decode c pc = .ok (.putfield v, 3) := kd_2u (f := .putfield) h h1 h2 hv rfl
theorem kd_o182 {c : ByteArray} {pc a b v : Nat} (h : kdB c pc 182) (h1 : kdB c (pc + 1) a) (h2 : kdB c (pc + 1 + 1) b) (hv : a * 256 + b = v) : decode c pc = .ok (.invokevirtual v, 3) := kd_2u (f := .invokevirtual) h h1 h2 hv rfl
theorem kd_o183 {c : ByteArray} {pc a b v : Nat} (h : kdB c pc 183) (h1 : kdB c (pc + 1) a) (h2 : kdB c (pc + 1 + 1) b) (hv : a * 256 + b = v) : decode c pc = .ok (.invokespecial v, 3) := kd_2u (f := .invokespecial) h h1 h2 hv rfl
theorem kd_o184 {c : ByteArray} {pc a b v : Nat} (h : kdB c pc 184) (h1 : kdB c (pc + 1) a) (h2 : kdB c (pc + 1 + 1) b) (hv : a * 256 + b = v) : decode c pc = .ok (.invokestatic v, 3) := kd_2u (f := .invokestatic) h h1 h2 hv rfl
theorem kd_o187 {c : ByteArray} {pc a b v : Nat} (h : kdB c pc 187) (h1 : kdB c (pc + 1) a) (h2 : kdB c (pc + 1 + 1) b) (hv : a * 256 + b = v) : decode c pc = .ok (.new v, 3) := kd_2u (f := .new) h h1 h2 hv rfl
theorem kd_o190 {c : ByteArray} {pc : Nat} (h : kdB c pc 190) : decode c pc = .ok (.arraylength, 1) := kd_n h rfl
theorem kd_o191 {c : ByteArray} {pc : Nat} (h : kdB c pc 191) : decode c pc = .ok (.athrow, 1) := kd_n h rfl
