/-! ===== the lists of part 04 are what the bytes say ===== -/
noncomputable def am_len (i : Instr) : Nat := match i with
  | .bipush _ | .newarray _ | .ldc _ | .iload _ | .lload _ | .aload _ | .istore _ | .lstore _ | .astore _ => 2
  | .sipush _ | .getfield _ | .putfield _ | .getstatic _ | .invokevirtual _ | .invokestatic _ | .invokespecial _ | .new _ | .anewarray _ | .ldc2_w _ | .ldc_w _ | .iinc _ _ | .goto _ | .ifCond _ _ | .if_icmp _ _ => 3
  | _ => 1
noncomputable def am_lenok (i : Instr) (n : Nat) : Bool := match i with
  | .tableswitch _ _ _ _ => true
  | i => Nat.beq n (am_len i)
noncomputable def am_dq (k : Nat) (q : Nat × Instr × Nat) : Bool := decide (decode (am_by k) q.1 = .ok q.2) && am_lenok q.2.1 q.2.2
section FD
variable {c : ByteArray} {p : Nat}
theorem fd_u1 (h : p < c.size) : (Reader.u1 : Decoder Nat) c p = .ok (c[p].toNat, p + 1) := by
  show (if h : p < c.size then (do set (p + 1); pure c[p].toNat : Decoder Nat) else throw (HasTruncated.truncated p)) c p = _
  rw [dif_pos h]
  rfl
theorem fd_s1 (h : p < c.size) : (Reader.s1 : Decoder Int) c p = .ok (Reader.signed 8 c[p].toNat, p + 1) := by
  show Except.bind ((Reader.u1 : Decoder Nat) c p) _ = _
  rw [fd_u1 h]
  rfl
theorem fd_u2 (h : p + 1 < c.size) : (Reader.u2 : Decoder Nat) c p = .ok (c[p].toNat * 256 + c[p + 1].toNat, p + 1 + 1) := by
  show Except.bind ((Reader.u1 : Decoder Nat) c p) _ = _
  rw [fd_u1 (by omega)]
  show Except.bind ((Reader.u1 : Decoder Nat) c (p + 1)) _ = _
  rw [fd_u1 h]
  rfl
theorem fd_s2 (h : p + 1 < c.size) : (Reader.s2 : Decoder Int) c p = .ok (Reader.signed 16 (c[p].toNat * 256 + c[p + 1].toNat), p + 1 + 1) := by
  show Except.bind ((Reader.u2 : Decoder Nat) c p) _ = _
  rw [fd_u2 h]
  rfl
theorem fd_d {I : Instr} {q : Nat} (h : Decoder.instr p c p = .ok (I, q)) : decode c p = .ok (I, q - p) := by
  show Except.bind (Decoder.instr p c p) _ = _
  rw [h]
  rfl
theorem fd_z {I : Instr} (h : Decoder.instr p c p = .ok (I, p + 1)) : decode c p = .ok (I, 1) := by rw [fd_d h, show p + 1 - p = 1 by omega]
theorem fd_2 {I : Instr} (h : Decoder.instr p c p = .ok (I, p + 1 + 1)) : decode c p = .ok (I, 2) := by rw [fd_d h, show p + 1 + 1 - p = 2 by omega]
theorem fd_3 {I : Instr} (h : Decoder.instr p c p = .ok (I, p + 1 + 1 + 1)) : decode c p = .ok (I, 3) := by rw [fd_d h, show p + 1 + 1 + 1 - p = 3 by omega]
theorem fd_k1 {C : Nat → Instr} (h1 : p + 1 < c.size) (h : Decoder.instr p c p = (Reader.u1 >>= fun x => pure (C x) : Decoder Instr) c (p + 1)) : decode c p = .ok (C c[p + 1].toNat, 2) := by
  have e : (Reader.u1 >>= fun x => pure (C x) : Decoder Instr) c (p + 1) = .ok (C c[p + 1].toNat, p + 1 + 1) := by
    show Except.bind ((Reader.u1 : Decoder Nat) c (p + 1)) _ = _
    rw [fd_u1 h1]
    rfl
  exact fd_2 (h.trans e)
theorem fd_k1s {C : Int → Instr} (h1 : p + 1 < c.size) (h : Decoder.instr p c p = (Reader.s1 >>= fun x => pure (C x) : Decoder Instr) c (p + 1)) : decode c p = .ok (C (Reader.signed 8 c[p + 1].toNat), 2) := by
  have e : (Reader.s1 >>= fun x => pure (C x) : Decoder Instr) c (p + 1) = .ok (C (Reader.signed 8 c[p + 1].toNat), p + 1 + 1) := by
    show Except.bind ((Reader.s1 : Decoder Int) c (p + 1)) _ = _
    rw [fd_s1 h1]
    rfl
  exact fd_2 (h.trans e)
theorem fd_k2 {C : Nat → Instr} (h1 : p + 1 + 1 < c.size) (h : Decoder.instr p c p = (Reader.u2 >>= fun x => pure (C x) : Decoder Instr) c (p + 1)) : decode c p = .ok (C (c[p + 1].toNat * 256 + c[p + 1 + 1].toNat), 3) := by
  have e : (Reader.u2 >>= fun x => pure (C x) : Decoder Instr) c (p + 1) = .ok (C (c[p + 1].toNat * 256 + c[p + 1 + 1].toNat), p + 1 + 1 + 1) := by
    show Except.bind ((Reader.u2 : Decoder Nat) c (p + 1)) _ = _
    rw [fd_u2 h1]
    rfl
  exact fd_3 (h.trans e)
theorem fd_k2s {C : Int → Instr} (h1 : p + 1 + 1 < c.size) (h : Decoder.instr p c p = (Reader.s2 >>= fun x => pure (C x) : Decoder Instr) c (p + 1)) : decode c p = .ok (C (Reader.signed 16 (c[p + 1].toNat * 256 + c[p + 1 + 1].toNat)), 3) := by
  have e : (Reader.s2 >>= fun x => pure (C x) : Decoder Instr) c (p + 1) = .ok (C (Reader.signed 16 (c[p + 1].toNat * 256 + c[p + 1 + 1].toNat)), p + 1 + 1 + 1) := by
    show Except.bind ((Reader.s2 : Decoder Int) c (p + 1)) _ = _
    rw [fd_s2 h1]
    rfl
  exact fd_3 (h.trans e)
theorem fd_ki {C : Nat → Int → Instr} (h1 : p + 1 + 1 < c.size) (h : Decoder.instr p c p = (Reader.u1 >>= fun x => Reader.s1 >>= fun y => pure (C x y) : Decoder Instr) c (p + 1)) : decode c p = .ok (C c[p + 1].toNat (Reader.signed 8 c[p + 1 + 1].toNat), 3) := by
  have e : (Reader.u1 >>= fun x => Reader.s1 >>= fun y => pure (C x y) : Decoder Instr) c (p + 1) = .ok (C c[p + 1].toNat (Reader.signed 8 c[p + 1 + 1].toNat), p + 1 + 1 + 1) := by
    show Except.bind ((Reader.u1 : Decoder Nat) c (p + 1)) _ = _
    rw [fd_u1 (by omega)]
    show Except.bind ((Reader.s1 : Decoder Int) c (p + 1 + 1)) _ = _
    rw [fd_s1 h1]
    rfl
  exact fd_3 (h.trans e)
theorem fd_o50 (h : p < c.size) (e : c[p].toNat = 50) : Decoder.instr p c p = .ok (.aaload, p + 1) := by
  show Except.bind ((Reader.u1 : Decoder Nat) c p) _ = _
  rw [fd_u1 h, e]
  rfl
theorem fd_o83 (h : p < c.size) (e : c[p].toNat = 83) : Decoder.instr p c p = .ok (.aastore, p + 1) := by
  show Except.bind ((Reader.u1 : Decoder Nat) c p) _ = _
  rw [fd_u1 h, e]
  rfl
theorem fd_o190 (h : p < c.size) (e : c[p].toNat = 190) : Decoder.instr p c p = .ok (.arraylength, p + 1) := by
  show Except.bind ((Reader.u1 : Decoder Nat) c p) _ = _
  rw [fd_u1 h, e]
  rfl
theorem fd_o51 (h : p < c.size) (e : c[p].toNat = 51) : Decoder.instr p c p = .ok (.baload, p + 1) := by
  show Except.bind ((Reader.u1 : Decoder Nat) c p) _ = _
  rw [fd_u1 h, e]
  rfl
theorem fd_o84 (h : p < c.size) (e : c[p].toNat = 84) : Decoder.instr p c p = .ok (.bastore, p + 1) := by
  show Except.bind ((Reader.u1 : Decoder Nat) c p) _ = _
  rw [fd_u1 h, e]
  rfl
theorem fd_o89 (h : p < c.size) (e : c[p].toNat = 89) : Decoder.instr p c p = .ok (.dup, p + 1) := by
  show Except.bind ((Reader.u1 : Decoder Nat) c p) _ = _
  rw [fd_u1 h, e]
  rfl
theorem fd_o92 (h : p < c.size) (e : c[p].toNat = 92) : Decoder.instr p c p = .ok (.dup2, p + 1) := by
  show Except.bind ((Reader.u1 : Decoder Nat) c p) _ = _
  rw [fd_u1 h, e]
  rfl
theorem fd_o133 (h : p < c.size) (e : c[p].toNat = 133) : Decoder.instr p c p = .ok (.i2l, p + 1) := by
  show Except.bind ((Reader.u1 : Decoder Nat) c p) _ = _
  rw [fd_u1 h, e]
  rfl
theorem fd_o96 (h : p < c.size) (e : c[p].toNat = 96) : Decoder.instr p c p = .ok (.iadd, p + 1) := by
  show Except.bind ((Reader.u1 : Decoder Nat) c p) _ = _
  rw [fd_u1 h, e]
  rfl
theorem fd_o46 (h : p < c.size) (e : c[p].toNat = 46) : Decoder.instr p c p = .ok (.iaload, p + 1) := by
  show Except.bind ((Reader.u1 : Decoder Nat) c p) _ = _
  rw [fd_u1 h, e]
  rfl
theorem fd_o126 (h : p < c.size) (e : c[p].toNat = 126) : Decoder.instr p c p = .ok (.iand, p + 1) := by
  show Except.bind ((Reader.u1 : Decoder Nat) c p) _ = _
  rw [fd_u1 h, e]
  rfl
theorem fd_o79 (h : p < c.size) (e : c[p].toNat = 79) : Decoder.instr p c p = .ok (.iastore, p + 1) := by
  show Except.bind ((Reader.u1 : Decoder Nat) c p) _ = _
  rw [fd_u1 h, e]
  rfl
theorem fd_o108 (h : p < c.size) (e : c[p].toNat = 108) : Decoder.instr p c p = .ok (.idiv, p + 1) := by
  show Except.bind ((Reader.u1 : Decoder Nat) c p) _ = _
  rw [fd_u1 h, e]
  rfl
theorem fd_o104 (h : p < c.size) (e : c[p].toNat = 104) : Decoder.instr p c p = .ok (.imul, p + 1) := by
  show Except.bind ((Reader.u1 : Decoder Nat) c p) _ = _
  rw [fd_u1 h, e]
  rfl
theorem fd_o128 (h : p < c.size) (e : c[p].toNat = 128) : Decoder.instr p c p = .ok (.ior, p + 1) := by
  show Except.bind ((Reader.u1 : Decoder Nat) c p) _ = _
  rw [fd_u1 h, e]
  rfl
theorem fd_o112 (h : p < c.size) (e : c[p].toNat = 112) : Decoder.instr p c p = .ok (.irem, p + 1) := by
  show Except.bind ((Reader.u1 : Decoder Nat) c p) _ = _
  rw [fd_u1 h, e]
  rfl
theorem fd_o172 (h : p < c.size) (e : c[p].toNat = 172) : Decoder.instr p c p = .ok (.ireturn, p + 1) := by
  show Except.bind ((Reader.u1 : Decoder Nat) c p) _ = _
  rw [fd_u1 h, e]
  rfl
theorem fd_o120 (h : p < c.size) (e : c[p].toNat = 120) : Decoder.instr p c p = .ok (.ishl, p + 1) := by
  show Except.bind ((Reader.u1 : Decoder Nat) c p) _ = _
  rw [fd_u1 h, e]
  rfl
theorem fd_o122 (h : p < c.size) (e : c[p].toNat = 122) : Decoder.instr p c p = .ok (.ishr, p + 1) := by
  show Except.bind ((Reader.u1 : Decoder Nat) c p) _ = _
  rw [fd_u1 h, e]
  rfl
theorem fd_o100 (h : p < c.size) (e : c[p].toNat = 100) : Decoder.instr p c p = .ok (.isub, p + 1) := by
  show Except.bind ((Reader.u1 : Decoder Nat) c p) _ = _
  rw [fd_u1 h, e]
  rfl
theorem fd_o124 (h : p < c.size) (e : c[p].toNat = 124) : Decoder.instr p c p = .ok (.iushr, p + 1) := by
  show Except.bind ((Reader.u1 : Decoder Nat) c p) _ = _
  rw [fd_u1 h, e]
  rfl
theorem fd_o130 (h : p < c.size) (e : c[p].toNat = 130) : Decoder.instr p c p = .ok (.ixor, p + 1) := by
  show Except.bind ((Reader.u1 : Decoder Nat) c p) _ = _
  rw [fd_u1 h, e]
  rfl
theorem fd_o136 (h : p < c.size) (e : c[p].toNat = 136) : Decoder.instr p c p = .ok (.l2i, p + 1) := by
  show Except.bind ((Reader.u1 : Decoder Nat) c p) _ = _
  rw [fd_u1 h, e]
  rfl
theorem fd_o97 (h : p < c.size) (e : c[p].toNat = 97) : Decoder.instr p c p = .ok (.ladd, p + 1) := by
  show Except.bind ((Reader.u1 : Decoder Nat) c p) _ = _
  rw [fd_u1 h, e]
  rfl
theorem fd_o47 (h : p < c.size) (e : c[p].toNat = 47) : Decoder.instr p c p = .ok (.laload, p + 1) := by
  show Except.bind ((Reader.u1 : Decoder Nat) c p) _ = _
  rw [fd_u1 h, e]
  rfl
theorem fd_o127 (h : p < c.size) (e : c[p].toNat = 127) : Decoder.instr p c p = .ok (.land, p + 1) := by
  show Except.bind ((Reader.u1 : Decoder Nat) c p) _ = _
  rw [fd_u1 h, e]
  rfl
theorem fd_o80 (h : p < c.size) (e : c[p].toNat = 80) : Decoder.instr p c p = .ok (.lastore, p + 1) := by
  show Except.bind ((Reader.u1 : Decoder Nat) c p) _ = _
  rw [fd_u1 h, e]
  rfl
theorem fd_o148 (h : p < c.size) (e : c[p].toNat = 148) : Decoder.instr p c p = .ok (.lcmp, p + 1) := by
  show Except.bind ((Reader.u1 : Decoder Nat) c p) _ = _
  rw [fd_u1 h, e]
  rfl
theorem fd_o109 (h : p < c.size) (e : c[p].toNat = 109) : Decoder.instr p c p = .ok (.ldiv, p + 1) := by
  show Except.bind ((Reader.u1 : Decoder Nat) c p) _ = _
  rw [fd_u1 h, e]
  rfl
theorem fd_o105 (h : p < c.size) (e : c[p].toNat = 105) : Decoder.instr p c p = .ok (.lmul, p + 1) := by
  show Except.bind ((Reader.u1 : Decoder Nat) c p) _ = _
  rw [fd_u1 h, e]
  rfl
theorem fd_o129 (h : p < c.size) (e : c[p].toNat = 129) : Decoder.instr p c p = .ok (.lor, p + 1) := by
  show Except.bind ((Reader.u1 : Decoder Nat) c p) _ = _
  rw [fd_u1 h, e]
  rfl
theorem fd_o113 (h : p < c.size) (e : c[p].toNat = 113) : Decoder.instr p c p = .ok (.lrem, p + 1) := by
  show Except.bind ((Reader.u1 : Decoder Nat) c p) _ = _
  rw [fd_u1 h, e]
  rfl
theorem fd_o173 (h : p < c.size) (e : c[p].toNat = 173) : Decoder.instr p c p = .ok (.lreturn, p + 1) := by
  show Except.bind ((Reader.u1 : Decoder Nat) c p) _ = _
  rw [fd_u1 h, e]
  rfl
theorem fd_o121 (h : p < c.size) (e : c[p].toNat = 121) : Decoder.instr p c p = .ok (.lshl, p + 1) := by
  show Except.bind ((Reader.u1 : Decoder Nat) c p) _ = _
  rw [fd_u1 h, e]
  rfl
theorem fd_o123 (h : p < c.size) (e : c[p].toNat = 123) : Decoder.instr p c p = .ok (.lshr, p + 1) := by
  show Except.bind ((Reader.u1 : Decoder Nat) c p) _ = _
  rw [fd_u1 h, e]
  rfl
theorem fd_o101 (h : p < c.size) (e : c[p].toNat = 101) : Decoder.instr p c p = .ok (.lsub, p + 1) := by
  show Except.bind ((Reader.u1 : Decoder Nat) c p) _ = _
  rw [fd_u1 h, e]
  rfl
theorem fd_o125 (h : p < c.size) (e : c[p].toNat = 125) : Decoder.instr p c p = .ok (.lushr, p + 1) := by
  show Except.bind ((Reader.u1 : Decoder Nat) c p) _ = _
  rw [fd_u1 h, e]
  rfl
theorem fd_o131 (h : p < c.size) (e : c[p].toNat = 131) : Decoder.instr p c p = .ok (.lxor, p + 1) := by
  show Except.bind ((Reader.u1 : Decoder Nat) c p) _ = _
  rw [fd_u1 h, e]
  rfl
theorem fd_o87 (h : p < c.size) (e : c[p].toNat = 87) : Decoder.instr p c p = .ok (.pop, p + 1) := by
  show Except.bind ((Reader.u1 : Decoder Nat) c p) _ = _
  rw [fd_u1 h, e]
  rfl
theorem fd_o88 (h : p < c.size) (e : c[p].toNat = 88) : Decoder.instr p c p = .ok (.pop2, p + 1) := by
  show Except.bind ((Reader.u1 : Decoder Nat) c p) _ = _
  rw [fd_u1 h, e]
  rfl
theorem fd_o177 (h : p < c.size) (e : c[p].toNat = 177) : Decoder.instr p c p = .ok (.return_, p + 1) := by
  show Except.bind ((Reader.u1 : Decoder Nat) c p) _ = _
  rw [fd_u1 h, e]
  rfl
theorem fd_o26 (h : p < c.size) (e : c[p].toNat = 26) : Decoder.instr p c p = .ok (.iload_n 0, p + 1) := by
  show Except.bind ((Reader.u1 : Decoder Nat) c p) _ = _
  rw [fd_u1 h, e]
  rfl
theorem fd_o27 (h : p < c.size) (e : c[p].toNat = 27) : Decoder.instr p c p = .ok (.iload_n 1, p + 1) := by
  show Except.bind ((Reader.u1 : Decoder Nat) c p) _ = _
  rw [fd_u1 h, e]
  rfl
theorem fd_o28 (h : p < c.size) (e : c[p].toNat = 28) : Decoder.instr p c p = .ok (.iload_n 2, p + 1) := by
  show Except.bind ((Reader.u1 : Decoder Nat) c p) _ = _
  rw [fd_u1 h, e]
  rfl
theorem fd_o29 (h : p < c.size) (e : c[p].toNat = 29) : Decoder.instr p c p = .ok (.iload_n 3, p + 1) := by
  show Except.bind ((Reader.u1 : Decoder Nat) c p) _ = _
  rw [fd_u1 h, e]
  rfl
theorem fd_o30 (h : p < c.size) (e : c[p].toNat = 30) : Decoder.instr p c p = .ok (.lload_n 0, p + 1) := by
  show Except.bind ((Reader.u1 : Decoder Nat) c p) _ = _
  rw [fd_u1 h, e]
  rfl
theorem fd_o31 (h : p < c.size) (e : c[p].toNat = 31) : Decoder.instr p c p = .ok (.lload_n 1, p + 1) := by
  show Except.bind ((Reader.u1 : Decoder Nat) c p) _ = _
  rw [fd_u1 h, e]
  rfl
theorem fd_o32 (h : p < c.size) (e : c[p].toNat = 32) : Decoder.instr p c p = .ok (.lload_n 2, p + 1) := by
  show Except.bind ((Reader.u1 : Decoder Nat) c p) _ = _
  rw [fd_u1 h, e]
  rfl
theorem fd_o33 (h : p < c.size) (e : c[p].toNat = 33) : Decoder.instr p c p = .ok (.lload_n 3, p + 1) := by
  show Except.bind ((Reader.u1 : Decoder Nat) c p) _ = _
  rw [fd_u1 h, e]
  rfl
theorem fd_o42 (h : p < c.size) (e : c[p].toNat = 42) : Decoder.instr p c p = .ok (.aload_n 0, p + 1) := by
  show Except.bind ((Reader.u1 : Decoder Nat) c p) _ = _
  rw [fd_u1 h, e]
  rfl
theorem fd_o43 (h : p < c.size) (e : c[p].toNat = 43) : Decoder.instr p c p = .ok (.aload_n 1, p + 1) := by
  show Except.bind ((Reader.u1 : Decoder Nat) c p) _ = _
  rw [fd_u1 h, e]
  rfl
theorem fd_o44 (h : p < c.size) (e : c[p].toNat = 44) : Decoder.instr p c p = .ok (.aload_n 2, p + 1) := by
  show Except.bind ((Reader.u1 : Decoder Nat) c p) _ = _
  rw [fd_u1 h, e]
  rfl
theorem fd_o45 (h : p < c.size) (e : c[p].toNat = 45) : Decoder.instr p c p = .ok (.aload_n 3, p + 1) := by
  show Except.bind ((Reader.u1 : Decoder Nat) c p) _ = _
  rw [fd_u1 h, e]
  rfl
theorem fd_o59 (h : p < c.size) (e : c[p].toNat = 59) : Decoder.instr p c p = .ok (.istore_n 0, p + 1) := by
  show Except.bind ((Reader.u1 : Decoder Nat) c p) _ = _
  rw [fd_u1 h, e]
  rfl
theorem fd_o60 (h : p < c.size) (e : c[p].toNat = 60) : Decoder.instr p c p = .ok (.istore_n 1, p + 1) := by
  show Except.bind ((Reader.u1 : Decoder Nat) c p) _ = _
  rw [fd_u1 h, e]
  rfl
theorem fd_o61 (h : p < c.size) (e : c[p].toNat = 61) : Decoder.instr p c p = .ok (.istore_n 2, p + 1) := by
  show Except.bind ((Reader.u1 : Decoder Nat) c p) _ = _
  rw [fd_u1 h, e]
  rfl
theorem fd_o62 (h : p < c.size) (e : c[p].toNat = 62) : Decoder.instr p c p = .ok (.istore_n 3, p + 1) := by
  show Except.bind ((Reader.u1 : Decoder Nat) c p) _ = _
  rw [fd_u1 h, e]
  rfl
theorem fd_o63 (h : p < c.size) (e : c[p].toNat = 63) : Decoder.instr p c p = .ok (.lstore_n 0, p + 1) := by
  show Except.bind ((Reader.u1 : Decoder Nat) c p) _ = _
  rw [fd_u1 h, e]
  rfl
theorem fd_o64 (h : p < c.size) (e : c[p].toNat = 64) : Decoder.instr p c p = .ok (.lstore_n 1, p + 1) := by
  show Except.bind ((Reader.u1 : Decoder Nat) c p) _ = _
  rw [fd_u1 h, e]
  rfl
theorem fd_o65 (h : p < c.size) (e : c[p].toNat = 65) : Decoder.instr p c p = .ok (.lstore_n 2, p + 1) := by
  show Except.bind ((Reader.u1 : Decoder Nat) c p) _ = _
  rw [fd_u1 h, e]
  rfl
theorem fd_o66 (h : p < c.size) (e : c[p].toNat = 66) : Decoder.instr p c p = .ok (.lstore_n 3, p + 1) := by
  show Except.bind ((Reader.u1 : Decoder Nat) c p) _ = _
  rw [fd_u1 h, e]
  rfl
theorem fd_o75 (h : p < c.size) (e : c[p].toNat = 75) : Decoder.instr p c p = .ok (.astore_n 0, p + 1) := by
  show Except.bind ((Reader.u1 : Decoder Nat) c p) _ = _
  rw [fd_u1 h, e]
  rfl
theorem fd_o76 (h : p < c.size) (e : c[p].toNat = 76) : Decoder.instr p c p = .ok (.astore_n 1, p + 1) := by
  show Except.bind ((Reader.u1 : Decoder Nat) c p) _ = _
  rw [fd_u1 h, e]
  rfl
theorem fd_o77 (h : p < c.size) (e : c[p].toNat = 77) : Decoder.instr p c p = .ok (.astore_n 2, p + 1) := by
  show Except.bind ((Reader.u1 : Decoder Nat) c p) _ = _
  rw [fd_u1 h, e]
  rfl
theorem fd_o78 (h : p < c.size) (e : c[p].toNat = 78) : Decoder.instr p c p = .ok (.astore_n 3, p + 1) := by
  show Except.bind ((Reader.u1 : Decoder Nat) c p) _ = _
  rw [fd_u1 h, e]
  rfl
theorem fd_o9 (h : p < c.size) (e : c[p].toNat = 9) : Decoder.instr p c p = .ok (.lconst 0, p + 1) := by
  show Except.bind ((Reader.u1 : Decoder Nat) c p) _ = _
  rw [fd_u1 h, e]
  rfl
theorem fd_o10 (h : p < c.size) (e : c[p].toNat = 10) : Decoder.instr p c p = .ok (.lconst 1, p + 1) := by
  show Except.bind ((Reader.u1 : Decoder Nat) c p) _ = _
  rw [fd_u1 h, e]
  rfl
theorem fd_o2 (h : p < c.size) (e : c[p].toNat = 2) : Decoder.instr p c p = .ok (.iconst (-1), p + 1) := by
  show Except.bind ((Reader.u1 : Decoder Nat) c p) _ = _
  rw [fd_u1 h, e]
  rfl
theorem fd_o3 (h : p < c.size) (e : c[p].toNat = 3) : Decoder.instr p c p = .ok (.iconst 0, p + 1) := by
  show Except.bind ((Reader.u1 : Decoder Nat) c p) _ = _
  rw [fd_u1 h, e]
  rfl
theorem fd_o4 (h : p < c.size) (e : c[p].toNat = 4) : Decoder.instr p c p = .ok (.iconst 1, p + 1) := by
  show Except.bind ((Reader.u1 : Decoder Nat) c p) _ = _
  rw [fd_u1 h, e]
  rfl
theorem fd_o5 (h : p < c.size) (e : c[p].toNat = 5) : Decoder.instr p c p = .ok (.iconst 2, p + 1) := by
  show Except.bind ((Reader.u1 : Decoder Nat) c p) _ = _
  rw [fd_u1 h, e]
  rfl
theorem fd_o6 (h : p < c.size) (e : c[p].toNat = 6) : Decoder.instr p c p = .ok (.iconst 3, p + 1) := by
  show Except.bind ((Reader.u1 : Decoder Nat) c p) _ = _
  rw [fd_u1 h, e]
  rfl
theorem fd_o7 (h : p < c.size) (e : c[p].toNat = 7) : Decoder.instr p c p = .ok (.iconst 4, p + 1) := by
  show Except.bind ((Reader.u1 : Decoder Nat) c p) _ = _
  rw [fd_u1 h, e]
  rfl
theorem fd_o8 (h : p < c.size) (e : c[p].toNat = 8) : Decoder.instr p c p = .ok (.iconst 5, p + 1) := by
  show Except.bind ((Reader.u1 : Decoder Nat) c p) _ = _
  rw [fd_u1 h, e]
  rfl
theorem fd_o18 (h : p < c.size) (e : c[p].toNat = 18) : Decoder.instr p c p = (Reader.u1 >>= fun x => pure (Instr.ldc x) : Decoder Instr) c (p + 1) := by
  show Except.bind ((Reader.u1 : Decoder Nat) c p) _ = _
  rw [fd_u1 h, e]
  rfl
theorem fd_o21 (h : p < c.size) (e : c[p].toNat = 21) : Decoder.instr p c p = (Reader.u1 >>= fun x => pure (Instr.iload x) : Decoder Instr) c (p + 1) := by
  show Except.bind ((Reader.u1 : Decoder Nat) c p) _ = _
  rw [fd_u1 h, e]
  rfl
theorem fd_o22 (h : p < c.size) (e : c[p].toNat = 22) : Decoder.instr p c p = (Reader.u1 >>= fun x => pure (Instr.lload x) : Decoder Instr) c (p + 1) := by
  show Except.bind ((Reader.u1 : Decoder Nat) c p) _ = _
  rw [fd_u1 h, e]
  rfl
theorem fd_o25 (h : p < c.size) (e : c[p].toNat = 25) : Decoder.instr p c p = (Reader.u1 >>= fun x => pure (Instr.aload x) : Decoder Instr) c (p + 1) := by
  show Except.bind ((Reader.u1 : Decoder Nat) c p) _ = _
  rw [fd_u1 h, e]
  rfl
theorem fd_o54 (h : p < c.size) (e : c[p].toNat = 54) : Decoder.instr p c p = (Reader.u1 >>= fun x => pure (Instr.istore x) : Decoder Instr) c (p + 1) := by
  show Except.bind ((Reader.u1 : Decoder Nat) c p) _ = _
  rw [fd_u1 h, e]
  rfl
theorem fd_o55 (h : p < c.size) (e : c[p].toNat = 55) : Decoder.instr p c p = (Reader.u1 >>= fun x => pure (Instr.lstore x) : Decoder Instr) c (p + 1) := by
  show Except.bind ((Reader.u1 : Decoder Nat) c p) _ = _
  rw [fd_u1 h, e]
  rfl
theorem fd_o58 (h : p < c.size) (e : c[p].toNat = 58) : Decoder.instr p c p = (Reader.u1 >>= fun x => pure (Instr.astore x) : Decoder Instr) c (p + 1) := by
  show Except.bind ((Reader.u1 : Decoder Nat) c p) _ = _
  rw [fd_u1 h, e]
  rfl
theorem fd_o19 (h : p < c.size) (e : c[p].toNat = 19) : Decoder.instr p c p = (Reader.u2 >>= fun x => pure (Instr.ldc_w x) : Decoder Instr) c (p + 1) := by
  show Except.bind ((Reader.u1 : Decoder Nat) c p) _ = _
  rw [fd_u1 h, e]
  rfl
theorem fd_o20 (h : p < c.size) (e : c[p].toNat = 20) : Decoder.instr p c p = (Reader.u2 >>= fun x => pure (Instr.ldc2_w x) : Decoder Instr) c (p + 1) := by
  show Except.bind ((Reader.u1 : Decoder Nat) c p) _ = _
  rw [fd_u1 h, e]
  rfl
theorem fd_o178 (h : p < c.size) (e : c[p].toNat = 178) : Decoder.instr p c p = (Reader.u2 >>= fun x => pure (Instr.getstatic x) : Decoder Instr) c (p + 1) := by
  show Except.bind ((Reader.u1 : Decoder Nat) c p) _ = _
  rw [fd_u1 h, e]
  rfl
theorem fd_o180 (h : p < c.size) (e : c[p].toNat = 180) : Decoder.instr p c p = (Reader.u2 >>= fun x => pure (Instr.getfield x) : Decoder Instr) c (p + 1) := by
  show Except.bind ((Reader.u1 : Decoder Nat) c p) _ = _
  rw [fd_u1 h, e]
  rfl
theorem fd_o181 (h : p < c.size) (e : c[p].toNat = 181) : Decoder.instr p c p = (Reader.u2 >>= fun x => pure (Instr.putfield x) : Decoder Instr) c (p + 1) := by
  show Except.bind ((Reader.u1 : Decoder Nat) c p) _ = _
  rw [fd_u1 h, e]
  rfl
theorem fd_o182 (h : p < c.size) (e : c[p].toNat = 182) : Decoder.instr p c p = (Reader.u2 >>= fun x => pure (Instr.invokevirtual x) : Decoder Instr) c (p + 1) := by
  show Except.bind ((Reader.u1 : Decoder Nat) c p) _ = _
  rw [fd_u1 h, e]
  rfl
theorem fd_o183 (h : p < c.size) (e : c[p].toNat = 183) : Decoder.instr p c p = (Reader.u2 >>= fun x => pure (Instr.invokespecial x) : Decoder Instr) c (p + 1) := by
  show Except.bind ((Reader.u1 : Decoder Nat) c p) _ = _
  rw [fd_u1 h, e]
  rfl
theorem fd_o184 (h : p < c.size) (e : c[p].toNat = 184) : Decoder.instr p c p = (Reader.u2 >>= fun x => pure (Instr.invokestatic x) : Decoder Instr) c (p + 1) := by
  show Except.bind ((Reader.u1 : Decoder Nat) c p) _ = _
  rw [fd_u1 h, e]
  rfl
theorem fd_o187 (h : p < c.size) (e : c[p].toNat = 187) : Decoder.instr p c p = (Reader.u2 >>= fun x => pure (Instr.new x) : Decoder Instr) c (p + 1) := by
  show Except.bind ((Reader.u1 : Decoder Nat) c p) _ = _
  rw [fd_u1 h, e]
  rfl
theorem fd_o189 (h : p < c.size) (e : c[p].toNat = 189) : Decoder.instr p c p = (Reader.u2 >>= fun x => pure (Instr.anewarray x) : Decoder Instr) c (p + 1) := by
  show Except.bind ((Reader.u1 : Decoder Nat) c p) _ = _
  rw [fd_u1 h, e]
  rfl
theorem fd_o16 (h : p < c.size) (e : c[p].toNat = 16) : Decoder.instr p c p = (Reader.s1 >>= fun x => pure (Instr.bipush x) : Decoder Instr) c (p + 1) := by
  show Except.bind ((Reader.u1 : Decoder Nat) c p) _ = _
  rw [fd_u1 h, e]
  rfl
theorem fd_o17 (h : p < c.size) (e : c[p].toNat = 17) : Decoder.instr p c p = (Reader.s2 >>= fun x => pure (Instr.sipush x) : Decoder Instr) c (p + 1) := by
  show Except.bind ((Reader.u1 : Decoder Nat) c p) _ = _
  rw [fd_u1 h, e]
  rfl
theorem fd_o167 (h : p < c.size) (e : c[p].toNat = 167) : Decoder.instr p c p = (Reader.s2 >>= fun x => pure (Instr.goto x) : Decoder Instr) c (p + 1) := by
  show Except.bind ((Reader.u1 : Decoder Nat) c p) _ = _
  rw [fd_u1 h, e]
  rfl
theorem fd_o153 (h : p < c.size) (e : c[p].toNat = 153) : Decoder.instr p c p = (Reader.s2 >>= fun x => pure (Instr.ifCond .eq x) : Decoder Instr) c (p + 1) := by
  show Except.bind ((Reader.u1 : Decoder Nat) c p) _ = _
  rw [fd_u1 h, e]
  rfl
theorem fd_o159 (h : p < c.size) (e : c[p].toNat = 159) : Decoder.instr p c p = (Reader.s2 >>= fun x => pure (Instr.if_icmp .eq x) : Decoder Instr) c (p + 1) := by
  show Except.bind ((Reader.u1 : Decoder Nat) c p) _ = _
  rw [fd_u1 h, e]
  rfl
theorem fd_o154 (h : p < c.size) (e : c[p].toNat = 154) : Decoder.instr p c p = (Reader.s2 >>= fun x => pure (Instr.ifCond .ne x) : Decoder Instr) c (p + 1) := by
  show Except.bind ((Reader.u1 : Decoder Nat) c p) _ = _
  rw [fd_u1 h, e]
  rfl
theorem fd_o160 (h : p < c.size) (e : c[p].toNat = 160) : Decoder.instr p c p = (Reader.s2 >>= fun x => pure (Instr.if_icmp .ne x) : Decoder Instr) c (p + 1) := by
  show Except.bind ((Reader.u1 : Decoder Nat) c p) _ = _
  rw [fd_u1 h, e]
  rfl
theorem fd_o155 (h : p < c.size) (e : c[p].toNat = 155) : Decoder.instr p c p = (Reader.s2 >>= fun x => pure (Instr.ifCond .lt x) : Decoder Instr) c (p + 1) := by
  show Except.bind ((Reader.u1 : Decoder Nat) c p) _ = _
  rw [fd_u1 h, e]
  rfl
theorem fd_o161 (h : p < c.size) (e : c[p].toNat = 161) : Decoder.instr p c p = (Reader.s2 >>= fun x => pure (Instr.if_icmp .lt x) : Decoder Instr) c (p + 1) := by
  show Except.bind ((Reader.u1 : Decoder Nat) c p) _ = _
  rw [fd_u1 h, e]
  rfl
theorem fd_o156 (h : p < c.size) (e : c[p].toNat = 156) : Decoder.instr p c p = (Reader.s2 >>= fun x => pure (Instr.ifCond .ge x) : Decoder Instr) c (p + 1) := by
  show Except.bind ((Reader.u1 : Decoder Nat) c p) _ = _
  rw [fd_u1 h, e]
  rfl
theorem fd_o162 (h : p < c.size) (e : c[p].toNat = 162) : Decoder.instr p c p = (Reader.s2 >>= fun x => pure (Instr.if_icmp .ge x) : Decoder Instr) c (p + 1) := by
  show Except.bind ((Reader.u1 : Decoder Nat) c p) _ = _
  rw [fd_u1 h, e]
  rfl
theorem fd_o157 (h : p < c.size) (e : c[p].toNat = 157) : Decoder.instr p c p = (Reader.s2 >>= fun x => pure (Instr.ifCond .gt x) : Decoder Instr) c (p + 1) := by
  show Except.bind ((Reader.u1 : Decoder Nat) c p) _ = _
  rw [fd_u1 h, e]
  rfl
theorem fd_o163 (h : p < c.size) (e : c[p].toNat = 163) : Decoder.instr p c p = (Reader.s2 >>= fun x => pure (Instr.if_icmp .gt x) : Decoder Instr) c (p + 1) := by
  show Except.bind ((Reader.u1 : Decoder Nat) c p) _ = _
  rw [fd_u1 h, e]
  rfl
theorem fd_o158 (h : p < c.size) (e : c[p].toNat = 158) : Decoder.instr p c p = (Reader.s2 >>= fun x => pure (Instr.ifCond .le x) : Decoder Instr) c (p + 1) := by
  show Except.bind ((Reader.u1 : Decoder Nat) c p) _ = _
  rw [fd_u1 h, e]
  rfl
theorem fd_o164 (h : p < c.size) (e : c[p].toNat = 164) : Decoder.instr p c p = (Reader.s2 >>= fun x => pure (Instr.if_icmp .le x) : Decoder Instr) c (p + 1) := by
  show Except.bind ((Reader.u1 : Decoder Nat) c p) _ = _
  rw [fd_u1 h, e]
  rfl
theorem fd_o132 (h : p < c.size) (e : c[p].toNat = 132) : Decoder.instr p c p = (Reader.u1 >>= fun x => Reader.s1 >>= fun y => pure (Instr.iinc x y) : Decoder Instr) c (p + 1) := by
  show Except.bind ((Reader.u1 : Decoder Nat) c p) _ = _
  rw [fd_u1 h, e]
  rfl
theorem fd_o188 (h : p < c.size) (e : c[p].toNat = 188) : Decoder.instr p c p = (Decoder.newarray p : Decoder Instr) c (p + 1) := by
  show Except.bind ((Reader.u1 : Decoder Nat) c p) _ = _
  rw [fd_u1 h, e]
  rfl
theorem fd_n4 (h : p < c.size) (h1 : p + 1 < c.size) (e : c[p].toNat = 188) (e1 : c[p + 1].toNat = 4) : decode c p = .ok (.newarray .boolean, 2) := by
  have q : Decoder.newarray p c (p + 1) = .ok (.newarray .boolean, p + 1 + 1) := by
    show Except.bind ((Reader.u1 : Decoder Nat) c (p + 1)) _ = _
    rw [fd_u1 h1, e1]
    rfl
  exact fd_2 ((fd_o188 h e).trans q)
theorem fd_n10 (h : p < c.size) (h1 : p + 1 < c.size) (e : c[p].toNat = 188) (e1 : c[p + 1].toNat = 10) : decode c p = .ok (.newarray .int, 2) := by
  have q : Decoder.newarray p c (p + 1) = .ok (.newarray .int, p + 1 + 1) := by
    show Except.bind ((Reader.u1 : Decoder Nat) c (p + 1)) _ = _
    rw [fd_u1 h1, e1]
    rfl
  exact fd_2 ((fd_o188 h e).trans q)
theorem fd_n11 (h : p < c.size) (h1 : p + 1 < c.size) (e : c[p].toNat = 188) (e1 : c[p + 1].toNat = 11) : decode c p = .ok (.newarray .long, 2) := by
  have q : Decoder.newarray p c (p + 1) = .ok (.newarray .long, p + 1 + 1) := by
    show Except.bind ((Reader.u1 : Decoder Nat) c (p + 1)) _ = _
    rw [fd_u1 h1, e1]
    rfl
  exact fd_2 ((fd_o188 h e).trans q)
noncomputable def fs_c : Jvm.ClassFile.Cond → Nat
  | .eq => 0
  | .ne => 1
  | .lt => 2
  | .ge => 3
  | .gt => 4
  | .le => 5
noncomputable def fs_t : ArrayType → Nat
  | .boolean => 4
  | .int => 10
  | .long => 11
  | _ => 300
noncomputable def fs_tb (o : Nat) (r : List UInt8) (i : Instr) (n : Nat) : Bool := match i with
  | .aaload => Nat.beq o 50 && Nat.beq n 1
  | .aastore => Nat.beq o 83 && Nat.beq n 1
  | .arraylength => Nat.beq o 190 && Nat.beq n 1
  | .baload => Nat.beq o 51 && Nat.beq n 1
  | .bastore => Nat.beq o 84 && Nat.beq n 1
  | .dup => Nat.beq o 89 && Nat.beq n 1
  | .dup2 => Nat.beq o 92 && Nat.beq n 1
  | .i2l => Nat.beq o 133 && Nat.beq n 1
  | .iadd => Nat.beq o 96 && Nat.beq n 1
  | .iaload => Nat.beq o 46 && Nat.beq n 1
  | .iand => Nat.beq o 126 && Nat.beq n 1
  | .iastore => Nat.beq o 79 && Nat.beq n 1
  | .idiv => Nat.beq o 108 && Nat.beq n 1
  | .imul => Nat.beq o 104 && Nat.beq n 1
  | .ior => Nat.beq o 128 && Nat.beq n 1
  | .irem => Nat.beq o 112 && Nat.beq n 1
  | .ireturn => Nat.beq o 172 && Nat.beq n 1
  | .ishl => Nat.beq o 120 && Nat.beq n 1
  | .ishr => Nat.beq o 122 && Nat.beq n 1
  | .isub => Nat.beq o 100 && Nat.beq n 1
  | .iushr => Nat.beq o 124 && Nat.beq n 1
  | .ixor => Nat.beq o 130 && Nat.beq n 1
  | .l2i => Nat.beq o 136 && Nat.beq n 1
  | .ladd => Nat.beq o 97 && Nat.beq n 1
  | .laload => Nat.beq o 47 && Nat.beq n 1
  | .land => Nat.beq o 127 && Nat.beq n 1
  | .lastore => Nat.beq o 80 && Nat.beq n 1
  | .lcmp => Nat.beq o 148 && Nat.beq n 1
  | .ldiv => Nat.beq o 109 && Nat.beq n 1
  | .lmul => Nat.beq o 105 && Nat.beq n 1
  | .lor => Nat.beq o 129 && Nat.beq n 1
  | .lrem => Nat.beq o 113 && Nat.beq n 1
  | .lreturn => Nat.beq o 173 && Nat.beq n 1
  | .lshl => Nat.beq o 121 && Nat.beq n 1
  | .lshr => Nat.beq o 123 && Nat.beq n 1
  | .lsub => Nat.beq o 101 && Nat.beq n 1
  | .lushr => Nat.beq o 125 && Nat.beq n 1
  | .lxor => Nat.beq o 131 && Nat.beq n 1
  | .pop => Nat.beq o 87 && Nat.beq n 1
  | .pop2 => Nat.beq o 88 && Nat.beq n 1
  | .return_ => Nat.beq o 177 && Nat.beq n 1
  | .iload_n k => Nat.beq o (k.val + 26) && Nat.beq n 1
  | .lload_n k => Nat.beq o (k.val + 30) && Nat.beq n 1
  | .aload_n k => Nat.beq o (k.val + 42) && Nat.beq n 1
  | .istore_n k => Nat.beq o (k.val + 59) && Nat.beq n 1
  | .lstore_n k => Nat.beq o (k.val + 63) && Nat.beq n 1
  | .astore_n k => Nat.beq o (k.val + 75) && Nat.beq n 1
  | .lconst k => Nat.beq o (k.val + 9) && Nat.beq n 1
  | .iconst v => (Nat.ble 2 o && Nat.ble o 8) && (decide (v = Int.subNatNat o 3) && Nat.beq n 1)
  | .ldc x => match r with
    | a :: _ => Nat.beq o 18 && (Nat.beq n 2 && Nat.beq x a.toNat)
    | _ => false
  | .iload x => match r with
    | a :: _ => Nat.beq o 21 && (Nat.beq n 2 && Nat.beq x a.toNat)
    | _ => false
  | .lload x => match r with
    | a :: _ => Nat.beq o 22 && (Nat.beq n 2 && Nat.beq x a.toNat)
    | _ => false
  | .aload x => match r with
    | a :: _ => Nat.beq o 25 && (Nat.beq n 2 && Nat.beq x a.toNat)
    | _ => false
  | .istore x => match r with
    | a :: _ => Nat.beq o 54 && (Nat.beq n 2 && Nat.beq x a.toNat)
    | _ => false
  | .lstore x => match r with
    | a :: _ => Nat.beq o 55 && (Nat.beq n 2 && Nat.beq x a.toNat)
    | _ => false
  | .astore x => match r with
    | a :: _ => Nat.beq o 58 && (Nat.beq n 2 && Nat.beq x a.toNat)
    | _ => false
  | .ldc_w x => match r with
    | a :: b :: _ => Nat.beq o 19 && (Nat.beq n 3 && Nat.beq x (a.toNat * 256 + b.toNat))
    | _ => false
  | .ldc2_w x => match r with
    | a :: b :: _ => Nat.beq o 20 && (Nat.beq n 3 && Nat.beq x (a.toNat * 256 + b.toNat))
    | _ => false
  | .getstatic x => match r with
    | a :: b :: _ => Nat.beq o 178 && (Nat.beq n 3 && Nat.beq x (a.toNat * 256 + b.toNat))
    | _ => false
  | .getfield x => match r with
    | a :: b :: _ => Nat.beq o 180 && (Nat.beq n 3 && Nat.beq x (a.toNat * 256 + b.toNat))
    | _ => false
  | .putfield x => match r with
    | a :: b :: _ => Nat.beq o 181 && (Nat.beq n 3 && Nat.beq x (a.toNat * 256 + b.toNat))
    | _ => false
  | .invokevirtual x => match r with
    | a :: b :: _ => Nat.beq o 182 && (Nat.beq n 3 && Nat.beq x (a.toNat * 256 + b.toNat))
    | _ => false
  | .invokespecial x => match r with
    | a :: b :: _ => Nat.beq o 183 && (Nat.beq n 3 && Nat.beq x (a.toNat * 256 + b.toNat))
    | _ => false
  | .invokestatic x => match r with
    | a :: b :: _ => Nat.beq o 184 && (Nat.beq n 3 && Nat.beq x (a.toNat * 256 + b.toNat))
    | _ => false
  | .new x => match r with
    | a :: b :: _ => Nat.beq o 187 && (Nat.beq n 3 && Nat.beq x (a.toNat * 256 + b.toNat))
    | _ => false
  | .anewarray x => match r with
    | a :: b :: _ => Nat.beq o 189 && (Nat.beq n 3 && Nat.beq x (a.toNat * 256 + b.toNat))
    | _ => false
  | .bipush v => match r with
    | a :: _ => Nat.beq o 16 && (Nat.beq n 2 && decide (v = Reader.signed 8 a.toNat))
    | _ => false
  | .sipush v => match r with
    | a :: b :: _ => Nat.beq o 17 && (Nat.beq n 3 && decide (v = Reader.signed 16 (a.toNat * 256 + b.toNat)))
    | _ => false
  | .goto v => match r with
    | a :: b :: _ => Nat.beq o 167 && (Nat.beq n 3 && decide (v = Reader.signed 16 (a.toNat * 256 + b.toNat)))
    | _ => false
  | .ifCond q v => match r with
    | a :: b :: _ => Nat.beq o (fs_c q + 153) && (Nat.beq n 3 && decide (v = Reader.signed 16 (a.toNat * 256 + b.toNat)))
    | _ => false
  | .if_icmp q v => match r with
    | a :: b :: _ => Nat.beq o (fs_c q + 159) && (Nat.beq n 3 && decide (v = Reader.signed 16 (a.toNat * 256 + b.toNat)))
    | _ => false
  | .iinc x v => match r with
    | a :: b :: _ => Nat.beq o 132 && (Nat.beq n 3 && (Nat.beq x a.toNat && decide (v = Reader.signed 8 b.toNat)))
    | _ => false
  | .newarray t => match r with
    | a :: _ => Nat.beq o 188 && (Nat.beq n 2 && Nat.beq a.toNat (fs_t t))
    | _ => false
  | _ => false
theorem fs_and {a b : Bool} (h : (a && b) = true) : a = true ∧ b = true := by
  cases a
  · cases h
  · exact ⟨rfl, h⟩
theorem fs_b {a b : Nat} (h : Nat.beq a b = true) : a = b := Nat.eq_of_beq_eq_true h
theorem fs_l1 {b : UInt8} {r : List UInt8} (h : c.data.toList.drop p = b :: r) : ∃ hp : p < c.size, c[p] = b ∧ c.data.toList.drop (p + 1) = r := by
  have hl : p < c.data.toList.length := by
    apply Classical.byContradiction
    intro q
    rw [List.drop_eq_nil_of_le (by omega)] at h
    cases h
  rw [List.drop_eq_getElem_cons hl] at h
  injection h with h1 h2
  exact ⟨hl, h1, h2⟩
theorem fs_z {o k n : Nat} {I : Instr} (h : (Nat.beq o k && Nat.beq n 1) = true) (f : o = k → Decoder.instr p c p = .ok (I, p + 1)) : decode c p = .ok (I, n) := by
  obtain ⟨h1, h2⟩ := fs_and h
  rw [fs_b h2]
  exact fd_z (f (fs_b h1))
set_option maxRecDepth 100000 in
theorem fs_ok {n : Nat} {b : UInt8} {r : List UInt8} (hl : c.data.toList.drop p = b :: r) (i : Instr) (h : fs_tb b.toNat r i n = true) : decode c p = .ok (i, n) := by
  obtain ⟨hp, e, hr⟩ := fs_l1 hl
  have e : c[p].toNat = b.toNat := by rw [e]
  cases i
  case aaload => exact fs_z h fun q => fd_o50 hp (e.trans q)
  case aastore => exact fs_z h fun q => fd_o83 hp (e.trans q)
  case arraylength => exact fs_z h fun q => fd_o190 hp (e.trans q)
  case baload => exact fs_z h fun q => fd_o51 hp (e.trans q)
  case bastore => exact fs_z h fun q => fd_o84 hp (e.trans q)
  case dup => exact fs_z h fun q => fd_o89 hp (e.trans q)
  case dup2 => exact fs_z h fun q => fd_o92 hp (e.trans q)
  case i2l => exact fs_z h fun q => fd_o133 hp (e.trans q)
  case iadd => exact fs_z h fun q => fd_o96 hp (e.trans q)
  case iaload => exact fs_z h fun q => fd_o46 hp (e.trans q)
  case iand => exact fs_z h fun q => fd_o126 hp (e.trans q)
  case iastore => exact fs_z h fun q => fd_o79 hp (e.trans q)
  case idiv => exact fs_z h fun q => fd_o108 hp (e.trans q)
  case imul => exact fs_z h fun q => fd_o104 hp (e.trans q)
  case ior => exact fs_z h fun q => fd_o128 hp (e.trans q)
  case irem => exact fs_z h fun q => fd_o112 hp (e.trans q)
  case ireturn => exact fs_z h fun q => fd_o172 hp (e.trans q)
  case ishl => exact fs_z h fun q => fd_o120 hp (e.trans q)
  case ishr => exact fs_z h fun q => fd_o122 hp (e.trans q)
  case isub => exact fs_z h fun q => fd_o100 hp (e.trans q)
  case iushr => exact fs_z h fun q => fd_o124 hp (e.trans q)
  case ixor => exact fs_z h fun q => fd_o130 hp (e.trans q)
  case l2i => exact fs_z h fun q => fd_o136 hp (e.trans q)
  case ladd => exact fs_z h fun q => fd_o97 hp (e.trans q)
  case laload => exact fs_z h fun q => fd_o47 hp (e.trans q)
  case land => exact fs_z h fun q => fd_o127 hp (e.trans q)
  case lastore => exact fs_z h fun q => fd_o80 hp (e.trans q)
  case lcmp => exact fs_z h fun q => fd_o148 hp (e.trans q)
  case ldiv => exact fs_z h fun q => fd_o109 hp (e.trans q)
  case lmul => exact fs_z h fun q => fd_o105 hp (e.trans q)
  case lor => exact fs_z h fun q => fd_o129 hp (e.trans q)
  case lrem => exact fs_z h fun q => fd_o113 hp (e.trans q)
  case lreturn => exact fs_z h fun q => fd_o173 hp (e.trans q)
  case lshl => exact fs_z h fun q => fd_o121 hp (e.trans q)
  case lshr => exact fs_z h fun q => fd_o123 hp (e.trans q)
  case lsub => exact fs_z h fun q => fd_o101 hp (e.trans q)
  case lushr => exact fs_z h fun q => fd_o125 hp (e.trans q)
  case lxor => exact fs_z h fun q => fd_o131 hp (e.trans q)
  case pop => exact fs_z h fun q => fd_o87 hp (e.trans q)
  case pop2 => exact fs_z h fun q => fd_o88 hp (e.trans q)
  case return_ => exact fs_z h fun q => fd_o177 hp (e.trans q)
  case iload_n k => exact match k, h with
    | 0, h => fs_z (k := 26) h fun q => fd_o26 hp (e.trans q)
    | 1, h => fs_z (k := 27) h fun q => fd_o27 hp (e.trans q)
    | 2, h => fs_z (k := 28) h fun q => fd_o28 hp (e.trans q)
    | 3, h => fs_z (k := 29) h fun q => fd_o29 hp (e.trans q)
  case lload_n k => exact match k, h with
    | 0, h => fs_z (k := 30) h fun q => fd_o30 hp (e.trans q)
    | 1, h => fs_z (k := 31) h fun q => fd_o31 hp (e.trans q)
    | 2, h => fs_z (k := 32) h fun q => fd_o32 hp (e.trans q)
    | 3, h => fs_z (k := 33) h fun q => fd_o33 hp (e.trans q)
  case aload_n k => exact match k, h with
    | 0, h => fs_z (k := 42) h fun q => fd_o42 hp (e.trans q)
    | 1, h => fs_z (k := 43) h fun q => fd_o43 hp (e.trans q)
    | 2, h => fs_z (k := 44) h fun q => fd_o44 hp (e.trans q)
    | 3, h => fs_z (k := 45) h fun q => fd_o45 hp (e.trans q)
  case istore_n k => exact match k, h with
    | 0, h => fs_z (k := 59) h fun q => fd_o59 hp (e.trans q)
    | 1, h => fs_z (k := 60) h fun q => fd_o60 hp (e.trans q)
    | 2, h => fs_z (k := 61) h fun q => fd_o61 hp (e.trans q)
    | 3, h => fs_z (k := 62) h fun q => fd_o62 hp (e.trans q)
  case lstore_n k => exact match k, h with
    | 0, h => fs_z (k := 63) h fun q => fd_o63 hp (e.trans q)
    | 1, h => fs_z (k := 64) h fun q => fd_o64 hp (e.trans q)
    | 2, h => fs_z (k := 65) h fun q => fd_o65 hp (e.trans q)
    | 3, h => fs_z (k := 66) h fun q => fd_o66 hp (e.trans q)
  case astore_n k => exact match k, h with
    | 0, h => fs_z (k := 75) h fun q => fd_o75 hp (e.trans q)
    | 1, h => fs_z (k := 76) h fun q => fd_o76 hp (e.trans q)
    | 2, h => fs_z (k := 77) h fun q => fd_o77 hp (e.trans q)
    | 3, h => fs_z (k := 78) h fun q => fd_o78 hp (e.trans q)
  case lconst k => exact match k, h with
    | 0, h => fs_z (k := 9) h fun q => fd_o9 hp (e.trans q)
    | 1, h => fs_z (k := 10) h fun q => fd_o10 hp (e.trans q)
  case iconst v =>
    obtain ⟨h1, h2⟩ := fs_and h
    obtain ⟨h3, h4⟩ := fs_and h2
    obtain ⟨h5, h6⟩ := fs_and h1
    have h3 := of_decide_eq_true h3
    have h5 := Nat.le_of_ble_eq_true h5
    have h6 := Nat.le_of_ble_eq_true h6
    rw [fs_b h4]
    generalize b.toNat = o at *
    rcases (show o = 2 ∨ o = 3 ∨ o = 4 ∨ o = 5 ∨ o = 6 ∨ o = 7 ∨ o = 8 by omega) with q | q | q | q | q | q | q
    · subst q; subst h3; exact fd_z (fd_o2 hp e)
    · subst q; subst h3; exact fd_z (fd_o3 hp e)
    · subst q; subst h3; exact fd_z (fd_o4 hp e)
    · subst q; subst h3; exact fd_z (fd_o5 hp e)
    · subst q; subst h3; exact fd_z (fd_o6 hp e)
    · subst q; subst h3; exact fd_z (fd_o7 hp e)
    · subst q; subst h3; exact fd_z (fd_o8 hp e)
  case ldc x =>
    cases r with
    | nil => exact nomatch (show false = true from h)
    | cons a r =>
      obtain ⟨hp1, e1, -⟩ := fs_l1 hr
      have e1 : c[p + 1].toNat = a.toNat := by rw [e1]
      obtain ⟨h1, h2⟩ := fs_and h
      obtain ⟨h3, h4⟩ := fs_and h2
      rw [fs_b h3]
      rw [fs_b h4, ← e1]
      exact fd_k1 (C := fun x => Instr.ldc x) hp1 (fd_o18 hp (e.trans (fs_b h1)))
  case iload x =>
    cases r with
    | nil => exact nomatch (show false = true from h)
    | cons a r =>
      obtain ⟨hp1, e1, -⟩ := fs_l1 hr
      have e1 : c[p + 1].toNat = a.toNat := by rw [e1]
      obtain ⟨h1, h2⟩ := fs_and h
      obtain ⟨h3, h4⟩ := fs_and h2
      rw [fs_b h3]
      rw [fs_b h4, ← e1]
      exact fd_k1 (C := fun x => Instr.iload x) hp1 (fd_o21 hp (e.trans (fs_b h1)))
  case lload x =>
    cases r with
    | nil => exact nomatch (show false = true from h)
    | cons a r =>
      obtain ⟨hp1, e1, -⟩ := fs_l1 hr
      have e1 : c[p + 1].toNat = a.toNat := by rw [e1]
      obtain ⟨h1, h2⟩ := fs_and h
      obtain ⟨h3, h4⟩ := fs_and h2
      rw [fs_b h3]
      rw [fs_b h4, ← e1]
      exact fd_k1 (C := fun x => Instr.lload x) hp1 (fd_o22 hp (e.trans (fs_b h1)))
  case aload x =>
    cases r with
    | nil => exact nomatch (show false = true from h)
    | cons a r =>
      obtain ⟨hp1, e1, -⟩ := fs_l1 hr
      have e1 : c[p + 1].toNat = a.toNat := by rw [e1]
      obtain ⟨h1, h2⟩ := fs_and h
      obtain ⟨h3, h4⟩ := fs_and h2
      rw [fs_b h3]
      rw [fs_b h4, ← e1]
      exact fd_k1 (C := fun x => Instr.aload x) hp1 (fd_o25 hp (e.trans (fs_b h1)))
  case istore x =>
    cases r with
    | nil => exact nomatch (show false = true from h)
    | cons a r =>
      obtain ⟨hp1, e1, -⟩ := fs_l1 hr
      have e1 : c[p + 1].toNat = a.toNat := by rw [e1]
      obtain ⟨h1, h2⟩ := fs_and h
      obtain ⟨h3, h4⟩ := fs_and h2
      rw [fs_b h3]
      rw [fs_b h4, ← e1]
      exact fd_k1 (C := fun x => Instr.istore x) hp1 (fd_o54 hp (e.trans (fs_b h1)))
  case lstore x =>
    cases r with
    | nil => exact nomatch (show false = true from h)
    | cons a r =>
      obtain ⟨hp1, e1, -⟩ := fs_l1 hr
      have e1 : c[p + 1].toNat = a.toNat := by rw [e1]
      obtain ⟨h1, h2⟩ := fs_and h
      obtain ⟨h3, h4⟩ := fs_and h2
      rw [fs_b h3]
      rw [fs_b h4, ← e1]
      exact fd_k1 (C := fun x => Instr.lstore x) hp1 (fd_o55 hp (e.trans (fs_b h1)))
  case astore x =>
    cases r with
    | nil => exact nomatch (show false = true from h)
    | cons a r =>
      obtain ⟨hp1, e1, -⟩ := fs_l1 hr
      have e1 : c[p + 1].toNat = a.toNat := by rw [e1]
      obtain ⟨h1, h2⟩ := fs_and h
      obtain ⟨h3, h4⟩ := fs_and h2
      rw [fs_b h3]
      rw [fs_b h4, ← e1]
      exact fd_k1 (C := fun x => Instr.astore x) hp1 (fd_o58 hp (e.trans (fs_b h1)))
  case ldc_w x =>
    cases r with
    | nil => exact nomatch (show false = true from h)
    | cons a r =>
      cases r with
      | nil => exact nomatch (show false = true from h)
      | cons b2 r =>
        obtain ⟨hp1, e1, hr1⟩ := fs_l1 hr
        obtain ⟨hp2, e2, -⟩ := fs_l1 hr1
        have e1 : c[p + 1].toNat = a.toNat := by rw [e1]
        have e2 : c[p + 1 + 1].toNat = b2.toNat := by rw [e2]
        obtain ⟨h1, h2⟩ := fs_and h
        obtain ⟨h3, h4⟩ := fs_and h2
        rw [fs_b h3]
        rw [fs_b h4, ← e1, ← e2]
        exact fd_k2 (C := fun x => Instr.ldc_w x) hp2 (fd_o19 hp (e.trans (fs_b h1)))
  case ldc2_w x =>
    cases r with
    | nil => exact nomatch (show false = true from h)
    | cons a r =>
      cases r with
      | nil => exact nomatch (show false = true from h)
      | cons b2 r =>
        obtain ⟨hp1, e1, hr1⟩ := fs_l1 hr
        obtain ⟨hp2, e2, -⟩ := fs_l1 hr1
        have e1 : c[p + 1].toNat = a.toNat := by rw [e1]
        have e2 : c[p + 1 + 1].toNat = b2.toNat := by rw [e2]
        obtain ⟨h1, h2⟩ := fs_and h
        obtain ⟨h3, h4⟩ := fs_and h2
        rw [fs_b h3]
        rw [fs_b h4, ← e1, ← e2]
        exact fd_k2 (C := fun x => Instr.ldc2_w x) hp2 (fd_o20 hp (e.trans (fs_b h1)))
  case getstatic x =>
    cases r with
    | nil => exact nomatch (show false = true from h)
    | cons a r =>
      cases r with
      | nil => exact nomatch (show false = true from h)
      | cons b2 r =>
        obtain ⟨hp1, e1, hr1⟩ := fs_l1 hr
        obtain ⟨hp2, e2, -⟩ := fs_l1 hr1
        have e1 : c[p + 1].toNat = a.toNat := by rw [e1]
        have e2 : c[p + 1 + 1].toNat = b2.toNat := by rw [e2]
        obtain ⟨h1, h2⟩ := fs_and h
        obtain ⟨h3, h4⟩ := fs_and h2
        rw [fs_b h3]
        rw [fs_b h4, ← e1, ← e2]
        exact fd_k2 (C := fun x => Instr.getstatic x) hp2 (fd_o178 hp (e.trans (fs_b h1)))
  case getfield x =>
    cases r with
    | nil => exact nomatch (show false = true from h)
    | cons a r =>
      cases r with
      | nil => exact nomatch (show false = true from h)
      | cons b2 r =>
        obtain ⟨hp1, e1, hr1⟩ := fs_l1 hr
        obtain ⟨hp2, e2, -⟩ := fs_l1 hr1
        have e1 : c[p + 1].toNat = a.toNat := by rw [e1]
        have e2 : c[p + 1 + 1].toNat = b2.toNat := by rw [e2]
        obtain ⟨h1, h2⟩ := fs_and h
        obtain ⟨h3, h4⟩ := fs_and h2
        rw [fs_b h3]
        rw [fs_b h4, ← e1, ← e2]
        exact fd_k2 (C := fun x => Instr.getfield x) hp2 (fd_o180 hp (e.trans (fs_b h1)))
  case putfield x =>
    cases r with
    | nil => exact nomatch (show false = true from h)
    | cons a r =>
      cases r with
      | nil => exact nomatch (show false = true from h)
      | cons b2 r =>
        obtain ⟨hp1, e1, hr1⟩ := fs_l1 hr
        obtain ⟨hp2, e2, -⟩ := fs_l1 hr1
        have e1 : c[p + 1].toNat = a.toNat := by rw [e1]
        have e2 : c[p + 1 + 1].toNat = b2.toNat := by rw [e2]
        obtain ⟨h1, h2⟩ := fs_and h
        obtain ⟨h3, h4⟩ := fs_and h2
        rw [fs_b h3]
        rw [fs_b h4, ← e1, ← e2]
        exact fd_k2 (C := fun x => Instr.putfield x) hp2 (fd_o181 hp (e.trans (fs_b h1)))
  case invokevirtual x =>
    cases r with
    | nil => exact nomatch (show false = true from h)
    | cons a r =>
      cases r with
      | nil => exact nomatch (show false = true from h)
      | cons b2 r =>
        obtain ⟨hp1, e1, hr1⟩ := fs_l1 hr
        obtain ⟨hp2, e2, -⟩ := fs_l1 hr1
        have e1 : c[p + 1].toNat = a.toNat := by rw [e1]
        have e2 : c[p + 1 + 1].toNat = b2.toNat := by rw [e2]
        obtain ⟨h1, h2⟩ := fs_and h
        obtain ⟨h3, h4⟩ := fs_and h2
        rw [fs_b h3]
        rw [fs_b h4, ← e1, ← e2]
        exact fd_k2 (C := fun x => Instr.invokevirtual x) hp2 (fd_o182 hp (e.trans (fs_b h1)))
  case invokespecial x =>
    cases r with
    | nil => exact nomatch (show false = true from h)
    | cons a r =>
      cases r with
      | nil => exact nomatch (show false = true from h)
      | cons b2 r =>
        obtain ⟨hp1, e1, hr1⟩ := fs_l1 hr
        obtain ⟨hp2, e2, -⟩ := fs_l1 hr1
        have e1 : c[p + 1].toNat = a.toNat := by rw [e1]
        have e2 : c[p + 1 + 1].toNat = b2.toNat := by rw [e2]
        obtain ⟨h1, h2⟩ := fs_and h
        obtain ⟨h3, h4⟩ := fs_and h2
        rw [fs_b h3]
        rw [fs_b h4, ← e1, ← e2]
        exact fd_k2 (C := fun x => Instr.invokespecial x) hp2 (fd_o183 hp (e.trans (fs_b h1)))
  case invokestatic x =>
    cases r with
    | nil => exact nomatch (show false = true from h)
    | cons a r =>
      cases r with
      | nil => exact nomatch (show false = true from h)
      | cons b2 r =>
        obtain ⟨hp1, e1, hr1⟩ := fs_l1 hr
        obtain ⟨hp2, e2, -⟩ := fs_l1 hr1
        have e1 : c[p + 1].toNat = a.toNat := by rw [e1]
        have e2 : c[p + 1 + 1].toNat = b2.toNat := by rw [e2]
        obtain ⟨h1, h2⟩ := fs_and h
        obtain ⟨h3, h4⟩ := fs_and h2
        rw [fs_b h3]
        rw [fs_b h4, ← e1, ← e2]
        exact fd_k2 (C := fun x => Instr.invokestatic x) hp2 (fd_o184 hp (e.trans (fs_b h1)))
  case new x =>
    cases r with
    | nil => exact nomatch (show false = true from h)
    | cons a r =>
      cases r with
      | nil => exact nomatch (show false = true from h)
      | cons b2 r =>
        obtain ⟨hp1, e1, hr1⟩ := fs_l1 hr
        obtain ⟨hp2, e2, -⟩ := fs_l1 hr1
        have e1 : c[p + 1].toNat = a.toNat := by rw [e1]
        have e2 : c[p + 1 + 1].toNat = b2.toNat := by rw [e2]
        obtain ⟨h1, h2⟩ := fs_and h
        obtain ⟨h3, h4⟩ := fs_and h2
        rw [fs_b h3]
        rw [fs_b h4, ← e1, ← e2]
        exact fd_k2 (C := fun x => Instr.new x) hp2 (fd_o187 hp (e.trans (fs_b h1)))
  case anewarray x =>
    cases r with
    | nil => exact nomatch (show false = true from h)
    | cons a r =>
      cases r with
      | nil => exact nomatch (show false = true from h)
      | cons b2 r =>
        obtain ⟨hp1, e1, hr1⟩ := fs_l1 hr
        obtain ⟨hp2, e2, -⟩ := fs_l1 hr1
        have e1 : c[p + 1].toNat = a.toNat := by rw [e1]
        have e2 : c[p + 1 + 1].toNat = b2.toNat := by rw [e2]
        obtain ⟨h1, h2⟩ := fs_and h
        obtain ⟨h3, h4⟩ := fs_and h2
        rw [fs_b h3]
        rw [fs_b h4, ← e1, ← e2]
        exact fd_k2 (C := fun x => Instr.anewarray x) hp2 (fd_o189 hp (e.trans (fs_b h1)))
  case bipush v =>
    cases r with
    | nil => exact nomatch (show false = true from h)
    | cons a r =>
      obtain ⟨hp1, e1, -⟩ := fs_l1 hr
      have e1 : c[p + 1].toNat = a.toNat := by rw [e1]
      obtain ⟨h1, h2⟩ := fs_and h
      obtain ⟨h3, h4⟩ := fs_and h2
      rw [fs_b h3]
      rw [of_decide_eq_true h4, ← e1]
      exact fd_k1s (C := fun x => Instr.bipush x) hp1 (fd_o16 hp (e.trans (fs_b h1)))
  case sipush v =>
    cases r with
    | nil => exact nomatch (show false = true from h)
    | cons a r =>
      cases r with
      | nil => exact nomatch (show false = true from h)
      | cons b2 r =>
        obtain ⟨hp1, e1, hr1⟩ := fs_l1 hr
        obtain ⟨hp2, e2, -⟩ := fs_l1 hr1
        have e1 : c[p + 1].toNat = a.toNat := by rw [e1]
        have e2 : c[p + 1 + 1].toNat = b2.toNat := by rw [e2]
        obtain ⟨h1, h2⟩ := fs_and h
        obtain ⟨h3, h4⟩ := fs_and h2
        rw [fs_b h3]
        rw [of_decide_eq_true h4, ← e1, ← e2]
        exact fd_k2s (C := fun x => Instr.sipush x) hp2 (fd_o17 hp (e.trans (fs_b h1)))
  case goto v =>
    cases r with
    | nil => exact nomatch (show false = true from h)
    | cons a r =>
      cases r with
      | nil => exact nomatch (show false = true from h)
      | cons b2 r =>
        obtain ⟨hp1, e1, hr1⟩ := fs_l1 hr
        obtain ⟨hp2, e2, -⟩ := fs_l1 hr1
        have e1 : c[p + 1].toNat = a.toNat := by rw [e1]
        have e2 : c[p + 1 + 1].toNat = b2.toNat := by rw [e2]
        obtain ⟨h1, h2⟩ := fs_and h
        obtain ⟨h3, h4⟩ := fs_and h2
        rw [fs_b h3]
        rw [of_decide_eq_true h4, ← e1, ← e2]
        exact fd_k2s (C := fun x => Instr.goto x) hp2 (fd_o167 hp (e.trans (fs_b h1)))
  case ifCond q v =>
    cases r with
    | nil => exact nomatch (show false = true from h)
    | cons a r =>
      cases r with
      | nil => exact nomatch (show false = true from h)
      | cons b2 r =>
        obtain ⟨hp1, e1, hr1⟩ := fs_l1 hr
        obtain ⟨hp2, e2, -⟩ := fs_l1 hr1
        have e1 : c[p + 1].toNat = a.toNat := by rw [e1]
        have e2 : c[p + 1 + 1].toNat = b2.toNat := by rw [e2]
        obtain ⟨h1, h2⟩ := fs_and h
        obtain ⟨h3, h4⟩ := fs_and h2
        rw [fs_b h3]
        rw [of_decide_eq_true h4, ← e1, ← e2]
        cases q
        · exact fd_k2s (C := fun x => Instr.ifCond .eq x) hp2 (fd_o153 hp (e.trans (fs_b h1)))
        · exact fd_k2s (C := fun x => Instr.ifCond .ne x) hp2 (fd_o154 hp (e.trans (fs_b h1)))
        · exact fd_k2s (C := fun x => Instr.ifCond .lt x) hp2 (fd_o155 hp (e.trans (fs_b h1)))
        · exact fd_k2s (C := fun x => Instr.ifCond .ge x) hp2 (fd_o156 hp (e.trans (fs_b h1)))
        · exact fd_k2s (C := fun x => Instr.ifCond .gt x) hp2 (fd_o157 hp (e.trans (fs_b h1)))
        · exact fd_k2s (C := fun x => Instr.ifCond .le x) hp2 (fd_o158 hp (e.trans (fs_b h1)))
  case if_icmp q v =>
    cases r with
    | nil => exact nomatch (show false = true from h)
    | cons a r =>
      cases r with
      | nil => exact nomatch (show false = true from h)
      | cons b2 r =>
        obtain ⟨hp1, e1, hr1⟩ := fs_l1 hr
        obtain ⟨hp2, e2, -⟩ := fs_l1 hr1
        have e1 : c[p + 1].toNat = a.toNat := by rw [e1]
        have e2 : c[p + 1 + 1].toNat = b2.toNat := by rw [e2]
        obtain ⟨h1, h2⟩ := fs_and h
        obtain ⟨h3, h4⟩ := fs_and h2
        rw [fs_b h3]
        rw [of_decide_eq_true h4, ← e1, ← e2]
        cases q
        · exact fd_k2s (C := fun x => Instr.if_icmp .eq x) hp2 (fd_o159 hp (e.trans (fs_b h1)))
        · exact fd_k2s (C := fun x => Instr.if_icmp .ne x) hp2 (fd_o160 hp (e.trans (fs_b h1)))
        · exact fd_k2s (C := fun x => Instr.if_icmp .lt x) hp2 (fd_o161 hp (e.trans (fs_b h1)))
        · exact fd_k2s (C := fun x => Instr.if_icmp .ge x) hp2 (fd_o162 hp (e.trans (fs_b h1)))
        · exact fd_k2s (C := fun x => Instr.if_icmp .gt x) hp2 (fd_o163 hp (e.trans (fs_b h1)))
        · exact fd_k2s (C := fun x => Instr.if_icmp .le x) hp2 (fd_o164 hp (e.trans (fs_b h1)))
  case iinc x v =>
    cases r with
    | nil => exact nomatch (show false = true from h)
    | cons a r =>
      cases r with
      | nil => exact nomatch (show false = true from h)
      | cons b2 r =>
        obtain ⟨hp1, e1, hr1⟩ := fs_l1 hr
        obtain ⟨hp2, e2, -⟩ := fs_l1 hr1
        have e1 : c[p + 1].toNat = a.toNat := by rw [e1]
        have e2 : c[p + 1 + 1].toNat = b2.toNat := by rw [e2]
        obtain ⟨h1, h2⟩ := fs_and h
        obtain ⟨h3, h4⟩ := fs_and h2
        rw [fs_b h3]
        obtain ⟨h5, h6⟩ := fs_and h4
        rw [fs_b h5, of_decide_eq_true h6, ← e1, ← e2]
        exact fd_ki (C := fun x y => Instr.iinc x y) hp2 (fd_o132 hp (e.trans (fs_b h1)))
  case newarray t =>
    cases r with
    | nil => exact nomatch (show false = true from h)
    | cons a r =>
      obtain ⟨hp1, e1, -⟩ := fs_l1 hr
      have e1 : c[p + 1].toNat = a.toNat := by rw [e1]
      obtain ⟨h1, h2⟩ := fs_and h
      obtain ⟨h3, h4⟩ := fs_and h2
      rw [fs_b h3]
      have h4 := fs_b h4
      cases t
      · exact fd_n4 hp hp1 (e.trans (fs_b h1)) (e1.trans h4)
      · have h4 : a.toNat = 300 := h4
        have := a.toNat_lt
        omega
      · have h4 : a.toNat = 300 := h4
        have := a.toNat_lt
        omega
      · have h4 : a.toNat = 300 := h4
        have := a.toNat_lt
        omega
      · have h4 : a.toNat = 300 := h4
        have := a.toNat_lt
        omega
      · have h4 : a.toNat = 300 := h4
        have := a.toNat_lt
        omega
      · exact fd_n10 hp hp1 (e.trans (fs_b h1)) (e1.trans h4)
      · exact fd_n11 hp hp1 (e.trans (fs_b h1)) (e1.trans h4)
  all_goals exact nomatch (show false = true from h)
end FD
noncomputable def fs_h (l : List UInt8) (i : Instr) (n : Nat) : Bool := match l with
  | [] => false
  | b :: r => fs_tb b.toNat r i n
noncomputable def fs_l (k : Nat) : List (Nat × Instr × Nat) → List UInt8 → Nat → Bool
  | [], _, _ => true
  | x :: q, l, p => Nat.beq p x.1 && ((fs_h l x.2.1 x.2.2 || am_dq k x) && (am_lenok x.2.1 x.2.2 && fs_l k q (l.drop x.2.2) (p + x.2.2)))
noncomputable def fs_g (k : Nat) (q : List (Nat × Instr × Nat)) : Bool := match q with
  | [] => true
  | x :: _ => fs_l k q ((am_by k).data.toList.drop x.1) x.1
theorem fs_lok {k : Nat} : ∀ {q : List (Nat × Instr × Nat)} {l : List UInt8} {p : Nat}, (am_by k).data.toList.drop p = l → fs_l k q l p = true → q.all (am_dq k) = true
  | [], _, _, _, _ => rfl
  | (pc, i, n) :: q, l, p, e, h => by
    obtain ⟨h1, h2⟩ := fs_and h
    obtain ⟨h3, h4⟩ := fs_and h2
    obtain ⟨h5, h6⟩ := fs_and h4
    have h1 : p = pc := fs_b h1
    subst h1
    have t := fs_lok (q := q) (l := l.drop n) (p := p + n) (by rw [← e, List.drop_drop]) h6
    have d : am_dq k (p, i, n) = true := by
      rcases (Bool.or_eq_true _ _).mp h3 with g | g
      · cases l with
        | nil => exact nomatch (show false = true from g)
        | cons b r =>
          have := fs_ok e i g
          simp only [am_dq, Bool.and_eq_true, decide_eq_true_eq]
          exact ⟨this, h5⟩
      · exact g
    rw [List.all_cons, d, t]
    rfl
theorem fs_gok {k : Nat} {q : List (Nat × Instr × Nat)} (h : fs_g k q = true) : q.all (am_dq k) = true := by
  cases q with
  | nil => rfl
  | cons x q => exact fs_lok rfl h
theorem fs_all {ks : List Nat} (h : ks.all (fun k => fs_g k (am_code k)) = true) : ks.all (fun k => (am_code k).all (am_dq k)) = true := List.all_eq_true.mpr fun k hk => fs_gok (List.all_eq_true.mp h k hk)
set_option maxRecDepth 100000 in
theorem ok_dec_0 : (List.range' 0 18).all (fun k => (am_code k).all (am_dq k)) = true := fs_all (by decide +kernel)
set_option maxRecDepth 100000 in
theorem ok_dec_1 : (List.range' 18 14).all (fun k => (am_code k).all (am_dq k)) = true := fs_all (by decide +kernel)
set_option maxRecDepth 100000 in
theorem ok_dec_2 : (List.range' 32 19).all (fun k => (am_code k).all (am_dq k)) = true := fs_all (by decide +kernel)
set_option maxRecDepth 100000 in
theorem ok_dec_3 : (List.range' 51 14).all (fun k => (am_code k).all (am_dq k)) = true := fs_all (by decide +kernel)
set_option maxRecDepth 100000 in
theorem ok_dec_4 : (List.range' 65 16).all (fun k => (am_code k).all (am_dq k)) = true := fs_all (by decide +kernel)
set_option maxRecDepth 100000 in
theorem ok_dec_5 : (List.range' 81 13).all (fun k => (am_code k).all (am_dq k)) = true := fs_all (by decide +kernel)
set_option maxRecDepth 100000 in
theorem ok_dec_6 : (List.range' 94 25).all (fun k => (am_code k).all (am_dq k)) = true := fs_all (by decide +kernel)
set_option maxRecDepth 100000 in
theorem ok_dec_7 : (List.range' 119 18).all (fun k => (am_code k).all (am_dq k)) = true := fs_all (by decide +kernel)
set_option maxRecDepth 100000 in
theorem ok_dec_8 : (List.range' 137 12).all (fun k => (am_code k).all (am_dq k)) = true := fs_all (by decide +kernel)
set_option maxRecDepth 100000 in
theorem ok_dec_9 : (List.range' 149 8).all (fun k => (am_code k).all (am_dq k)) = true := fs_all (by decide +kernel)
set_option maxRecDepth 100000 in
theorem ok_dec_10 : (List.range' 157 12).all (fun k => (am_code k).all (am_dq k)) = true := fs_all (by decide +kernel)
set_option maxRecDepth 100000 in
theorem ok_dec_11 : (List.range' 169 10).all (fun k => (am_code k).all (am_dq k)) = true := fs_all (by decide +kernel)
set_option maxRecDepth 100000 in
theorem ok_dec_12 : (List.range' 179 14).all (fun k => (am_code k).all (am_dq k)) = true := fs_all (by decide +kernel)
