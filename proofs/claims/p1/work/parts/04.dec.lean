/-! ===== the lists of part 04 are what the bytes say ===== -/
def am_len (i : Instr) : Nat := match i with
  | .bipush _ | .newarray _ | .ldc _ | .iload _ | .lload _ | .aload _ | .istore _ | .lstore _ | .astore _ => 2
  | .sipush _ | .getfield _ | .putfield _ | .getstatic _ | .invokevirtual _ | .invokestatic _ | .invokespecial _ | .new _ | .anewarray _ | .ldc2_w _ | .ldc_w _ | .iinc _ _ | .goto _ | .ifCond _ _ | .if_icmp _ _ => 3
  | _ => 1
def am_lenok (i : Instr) (n : Nat) : Bool := match i with
  | .tableswitch _ _ _ _ => true
  | i => Nat.beq n (am_len i)
def am_dq (k : Nat) (q : Nat × Instr × Nat) : Bool := decide (decode (am_by k) q.1 = .ok q.2) && am_lenok q.2.1 q.2.2
