/-! ===== the lists of part 04 are what the bytes say ===== -/
def am_len (i : Instr) : Nat := match i with
  | .bipush _ | .newarray _ | .ldc _ | .iload _ | .lload _ | .aload _ | .istore _ | .lstore _ | .astore _ => 2
  | .sipush _ | .getfield _ | .putfield _ | .getstatic _ | .invokevirtual _ | .invokestatic _ | .invokespecial _ | .new _ | .anewarray _ | .ldc2_w _ | .ldc_w _ | .iinc _ _ | .goto _ | .ifCond _ _ | .if_icmp _ _ => 3
  | _ => 1
def am_lenok (i : Instr) (n : Nat) : Bool := match i with
  | .tableswitch _ _ _ _ => true
  | i => Nat.beq n (am_len i)
def am_dq (k : Nat) (q : Nat × Instr × Nat) : Bool := decide (decode (am_by k) q.1 = .ok q.2) && am_lenok q.2.1 q.2.2
set_option maxRecDepth 100000 in
theorem ok_dec_0 : (List.range' 0 18).all (fun k => (am_code k).all (am_dq k)) = true := by decide +kernel
set_option maxRecDepth 100000 in
theorem ok_dec_1 : (List.range' 18 14).all (fun k => (am_code k).all (am_dq k)) = true := by decide +kernel
set_option maxRecDepth 100000 in
theorem ok_dec_2 : (List.range' 32 19).all (fun k => (am_code k).all (am_dq k)) = true := by decide +kernel
set_option maxRecDepth 100000 in
theorem ok_dec_3 : (List.range' 51 14).all (fun k => (am_code k).all (am_dq k)) = true := by decide +kernel
set_option maxRecDepth 100000 in
theorem ok_dec_4 : (List.range' 65 16).all (fun k => (am_code k).all (am_dq k)) = true := by decide +kernel
set_option maxRecDepth 100000 in
theorem ok_dec_5 : (List.range' 81 13).all (fun k => (am_code k).all (am_dq k)) = true := by decide +kernel
set_option maxRecDepth 100000 in
theorem ok_dec_6 : (List.range' 94 25).all (fun k => (am_code k).all (am_dq k)) = true := by decide +kernel
set_option maxRecDepth 100000 in
theorem ok_dec_7 : (List.range' 119 18).all (fun k => (am_code k).all (am_dq k)) = true := by decide +kernel
set_option maxRecDepth 100000 in
theorem ok_dec_8 : (List.range' 137 12).all (fun k => (am_code k).all (am_dq k)) = true := by decide +kernel
set_option maxRecDepth 100000 in
theorem ok_dec_9 : (List.range' 149 8).all (fun k => (am_code k).all (am_dq k)) = true := by decide +kernel
set_option maxRecDepth 100000 in
theorem ok_dec_10 : (List.range' 157 12).all (fun k => (am_code k).all (am_dq k)) = true := by decide +kernel
set_option maxRecDepth 100000 in
theorem ok_dec_11 : (List.range' 169 10).all (fun k => (am_code k).all (am_dq k)) = true := by decide +kernel
set_option maxRecDepth 100000 in
theorem ok_dec_12 : (List.range' 179 14).all (fun k => (am_code k).all (am_dq k)) = true := by decide +kernel
