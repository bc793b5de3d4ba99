/-! ===== the machine's step and its run ===== -/
noncomputable def am_find {α : Type} : List (Nat × α) → Nat → Option α
  | [], _ => none
  | (i, v) :: r, k => bif Nat.beq i k then some v else am_find r k
noncomputable def am_dflt (ty : FieldType) : Value := match ty with
  | .int => .int 0
  | .boolean => .int 0
  | .long => .long 0
  | _ => .null
noncomputable def am_getf (oc idx pc : Nat) (ls : am_L) (st : List Value) (w : am_W) : Option am_R := match st with
  | .ref a :: r => match am_find (am_fldT oc) idx with
    | some (ci, k) => match w[a]? with
      | some (.inr (cj, fs)) => bif Nat.beq cj ci && Nat.blt a am_B then (match fs[k]? with | some v => am_nx pc ls (v :: r) w | none => none) else none
      | _ => none
    | none => none
  | _ => none
noncomputable def am_putf (oc : Nat) (ini : Bool) (idx pc : Nat) (ls : am_L) (st : List Value) (w : am_W) : Option am_R := match st with
  | v :: .ref a :: r => match am_find (am_fldT oc) idx with
    | some (ci, k) => match w[a]?, (am_ft ci)[k]? with
      | some (.inr (cj, fs)), some (ty, fin) => bif Nat.beq cj ci && (am_fit ty v && (Nat.blt k fs.length && (!fin || (ini && Nat.beq ci oc)))) then am_nx pc ls r (w.set a (.inr (cj, fs.set k v))) else none
      | _, _ => none
    | none => none
  | _ => none
noncomputable def am_new (oc idx pc : Nat) (ls : am_L) (st : List Value) (w : am_W) : Option am_R := match am_find (am_newT oc) idx with
  | some ci => bif am_okW w && am_okL w.length ls && am_okS w.length st && Nat.blt w.length am_B then am_nx pc ls (.ref w.length :: st) (w ++ [.inr (ci, (am_ft ci).map (fun q => am_dflt q.1))]) else none
  | none => none
noncomputable def am_mx (pc : Nat) (ls : am_L) (st : List Value) (w : am_W) : Option am_R := match st with
  | .int y :: .int x :: r => if 8 < (r.map fun v => v.category).sum then none else am_nx pc ls (.int (if x < y then y else x) :: r) w
  | _ => none
noncomputable def am_mn (pc : Nat) (ls : am_L) (st : List Value) (w : am_W) : Option am_R := match st with
  | .int y :: .int x :: r => if 8 < (r.map fun v => v.category).sum then none else am_nx pc ls (.int (if y < x then y else x) :: r) w
  | _ => none
noncomputable def am_jdk (kd pc : Nat) (ls : am_L) (st : List Value) (w : am_W) : Option am_R := bif Nat.beq kd 6 then am_copy pc ls st w else bif Nat.beq kd 8 then am_mx pc ls st w else bif Nat.beq kd 9 then am_mn pc ls st w else none
/-- a call: u is 0 virtual, 1 static, 2 special -/
noncomputable def am_call (u oc idx pc : Nat) (ls : am_L) (st : List Value) (w : am_W) : Option am_R := match am_find (am_invT oc) idx with
  | some (kd, z, n) => bif Nat.blt kd 6 then (bif Nat.beq (kd % 3) u then (bif Nat.beq u 1 then (
        if st.length < n ∨ 8 < ((st.drop n).map fun v => v.category).sum then none
        else some (.inr (.inl (z, (st.take n).reverse, (pc, ls, st.drop n)))))
      else (match st.drop n with
        | .ref a :: r => if 8 < (r.map fun v => v.category).sum then none
          else (match w[a]? with
            | some (.inr (ci, _)) => bif Nat.beq ci (am_mi z).1 then some (.inr (.inl (z, .ref a :: (st.take n).reverse, (pc, ls, r)))) else none
            | _ => none)
        | _ => none)) else none)
    else bif Nat.beq kd 7 then (bif Nat.beq u 2 then (match st with
      | .ref _ :: r => if 8 < (r.map fun v => v.category).sum then none else am_nx pc ls r w
      | _ => none) else none)
    else bif Nat.beq u 1 then am_jdk kd pc ls st w else none
  | none => none
noncomputable def am_cst (oc idx pc : Nat) (two : Bool) (ls : am_L) (st : List Value) (w : am_W) : Option am_R := match am_find (am_cstT oc) idx with
  | some (.int x) => bif two then none else am_nx pc ls (.int x :: st) w
  | some (.long x) => bif two then am_nx pc ls (.long x :: st) w else none
  | _ => none
noncomputable def am_ins (X : Option (List Int32)) (oc rb : Nat) (ini : Bool) (ins : Instr) (pc : Nat) (ls : am_L) (st : List Value) (w : am_W) : Option am_R :=
  match ins with
  | .aload_n n => am_aload (pc + 1) n.val ls st w
  | .iload_n n => am_iload (pc + 1) n.val ls st w
  | .lload_n n => am_lload (pc + 1) n.val ls st w
  | .aload n => am_aload (pc + 2) n ls st w
  | .iload n => am_iload (pc + 2) n ls st w
  | .lload n => am_lload (pc + 2) n ls st w
  | .astore_n n => am_astore (pc + 1) n.val ls st w
  | .istore_n n => am_istore (pc + 1) n.val ls st w
  | .lstore_n n => am_lstore (pc + 1) n.val ls st w
  | .astore n => am_astore (pc + 2) n ls st w
  | .istore n => am_istore (pc + 2) n ls st w
  | .lstore n => am_lstore (pc + 2) n ls st w
  | .iconst n => am_nx (pc + 1) ls (.int (Int32.ofInt n) :: st) w
  | .bipush n => am_nx (pc + 2) ls (.int (Int8.ofInt n).toInt32 :: st) w
  | .sipush n => am_nx (pc + 3) ls (.int (Int16.ofInt n).toInt32 :: st) w
  | .lconst n => am_nx (pc + 1) ls (.long (Int64.ofNat n.val) :: st) w
  | .ldc i => am_cst oc i (pc + 2) false ls st w
  | .ldc_w i => am_cst oc i (pc + 3) false ls st w
  | .ldc2_w i => am_cst oc i (pc + 3) true ls st w
  | .getfield i => am_getf oc i (pc + 3) ls st w
  | .putfield i => am_putf oc ini i (pc + 3) ls st w
  | .getstatic i => bif Nat.beq oc 6 && Nat.beq i 108 then am_nx (pc + 3) ls (.ref am_B :: st) w else none
  | .invokevirtual i => am_call 0 oc i (pc + 3) ls st w
  | .invokestatic i => am_call 1 oc i (pc + 3) ls st w
  | .invokespecial i => am_call 2 oc i (pc + 3) ls st w
  | .new i => am_new oc i (pc + 3) ls st w
  | .newarray t => am_newa t (pc + 2) ls st w
  | .anewarray i => bif Nat.beq oc 9 && Nat.beq i 16 then am_newq (pc + 3) ls st w else none
  | .iaload => am_iald X (pc + 1) ls st w
  | .baload => am_zald (pc + 1) ls st w
  | .laload => am_lald (pc + 1) ls st w
  | .aaload => am_aald (pc + 1) ls st w
  | .iastore => am_iast (pc + 1) ls st w
  | .bastore => am_zast (pc + 1) ls st w
  | .lastore => am_last (pc + 1) ls st w
  | .aastore => am_aast (pc + 1) ls st w
  | .arraylength => am_alen X (pc + 1) ls st w
  | .ifCond c o => am_if c pc o ls st w
  | .if_icmp c o => am_icmp c pc o ls st w
  | .goto o => am_jmp pc o ls st w
  | .tableswitch d lo hi offs => am_sw d lo hi offs pc ls st w
  | .iinc i n => am_iinc (pc + 3) i n ls st w
  | .iadd => am_ib (fun x y => x + y) (pc + 1) ls st w
  | .isub => am_ib (fun x y => x - y) (pc + 1) ls st w
  | .imul => am_ib (fun x y => x * y) (pc + 1) ls st w
  | .iand => am_ib (fun x y => x &&& y) (pc + 1) ls st w
  | .ior => am_ib (fun x y => x ||| y) (pc + 1) ls st w
  | .ixor => am_ib (fun x y => x ^^^ y) (pc + 1) ls st w
  | .ishl => am_ib (fun x y => x <<< (y &&& 31)) (pc + 1) ls st w
  | .ishr => am_ib (fun x y => x >>> (y &&& 31)) (pc + 1) ls st w
  | .iushr => am_ib (fun x y => (x.toUInt32 >>> (y.toUInt32 &&& Int32.toUInt32 31)).toInt32) (pc + 1) ls st w
  | .idiv => am_idv (fun x y => x / y) (pc + 1) ls st w
  | .irem => am_idv (fun x y => x - x / y * y) (pc + 1) ls st w
  | .ladd => am_lb (fun x y => x + y) (pc + 1) ls st w
  | .lsub => am_lb (fun x y => x - y) (pc + 1) ls st w
  | .lmul => am_lb (fun x y => x * y) (pc + 1) ls st w
  | .land => am_lb (fun x y => x &&& y) (pc + 1) ls st w
  | .lor => am_lb (fun x y => x ||| y) (pc + 1) ls st w
  | .lxor => am_lb (fun x y => x ^^^ y) (pc + 1) ls st w
  | .ldiv => am_ldv (fun x y => x / y) (pc + 1) ls st w
  | .lrem => am_ldv (fun x y => x - x / y * y) (pc + 1) ls st w
  | .lshl => am_lsh (fun x y => x <<< (y.toInt64 &&& 63)) (pc + 1) ls st w
  | .lshr => am_lsh (fun x y => x >>> (y.toInt64 &&& 63)) (pc + 1) ls st w
  | .lushr => am_lsh (fun x y => (x.toUInt64 >>> (y.toInt64.toUInt64 &&& Int64.toUInt64 63)).toInt64) (pc + 1) ls st w
  | .lcmp => am_lcmp (pc + 1) ls st w
  | .i2l => am_i2l (pc + 1) ls st w
  | .l2i => am_l2i (pc + 1) ls st w
  | .dup => am_dup (pc + 1) ls st w
  | .dup2 => am_dup2 (pc + 1) ls st w
  | .pop => am_pop (pc + 1) ls st w
  | .pop2 => am_pop2 (pc + 1) ls st w
  | .ireturn => bif Nat.beq rb 1 || Nat.beq rb 2 then am_ret rb st else none
  | .lreturn => bif Nat.beq rb 3 then am_ret rb st else none
  | .return_ => bif Nat.beq rb 0 then am_ret rb st else none
  | _ => none
/-- the locals with which a method begins -/
noncomputable def am_args : List Value → am_L
  | [] => []
  | v :: r => if v.category = 2 then some v :: none :: am_args r else some v :: am_args r
noncomputable def am_entry (k : Nat) (as : List Value) : am_L := am_args as ++ List.replicate ((am_mi k).2.1 - (am_args as).length) none
/-- n steps at most, d calls deep at most, in method k -/
noncomputable def am_run (X : Option (List Int32)) : Nat → Nat → Nat → am_F → am_W → Option (Option Value × am_W)
  | 0, _, _, _, _ => none
  | n + 1, d, k, (pc, ls, st), w => match am_find (am_code k) pc with
    | none => none
    | some (ins, _) => match am_ins X (am_mi k).1 (am_mi k).2.2.1 (am_mi k).2.2.2 ins pc ls st w with
      | none => none
      | some (.inl (f, w1)) => am_run X n d k f w1
      | some (.inr (.inl (z, as, (pc1, ls1, st1)))) => match d with
        | 0 => none
        | d1 + 1 => bif Nat.ble (am_args as).length (am_mi z).2.1 then (match am_run X n d1 z (0, am_entry z as, []) w with
          | none => none
          | some (r, w1) => bif Nat.beq w1.length w.length || (am_okL w.length ls1 && am_okS w.length st1) then am_run X n (d1 + 1) k (pc1, ls1, r.toList ++ st1) w1 else none) else none
      | some (.inr (.inr v)) => some (v, w)
