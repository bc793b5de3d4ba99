/-! ===== a small machine of my own: values are the JVM's, a reference is a place in a list of cells; am_run is a function: it is evaluated, and reasoned about, without heap or frames ===== -/
noncomputable abbrev am_C : Type := ((Nat × List Int32) ⊕ (List Int64 ⊕ List (Option Nat))) ⊕ (Nat × List Value)
noncomputable abbrev am_W : Type := List am_C
noncomputable abbrev am_L : Type := List (Option Value)
noncomputable abbrev am_F : Type := Nat × am_L × List Value
noncomputable abbrev am_R : Type := (am_F × am_W) ⊕ ((Nat × List Value × am_F) ⊕ Option Value)
/-- read-only rows lie from here on: the static row, the script -/
noncomputable def am_B : Nat := 1000000
noncomputable def am_root : List Int32 := [0, 1, -1, -1, 2, -1, -1, -1, -1, 3, -1, -1, -1, -1, -1, -1, 4, -1, -1, -1, -1, -1, -1, -1, -1, 5]
noncomputable def am_nx (pc : Nat) (ls : am_L) (st : List Value) (w : am_W) : Option am_R := some (.inl ((pc, ls, st), w))
noncomputable def am_ok1 (n : Nat) (v : Value) : Bool := match v with
  | .ref i => Nat.blt i n || Nat.ble am_B i
  | _ => true
noncomputable def am_okL (n : Nat) (ls : am_L) : Bool := ls.all (fun o => match o with | some v => am_ok1 n v | none => true)
noncomputable def am_okS (n : Nat) (st : List Value) : Bool := st.all (am_ok1 n)
noncomputable def am_okC (n : Nat) (c : am_C) : Bool := match c with
  | .inl (.inl _) => true
  | .inl (.inr (.inl _)) => true
  | .inl (.inr (.inr l)) => l.all (fun o => match o with | some i => Nat.blt i n | none => true)
  | .inr (_, fs) => fs.all (am_ok1 n)
noncomputable def am_okW (w : am_W) : Bool := w.all (am_okC w.length)
noncomputable def am_clr (ls : am_L) (i : Nat) : am_L := match i with
  | 0 => ls
  | j + 1 => match ls[j]? with
    | some (some v) => if v.category = 2 then ls.set j none else ls
    | _ => ls
noncomputable def am_st1 (ls : am_L) (i : Nat) (v : Value) : am_L := (am_clr ls i).set i (some v)
noncomputable def am_st2 (ls : am_L) (i : Nat) (v : Value) : am_L := ((am_clr ls i).set i (some v)).set (i + 1) none
noncomputable def am_iload (pc i : Nat) (ls : am_L) (st : List Value) (w : am_W) : Option am_R := match ls[i]? with
  | some (some (.int x)) => am_nx pc ls (.int x :: st) w
  | _ => none
noncomputable def am_lload (pc i : Nat) (ls : am_L) (st : List Value) (w : am_W) : Option am_R := match ls[i]? with
  | some (some (.long x)) => am_nx pc ls (.long x :: st) w
  | _ => none
noncomputable def am_aload (pc i : Nat) (ls : am_L) (st : List Value) (w : am_W) : Option am_R := match ls[i]? with
  | some (some (.ref x)) => am_nx pc ls (.ref x :: st) w
  | _ => none
noncomputable def am_istore (pc i : Nat) (ls : am_L) (st : List Value) (w : am_W) : Option am_R := match st with
  | .int x :: r => bif Nat.blt i ls.length then am_nx pc (am_st1 ls i (.int x)) r w else none
  | _ => none
noncomputable def am_lstore (pc i : Nat) (ls : am_L) (st : List Value) (w : am_W) : Option am_R := match st with
  | .long x :: r => bif Nat.blt (i + 1) ls.length then am_nx pc (am_st2 ls i (.long x)) r w else none
  | _ => none
noncomputable def am_astore (pc i : Nat) (ls : am_L) (st : List Value) (w : am_W) : Option am_R := match st with
  | .ref x :: r => bif Nat.blt i ls.length then am_nx pc (am_st1 ls i (.ref x)) r w else none
  | _ => none
noncomputable def am_iinc (pc i : Nat) (n : Int) (ls : am_L) (st : List Value) (w : am_W) : Option am_R := match ls[i]? with
  | some (some (.int x)) => bif Nat.blt i ls.length then am_nx pc (am_st1 ls i (.int (x + Int32.ofInt n))) st w else none
  | _ => none
noncomputable def am_ib (f : Int32 → Int32 → Int32) (pc : Nat) (ls : am_L) (st : List Value) (w : am_W) : Option am_R := match st with
  | .int y :: .int x :: r => am_nx pc ls (.int (f x y) :: r) w
  | _ => none
noncomputable def am_lb (f : Int64 → Int64 → Int64) (pc : Nat) (ls : am_L) (st : List Value) (w : am_W) : Option am_R := match st with
  | .long y :: .long x :: r => am_nx pc ls (.long (f x y) :: r) w
  | _ => none
noncomputable def am_lsh (f : Int64 → Int32 → Int64) (pc : Nat) (ls : am_L) (st : List Value) (w : am_W) : Option am_R := match st with
  | .int y :: .long x :: r => am_nx pc ls (.long (f x y) :: r) w
  | _ => none
noncomputable def am_idv (f : Int32 → Int32 → Int32) (pc : Nat) (ls : am_L) (st : List Value) (w : am_W) : Option am_R := match st with
  | .int y :: .int x :: r => if y = 0 then none else am_nx pc ls (.int (f x y) :: r) w
  | _ => none
noncomputable def am_ldv (f : Int64 → Int64 → Int64) (pc : Nat) (ls : am_L) (st : List Value) (w : am_W) : Option am_R := match st with
  | .long y :: .long x :: r => if y = 0 then none else am_nx pc ls (.long (f x y) :: r) w
  | _ => none
noncomputable def am_cc (c : ClassFile.Cond) (x y : Int32) : Bool := match c with
  | .eq => decide (x = y)
  | .ne => decide (¬ x = y)
  | .lt => decide (x < y)
  | .ge => decide (y ≤ x)
  | .gt => decide (y < x)
  | .le => decide (x ≤ y)
/-- to a target behind or ahead -/
noncomputable def am_jmp (pc : Nat) (off : Int) (ls : am_L) (st : List Value) (w : am_W) : Option am_R :=
  match (pc : Int) + off with
  | .ofNat t => am_nx t ls st w
  | .negSucc _ => none
noncomputable def am_if (c : ClassFile.Cond) (pc : Nat) (off : Int) (ls : am_L) (st : List Value) (w : am_W) : Option am_R := match st, (pc : Int) + off with
  | .int x :: r, .ofNat t => bif am_cc c x 0 then am_nx t ls r w else am_nx (pc + 3) ls r w
  | _, _ => none
noncomputable def am_icmp (c : ClassFile.Cond) (pc : Nat) (off : Int) (ls : am_L) (st : List Value) (w : am_W) : Option am_R := match st, (pc : Int) + off with
  | .int y :: .int x :: r, .ofNat t => bif am_cc c x y then am_nx t ls r w else am_nx (pc + 3) ls r w
  | _, _ => none
noncomputable def am_sw (d lo hi : Int) (offs : Array Int) (pc : Nat) (ls : am_L) (st : List Value) (w : am_W) : Option am_R := match st with
  | .int x :: r => if x.toInt < lo ∨ hi < x.toInt then am_jmp pc d ls r w else match offs.toList[(x.toInt - lo).toNat]? with
    | some o => am_jmp pc o ls r w
    | none => none
  | _ => none
noncomputable def am_dup (pc : Nat) (ls : am_L) (st : List Value) (w : am_W) : Option am_R := match st with
  | v :: r => if v.category = 1 then am_nx pc ls (v :: v :: r) w else none
  | _ => none
noncomputable def am_dup2 (pc : Nat) (ls : am_L) (st : List Value) (w : am_W) : Option am_R := match st with
  | v :: r => if v.category = 2 then am_nx pc ls (v :: v :: r) w else match r with
    | u :: r2 => if u.category = 1 then am_nx pc ls (v :: u :: v :: u :: r2) w else none
    | _ => none
  | _ => none
noncomputable def am_pop2 (pc : Nat) (ls : am_L) (st : List Value) (w : am_W) : Option am_R := match st with
  | v :: r => if v.category = 2 then am_nx pc ls r w else none
  | _ => none
noncomputable def am_pop (pc : Nat) (ls : am_L) (st : List Value) (w : am_W) : Option am_R := match st with
  | v :: r => if v.category = 1 then am_nx pc ls r w else none
  | _ => none
noncomputable def am_i2l (pc : Nat) (ls : am_L) (st : List Value) (w : am_W) : Option am_R := match st with
  | .int x :: r => am_nx pc ls (.long x.toInt64 :: r) w
  | _ => none
noncomputable def am_l2i (pc : Nat) (ls : am_L) (st : List Value) (w : am_W) : Option am_R := match st with
  | .long x :: r => am_nx pc ls (.int x.toInt32 :: r) w
  | _ => none
noncomputable def am_lcmp (pc : Nat) (ls : am_L) (st : List Value) (w : am_W) : Option am_R := match st with
  | .long y :: .long x :: r => am_nx pc ls (.int (lg_cmp x y) :: r) w
  | _ => none
/-- the ints of a row that is read (X: the script, or none: then nothing is read of it) -/
noncomputable def am_ints (X : Option (List Int32)) (w : am_W) (a : Nat) : Option (List Int32) :=
  bif Nat.blt a am_B then (match w[a]? with | some (.inl (.inl (0, l))) => some l | _ => none)
  else bif Nat.beq a am_B then some am_root else bif Nat.beq a (am_B + 1) then X else none
noncomputable def am_iald (X : Option (List Int32)) (pc : Nat) (ls : am_L) (st : List Value) (w : am_W) : Option am_R := match st with
  | .int i :: .ref a :: r => match am_ints X w a with
    | some l => if i < 0 ∨ l.length ≤ i.toNatClampNeg then none else am_nx pc ls (.int (l.getD i.toNatClampNeg 0) :: r) w
    | none => none
  | _ => none
noncomputable def am_zald (pc : Nat) (ls : am_L) (st : List Value) (w : am_W) : Option am_R := match st with
  | .int i :: .ref a :: r => match w[a]? with
    | some (.inl (.inl (1, l))) => if i < 0 ∨ l.length ≤ i.toNatClampNeg then none else am_nx pc ls (.int (l.getD i.toNatClampNeg 0) :: r) w
    | _ => none
  | _ => none
noncomputable def am_lald (pc : Nat) (ls : am_L) (st : List Value) (w : am_W) : Option am_R := match st with
  | .int i :: .ref a :: r => match w[a]? with
    | some (.inl (.inr (.inl l))) => if i < 0 ∨ l.length ≤ i.toNatClampNeg then none else am_nx pc ls (.long (l.getD i.toNatClampNeg 0) :: r) w
    | _ => none
  | _ => none
noncomputable def am_aald (pc : Nat) (ls : am_L) (st : List Value) (w : am_W) : Option am_R := match st with
  | .int i :: .ref a :: r => match w[a]? with
    | some (.inl (.inr (.inr l))) => if i < 0 ∨ l.length ≤ i.toNatClampNeg then none else match l.getD i.toNatClampNeg none with
      | some q => am_nx pc ls (.ref q :: r) w
      | none => none
    | _ => none
  | _ => none
noncomputable def am_iast (pc : Nat) (ls : am_L) (st : List Value) (w : am_W) : Option am_R := match st with
  | .int x :: .int i :: .ref a :: r => match w[a]? with
    | some (.inl (.inl (0, l))) => if i < 0 ∨ l.length ≤ i.toNatClampNeg then none else am_nx pc ls r (w.set a (.inl (.inl (0, l.set i.toNatClampNeg x))))
    | _ => none
  | _ => none
noncomputable def am_zast (pc : Nat) (ls : am_L) (st : List Value) (w : am_W) : Option am_R := match st with
  | .int x :: .int i :: .ref a :: r => match w[a]? with
    | some (.inl (.inl (1, l))) => if i < 0 ∨ l.length ≤ i.toNatClampNeg then none else am_nx pc ls r (w.set a (.inl (.inl (1, l.set i.toNatClampNeg (x &&& 1)))))
    | _ => none
  | _ => none
noncomputable def am_last (pc : Nat) (ls : am_L) (st : List Value) (w : am_W) : Option am_R := match st with
  | .long x :: .int i :: .ref a :: r => match w[a]? with
    | some (.inl (.inr (.inl l))) => if i < 0 ∨ l.length ≤ i.toNatClampNeg then none else am_nx pc ls r (w.set a (.inl (.inr (.inl (l.set i.toNatClampNeg x)))))
    | _ => none
  | _ => none
noncomputable def am_aast (pc : Nat) (ls : am_L) (st : List Value) (w : am_W) : Option am_R := match st with
  | .ref v :: .int i :: .ref a :: r => match w[a]?, w[v]? with
    | some (.inl (.inr (.inr l))), some (.inr (6, _)) => if i < 0 ∨ l.length ≤ i.toNatClampNeg then none else am_nx pc ls r (w.set a (.inl (.inr (.inr (l.set i.toNatClampNeg (some v))))))
    | _, _ => none
  | _ => none
noncomputable def am_alen (X : Option (List Int32)) (pc : Nat) (ls : am_L) (st : List Value) (w : am_W) : Option am_R := match st with
  | .ref a :: r => match w[a]? with
    | some (.inl (.inr (.inl l))) => am_nx pc ls (.int (Int32.ofNat l.length) :: r) w
    | _ => match am_ints X w a with
      | some l => am_nx pc ls (.int (Int32.ofNat l.length) :: r) w
      | none => none
  | _ => none
noncomputable def am_newa (ty : ArrayType) (pc : Nat) (ls : am_L) (st : List Value) (w : am_W) : Option am_R := match st with
  | .int n :: r => if n < 0 ∨ 100000 < n then none else
    bif am_okW w && am_okL w.length ls && am_okS w.length r && Nat.blt w.length am_B then match ty with
      | .int => am_nx pc ls (.ref w.length :: r) (w ++ [.inl (.inl (0, List.replicate n.toNatClampNeg 0))])
      | .boolean => am_nx pc ls (.ref w.length :: r) (w ++ [.inl (.inl (1, List.replicate n.toNatClampNeg 0))])
      | .long => am_nx pc ls (.ref w.length :: r) (w ++ [.inl (.inr (.inl (List.replicate n.toNatClampNeg 0)))])
      | _ => none
    else none
  | _ => none
noncomputable def am_newq (pc : Nat) (ls : am_L) (st : List Value) (w : am_W) : Option am_R := match st with
  | .int n :: r => if n < 0 ∨ 100000 < n then none else
    bif am_okW w && am_okL w.length ls && am_okS w.length r && Nat.blt w.length am_B then am_nx pc ls (.ref w.length :: r) (w ++ [.inl (.inr (.inr (List.replicate n.toNatClampNeg none)))])
    else none
  | _ => none
noncomputable def am_ret (rb : Nat) (st : List Value) : Option am_R := match rb, st with
  | 0, [] => some (.inr (.inr none))
  | 1, [.int x] => some (.inr (.inr (some (.int x))))
  | 2, [.int x] => if x = 0 ∨ x = 1 then some (.inr (.inr (some (.int x)))) else none
  | 3, [.long x] => some (.inr (.inr (some (.long x))))
  | _, _ => none
/-- copying a stretch of ints -/
noncomputable def am_cpy (f g : List Int32) (sp dp n : Nat) : List Int32 := g.take dp ++ (f.drop sp).take n ++ g.drop (dp + n)
noncomputable def am_copy (pc : Nat) (ls : am_L) (st : List Value) (w : am_W) : Option am_R := match st with
  | .int n :: .int dp :: .ref a :: .int sp :: .ref b :: r => match w[a]?, w[b]? with
    | some (.inl (.inl (0, g))), some (.inl (.inl (0, f))) => if n < 0 ∨ dp < 0 ∨ sp < 0 ∨ f.length < sp.toNatClampNeg + n.toNatClampNeg ∨ g.length < dp.toNatClampNeg + n.toNatClampNeg ∨ 8 < (r.map fun v => v.category).sum then none
      else am_nx pc ls r (w.set a (.inl (.inl (0, am_cpy f g sp.toNatClampNeg dp.toNatClampNeg n.toNatClampNeg))))
    | _, _ => none
  | _ => none
noncomputable def am_fit (ty : FieldType) (v : Value) : Bool := match ty, v with
  | .int, .int _ => true
  | .long, .long _ => true
  | .boolean, .int x => decide (x = 0 ∨ x = 1)
  | .object _, .ref _ => true
  | .array _, .ref _ => true
  | _, _ => false
