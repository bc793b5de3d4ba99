/-! ===== a checker of methods by intervals: its domain ===== -/
/-- a value: kind (0 int, 1 long, 2 a reference to the place id, 3 a reference to one of the places of the set id), id, offset: an int or long is what id stands for plus the offset -/
noncomputable abbrev ab_S : Type := Nat × Nat × Int
noncomputable abbrev ab_E : Type := List (Int × Int)
/-- ids' intervals, locals, stack, the arguments that the method began with -/
noncomputable abbrev ab_T : Type := ab_E × List (Option ab_S) × List ab_S × List ab_S
/-- a type of a field or an argument: kind as above, then the interval; the place; the set -/
noncomputable abbrev ab_F : Type := Nat × Int × Int
/-- a type of a cell: a row (0 ints, 1 booleans, 2 longs), its length, the interval of what it holds; or an object: class, fields -/
noncomputable abbrev ab_C : Type := (Nat × Nat × Int × Int) ⊕ (Nat × List ab_F)
/-- what is known of a method: its arguments' types; how it can end: its answer's type (if any), the arguments' types then -/
noncomputable abbrev ab_M : Type := List ab_F × List (Option ab_F × List ab_F)
/-- what may be written: cells, and of other cells single fields -/
noncomputable abbrev ab_wT : Type := List Nat × List (Nat × Nat)
noncomputable def ab_lo32 : Int := -2147483648
noncomputable def ab_hi32 : Int := 2147483647
noncomputable def ab_lo64 : Int := -9223372036854775808
noncomputable def ab_hi64 : Int := 9223372036854775807
noncomputable def ab_iv (E : ab_E) (s : ab_S) : Int × Int := ((E.getD s.2.1 (0, 0)).1 + s.2.2, (E.getD s.2.1 (0, 0)).2 + s.2.2)
noncomputable def ab_new (E : ab_E) (kd : Nat) (lo hi : Int) : ab_E × ab_S := (E ++ [(lo, hi)], (kd, E.length, 0))
noncomputable def ab_f32 (lo hi : Int) : Bool := decide (ab_lo32 ≤ lo) && decide (hi ≤ ab_hi32)
/-- an answer of an int operation: the interval, if it fits; else any int -/
noncomputable def ab_r32 (E : ab_E) (lo hi : Int) : ab_E × ab_S := bif ab_f32 lo hi then ab_new E 0 lo hi else ab_new E 0 ab_lo32 ab_hi32
noncomputable def ab_top32 (E : ab_E) : ab_E × ab_S := ab_new E 0 ab_lo32 ab_hi32
noncomputable def ab_top64 (E : ab_E) : ab_E × ab_S := ab_new E 1 ab_lo64 ab_hi64
noncomputable def ab_min (a b : Int) : Int := bif decide (a ≤ b) then a else b
noncomputable def ab_max (a b : Int) : Int := bif decide (a ≤ b) then b else a
/-- an offset more -/
noncomputable def ab_off (E : ab_E) (s : ab_S) (c : Int) : ab_E × ab_S := bif ab_f32 ((ab_iv E s).1 + c) ((ab_iv E s).2 + c) then (E, (0, s.2.1, s.2.2 + c)) else ab_top32 E
noncomputable def ab_add (E : ab_E) (a b : ab_S) : ab_E × ab_S := bif Nat.beq b.2.1 0 then ab_off E a b.2.2 else bif Nat.beq a.2.1 0 then ab_off E b a.2.2 else ab_r32 E ((ab_iv E a).1 + (ab_iv E b).1) ((ab_iv E a).2 + (ab_iv E b).2)
noncomputable def ab_sub (E : ab_E) (a b : ab_S) : ab_E × ab_S := bif Nat.beq b.2.1 0 then ab_off E a (-b.2.2) else ab_r32 E ((ab_iv E a).1 - (ab_iv E b).2) ((ab_iv E a).2 - (ab_iv E b).1)
noncomputable def ab_mul (E : ab_E) (a b : ab_S) : ab_E × ab_S :=
  ab_r32 E (ab_min (ab_min ((ab_iv E a).1 * (ab_iv E b).1) ((ab_iv E a).1 * (ab_iv E b).2)) (ab_min ((ab_iv E a).2 * (ab_iv E b).1) ((ab_iv E a).2 * (ab_iv E b).2))) (ab_max (ab_max ((ab_iv E a).1 * (ab_iv E b).1) ((ab_iv E a).1 * (ab_iv E b).2)) (ab_max ((ab_iv E a).2 * (ab_iv E b).1) ((ab_iv E a).2 * (ab_iv E b).2)))
noncomputable def ab_nz (q : Int × Int) : Bool := decide (0 < q.1) || decide (q.2 < 0)
noncomputable def ab_div (E : ab_E) (a b : ab_S) : Option (ab_E × ab_S) := bif ab_nz (ab_iv E b) then some (bif decide (0 < (ab_iv E b).1) && decide (0 ≤ (ab_iv E a).1) then ab_new E 0 0 (ab_iv E a).2 else ab_top32 E) else none
noncomputable def ab_rem (E : ab_E) (a b : ab_S) : Option (ab_E × ab_S) := bif ab_nz (ab_iv E b) then some (bif decide (0 < (ab_iv E b).1) && decide (0 ≤ (ab_iv E a).1) then ab_new E 0 0 (ab_min (ab_iv E a).2 ((ab_iv E b).2 - 1)) else ab_top32 E) else none
noncomputable def ab_and (E : ab_E) (a b : ab_S) : ab_E × ab_S := bif decide (0 ≤ (ab_iv E b).1) then ab_new E 0 0 (ab_iv E b).2 else bif decide (0 ≤ (ab_iv E a).1) then ab_new E 0 0 (ab_iv E a).2 else ab_top32 E
noncomputable def ab_mx (E : ab_E) (a b : ab_S) : ab_E × ab_S := ab_new E 0 (ab_max (ab_iv E a).1 (ab_iv E b).1) (ab_max (ab_iv E a).2 (ab_iv E b).2)
noncomputable def ab_mn (E : ab_E) (a b : ab_S) : ab_E × ab_S := ab_new E 0 (ab_min (ab_iv E a).1 (ab_iv E b).1) (ab_min (ab_iv E a).2 (ab_iv E b).2)
/-- what a value is told to lie in: the ids' intervals then; none, if that can't be -/
noncomputable def ab_up (E : ab_E) (s : ab_S) (lo hi : Int) : List ab_E :=
  bif decide (ab_max (E.getD s.2.1 (0, 0)).1 (lo - s.2.2) ≤ ab_min (E.getD s.2.1 (0, 0)).2 (hi - s.2.2)) then [E.set s.2.1 (ab_max (E.getD s.2.1 (0, 0)).1 (lo - s.2.2), ab_min (E.getD s.2.1 (0, 0)).2 (hi - s.2.2))] else []
noncomputable def ab_le (E : ab_E) (a b : ab_S) : List ab_E := (ab_up E a (ab_iv E a).1 (ab_iv E b).2).flatMap (fun E1 => ab_up E1 b (ab_iv E a).1 (ab_iv E b).2)
noncomputable def ab_lt (E : ab_E) (a b : ab_S) : List ab_E := (ab_up E a (ab_iv E a).1 ((ab_iv E b).2 - 1)).flatMap (fun E1 => ab_up E1 b ((ab_iv E a).1 + 1) (ab_iv E b).2)
noncomputable def ab_eq (E : ab_E) (a b : ab_S) : List ab_E := (ab_up E a (ab_iv E b).1 (ab_iv E b).2).flatMap (fun E1 => ab_up E1 b (ab_iv E a).1 (ab_iv E a).2)
noncomputable def ab_ne (E : ab_E) (a b : ab_S) : List ab_E := ab_lt E a b ++ ab_lt E b a
noncomputable def ab_cond (q : ClassFile.Cond) (t : Bool) (E : ab_E) (a b : ab_S) : List ab_E := match q, t with
  | .lt, true => ab_lt E a b
  | .lt, false => ab_le E b a
  | .ge, true => ab_le E b a
  | .ge, false => ab_lt E a b
  | .gt, true => ab_lt E b a
  | .gt, false => ab_le E a b
  | .le, true => ab_le E a b
  | .le, false => ab_lt E b a
  | .eq, true => ab_eq E a b
  | .eq, false => ab_ne E a b
  | .ne, true => ab_ne E a b
  | .ne, false => ab_eq E a b
/-- an int, or a long, of an interval: is it of that type? -/
noncomputable def ab_is (sets : List (List Nat)) (E : ab_E) (s : ab_S) (t : ab_F) : Bool :=
  bif Nat.beq t.1 0 || Nat.beq t.1 1 then Nat.beq s.1 t.1 && (decide (t.2.1 ≤ (ab_iv E s).1) && decide ((ab_iv E s).2 ≤ t.2.2))
  else bif Nat.beq t.1 2 then Nat.beq s.1 2 && decide ((s.2.1 : Int) = t.2.1)
  else bif Nat.beq t.1 3 then (decide (0 ≤ t.2.1) && (bif Nat.beq s.1 2 then (sets.getD t.2.1.toNat []).contains s.2.1 else Nat.beq s.1 3 && decide ((s.2.1 : Int) = t.2.1))) else false
/-- a value of a type -/
noncomputable def ab_of (E : ab_E) (t : ab_F) : ab_E × ab_S :=
  bif Nat.beq t.1 0 || Nat.beq t.1 1 then ab_new E t.1 t.2.1 t.2.2 else (E, (t.1, t.2.1.toNat, 0))
noncomputable def ab_clr (L : List (Option ab_S)) (i : Nat) : List (Option ab_S) := match i with
  | 0 => L
  | j + 1 => match L[j]? with
    | some (some v) => bif Nat.beq v.1 1 then L.set j none else L
    | _ => L
noncomputable def ab_st1 (L : List (Option ab_S)) (i : Nat) (s : ab_S) : List (Option ab_S) := (ab_clr L i).set i (some s)
noncomputable def ab_st2 (L : List (Option ab_S)) (i : Nat) (s : ab_S) : List (Option ab_S) := (ab_st1 L i s).set (i + 1) none
/-! what can come behind an instruction: none: it isn't known; else all frames that can come -/
noncomputable abbrev ab_R : Type := Option (List (Nat × ab_T))
noncomputable def ab_1 (pc : Nat) (q : ab_E × ab_S) (L : List (Option ab_S)) (r g : List ab_S) : ab_R := some [(pc, (q.1, L, q.2 :: r, g))]
noncomputable def ab_load (kd pc i : Nat) (t : ab_T) : ab_R := match t.2.1[i]? with
  | some (some s) => bif Nat.beq s.1 kd || (Nat.beq kd 2 && Nat.beq s.1 3) then some [(pc, (t.1, t.2.1, s :: t.2.2.1, t.2.2.2))] else none
  | _ => none
noncomputable def ab_store (kd pc i : Nat) (t : ab_T) : ab_R := match t.2.2.1 with
  | s :: r => bif Nat.beq kd 1 then (bif Nat.beq s.1 1 && Nat.blt (i + 1) t.2.1.length then some [(pc, (t.1, ab_st2 t.2.1 i s, r, t.2.2.2))] else none)
    else bif (Nat.beq s.1 kd || (Nat.beq kd 2 && Nat.beq s.1 3)) && Nat.blt i t.2.1.length then some [(pc, (t.1, ab_st1 t.2.1 i s, r, t.2.2.2))] else none
  | _ => none
noncomputable def ab_ibin (f : ab_E → ab_S → ab_S → Option (ab_E × ab_S)) (pc : Nat) (t : ab_T) : ab_R := match t.2.2.1 with
  | b :: a :: r => bif Nat.beq a.1 0 && Nat.beq b.1 0 then (match f t.1 a b with | some q => ab_1 pc q t.2.1 r t.2.2.2 | none => none) else none
  | _ => none
noncomputable def ab_lbin (nz : Bool) (pc : Nat) (t : ab_T) : ab_R := match t.2.2.1 with
  | b :: a :: r => bif Nat.beq a.1 1 && (Nat.beq b.1 1 && (!nz || ab_nz (ab_iv t.1 b))) then ab_1 pc (ab_top64 t.1) t.2.1 r t.2.2.2 else none
  | _ => none
noncomputable def ab_lsh (pc : Nat) (t : ab_T) : ab_R := match t.2.2.1 with
  | b :: a :: r => bif Nat.beq a.1 1 && Nat.beq b.1 0 then ab_1 pc (ab_top64 t.1) t.2.1 r t.2.2.2 else none
  | _ => none
/-- a branch on a against b, to pc1 if so, to pc2 if not -/
noncomputable def ab_br (q : ClassFile.Cond) (a b : ab_S) (pc1 : Int) (pc2 : Nat) (t : ab_T) (r : List ab_S) : ab_R := match pc1 with
  | .ofNat p1 => some ((ab_cond q true t.1 a b).map (fun E => (p1, (E, t.2.1, r, t.2.2.2))) ++ (ab_cond q false t.1 a b).map (fun E => (pc2, (E, t.2.1, r, t.2.2.2))))
  | .negSucc _ => none
noncomputable def ab_cellR (T : List ab_C) (kd : Nat) (s : ab_S) (sets : List (List Nat)) : Option (Nat × Int × Int) :=
  bif Nat.beq s.1 2 then (bif Nat.blt s.2.1 am_B then (match T[s.2.1]? with | some (.inl (k1, n, lo, hi)) => bif Nat.beq k1 kd then some (n, lo, hi) else none | _ => none)
    else bif Nat.beq s.2.1 am_B && Nat.beq kd 0 then some (26, -1, 5) else none)
  else bif Nat.beq s.1 3 then (match sets.getD s.2.1 [] with
    | p :: ps => (match T[p]? with | some (.inl (k1, n, lo, hi)) => bif Nat.beq k1 kd && ((p :: ps).all (fun x => decide (T[x]? = some (.inl (k1, n, lo, hi)))) && (p :: ps).all (fun x => Nat.blt x am_B)) then some (n, lo, hi) else none | _ => none)
    | [] => none)
  else none
/-- may it be written? -/
noncomputable def ab_wr (wr : ab_wT) (s : ab_S) (sets : List (List Nat)) : Bool :=
  bif Nat.beq s.1 2 then wr.1.contains s.2.1 else bif Nat.beq s.1 3 then (sets.getD s.2.1 []).all (fun p => wr.1.contains p) else false
noncomputable def ab_in (q : Int × Int) (n : Nat) : Bool := decide (0 ≤ q.1) && decide (q.2 < (n : Int))
noncomputable def ab_ald (T : List ab_C) (sets : List (List Nat)) (kd rk pc : Nat) (t : ab_T) : ab_R := match t.2.2.1 with
  | i :: a :: r => match ab_cellR T kd a sets with
    | some (n, lo, hi) => bif Nat.beq i.1 0 && ab_in (ab_iv t.1 i) n then ab_1 pc (ab_new t.1 rk lo hi) t.2.1 r t.2.2.2 else none
    | none => none
  | _ => none
noncomputable def ab_ast (T : List ab_C) (sets : List (List Nat)) (wr : ab_wT) (kd rk pc : Nat) (t : ab_T) : ab_R := match t.2.2.1 with
  | v :: i :: a :: r => match ab_cellR T kd a sets with
    | some (n, lo, hi) => bif Nat.beq i.1 0 && (ab_in (ab_iv t.1 i) n && (Nat.beq v.1 rk && (ab_wr wr a sets && (Nat.beq kd 1 || (decide (lo ≤ (ab_iv t.1 v).1) && decide ((ab_iv t.1 v).2 ≤ hi)))))) then some [(pc, (t.1, t.2.1, r, t.2.2.2))] else none
    | none => none
  | _ => none
noncomputable def ab_alen (T : List ab_C) (sets : List (List Nat)) (pc : Nat) (t : ab_T) : ab_R := match t.2.2.1 with
  | a :: r => match ab_cellR T 0 a sets with
    | some (n, _, _) => bif ab_f32 0 n then some [(pc, (t.1, t.2.1, (0, 0, (n : Int)) :: r, t.2.2.2))] else none
    | none => match ab_cellR T 2 a sets with
      | some (n, _, _) => bif ab_f32 0 n then some [(pc, (t.1, t.2.1, (0, 0, (n : Int)) :: r, t.2.2.2))] else none
      | none => none
  | _ => none
noncomputable def ab_getf (T : List ab_C) (oc idx pc : Nat) (t : ab_T) : ab_R := match t.2.2.1 with
  | a :: r => bif Nat.beq a.1 2 && Nat.blt a.2.1 am_B then (match am_find (am_fldT oc) idx, T[a.2.1]? with
    | some (ci, k), some (.inr (cj, ts)) => bif Nat.beq ci cj then (match ts[k]? with | some ft => ab_1 pc (ab_of t.1 ft) t.2.1 r t.2.2.2 | none => none) else none
    | _, _ => none) else none
  | _ => none
noncomputable def ab_putf (T : List ab_C) (sets : List (List Nat)) (wr : ab_wT) (oc idx pc : Nat) (t : ab_T) : ab_R := match t.2.2.1 with
  | v :: a :: r => bif Nat.beq a.1 2 then (match am_find (am_fldT oc) idx, T[a.2.1]? with
    | some (ci, k), some (.inr (cj, ts)) => bif Nat.beq ci cj then (match ts[k]?, (am_ft ci)[k]? with
      | some ft, some (ty, fin) => bif (wr.1.contains a.2.1 || wr.2.contains (a.2.1, k)) && !fin && (ab_is sets t.1 v ft && (match ty with
          | .int => Nat.beq v.1 0
          | .long => Nat.beq v.1 1
          | .boolean => Nat.beq v.1 0 && (decide (0 ≤ (ab_iv t.1 v).1) && decide ((ab_iv t.1 v).2 ≤ 1))
          | .array _ => Nat.beq v.1 2 || Nat.beq v.1 3
          | _ => false)) then some [(pc, (t.1, t.2.1, r, t.2.2.2))] else none
      | _, _ => none) else none
    | _, _ => none) else none
  | _ => none
/-- the arguments' intervals after a call -/
noncomputable def ab_ref : ab_E → List ab_S → List ab_F → List ab_E
  | E, s :: ss, t :: ts => (bif Nat.beq t.1 0 || Nat.beq t.1 1 then ab_up E s t.2.1 t.2.2 else [E]).flatMap (fun E1 => ab_ref E1 ss ts)
  | E, _, _ => [E]
noncomputable def ab_isL (sets : List (List Nat)) (E : ab_E) : List ab_S → List ab_F → Bool
  | [], [] => true
  | s :: ss, t :: ts => ab_is sets E s t && ab_isL sets E ss ts
  | _, _ => false
noncomputable def ab_pick (sets : List (List Nat)) (E : ab_E) (as : List ab_S) : List ab_M → Option ab_M
  | [] => none
  | m :: ms => bif ab_isL sets E as m.1 then some m else ab_pick sets E as ms
/-- arraycopy of ints -/
noncomputable def ab_copy (T : List ab_C) (sets : List (List Nat)) (wr : ab_wT) (pc : Nat) (t : ab_T) : ab_R := match t.2.2.1 with
  | n :: dp :: a :: sp :: b :: r => match ab_cellR T 0 a sets, ab_cellR T 0 b sets with
    | some (n1, lo, hi), some (n0, lo0, hi0) => bif Nat.beq n.1 0 && (Nat.beq dp.1 0 && (Nat.beq sp.1 0 && (Nat.beq a.1 2 && (Nat.beq b.1 2 && (Nat.blt b.2.1 am_B && (wr.1.contains a.2.1 && (decide (0 ≤ (ab_iv t.1 n).1) && (decide (0 ≤ (ab_iv t.1 dp).1) && (decide (0 ≤ (ab_iv t.1 sp).1) && (decide ((ab_iv t.1 sp).2 + (ab_iv t.1 n).2 ≤ (n0 : Int)) && (decide ((ab_iv t.1 dp).2 + (ab_iv t.1 n).2 ≤ (n1 : Int)) && (decide (lo ≤ lo0) && (decide (hi0 ≤ hi) && Nat.ble ((r.map fun s => bif Nat.beq s.1 1 then 2 else 1).sum) 8))))))))))))) then some [(pc, (t.1, t.2.1, r, t.2.2.2))] else none
    | _, _ => none
  | _ => none
noncomputable def ab_cats (r : List ab_S) : Nat := (r.map fun s => bif Nat.beq s.1 1 then 2 else 1).sum
noncomputable def ab_call (T : List ab_C) (sets : List (List Nat)) (wr : ab_wT) (S : Nat → List ab_M) (u oc idx pc : Nat) (t : ab_T) : ab_R := match am_find (am_invT oc) idx with
  | some (kd, z, n) => bif Nat.blt kd 6 then (bif Nat.beq (kd % 3) u then (
      match ab_pick sets t.1 ((t.2.2.1.take (bif Nat.beq u 1 then n else n + 1)).reverse) (S z) with
      | some m => bif Nat.ble (bif Nat.beq u 1 then n else n + 1) t.2.2.1.length && (Nat.ble (ab_cats (t.2.2.1.drop (bif Nat.beq u 1 then n else n + 1))) 8 && (Nat.beq u 1 || (match t.2.2.1.drop n with
            | a :: _ => Nat.beq a.1 2 && (Nat.blt a.2.1 am_B && (match T[a.2.1]? with | some (.inr (ci, _)) => Nat.beq ci (am_mi z).1 | _ => false))
            | [] => false))) then
          some (m.2.flatMap (fun o => (ab_ref t.1 ((t.2.2.1.take (bif Nat.beq u 1 then n else n + 1)).reverse) o.2).map (fun E1 => match o.1 with
            | some ft => (pc, ((ab_of E1 ft).1, t.2.1, (ab_of E1 ft).2 :: t.2.2.1.drop (bif Nat.beq u 1 then n else n + 1), t.2.2.2))
            | none => (pc, (E1, t.2.1, t.2.2.1.drop (bif Nat.beq u 1 then n else n + 1), t.2.2.2)))))
        else none
      | none => none) else none)
    else bif Nat.beq u 1 && Nat.beq kd 6 then ab_copy T sets wr pc t
    else bif Nat.beq u 1 && (Nat.beq kd 8 || Nat.beq kd 9) then (match t.2.2.1 with
      | b :: a :: r => bif Nat.beq a.1 0 && (Nat.beq b.1 0 && Nat.ble (ab_cats r) 8) then ab_1 pc (bif Nat.beq kd 8 then ab_mx t.1 a b else ab_mn t.1 a b) t.2.1 r t.2.2.2 else none
      | _ => none)
    else none
  | none => none
noncomputable def ab_jt (pc : Nat) (o : Int) : Option Nat := match (pc : Int) + o with
  | .ofNat p => some p
  | .negSucc _ => none
/-- a switch's values and targets, from the value v on -/
noncomputable def ab_swl (pc : Nat) : Int → List Int → Option (List (Int × Nat))
  | _, [] => some []
  | v, o :: os => match ab_jt pc o, ab_swl pc (v + 1) os with
    | some p, some l => some ((v, p) :: l)
    | _, _ => none
noncomputable def ab_sw (df lo hi : Int) (offs : List Int) (pc : Nat) (a : ab_S) (t : ab_T) (r : List ab_S) : ab_R := match ab_jt pc df, ab_swl pc lo offs with
  | some pd, some l => bif decide (hi - lo < (offs.length : Int)) then some ((ab_up t.1 a (ab_iv t.1 a).1 (lo - 1) ++ ab_up t.1 a (hi + 1) (ab_iv t.1 a).2).map (fun E => (pd, (E, t.2.1, r, t.2.2.2))) ++ l.flatMap (fun q => (ab_up t.1 a q.1 q.1).map (fun E => (q.2, (E, t.2.1, r, t.2.2.2))))) else none
  | _, _ => none
noncomputable def ab_ins (T : List ab_C) (sets : List (List Nat)) (wr : ab_wT) (S : Nat → List ab_M) (k oc : Nat) (ins : Instr) (pc : Nat) (t : ab_T) : ab_R :=
  match ins with
  | .aload_n n => ab_load 2 (pc + 1) n.val t
  | .iload_n n => ab_load 0 (pc + 1) n.val t
  | .lload_n n => ab_load 1 (pc + 1) n.val t
  | .iload n => ab_load 0 (pc + 2) n t
  | .lload n => ab_load 1 (pc + 2) n t
  | .astore_n n => ab_store 2 (pc + 1) n.val t
  | .istore_n n => ab_store 0 (pc + 1) n.val t
  | .lstore_n n => ab_store 1 (pc + 1) n.val t
  | .istore n => ab_store 0 (pc + 2) n t
  | .lstore n => ab_store 1 (pc + 2) n t
  | .iconst n => bif ab_f32 n n then some [(pc + 1, (t.1, t.2.1, (0, 0, n) :: t.2.2.1, t.2.2.2))] else none
  | .bipush n => bif decide (-128 ≤ n) && decide (n ≤ 127) then some [(pc + 2, (t.1, t.2.1, (0, 0, n) :: t.2.2.1, t.2.2.2))] else none
  | .sipush n => bif decide (-32768 ≤ n) && decide (n ≤ 32767) then some [(pc + 3, (t.1, t.2.1, (0, 0, n) :: t.2.2.1, t.2.2.2))] else none
  | .lconst n => some [(pc + 1, (t.1, t.2.1, (1, 0, (n.val : Int)) :: t.2.2.1, t.2.2.2))]
  | .ldc i => (match am_find (am_cstT oc) i with | some (.int x) => some [(pc + 2, (t.1, t.2.1, (0, 0, x.toInt) :: t.2.2.1, t.2.2.2))] | _ => none)
  | .ldc_w i => (match am_find (am_cstT oc) i with | some (.int x) => some [(pc + 3, (t.1, t.2.1, (0, 0, x.toInt) :: t.2.2.1, t.2.2.2))] | _ => none)
  | .ldc2_w i => (match am_find (am_cstT oc) i with | some (.long x) => some [(pc + 3, (t.1, t.2.1, (1, 0, x.toInt) :: t.2.2.1, t.2.2.2))] | _ => none)
  | .getfield i => ab_getf T oc i (pc + 3) t
  | .putfield i => ab_putf T sets wr oc i (pc + 3) t
  | .getstatic i => bif Nat.beq oc 6 && Nat.beq i 108 then some [(pc + 3, (t.1, t.2.1, (2, am_B, 0) :: t.2.2.1, t.2.2.2))] else none
  | .invokevirtual i => ab_call T sets wr S 0 oc i (pc + 3) t
  | .invokestatic i => ab_call T sets wr S 1 oc i (pc + 3) t
  | .iaload => ab_ald T sets 0 0 (pc + 1) t
  | .baload => ab_ald T sets 1 0 (pc + 1) t
  | .laload => ab_ald T sets 2 1 (pc + 1) t
  | .iastore => ab_ast T sets wr 0 0 (pc + 1) t
  | .bastore => ab_ast T sets wr 1 0 (pc + 1) t
  | .lastore => ab_ast T sets wr 2 1 (pc + 1) t
  | .arraylength => ab_alen T sets (pc + 1) t
  | .ifCond q o => (match t.2.2.1 with | a :: r => bif Nat.beq a.1 0 then ab_br q a (0, 0, 0) ((pc : Int) + o) (pc + 3) t r else none | _ => none)
  | .if_icmp q o => (match t.2.2.1 with | b :: a :: r => bif Nat.beq a.1 0 && Nat.beq b.1 0 then ab_br q a b ((pc : Int) + o) (pc + 3) t r else none | _ => none)
  | .tableswitch df lo hi offs => (match t.2.2.1 with | a :: r => bif Nat.beq a.1 0 then ab_sw df lo hi offs.toList pc a t r else none | _ => none)
  | .goto o => (match (pc : Int) + o with | .ofNat p1 => some [(p1, t)] | .negSucc _ => none)
  | .lcmp => (match t.2.2.1, am_find (am_code k) (pc + 1) with
    | b :: a :: r, some (.ifCond q o, _) => bif Nat.beq a.1 1 && Nat.beq b.1 1 then ab_br q a b (((pc + 1 : Nat) : Int) + o) (pc + 1 + 3) t r else none
    | _, _ => none)
  | .iinc i n => (match t.2.1[i]? with
    | some (some s) => bif Nat.beq s.1 0 && (Nat.blt i t.2.1.length && ab_f32 n n) then some [(pc + 3, ((ab_off t.1 s n).1, ab_st1 t.2.1 i (ab_off t.1 s n).2, t.2.2.1, t.2.2.2))] else none
    | _ => none)
  | .iadd => ab_ibin (fun E a b => some (ab_add E a b)) (pc + 1) t
  | .isub => ab_ibin (fun E a b => some (ab_sub E a b)) (pc + 1) t
  | .imul => ab_ibin (fun E a b => some (ab_mul E a b)) (pc + 1) t
  | .iand => ab_ibin (fun E a b => some (ab_and E a b)) (pc + 1) t
  | .ior => ab_ibin (fun E _ _ => some (ab_top32 E)) (pc + 1) t
  | .ixor => ab_ibin (fun E _ _ => some (ab_top32 E)) (pc + 1) t
  | .ishl => ab_ibin (fun E _ _ => some (ab_top32 E)) (pc + 1) t
  | .ishr => ab_ibin (fun E _ _ => some (ab_top32 E)) (pc + 1) t
  | .iushr => ab_ibin (fun E _ _ => some (ab_top32 E)) (pc + 1) t
  | .idiv => ab_ibin ab_div (pc + 1) t
  | .irem => ab_ibin ab_rem (pc + 1) t
  | .ladd => ab_lbin false (pc + 1) t
  | .lsub => ab_lbin false (pc + 1) t
  | .lmul => ab_lbin false (pc + 1) t
  | .land => ab_lbin false (pc + 1) t
  | .lor => ab_lbin false (pc + 1) t
  | .lxor => ab_lbin false (pc + 1) t
  | .ldiv => ab_lbin true (pc + 1) t
  | .lrem => ab_lbin true (pc + 1) t
  | .lshl => ab_lsh (pc + 1) t
  | .lshr => ab_lsh (pc + 1) t
  | .lushr => ab_lsh (pc + 1) t
  | .i2l => (match t.2.2.1 with | a :: r => bif Nat.beq a.1 0 then some [(pc + 1, (t.1, t.2.1, (1, a.2.1, a.2.2) :: r, t.2.2.2))] else none | _ => none)
  | .l2i => (match t.2.2.1 with | a :: r => bif Nat.beq a.1 1 then (bif ab_f32 (ab_iv t.1 a).1 (ab_iv t.1 a).2 then some [(pc + 1, (t.1, t.2.1, (0, a.2.1, a.2.2) :: r, t.2.2.2))] else ab_1 (pc + 1) (ab_top32 t.1) t.2.1 r t.2.2.2) else none | _ => none)
  | .dup => (match t.2.2.1 with | a :: r => bif Nat.beq a.1 1 then none else some [(pc + 1, (t.1, t.2.1, a :: a :: r, t.2.2.2))] | _ => none)
  | .dup2 => (match t.2.2.1 with | a :: r => bif Nat.beq a.1 1 then some [(pc + 1, (t.1, t.2.1, a :: a :: r, t.2.2.2))] else (match r with | b :: r2 => bif Nat.beq b.1 1 then none else some [(pc + 1, (t.1, t.2.1, a :: b :: a :: b :: r2, t.2.2.2))] | _ => none) | _ => none)
  | .pop => (match t.2.2.1 with | a :: r => bif Nat.beq a.1 1 then none else some [(pc + 1, (t.1, t.2.1, r, t.2.2.2))] | _ => none)
  | .pop2 => (match t.2.2.1 with | a :: r => bif Nat.beq a.1 1 then some [(pc + 1, (t.1, t.2.1, r, t.2.2.2))] else none | _ => none)
  | _ => none
