/-! ===== the tables say what the Statement's tables say ===== -/
def am_T : List Cond := lw_tbl.filter goodWord
def am_TT (c : Nat) : u_T := (bif Nat.blt c 4 then (bif Nat.blt c 2 then (bif Nat.blt c 1 then TX0 else TX1) else (bif Nat.blt c 3 then TX2 else TX3)) else (bif Nat.blt c 8 then (bif Nat.blt c 6 then (bif Nat.blt c 5 then TX4 else TX5) else (bif Nat.blt c 7 then TX6 else TX7)) else (bif Nat.blt c 9 then TX8 else (bif Nat.blt c 10 then TX9 else TX10))))
def am_ml (k : Nat) : Nat := (am_mi k).2.1
def am_oc (k : Nat) : Nat := (am_mi k).1
def am_ws (k : Nat) : List Cond := Cond.code (am_y k) (am_by k) (am_ml k) (am_rt (am_mi k).2.2.1) :: am_T
theorem am_find_mem {α : Type} : ∀ {l : List (Nat × α)} {i : Nat} {v : α}, am_find l i = some v → (i, v) ∈ l
  | [], _, _, h => by cases h
  | (j, u) :: r, i, v, h => by
    simp only [am_find] at h
    cases hb : Nat.beq j i with
    | true =>
      rw [hb] at h
      have := Nat.eq_of_beq_eq_true hb
      subst this
      cases h
      exact List.mem_cons_self
    | false =>
      rw [hb] at h
      exact List.mem_cons_of_mem _ (am_find_mem h)
theorem am_dec {k pc : Nat} {ins : Instr} {len : Nat} (hk : k < 194) (h : am_find (am_code k) pc = some (ins, len)) : decode (am_by k) pc = .ok (ins, len) ∧ am_lenok ins len = true := by
  have h1 := List.all_eq_true.mp (ok_dec hk) _ (am_find_mem h)
  simp only [am_dq, Bool.and_eq_true, decide_eq_true_eq] at h1
  exact h1
/-- a word of the tables that stays -/
def am_in (w : Cond) : Bool := decide (w ∈ lw_tbl) && goodWord w
theorem am_inT {w : Cond} (h : am_in w = true) : w ∈ am_T := by
  simp only [am_in, Bool.and_eq_true, decide_eq_true_eq] at h
  exact List.mem_filter.mpr h
def am_isOk (t : Option FieldType) : Bool := match t with | some _ => true | none => false
set_option maxRecDepth 100000 in
theorem ok_fld : (List.range 16).all (fun c => (am_fldT c).all (fun q => Nat.blt q.2.1 11 && (Nat.blt q.2.2 (am_ft q.2.1).length && am_in (.fieldLink (am_cn c) q.1 (am_TT q.2.1 q.2.2).1 (am_TT q.2.1 q.2.2).2.1 (am_TT q.2.1 q.2.2).2.2.1)))) = true := by decide +kernel
set_option maxRecDepth 100000 in
theorem ok_lay : (List.range 11).all (fun c => (u_ws (am_cn c) (am_TT c) (am_ft c).length).all am_in) = true := by decide +kernel
set_option maxRecDepth 100000 in
theorem ok_ty : (List.range 11).all (fun c => (List.range (am_ft c).length).all (fun k => decide ((am_ft c)[k]? = (parseFieldDescriptor (am_TT c k).2.2.1).map (fun t => (t, (am_TT c k).2.2.2))) && (decide ((am_TT c k).1 = am_cn c) && (List.range (am_ft c).length).all (fun j => decide (k = j) || decide ((am_TT c k).2.1 ≠ (am_TT c j).2.1))))) = true := by decide +kernel
set_option maxRecDepth 100000 in
theorem ok_cst : (List.range 16).all (fun c => (am_cstT c).all (fun q => match q.2 with | .int x => am_in (.constant (am_cn c) q.1 x) | .long x => am_in (.constantLong (am_cn c) q.1 x) | _ => false)) = true := by decide +kernel
set_option maxRecDepth 100000 in
theorem ok_new : (List.range 16).all (fun c => (am_newT c).all (fun q => Nat.blt q.2 11 && (am_in (.classLink (am_cn c) q.1 (am_cn q.2)) && (am_in (.instantiable (am_cn q.2) (am_ft q.2).length) && am_in (.initialized (am_cn q.2)))))) = true := by decide +kernel
