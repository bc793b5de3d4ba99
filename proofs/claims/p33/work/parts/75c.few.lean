/-! ===== a few words of guard, posts and errands ===== -/
noncomputable def ldN (V : Nat → Int) (c : Nat) : Prop := (c : Int) < szV V ∧ V (40 + c) ≠ 126
theorem gv_y {V : Nat → Int} {L : Int} {c : Nat} {r b v : Nat} (hc : ldN V c) (l : lsV V L c r) (hb : b = 2 ^ c) (e : v = r ||| b) : ∀ j, bt v j = 1 ↔ ldN V c ∧ (j = c ∨ eV V L c j) := fun j => by
  have lj := lsV_e l j
  have l1 := bt_le r j
  rw [e, hb, bt_or, bt_pow]
  by_cases q : c = j
  · rw [if_pos q]
    exact ⟨fun _ => ⟨hc, Or.inl q.symm⟩, fun _ => by omega⟩
  · rw [if_neg q]
    constructor
    · intro z; exact ⟨hc, Or.inr (lj.mp (by omega))⟩
    · rintro ⟨-, z | z⟩
      · exact absurd z.symm q
      · have := lj.mpr z; omega
theorem oc {ps qs : List Nat} {w w1 : am_W} (h : only ps w w1) (k : ps.all (fun q => qs.contains q) = true) : only qs w w1 := h.sub fun q hq => by
  have := List.all_eq_true.mp k q hq
  exact List.contains_iff_mem.mp this
