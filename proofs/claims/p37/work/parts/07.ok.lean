/-! ===== the tables say what the Statement's tables say ===== -/
noncomputable def am_T : List Cond := lw_tbl.filter goodWord
noncomputable def am_TT (c : Nat) : u_T := (bif Nat.blt c 4 then (bif Nat.blt c 2 then (bif Nat.blt c 1 then TX0 else TX1) else (bif Nat.blt c 3 then TX2 else TX3)) else (bif Nat.blt c 8 then (bif Nat.blt c 6 then (bif Nat.blt c 5 then TX4 else TX5) else (bif Nat.blt c 7 then TX6 else TX7)) else (bif Nat.blt c 9 then TX8 else (bif Nat.blt c 10 then TX9 else TX10))))
noncomputable def am_ml (k : Nat) : Nat := (am_mi k).2.1
noncomputable def am_oc (k : Nat) : Nat := (am_mi k).1
noncomputable def am_ws (k : Nat) : List Cond := Cond.code (am_y k) (am_by k) (am_ml k) (am_rt (am_mi k).2.2.1) :: am_T
theorem am_find_mem {α : Type} : ∀ {l : List (Nat × α)} {i : Nat} {v : α}, am_find l i = some v → (i, v) ∈ l
  | [], _, _, h => by cases h
  | (j, u) :: r, i, v, h => by
    simp only [am_find] at h
    cases hb : Nat.beq j i with
    | true =>
      rw [hb] at h
      have := Nat.eq_of_beq_eq_true hb
      subst this
      cases h
      exact List.mem_cons_self
    | false =>
      rw [hb] at h
      exact List.mem_cons_of_mem _ (am_find_mem h)
theorem am_dec {k pc : Nat} {ins : Instr} {len : Nat} (hk : k < 194) (h : am_find (am_code k) pc = some (ins, len)) : decode (am_by k) pc = .ok (ins, len) ∧ am_lenok ins len = true := by
  have h1 := List.all_eq_true.mp (ok_dec hk) _ (am_find_mem h)
  simp only [am_dq, Bool.and_eq_true, decide_eq_true_eq] at h1
  exact h1
/-- a word of the tables that stays -/
noncomputable def am_in (w : Cond) : Bool := decide (w ∈ lw_tbl) && goodWord w
theorem am_inT {w : Cond} (h : am_in w = true) : w ∈ am_T := by
  simp only [am_in, Bool.and_eq_true, decide_eq_true_eq] at h
  exact List.mem_filter.mpr h
noncomputable def am_isOk (t : Option FieldType) : Bool := match t with | some _ => true | none => false
/-! the table in stretches -/
noncomputable def kq0 : List Cond := lw_tbl
noncomputable def kq1 : List Cond := kq0.drop 32
noncomputable def kq2 : List Cond := kq1.drop 32
noncomputable def kq3 : List Cond := kq2.drop 32
noncomputable def kq4 : List Cond := kq3.drop 32
noncomputable def kq5 : List Cond := kq4.drop 32
noncomputable def kq6 : List Cond := kq5.drop 32
noncomputable def kq7 : List Cond := kq6.drop 32
noncomputable def kq8 : List Cond := kq7.drop 32
noncomputable def kq9 : List Cond := kq8.drop 32
noncomputable def kq10 : List Cond := kq9.drop 32
noncomputable def kq11 : List Cond := kq10.drop 32
noncomputable def kq12 : List Cond := kq11.drop 32
noncomputable def kq13 : List Cond := kq12.drop 32
noncomputable def kq14 : List Cond := kq13.drop 32
noncomputable def kq15 : List Cond := kq14.drop 32
noncomputable def kq16 : List Cond := kq15.drop 32
noncomputable def kq17 : List Cond := kq16.drop 32
noncomputable def kq18 : List Cond := kq17.drop 32
noncomputable def kq19 : List Cond := kq18.drop 32
noncomputable def kq20 : List Cond := kq19.drop 32
noncomputable def kq21 : List Cond := kq20.drop 32
noncomputable def kq22 : List Cond := kq21.drop 32
noncomputable def kq23 : List Cond := kq22.drop 32
noncomputable def kq24 : List Cond := kq23.drop 32
noncomputable def kq25 : List Cond := kq24.drop 32
noncomputable def kq26 : List Cond := kq25.drop 32
noncomputable def kq27 : List Cond := kq26.drop 32
noncomputable def kq28 : List Cond := kq27.drop 32
noncomputable def kq29 : List Cond := kq28.drop 32
noncomputable def kq30 : List Cond := kq29.drop 32
noncomputable def kq31 : List Cond := kq30.drop 32
noncomputable def kq32 : List Cond := kq31.drop 32
noncomputable def kq33 : List Cond := kq32.drop 32
noncomputable def kq34 : List Cond := kq33.drop 32
noncomputable def kq35 : List Cond := kq34.drop 32
noncomputable def kq36 : List Cond := kq35.drop 32
noncomputable def kq37 : List Cond := kq36.drop 32
noncomputable def kq38 : List Cond := kq37.drop 32
noncomputable def kq39 : List Cond := kq38.drop 32
noncomputable def kq40 : List Cond := kq39.drop 32
noncomputable def kq41 : List Cond := kq40.drop 32
theorem kqs0 : ∀ w ∈ kq0, w ∈ lw_tbl := fun _ h => h
theorem kqs1 : ∀ w ∈ kq1, w ∈ lw_tbl := fun w h => kqs0 w (List.mem_of_mem_drop h)
theorem kqs2 : ∀ w ∈ kq2, w ∈ lw_tbl := fun w h => kqs1 w (List.mem_of_mem_drop h)
theorem kqs3 : ∀ w ∈ kq3, w ∈ lw_tbl := fun w h => kqs2 w (List.mem_of_mem_drop h)
theorem kqs4 : ∀ w ∈ kq4, w ∈ lw_tbl := fun w h => kqs3 w (List.mem_of_mem_drop h)
theorem kqs5 : ∀ w ∈ kq5, w ∈ lw_tbl := fun w h => kqs4 w (List.mem_of_mem_drop h)
theorem kqs6 : ∀ w ∈ kq6, w ∈ lw_tbl := fun w h => kqs5 w (List.mem_of_mem_drop h)
theorem kqs7 : ∀ w ∈ kq7, w ∈ lw_tbl := fun w h => kqs6 w (List.mem_of_mem_drop h)
theorem kqs8 : ∀ w ∈ kq8, w ∈ lw_tbl := fun w h => kqs7 w (List.mem_of_mem_drop h)
theorem kqs9 : ∀ w ∈ kq9, w ∈ lw_tbl := fun w h => kqs8 w (List.mem_of_mem_drop h)
theorem kqs10 : ∀ w ∈ kq10, w ∈ lw_tbl := fun w h => kqs9 w (List.mem_of_mem_drop h)
theorem kqs11 : ∀ w ∈ kq11, w ∈ lw_tbl := fun w h => kqs10 w (List.mem_of_mem_drop h)
theorem kqs12 : ∀ w ∈ kq12, w ∈ lw_tbl := fun w h => kqs11 w (List.mem_of_mem_drop h)
theorem kqs13 : ∀ w ∈ kq13, w ∈ lw_tbl := fun w h => kqs12 w (List.mem_of_mem_drop h)
theorem kqs14 : ∀ w ∈ kq14, w ∈ lw_tbl := fun w h => kqs13 w (List.mem_of_mem_drop h)
theorem kqs15 : ∀ w ∈ kq15, w ∈ lw_tbl := fun w h => kqs14 w (List.mem_of_mem_drop h)
theorem kqs16 : ∀ w ∈ kq16, w ∈ lw_tbl := fun w h => kqs15 w (List.mem_of_mem_drop h)
theorem kqs17 : ∀ w ∈ kq17, w ∈ lw_tbl := fun w h => kqs16 w (List.mem_of_mem_drop h)
theorem kqs18 : ∀ w ∈ kq18, w ∈ lw_tbl := fun w h => kqs17 w (List.mem_of_mem_drop h)
theorem kqs19 : ∀ w ∈ kq19, w ∈ lw_tbl := fun w h => kqs18 w (List.mem_of_mem_drop h)
theorem kqs20 : ∀ w ∈ kq20, w ∈ lw_tbl := fun w h => kqs19 w (List.mem_of_mem_drop h)
theorem kqs21 : ∀ w ∈ kq21, w ∈ lw_tbl := fun w h => kqs20 w (List.mem_of_mem_drop h)
theorem kqs22 : ∀ w ∈ kq22, w ∈ lw_tbl := fun w h => kqs21 w (List.mem_of_mem_drop h)
theorem kqs23 : ∀ w ∈ kq23, w ∈ lw_tbl := fun w h => kqs22 w (List.mem_of_mem_drop h)
theorem kqs24 : ∀ w ∈ kq24, w ∈ lw_tbl := fun w h => kqs23 w (List.mem_of_mem_drop h)
theorem kqs25 : ∀ w ∈ kq25, w ∈ lw_tbl := fun w h => kqs24 w (List.mem_of_mem_drop h)
theorem kqs26 : ∀ w ∈ kq26, w ∈ lw_tbl := fun w h => kqs25 w (List.mem_of_mem_drop h)
theorem kqs27 : ∀ w ∈ kq27, w ∈ lw_tbl := fun w h => kqs26 w (List.mem_of_mem_drop h)
theorem kqs28 : ∀ w ∈ kq28, w ∈ lw_tbl := fun w h => kqs27 w (List.mem_of_mem_drop h)
theorem kqs29 : ∀ w ∈ kq29, w ∈ lw_tbl := fun w h => kqs28 w (List.mem_of_mem_drop h)
theorem kqs30 : ∀ w ∈ kq30, w ∈ lw_tbl := fun w h => kqs29 w (List.mem_of_mem_drop h)
theorem kqs31 : ∀ w ∈ kq31, w ∈ lw_tbl := fun w h => kqs30 w (List.mem_of_mem_drop h)
theorem kqs32 : ∀ w ∈ kq32, w ∈ lw_tbl := fun w h => kqs31 w (List.mem_of_mem_drop h)
theorem kqs33 : ∀ w ∈ kq33, w ∈ lw_tbl := fun w h => kqs32 w (List.mem_of_mem_drop h)
theorem kqs34 : ∀ w ∈ kq34, w ∈ lw_tbl := fun w h => kqs33 w (List.mem_of_mem_drop h)
theorem kqs35 : ∀ w ∈ kq35, w ∈ lw_tbl := fun w h => kqs34 w (List.mem_of_mem_drop h)
theorem kqs36 : ∀ w ∈ kq36, w ∈ lw_tbl := fun w h => kqs35 w (List.mem_of_mem_drop h)
theorem kqs37 : ∀ w ∈ kq37, w ∈ lw_tbl := fun w h => kqs36 w (List.mem_of_mem_drop h)
theorem kqs38 : ∀ w ∈ kq38, w ∈ lw_tbl := fun w h => kqs37 w (List.mem_of_mem_drop h)
theorem kqs39 : ∀ w ∈ kq39, w ∈ lw_tbl := fun w h => kqs38 w (List.mem_of_mem_drop h)
theorem kqs40 : ∀ w ∈ kq40, w ∈ lw_tbl := fun w h => kqs39 w (List.mem_of_mem_drop h)
theorem kqs41 : ∀ w ∈ kq41, w ∈ lw_tbl := fun w h => kqs40 w (List.mem_of_mem_drop h)
noncomputable def am_KL : List (List Cond) := [kq0, kq1, kq2, kq3, kq4, kq5, kq6, kq7, kq8, kq9, kq10, kq11, kq12, kq13, kq14, kq15, kq16, kq17, kq18, kq19, kq20, kq21, kq22, kq23, kq24, kq25, kq26, kq27, kq28, kq29, kq30, kq31, kq32, kq33, kq34, kq35, kq36, kq37, kq38, kq39, kq40, kq41]
theorem am_KLs : ∀ K ∈ am_KL, ∀ w ∈ K, w ∈ lw_tbl := List.forall_mem_cons.mpr ⟨kqs0, List.forall_mem_cons.mpr ⟨kqs1, List.forall_mem_cons.mpr ⟨kqs2, List.forall_mem_cons.mpr ⟨kqs3, List.forall_mem_cons.mpr ⟨kqs4, List.forall_mem_cons.mpr ⟨kqs5, List.forall_mem_cons.mpr ⟨kqs6, List.forall_mem_cons.mpr ⟨kqs7, List.forall_mem_cons.mpr ⟨kqs8, List.forall_mem_cons.mpr ⟨kqs9, List.forall_mem_cons.mpr ⟨kqs10, List.forall_mem_cons.mpr ⟨kqs11, List.forall_mem_cons.mpr ⟨kqs12, List.forall_mem_cons.mpr ⟨kqs13, List.forall_mem_cons.mpr ⟨kqs14, List.forall_mem_cons.mpr ⟨kqs15, List.forall_mem_cons.mpr ⟨kqs16, List.forall_mem_cons.mpr ⟨kqs17, List.forall_mem_cons.mpr ⟨kqs18, List.forall_mem_cons.mpr ⟨kqs19, List.forall_mem_cons.mpr ⟨kqs20, List.forall_mem_cons.mpr ⟨kqs21, List.forall_mem_cons.mpr ⟨kqs22, List.forall_mem_cons.mpr ⟨kqs23, List.forall_mem_cons.mpr ⟨kqs24, List.forall_mem_cons.mpr ⟨kqs25, List.forall_mem_cons.mpr ⟨kqs26, List.forall_mem_cons.mpr ⟨kqs27, List.forall_mem_cons.mpr ⟨kqs28, List.forall_mem_cons.mpr ⟨kqs29, List.forall_mem_cons.mpr ⟨kqs30, List.forall_mem_cons.mpr ⟨kqs31, List.forall_mem_cons.mpr ⟨kqs32, List.forall_mem_cons.mpr ⟨kqs33, List.forall_mem_cons.mpr ⟨kqs34, List.forall_mem_cons.mpr ⟨kqs35, List.forall_mem_cons.mpr ⟨kqs36, List.forall_mem_cons.mpr ⟨kqs37, List.forall_mem_cons.mpr ⟨kqs38, List.forall_mem_cons.mpr ⟨kqs39, List.forall_mem_cons.mpr ⟨kqs40, List.forall_mem_cons.mpr ⟨kqs41, fun _ h => absurd h (by exact List.not_mem_nil)⟩⟩⟩⟩⟩⟩⟩⟩⟩⟩⟩⟩⟩⟩⟩⟩⟩⟩⟩⟩⟩⟩⟩⟩⟩⟩⟩⟩⟩⟩⟩⟩⟩⟩⟩⟩⟩⟩⟩⟩⟩⟩
noncomputable def am_lk (i : Nat) : Option Cond := match am_KL[i / 32]? with | some K => K[i % 32]? | none => none
theorem am_lkm {i : Nat} {w : Cond} (h : am_lk i = some w) : w ∈ lw_tbl := by
  unfold am_lk at h
  cases e : am_KL[i / 32]? with
  | none => rw [e] at h; cases h
  | some K => rw [e] at h; exact am_KLs K (List.mem_of_getElem? e) w (List.mem_of_getElem? h)
noncomputable def am_at (i : Nat) (w : Cond) : Bool := decide (am_lk i = some w) && goodWord w
theorem am_atI {i : Nat} {w : Cond} (h : am_at i w = true) : am_in w = true := by
  simp only [am_at, am_in, Bool.and_eq_true, decide_eq_true_eq] at h ⊢
  exact ⟨am_lkm h.1, h.2⟩
theorem am_atT {i : Nat} {w : Cond} (h : am_at i w = true) : w ∈ am_T := am_inT (am_atI h)
noncomputable def am_zip {α : Type} (f : α → Nat → Bool) : List α → List Nat → Bool
  | [], _ => true
  | _ :: _, [] => false
  | a :: r, i :: s => f a i && am_zip f r s
theorem am_zipE {α : Type} {f : α → Nat → Bool} : ∀ {l : List α} {s : List Nat}, am_zip f l s = true → ∀ a ∈ l, ∃ i, f a i = true
  | [], _, _, a, h => absurd h (by exact List.not_mem_nil)
  | _ :: _, [], h, _, _ => by cases h
  | b :: r, i :: s, h, a, ha => by
    simp only [am_zip, Bool.and_eq_true] at h
    rcases List.mem_cons.mp ha with e | e
    · exact ⟨i, by rw [e]; exact h.1⟩
    · exact am_zipE h.2 a e
noncomputable def am_pF (c : Nat) : List Nat := (bif Nat.blt c 8 then (bif Nat.blt c 4 then (bif Nat.blt c 2 then (bif Nat.blt c 1 then [341, 342, 343, 344, 345, 346, 348] else [320, 322, 323, 324]) else (bif Nat.blt c 3 then [87, 90] else [371, 372, 143, 373, 374])) else (bif Nat.blt c 6 then (bif Nat.blt c 5 then [247, 250, 157, 168, 165] else [291, 293, 299, 300, 295, 136, 297, 248]) else (bif Nat.blt c 7 then [150, 153, 154, 155, 159, 162, 164, 167, 170, 172, 129, 132, 144, 137, 147, 139, 141] else [263, 264, 265, 266, 267, 268, 269, 151, 148]))) else (bif Nat.blt c 12 then (bif Nat.blt c 10 then (bif Nat.blt c 9 then [225, 216, 218, 135, 220, 222, 223, 91, 88, 146, 133, 130, 156, 160] else [384, 385, 386, 387, 388, 389, 390, 391, 392, 393, 394, 395, 92, 89, 145, 152, 138, 149, 158, 161, 163, 217, 219, 221, 224, 226, 249, 298, 296, 292, 294, 140, 166, 169, 251, 142, 171, 173, 321, 347, 349, 131, 134]) else (bif Nat.blt c 11 then [878, 881, 882, 886, 887, 888, 889, 891, 893, 894, 895, 901, 902, 903, 905, 906, 907, 908, 909, 910, 911, 912, 913, 883, 884, 876, 877, 879, 880, 885, 890, 892, 898, 899, 900, 896, 897, 904, 915, 914] else [])) else (bif Nat.blt c 14 then (bif Nat.blt c 13 then [] else []) else (bif Nat.blt c 15 then [] else []))))
noncomputable def am_pL (c : Nat) : List Nat := (bif Nat.blt c 5 then (bif Nat.blt c 2 then (bif Nat.blt c 1 then [350, 352, 354, 356, 358, 360, 362] else [325, 327, 329, 331]) else (bif Nat.blt c 3 then [93, 95] else (bif Nat.blt c 4 then [375, 377, 379, 381] else [252, 254]))) else (bif Nat.blt c 8 then (bif Nat.blt c 6 then [301, 303, 305, 307, 309, 311] else (bif Nat.blt c 7 then [174, 176, 178, 180, 182, 184, 186, 188, 190, 192, 194, 196, 198, 200, 202, 204, 206] else [270, 272, 274, 276, 278, 280, 282])) else (bif Nat.blt c 9 then [227, 229, 231, 233, 235, 237] else (bif Nat.blt c 10 then [396, 398, 400, 402, 404, 406, 408, 410, 412, 414, 416, 418] else [916, 918, 920, 922, 924, 926, 928, 930, 932, 934, 936, 938, 940, 942, 944, 946, 948, 950, 952, 954, 956, 958, 960, 962, 964, 966, 968, 970, 972, 974, 976, 978, 980, 982, 984, 986, 988, 990, 992, 994]))))
noncomputable def am_pC (c : Nat) : List Nat := (bif Nat.blt c 8 then (bif Nat.blt c 4 then (bif Nat.blt c 2 then (bif Nat.blt c 1 then [804] else []) else (bif Nat.blt c 3 then [] else [])) else (bif Nat.blt c 6 then (bif Nat.blt c 5 then [596] else [663]) else (bif Nat.blt c 7 then [] else [626]))) else (bif Nat.blt c 12 then (bif Nat.blt c 10 then (bif Nat.blt c 9 then [] else [502, 552, 743, 775, 837]) else (bif Nat.blt c 11 then [1075, 1001, 1013, 1014, 1031, 1032, 1033, 1034, 1035, 1067, 1076, 1077, 1082, 1087, 1118, 1143, 1212, 1238, 1239, 1252, 1253, 1289, 1290, 1291, 1292, 1293, 1322, 1323, 1328, 1329, 1330, 1331] else [681, 682, 683])) else (bif Nat.blt c 14 then (bif Nat.blt c 13 then [475, 476, 477] else []) else (bif Nat.blt c 15 then [] else [1332]))))
noncomputable def am_pN (c : Nat) : List Nat := (bif Nat.blt c 8 then (bif Nat.blt c 4 then (bif Nat.blt c 2 then (bif Nat.blt c 1 then [] else []) else (bif Nat.blt c 3 then [] else [])) else (bif Nat.blt c 6 then (bif Nat.blt c 5 then [] else []) else (bif Nat.blt c 7 then [] else []))) else (bif Nat.blt c 12 then (bif Nat.blt c 10 then (bif Nat.blt c 9 then [] else [232164081, 236200099, 244422210, 248484241, 252516257, 256572285, 260630314, 264672335, 268732365]) else (bif Nat.blt c 11 then [] else [])) else (bif Nat.blt c 14 then (bif Nat.blt c 13 then [] else []) else (bif Nat.blt c 15 then [] else [228148073, 273726862]))))
set_option maxRecDepth 100000 in
theorem ok_fldF : (List.range 16).all (fun c => am_zip (fun q i => Nat.blt q.2.1 11 && (Nat.blt q.2.2 (am_ft q.2.1).length && am_at i (.fieldLink (am_cn c) q.1 (am_TT q.2.1 q.2.2).1 (am_TT q.2.1 q.2.2).2.1 (am_TT q.2.1 q.2.2).2.2.1))) (am_fldT c) (am_pF c)) = true := by decide +kernel
set_option maxRecDepth 100000 in
theorem ok_layF : (List.range 11).all (fun c => am_zip (fun w i => am_at i w) (u_ws (am_cn c) (am_TT c) (am_ft c).length) (am_pL c)) = true := by decide +kernel
set_option maxRecDepth 100000 in
theorem ok_cstF : (List.range 16).all (fun c => am_zip (fun q i => match q.2 with | .int x => am_at i (.constant (am_cn c) q.1 x) | .long x => am_at i (.constantLong (am_cn c) q.1 x) | _ => false) (am_cstT c) (am_pC c)) = true := by decide +kernel
set_option maxRecDepth 100000 in
theorem ok_newF : (List.range 16).all (fun c => am_zip (fun q i => Nat.blt q.2 11 && (am_at (i % 2000) (.classLink (am_cn c) q.1 (am_cn q.2)) && (am_at (i / 2000 % 2000) (.instantiable (am_cn q.2) (am_ft q.2).length) && am_at (i / 4000000) (.initialized (am_cn q.2))))) (am_newT c) (am_pN c)) = true := by decide +kernel
theorem ok_fld : (List.range 16).all (fun c => (am_fldT c).all (fun q => Nat.blt q.2.1 11 && (Nat.blt q.2.2 (am_ft q.2.1).length && am_in (.fieldLink (am_cn c) q.1 (am_TT q.2.1 q.2.2).1 (am_TT q.2.1 q.2.2).2.1 (am_TT q.2.1 q.2.2).2.2.1)))) = true := by
  refine List.all_eq_true.mpr fun c hc => List.all_eq_true.mpr fun q hq => ?_
  obtain ⟨i, h⟩ := am_zipE (List.all_eq_true.mp ok_fldF c hc) q hq
  simp only [Bool.and_eq_true] at h ⊢
  exact ⟨h.1, h.2.1, am_atI h.2.2⟩
theorem ok_lay : (List.range 11).all (fun c => (u_ws (am_cn c) (am_TT c) (am_ft c).length).all am_in) = true := by
  refine List.all_eq_true.mpr fun c hc => List.all_eq_true.mpr fun q hq => ?_
  obtain ⟨i, h⟩ := am_zipE (List.all_eq_true.mp ok_layF c hc) q hq
  exact am_atI h
set_option maxRecDepth 100000 in
theorem ok_ty : (List.range 11).all (fun c => (List.range (am_ft c).length).all (fun k => decide ((am_ft c)[k]? = (parseFieldDescriptor (am_TT c k).2.2.1).map (fun t => (t, (am_TT c k).2.2.2))) && (decide ((am_TT c k).1 = am_cn c) && (List.range (am_ft c).length).all (fun j => decide (k = j) || decide ((am_TT c k).2.1 ≠ (am_TT c j).2.1))))) = true := by decide +kernel
theorem ok_cst : (List.range 16).all (fun c => (am_cstT c).all (fun q => match q.2 with | .int x => am_in (.constant (am_cn c) q.1 x) | .long x => am_in (.constantLong (am_cn c) q.1 x) | _ => false)) = true := by
  refine List.all_eq_true.mpr fun c hc => List.all_eq_true.mpr fun q hq => ?_
  obtain ⟨i, h⟩ := am_zipE (List.all_eq_true.mp ok_cstF c hc) q hq
  obtain ⟨a, b⟩ := q
  cases b with
  | int x => exact am_atI (show am_at i (.constant (am_cn c) a x) = true from h)
  | long x => exact am_atI (show am_at i (.constantLong (am_cn c) a x) = true from h)
  | _ => exact h
theorem ok_new : (List.range 16).all (fun c => (am_newT c).all (fun q => Nat.blt q.2 11 && (am_in (.classLink (am_cn c) q.1 (am_cn q.2)) && (am_in (.instantiable (am_cn q.2) (am_ft q.2).length) && am_in (.initialized (am_cn q.2)))))) = true := by
  refine List.all_eq_true.mpr fun c hc => List.all_eq_true.mpr fun q hq => ?_
  obtain ⟨i, h⟩ := am_zipE (List.all_eq_true.mp ok_newF c hc) q hq
  simp only [Bool.and_eq_true] at h ⊢
  exact ⟨h.1, am_atI h.2.1, am_atI h.2.2.1, am_atI h.2.2.2⟩
