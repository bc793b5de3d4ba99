/-! ===== the tables say what the Statement's tables say ===== -/
noncomputable def am_T : List Cond := lw_tbl.filter goodWord
noncomputable def am_TT (c : Nat) : u_T := (bif Nat.blt c 4 then (bif Nat.blt c 2 then (bif Nat.blt c 1 then TX0 else TX1) else (bif Nat.blt c 3 then TX2 else TX3)) else (bif Nat.blt c 8 then (bif Nat.blt c 6 then (bif Nat.blt c 5 then TX4 else TX5) else (bif Nat.blt c 7 then TX6 else TX7)) else (bif Nat.blt c 9 then TX8 else (bif Nat.blt c 10 then TX9 else TX10))))
noncomputable def am_ml (k : Nat) : Nat := (am_mi k).2.1
noncomputable def am_oc (k : Nat) : Nat := (am_mi k).1
noncomputable def am_ws (k : Nat) : List Cond := Cond.code (am_y k) (am_by k) (am_ml k) (am_rt (am_mi k).2.2.1) :: am_T
theorem am_find_mem {α : Type} : ∀ {l : List (Nat × α)} {i : Nat} {v : α}, am_find l i = some v → (i, v) ∈ l
  | [], _, _, h => by cases h
  | (j, u) :: r, i, v, h => by
    simp only [am_find] at h
    cases hb : Nat.beq j i with
    | true =>
      rw [hb] at h
      have := Nat.eq_of_beq_eq_true hb
      subst this
      cases h
      exact List.mem_cons_self
    | false =>
      rw [hb] at h
      exact List.mem_cons_of_mem _ (am_find_mem h)
theorem am_dec {k pc : Nat} {ins : Instr} {len : Nat} (hk : k < 194) (h : am_find (am_code k) pc = some (ins, len)) : decode (am_by k) pc = .ok (ins, len) ∧ am_lenok ins len = true := by
  have h1 := List.all_eq_true.mp (ok_dec hk) _ (am_find_mem h)
  simp only [am_dq, Bool.and_eq_true, decide_eq_true_eq] at h1
  exact h1
/-- a word of the tables that stays -/
noncomputable def am_in (w : Cond) : Bool := decide (w ∈ lw_tbl) && goodWord w
theorem am_inT {w : Cond} (h : am_in w = true) : w ∈ am_T := by
  simp only [am_in, Bool.and_eq_true, decide_eq_true_eq] at h
  exact List.mem_filter.mpr h
noncomputable def am_isOk (t : Option FieldType) : Bool := match t with | some _ => true | none => false
/-! the table in stretches -/
noncomputable def K0 : List Cond := lw_tbl
noncomputable def K1 : List Cond := K0.drop 32
noncomputable def K2 : List Cond := K1.drop 32
noncomputable def K3 : List Cond := K2.drop 32
noncomputable def K4 : List Cond := K3.drop 32
noncomputable def K5 : List Cond := K4.drop 32
noncomputable def K6 : List Cond := K5.drop 32
noncomputable def K7 : List Cond := K6.drop 32
noncomputable def K8 : List Cond := K7.drop 32
noncomputable def K9 : List Cond := K8.drop 32
noncomputable def K10 : List Cond := K9.drop 32
noncomputable def K11 : List Cond := K10.drop 32
noncomputable def K12 : List Cond := K11.drop 32
noncomputable def K13 : List Cond := K12.drop 32
noncomputable def K14 : List Cond := K13.drop 32
noncomputable def K15 : List Cond := K14.drop 32
noncomputable def K16 : List Cond := K15.drop 32
noncomputable def K17 : List Cond := K16.drop 32
noncomputable def K18 : List Cond := K17.drop 32
noncomputable def K19 : List Cond := K18.drop 32
noncomputable def K20 : List Cond := K19.drop 32
noncomputable def K21 : List Cond := K20.drop 32
noncomputable def K22 : List Cond := K21.drop 32
noncomputable def K23 : List Cond := K22.drop 32
noncomputable def K24 : List Cond := K23.drop 32
noncomputable def K25 : List Cond := K24.drop 32
noncomputable def K26 : List Cond := K25.drop 32
noncomputable def K27 : List Cond := K26.drop 32
noncomputable def K28 : List Cond := K27.drop 32
noncomputable def K29 : List Cond := K28.drop 32
noncomputable def K30 : List Cond := K29.drop 32
noncomputable def K31 : List Cond := K30.drop 32
noncomputable def K32 : List Cond := K31.drop 32
noncomputable def K33 : List Cond := K32.drop 32
noncomputable def K34 : List Cond := K33.drop 32
noncomputable def K35 : List Cond := K34.drop 32
noncomputable def K36 : List Cond := K35.drop 32
noncomputable def K37 : List Cond := K36.drop 32
noncomputable def K38 : List Cond := K37.drop 32
noncomputable def K39 : List Cond := K38.drop 32
noncomputable def K40 : List Cond := K39.drop 32
noncomputable def K41 : List Cond := K40.drop 32
theorem Ks0 : ∀ w ∈ K0, w ∈ lw_tbl := fun _ h => h
theorem Ks1 : ∀ w ∈ K1, w ∈ lw_tbl := fun w h => Ks0 w (List.mem_of_mem_drop h)
theorem Ks2 : ∀ w ∈ K2, w ∈ lw_tbl := fun w h => Ks1 w (List.mem_of_mem_drop h)
theorem Ks3 : ∀ w ∈ K3, w ∈ lw_tbl := fun w h => Ks2 w (List.mem_of_mem_drop h)
theorem Ks4 : ∀ w ∈ K4, w ∈ lw_tbl := fun w h => Ks3 w (List.mem_of_mem_drop h)
theorem Ks5 : ∀ w ∈ K5, w ∈ lw_tbl := fun w h => Ks4 w (List.mem_of_mem_drop h)
theorem Ks6 : ∀ w ∈ K6, w ∈ lw_tbl := fun w h => Ks5 w (List.mem_of_mem_drop h)
theorem Ks7 : ∀ w ∈ K7, w ∈ lw_tbl := fun w h => Ks6 w (List.mem_of_mem_drop h)
theorem Ks8 : ∀ w ∈ K8, w ∈ lw_tbl := fun w h => Ks7 w (List.mem_of_mem_drop h)
theorem Ks9 : ∀ w ∈ K9, w ∈ lw_tbl := fun w h => Ks8 w (List.mem_of_mem_drop h)
theorem Ks10 : ∀ w ∈ K10, w ∈ lw_tbl := fun w h => Ks9 w (List.mem_of_mem_drop h)
theorem Ks11 : ∀ w ∈ K11, w ∈ lw_tbl := fun w h => Ks10 w (List.mem_of_mem_drop h)
theorem Ks12 : ∀ w ∈ K12, w ∈ lw_tbl := fun w h => Ks11 w (List.mem_of_mem_drop h)
theorem Ks13 : ∀ w ∈ K13, w ∈ lw_tbl := fun w h => Ks12 w (List.mem_of_mem_drop h)
theorem Ks14 : ∀ w ∈ K14, w ∈ lw_tbl := fun w h => Ks13 w (List.mem_of_mem_drop h)
theorem Ks15 : ∀ w ∈ K15, w ∈ lw_tbl := fun w h => Ks14 w (List.mem_of_mem_drop h)
theorem Ks16 : ∀ w ∈ K16, w ∈ lw_tbl := fun w h => Ks15 w (List.mem_of_mem_drop h)
theorem Ks17 : ∀ w ∈ K17, w ∈ lw_tbl := fun w h => Ks16 w (List.mem_of_mem_drop h)
theorem Ks18 : ∀ w ∈ K18, w ∈ lw_tbl := fun w h => Ks17 w (List.mem_of_mem_drop h)
theorem Ks19 : ∀ w ∈ K19, w ∈ lw_tbl := fun w h => Ks18 w (List.mem_of_mem_drop h)
theorem Ks20 : ∀ w ∈ K20, w ∈ lw_tbl := fun w h => Ks19 w (List.mem_of_mem_drop h)
theorem Ks21 : ∀ w ∈ K21, w ∈ lw_tbl := fun w h => Ks20 w (List.mem_of_mem_drop h)
theorem Ks22 : ∀ w ∈ K22, w ∈ lw_tbl := fun w h => Ks21 w (List.mem_of_mem_drop h)
theorem Ks23 : ∀ w ∈ K23, w ∈ lw_tbl := fun w h => Ks22 w (List.mem_of_mem_drop h)
theorem Ks24 : ∀ w ∈ K24, w ∈ lw_tbl := fun w h => Ks23 w (List.mem_of_mem_drop h)
theorem Ks25 : ∀ w ∈ K25, w ∈ lw_tbl := fun w h => Ks24 w (List.mem_of_mem_drop h)
theorem Ks26 : ∀ w ∈ K26, w ∈ lw_tbl := fun w h => Ks25 w (List.mem_of_mem_drop h)
theorem Ks27 : ∀ w ∈ K27, w ∈ lw_tbl := fun w h => Ks26 w (List.mem_of_mem_drop h)
theorem Ks28 : ∀ w ∈ K28, w ∈ lw_tbl := fun w h => Ks27 w (List.mem_of_mem_drop h)
theorem Ks29 : ∀ w ∈ K29, w ∈ lw_tbl := fun w h => Ks28 w (List.mem_of_mem_drop h)
theorem Ks30 : ∀ w ∈ K30, w ∈ lw_tbl := fun w h => Ks29 w (List.mem_of_mem_drop h)
theorem Ks31 : ∀ w ∈ K31, w ∈ lw_tbl := fun w h => Ks30 w (List.mem_of_mem_drop h)
theorem Ks32 : ∀ w ∈ K32, w ∈ lw_tbl := fun w h => Ks31 w (List.mem_of_mem_drop h)
theorem Ks33 : ∀ w ∈ K33, w ∈ lw_tbl := fun w h => Ks32 w (List.mem_of_mem_drop h)
theorem Ks34 : ∀ w ∈ K34, w ∈ lw_tbl := fun w h => Ks33 w (List.mem_of_mem_drop h)
theorem Ks35 : ∀ w ∈ K35, w ∈ lw_tbl := fun w h => Ks34 w (List.mem_of_mem_drop h)
theorem Ks36 : ∀ w ∈ K36, w ∈ lw_tbl := fun w h => Ks35 w (List.mem_of_mem_drop h)
theorem Ks37 : ∀ w ∈ K37, w ∈ lw_tbl := fun w h => Ks36 w (List.mem_of_mem_drop h)
theorem Ks38 : ∀ w ∈ K38, w ∈ lw_tbl := fun w h => Ks37 w (List.mem_of_mem_drop h)
theorem Ks39 : ∀ w ∈ K39, w ∈ lw_tbl := fun w h => Ks38 w (List.mem_of_mem_drop h)
theorem Ks40 : ∀ w ∈ K40, w ∈ lw_tbl := fun w h => Ks39 w (List.mem_of_mem_drop h)
theorem Ks41 : ∀ w ∈ K41, w ∈ lw_tbl := fun w h => Ks40 w (List.mem_of_mem_drop h)
noncomputable def am_KL : List (List Cond) := [K0, K1, K2, K3, K4, K5, K6, K7, K8, K9, K10, K11, K12, K13, K14, K15, K16, K17, K18, K19, K20, K21, K22, K23, K24, K25, K26, K27, K28, K29, K30, K31, K32, K33, K34, K35, K36, K37, K38, K39, K40, K41]
theorem am_KLs : ∀ K ∈ am_KL, ∀ w ∈ K, w ∈ lw_tbl := List.forall_mem_cons.mpr ⟨Ks0, List.forall_mem_cons.mpr ⟨Ks1, List.forall_mem_cons.mpr ⟨Ks2, List.forall_mem_cons.mpr ⟨Ks3, List.forall_mem_cons.mpr ⟨Ks4, List.forall_mem_cons.mpr ⟨Ks5, List.forall_mem_cons.mpr ⟨Ks6, List.forall_mem_cons.mpr ⟨Ks7, List.forall_mem_cons.mpr ⟨Ks8, List.forall_mem_cons.mpr ⟨Ks9, List.forall_mem_cons.mpr ⟨Ks10, List.forall_mem_cons.mpr ⟨Ks11, List.forall_mem_cons.mpr ⟨Ks12, List.forall_mem_cons.mpr ⟨Ks13, List.forall_mem_cons.mpr ⟨Ks14, List.forall_mem_cons.mpr ⟨Ks15, List.forall_mem_cons.mpr ⟨Ks16, List.forall_mem_cons.mpr ⟨Ks17, List.forall_mem_cons.mpr ⟨Ks18, List.forall_mem_cons.mpr ⟨Ks19, List.forall_mem_cons.mpr ⟨Ks20, List.forall_mem_cons.mpr ⟨Ks21, List.forall_mem_cons.mpr ⟨Ks22, List.forall_mem_cons.mpr ⟨Ks23, List.forall_mem_cons.mpr ⟨Ks24, List.forall_mem_cons.mpr ⟨Ks25, List.forall_mem_cons.mpr ⟨Ks26, List.forall_mem_cons.mpr ⟨Ks27, List.forall_mem_cons.mpr ⟨Ks28, List.forall_mem_cons.mpr ⟨Ks29, List.forall_mem_cons.mpr ⟨Ks30, List.forall_mem_cons.mpr ⟨Ks31, List.forall_mem_cons.mpr ⟨Ks32, List.forall_mem_cons.mpr ⟨Ks33, List.forall_mem_cons.mpr ⟨Ks34, List.forall_mem_cons.mpr ⟨Ks35, List.forall_mem_cons.mpr ⟨Ks36, List.forall_mem_cons.mpr ⟨Ks37, List.forall_mem_cons.mpr ⟨Ks38, List.forall_mem_cons.mpr ⟨Ks39, List.forall_mem_cons.mpr ⟨Ks40, List.forall_mem_cons.mpr ⟨Ks41, fun _ h => absurd h (by exact List.not_mem_nil)⟩⟩⟩⟩⟩⟩⟩⟩⟩⟩⟩⟩⟩⟩⟩⟩⟩⟩⟩⟩⟩⟩⟩⟩⟩⟩⟩⟩⟩⟩⟩⟩⟩⟩⟩⟩⟩⟩⟩⟩⟩⟩
noncomputable def am_lk (i : Nat) : Option Cond := match am_KL[i / 32]? with | some K => K[i % 32]? | none => none
theorem am_lkm {i : Nat} {w : Cond} (h : am_lk i = some w) : w ∈ lw_tbl := by
  unfold am_lk at h
  cases e : am_KL[i / 32]? with
  | none => rw [e] at h; cases h
  | some K => rw [e] at h; exact am_KLs K (List.mem_of_getElem? e) w (List.mem_of_getElem? h)
noncomputable def am_at (i : Nat) (w : Cond) : Bool := decide (am_lk i = some w) && goodWord w
theorem am_atI {i : Nat} {w : Cond} (h : am_at i w = true) : am_in w = true := by
  simp only [am_at, am_in, Bool.and_eq_true, decide_eq_true_eq] at h ⊢
  exact ⟨am_lkm h.1, h.2⟩
theorem am_atT {i : Nat} {w : Cond} (h : am_at i w = true) : w ∈ am_T := am_inT (am_atI h)
noncomputable def am_zip {α : Type} (f : α → Nat → Bool) : List α → List Nat → Bool
  | [], _ => true
  | _ :: _, [] => false
  | a :: r, i :: s => f a i && am_zip f r s
theorem am_zipE {α : Type} {f : α → Nat → Bool} : ∀ {l : List α} {s : List Nat}, am_zip f l s = true → ∀ a ∈ l, ∃ i, f a i = true
  | [], _, _, a, h => absurd h (by exact List.not_mem_nil)
  | _ :: _, [], h, _, _ => by cases h
  | b :: r, i :: s, h, a, ha => by
    simp only [am_zip, Bool.and_eq_true] at h
    rcases List.mem_cons.mp ha with e | e
    · exact ⟨i, by rw [e]; exact h.1⟩
    · exact am_zipE h.2 a e
noncomputable def am_pF (c : Nat) : List Nat := (bif Nat.blt c 8 then (bif Nat.blt c 4 then (bif Nat.blt c 2 then (bif Nat.blt c 1 then [341, 342, 343, 344, 345, 346, 348] else [320, 322, 323, 324]) else (bif Nat.blt c 3 then [87, 90] else [371, 372, 143, 373, 374])) else (bif Nat.blt c 6 then (bif Nat.blt c 5 then [247, 250, 157, 168, 165] else [291, 293, 299, 300, 295, 136, 297, 248]) else (bif Nat.blt c 7 then [150, 153, 154, 155, 159, 162, 164, 167, 170, 172, 129, 132, 144, 137, 147, 139, 141] else [263, 264, 265, 266, 267, 268, 269, 151, 148]))) else (bif Nat.blt c 12 then (bif Nat.blt c 10 then (bif Nat.blt c 9 then [225, 216, 218, 135, 220, 222, 223, 91, 88, 146, 133, 130, 156, 160] else [384, 385, 386, 387, 388, 389, 390, 391, 392, 393, 394, 395, 92, 89, 145, 152, 138, 149, 158, 161, 163, 217, 219, 221, 224, 226, 249, 298, 296, 292, 294, 140, 166, 169, 251, 142, 171, 173, 321, 347, 349, 131, 134]) else (bif Nat.blt c 11 then [878, 881, 882, 886, 887, 888, 889, 891, 893, 894, 895, 901, 902, 903, 905, 906, 907, 908, 909, 910, 911, 912, 913, 883, 884, 876, 877, 879, 880, 885, 890, 892, 898, 899, 900, 896, 897, 904, 915, 914] else [])) else (bif Nat.blt c 14 then (bif Nat.blt c 13 then [] else []) else (bif Nat.blt c 15 then [] else []))))
noncomputable def am_pL (c : Nat) : List Nat := (bif Nat.blt c 5 then (bif Nat.blt c 2 then (bif Nat.blt c 1 then [350, 352, 354, 356, 358, 360, 362] else [325, 327, 329, 331]) else (bif Nat.blt c 3 then [93, 95] else (bif Nat.blt c 4 then [375, 377, 379, 381] else [252, 254]))) else (bif Nat.blt c 8 then (bif Nat.blt c 6 then [301, 303, 305, 307, 309, 311] else (bif Nat.blt c 7 then [174, 176, 178, 180, 182, 184, 186, 188, 190, 192, 194, 196, 198, 200, 202, 204, 206] else [270, 272, 274, 276, 278, 280, 282])) else (bif Nat.blt c 9 then [227, 229, 231, 233, 235, 237] else (bif Nat.blt c 10 then [396, 398, 400, 402, 404, 406, 408, 410, 412, 414, 416, 418] else [916, 918, 920, 922, 924, 926, 928, 930, 932, 934, 936, 938, 940, 942, 944, 946, 948, 950, 952, 954, 956, 958, 960, 962, 964, 966, 968, 970, 972, 974, 976, 978, 980, 982, 984, 986, 988, 990, 992, 994]))))
noncomputable def am_pC (c : Nat) : List Nat := (bif Nat.blt c 8 then (bif Nat.blt c 4 then (bif Nat.blt c 2 then (bif Nat.blt c 1 then [804] else []) else (bif Nat.blt c 3 then [] else [])) else (bif Nat.blt c 6 then (bif Nat.blt c 5 then [596] else [663]) else (bif Nat.blt c 7 then [] else [626]))) else (bif Nat.blt c 12 then (bif Nat.blt c 10 then (bif Nat.blt c 9 then [] else [502, 552, 743, 775, 837]) else (bif Nat.blt c 11 then [1075, 1001, 1013, 1014, 1031, 1032, 1033, 1034, 1035, 1067, 1076, 1077, 1082, 1087, 1118, 1143, 1212, 1238, 1239, 1252, 1253, 1289, 1290, 1291, 1292, 1293, 1322, 1323, 1328, 1329, 1330, 1331] else [681, 682, 683])) else (bif Nat.blt c 14 then (bif Nat.blt c 13 then [475, 476, 477] else []) else (bif Nat.blt c 15 then [] else [1332]))))
noncomputable def am_pN (c : Nat) : List Nat := (bif Nat.blt c 8 then (bif Nat.blt c 4 then (bif Nat.blt c 2 then (bif Nat.blt c 1 then [] else []) else (bif Nat.blt c 3 then [] else [])) else (bif Nat.blt c 6 then (bif Nat.blt c 5 then [] else []) else (bif Nat.blt c 7 then [] else []))) else (bif Nat.blt c 12 then (bif Nat.blt c 10 then (bif Nat.blt c 9 then [] else [232164081, 236200099, 244422210, 248484241, 252516257, 256572285, 260630314, 264672335, 268732365]) else (bif Nat.blt c 11 then [] else [])) else (bif Nat.blt c 14 then (bif Nat.blt c 13 then [] else []) else (bif Nat.blt c 15 then [] else [228148073, 273726862]))))
set_option maxRecDepth 100000 in
theorem ok_fldF : (List.range 16).all (fun c => am_zip (fun q i => Nat.blt q.2.1 11 && (Nat.blt q.2.2 (am_ft q.2.1).length && am_at i (.fieldLink (am_cn c) q.1 (am_TT q.2.1 q.2.2).1 (am_TT q.2.1 q.2.2).2.1 (am_TT q.2.1 q.2.2).2.2.1))) (am_fldT c) (am_pF c)) = true := by decide +kernel
set_option maxRecDepth 100000 in
theorem ok_layF : (List.range 11).all (fun c => am_zip (fun w i => am_at i w) (u_ws (am_cn c) (am_TT c) (am_ft c).length) (am_pL c)) = true := by decide +kernel
set_option maxRecDepth 100000 in
theorem ok_cstF : (List.range 16).all (fun c => am_zip (fun q i => match q.2 with | .int x => am_at i (.constant (am_cn c) q.1 x) | .long x => am_at i (.constantLong (am_cn c) q.1 x) | _ => false) (am_cstT c) (am_pC c)) = true := by decide +kernel
set_option maxRecDepth 100000 in
theorem ok_newF : (List.range 16).all (fun c => am_zip (fun q i => Nat.blt q.2 11 && (am_at (i % 2000) (.classLink (am_cn c) q.1 (am_cn q.2)) && (am_at (i / 2000 % 2000) (.instantiable (am_cn q.2) (am_ft q.2).length) && am_at (i / 4000000) (.initialized (am_cn q.2))))) (am_newT c) (am_pN c)) = true := by decide +kernel
theorem ok_fld : (List.range 16).all (fun c => (am_fldT c).all (fun q => Nat.blt q.2.1 11 && (Nat.blt q.2.2 (am_ft q.2.1).length && am_in (.fieldLink (am_cn c) q.1 (am_TT q.2.1 q.2.2).1 (am_TT q.2.1 q.2.2).2.1 (am_TT q.2.1 q.2.2).2.2.1)))) = true := by
  refine List.all_eq_true.mpr fun c hc => List.all_eq_true.mpr fun q hq => ?_
  obtain ⟨i, h⟩ := am_zipE (List.all_eq_true.mp ok_fldF c hc) q hq
  simp only [Bool.and_eq_true] at h ⊢
  exact ⟨h.1, h.2.1, am_atI h.2.2⟩
theorem ok_lay : (List.range 11).all (fun c => (u_ws (am_cn c) (am_TT c) (am_ft c).length).all am_in) = true := by
  refine List.all_eq_true.mpr fun c hc => List.all_eq_true.mpr fun q hq => ?_
  obtain ⟨i, h⟩ := am_zipE (List.all_eq_true.mp ok_layF c hc) q hq
  exact am_atI h
set_option maxRecDepth 100000 in
theorem ok_ty : (List.range 11).all (fun c => (List.range (am_ft c).length).all (fun k => decide ((am_ft c)[k]? = (parseFieldDescriptor (am_TT c k).2.2.1).map (fun t => (t, (am_TT c k).2.2.2))) && (decide ((am_TT c k).1 = am_cn c) && (List.range (am_ft c).length).all (fun j => decide (k = j) || decide ((am_TT c k).2.1 ≠ (am_TT c j).2.1))))) = true := by decide +kernel
theorem ok_cst : (List.range 16).all (fun c => (am_cstT c).all (fun q => match q.2 with | .int x => am_in (.constant (am_cn c) q.1 x) | .long x => am_in (.constantLong (am_cn c) q.1 x) | _ => false)) = true := by
  refine List.all_eq_true.mpr fun c hc => List.all_eq_true.mpr fun q hq => ?_
  obtain ⟨i, h⟩ := am_zipE (List.all_eq_true.mp ok_cstF c hc) q hq
  obtain ⟨a, b⟩ := q
  cases b with
  | int x => exact am_atI (show am_at i (.constant (am_cn c) a x) = true from h)
  | long x => exact am_atI (show am_at i (.constantLong (am_cn c) a x) = true from h)
  | _ => exact h
theorem ok_new : (List.range 16).all (fun c => (am_newT c).all (fun q => Nat.blt q.2 11 && (am_in (.classLink (am_cn c) q.1 (am_cn q.2)) && (am_in (.instantiable (am_cn q.2) (am_ft q.2).length) && am_in (.initialized (am_cn q.2)))))) = true := by
  refine List.all_eq_true.mpr fun c hc => List.all_eq_true.mpr fun q hq => ?_
  obtain ⟨i, h⟩ := am_zipE (List.all_eq_true.mp ok_newF c hc) q hq
  simp only [Bool.and_eq_true] at h ⊢
  exact ⟨h.1, am_atI h.2.1, am_atI h.2.2.1, am_atI h.2.2.2⟩
