/-! ===== cells, findFar ===== -/
theorem q_cells {d : Nat} {w : am_W} (I : ab_inv ab_TT ab_sets w) : aw none d 113 (fun r w1 => w = w1 ∧ ∃ b : Int32, r = some (.int b) ∧ b.toInt = szM w) (0, am_entry 113 [.ref 65], []) w := by
  have J : ab_J ab_TT ab_sets ab_WR w w := ⟨I, ab_fr.rf⟩
  show aw none d 113 _ (0, [some (.ref 65)], []) w
  refine aw_step (f1 := (1, [some (.ref 65)], [(.ref 65)])) (w1 := w) rfl rfl ?_
  refine s_gi J 4 rfl rfl rfl rfl rfl rfl fun x1 x1a x1b x1f => ?_
  refine aw_step (f1 := (5, [some (.ref 65)], [(.ref 65), (.int x1)])) (w1 := w) rfl rfl ?_
  refine s_gi J 8 rfl rfl rfl rfl rfl rfl fun x2 x2a x2b x2f => ?_
  refine s_i (pc1 := 9) (ls1 := [some (.ref 65)]) (st1 := []) rfl rfl fun x3 e4 => ?_
  have e4 : x3 = x1 * x2 := e4
  have hm := m6 x1a x1b x2a x2b
  have hz : x3.toInt = szM w := by rw [e4, n_mul (by omega) (by omega)]; unfold szM; rw [fI_of x1f, fI_of x2f]
  refine aw_ret (v := some (.int x3)) rfl rfl ?_
  exact ⟨rfl, x3, rfl, hz⟩
/-! the pure side -/
noncomputable def fRow (r r0 : Nat → Int) (b : Nat → Nat) (D i : Int) : Prop := ∀ j : Nat, r j = if (j : Int) < i ∧ b j = 1 then D else r0 j
noncomputable def fNx (x : Nat) (n l : Nat → Nat) (i : Int) : Prop := ∀ j : Nat, bt x j = 1 ↔ ∃ b : Nat, (b : Int) < i ∧ n b = 1 ∧ bt (l b) j = 1
theorem fRow.z {r : Nat → Int} {b : Nat → Nat} {D : Int} : fRow r r b D 0 := fun j => by rw [if_neg (by omega)]
theorem fNx.z {n l : Nat → Nat} : fNx 0 n l 0 := fun j => ⟨fun h => by rw [bt_z] at h; omega, fun ⟨b, h, _⟩ => by omega⟩
theorem fRow.no {r r0 : Nat → Int} {b : Nat → Nat} {D i : Int} (h : fRow r r0 b D i) (hi : 0 ≤ i) (hb : b i.toNat ≠ 1) : fRow r r0 b D (i + 1) := fun j => by
  rw [h j]
  by_cases q : (j : Int) < i ∧ b j = 1
  · rw [if_pos q, if_pos ⟨by omega, q.2⟩]
  · rw [if_neg q, if_neg]
    intro z
    by_cases e : j = i.toNat
    · exact hb (by rw [← e]; exact z.2)
    · exact q ⟨by omega, z.2⟩
theorem fRow.ye {r r0 r1 : Nat → Int} {b : Nat → Nat} {D i : Int} (h : fRow r r0 b D i) (hi : 0 ≤ i) (hb : b i.toNat = 1) (h1 : r1 i.toNat = D) (h2 : ∀ j, j ≠ i.toNat → r1 j = r j) : fRow r1 r0 b D (i + 1) := fun j => by
  by_cases e : j = i.toNat
  · rw [e, h1, if_pos ⟨by omega, hb⟩]
  · rw [h2 j e, h j]
    by_cases q : (j : Int) < i ∧ b j = 1
    · rw [if_pos q, if_pos ⟨by omega, q.2⟩]
    · rw [if_neg q, if_neg (fun z => q ⟨by omega, z.2⟩)]
theorem fNx.no {x : Nat} {n l : Nat → Nat} {i : Int} (h : fNx x n l i) (hi : 0 ≤ i) (hb : n i.toNat ≠ 1) : fNx x n l (i + 1) := fun j => by
  rw [h j]
  constructor
  · rintro ⟨b, h1, h2⟩
    exact ⟨b, by omega, h2⟩
  · rintro ⟨b, h1, h2, h3⟩
    refine ⟨b, ?_, h2, h3⟩
    by_cases e : b = i.toNat
    · rw [e] at h2; exact absurd h2 hb
    · omega
theorem fNx.ye {x y : Nat} {n l : Nat → Nat} {i : Int} (h : fNx x n l i) (hi : 0 ≤ i) (hb : n i.toNat = 1) (hy : y = l i.toNat) : fNx (x ||| y) n l (i + 1) := fun j => by
  rw [bt_or, hy]
  have b1 := bt_le x j
  have b2 := bt_le (l i.toNat) j
  constructor
  · intro q
    by_cases e : bt x j = 1
    · obtain ⟨b, h1, h2⟩ := (h j).mp e
      exact ⟨b, by omega, h2⟩
    · exact ⟨i.toNat, by omega, hb, by omega⟩
  · rintro ⟨b, h1, h2, h3⟩
    by_cases e : b = i.toNat
    · rw [e] at h3; omega
    · have := (h j).mpr ⟨b, by omega, h2, h3⟩
      omega
noncomputable def fInv (sz : Int) (f : Nat) (l : Nat → Nat) (r : Nat → Int) (n h : Nat) (d : Int) : Prop :=
  (∀ j, bt n j ≤ bt h j) ∧ 0 ≤ d ∧ (n ≠ 0 → d + 1 ≤ cnt h 36) ∧ d ≤ cnt h 36 ∧
  (∀ j : Nat, j < 36 → (r j = 100000 ∧ (bt h j = 0 ∨ bt n j = 1 ∨ sz ≤ j)) ∨ (0 ≤ r j ∧ r j < d ∧ bt h j = 1 ∧ bt n j = 0 ∧ (j : Int) < sz)) ∧
  (∀ j : Nat, bt n j = 1 → (d = 0 ∧ j = f) ∨ ∃ b : Nat, (b : Int) < sz ∧ r b = d - 1 ∧ bt (l b) j = 1) ∧
  (∀ j : Nat, j < 36 → r j < 100000 → (r j = 0 ∧ j = f) ∨ ∃ b : Nat, (b : Int) < sz ∧ r b = r j - 1 ∧ bt (l b) j = 1) ∧
  bt h f = 1 ∧
  (∀ b j : Nat, (b : Int) < sz → r b < 100000 → bt (l b) j = 1 → bt h j = 1 ∧ (bt n j = 1 → d ≤ r b + 1) ∧ (bt n j = 0 → (j : Int) < sz → r j ≤ r b + 1)) ∧
  ((d = 0 ∧ bt n f = 1) ∨ (0 < d ∧ bt n f = 0 ∧ ((f : Int) < sz → r f = 0)))
noncomputable def fPost (sz : Int) (f : Nat) (l : Nat → Nat) (r : Nat → Int) : Prop :=
  (∀ j : Nat, j < 36 → r j = 100000 ∨ (0 ≤ r j ∧ r j < 36 ∧ (j : Int) < sz)) ∧ ((f : Int) < sz → r f = 0) ∧
  (∀ j : Nat, j < 36 → r j < 100000 → (r j = 0 ∧ j = f) ∨ ∃ b : Nat, (b : Int) < sz ∧ r b = r j - 1 ∧ bt (l b) j = 1) ∧
  (∀ b j : Nat, (b : Int) < sz → (j : Int) < sz → r b < 100000 → bt (l b) j = 1 → r j ≤ r b + 1)
theorem fInv.post {sz : Int} {f : Nat} {l : Nat → Nat} {r : Nat → Int} {h : Nat} {d : Int} (I : fInv sz f l r 0 h d) : fPost sz f l r := by
  obtain ⟨i1, i2, i3, i4, i5, i6, i7, i8, i9, i10⟩ := I
  have hc := cnt_le h 36
  refine ⟨fun j hj => ?_, fun hf => ?_, i7, fun b j hb hj hr hl => (i9 b j hb hr hl).2.2 (bt_z j) hj⟩
  · rcases i5 j hj with q | q
    · exact Or.inl q.1
    · exact Or.inr ⟨q.1, by omega, q.2.2.2.2⟩
  · rcases i10 with q | q
    · rw [bt_z] at q; omega
    · exact q.2.2 hf
theorem fInv.st {sz : Int} {f : Nat} {l : Nat → Nat} {r : Nat → Int} {d : Int} (hsz : sz ≤ 36) (hf : f < 36) (r0 : ∀ j, j < 36 → r j = 100000) (hd : d = 0) : fInv sz f l r (2 ^ f) (2 ^ f) d := by
  have bf : bt (2 ^ f) f = 1 := by rw [bt_pow, if_pos rfl]
  have cf : 0 < cnt (2 ^ f) 36 := bt_pos hf (by omega)
  refine ⟨fun j => Nat.le_refl _, by omega, fun _ => by omega, by omega, fun j hj => ?_, fun j hj => ?_, fun j hj h => ?_, bf, fun b j hb h => ?_, Or.inl ⟨hd, bf⟩⟩
  · refine Or.inl ⟨r0 j hj, ?_⟩
    have := bt_le (2 ^ f) j
    omega
  · refine Or.inl ⟨hd, ?_⟩
    rw [bt_pow] at hj
    by_cases e : f = j
    · exact e.symm
    · rw [if_neg e] at hj; omega
  · have := r0 j hj; omega
  · have := r0 b (by omega); omega
theorem fInv.go {sz : Int} {f : Nat} {l : Nat → Nat} {r r' : Nat → Int} {n h x n' h' : Nat} {d d' : Int} (I : fInv sz f l r n h d) (hsz : sz ≤ 36) (hn : n ≠ 0) (hr : fRow r' r (bt n) d sz) (hx : fNx x (bt n) l sz) (x36 : x < 2 ^ 36) (e1 : ∀ j, bt n' j = min (bt x j) (1 - bt h j)) (e2 : ∀ j, bt h' j = max (bt h j) (bt x j)) (ed : d' = d + 1) : fInv sz f l r' n' h' d' ∧ (n' ≠ 0 → cnt h 36 < cnt h' 36) ∧ cnt h 36 ≤ cnt h' 36 := by
  obtain ⟨i1, i2, i3, i4, i5, i6, i7, i8, i9, i10⟩ := I
  have i3 := i3 hn
  have hc := cnt_le h 36
  have L : ∀ j, bt h j ≤ bt h' j := fun j => by have := e2 j; omega
  have c1 := cnt_sub L 36
  have c2 : n' ≠ 0 → cnt h 36 < cnt h' 36 := by
    intro q
    obtain ⟨j, hj⟩ := bt_some q
    have a1 := e1 j
    have a2 := e2 j
    have a3 := @bt_hi x 36 j x36
    have b1 := bt_le x j
    have b2 := bt_le h j
    exact cnt_lt L (i := j) (by omega) 36 (by omega)
  have rn : ∀ b : Nat, (b : Int) < sz → r b < 100000 → bt n b = 0 := by
    intro b hb h1
    rcases i5 b (by omega) with q | q
    · omega
    · exact q.2.2.2.1
  have ry : ∀ b : Nat, (b : Int) < sz → bt n b = 1 → r' b = d := fun b h1 h2 => by rw [hr b, if_pos ⟨h1, h2⟩]
  have ro : ∀ b : Nat, bt n b = 0 → r' b = r b := fun b h2 => by rw [hr b, if_neg (fun z => by omega)]
  have rz : ∀ b : Nat, sz ≤ b → r' b = r b := fun b h2 => by rw [hr b, if_neg (fun z => by omega)]
  refine ⟨⟨fun j => ?_, by omega, fun q => ?_, by omega, fun j hj => ?_, fun j hj => ?_, fun j hj q => ?_, ?_, fun b j hb q hl => ?_, ?_⟩, c2, c1⟩
  · have a1 := e1 j
    have a2 := e2 j
    omega
  · have := c2 q; omega
  · have a1 := e1 j
    have a2 := e2 j
    have b1 := bt_le x j
    have b2 := bt_le h j
    have b3 := bt_le n j
    have b4 := i1 j
    rcases i5 j hj with q | q
    · by_cases y : (j : Int) < sz
      · by_cases z : bt n j = 1
        · have := ry j y z
          exact Or.inr ⟨by omega, by omega, by omega, by omega, y⟩
        · have := ro j (by omega)
          exact Or.inl ⟨by omega, by omega⟩
      · have := rz j (by omega)
        exact Or.inl ⟨by omega, by omega⟩
    · have := ro j q.2.2.2.1
      exact Or.inr ⟨by omega, by omega, by omega, by omega, by omega⟩
  · have a1 := e1 j
    have b1 := bt_le x j
    obtain ⟨b, h1, h2, h3⟩ := (hx j).mp (by omega)
    exact Or.inr ⟨b, h1, by rw [ry b h1 h2]; omega, h3⟩
  · have b3 := bt_le n j
    by_cases y : (j : Int) < sz ∧ bt n j = 1
    · have e := ry j y.1 y.2
      rcases i6 j y.2 with z | ⟨b, h1, h2, h3⟩
      · exact Or.inl ⟨by omega, z.2⟩
      · exact Or.inr ⟨b, h1, by rw [ro b (rn b h1 (by omega))]; omega, h3⟩
    · have e : r' j = r j := by rw [hr j, if_neg y]
      rcases i7 j hj (by omega) with z | ⟨b, h1, h2, h3⟩
      · exact Or.inl ⟨by omega, z.2⟩
      · exact Or.inr ⟨b, h1, by rw [ro b (rn b h1 (by omega))]; omega, h3⟩
  · have a2 := e2 f
    have b1 := bt_le x f
    omega
  · have a1 := e1 j
    have a2 := e2 j
    have b1 := bt_le x j
    have b2 := bt_le h j
    have b3 := bt_le n j
    have b4 := i1 j
    have b5 := bt_le n b
    by_cases y : bt n b = 1
    · have e := ry b hb y
      have xx := (hx j).mpr ⟨b, hb, y, hl⟩
      refine ⟨by omega, by omega, fun n0 hj => ?_⟩
      by_cases z : bt n j = 1
      · have := ry j hj z; omega
      · have := ro j (by omega)
        rcases i5 j (by omega) with q | q
        · omega
        · omega
    · have e := ro b (by omega)
      obtain ⟨k1, k2, k3⟩ := i9 b j hb (by omega) hl
      refine ⟨by omega, by omega, fun n0 hj => ?_⟩
      by_cases z : bt n j = 1
      · have := ry j hj z
        have := k2 z
        omega
      · have := ro j (by omega)
        have := k3 (by omega) hj
        omega
  · have a1 := e1 f
    have b1 := bt_le x f
    rcases i10 with q | q
    · refine Or.inr ⟨by omega, by omega, fun hf => ?_⟩
      have := ry f hf q.2
      omega
    · refine Or.inr ⟨by omega, by omega, fun hf => ?_⟩
      have := ro f q.2.1
      have := q.2.2 hf
      omega
theorem q_farI {d : Nat} {Q : Option Value → am_W → Prop} {w00 wb : am_W} (f dd : Int32) (n h : Int64) (hn : n64 n < 2 ^ 36) (hd : 0 ≤ dd.toInt ∧ dd.toInt ≤ 100000) (K : ∀ (w : am_W) (x : Int64) (i : Int32), ab_J ab_TT ab_sets ab_WR w00 w → only [77] wb w → fRow (rI w 77) (rI wb 77) (bt (n64 n)) dd.toInt (szM wb) → n64 x < 2 ^ 36 → fNx (n64 x) (bt (n64 n)) (rL wb 74) (szM wb) → aw none (d + 1) 142 Q (89, [some (.ref 65), some (.int f), some (.long n), none, some (.long h), none, some (.int dd), some (.long x), none, some (.int i)], []) w) : ∀ (m : Nat) (w : am_W) (x : Int64) (i : Int32), (szM wb - i.toInt).toNat < m → 0 ≤ i.toInt → i.toInt ≤ szM wb → ab_J ab_TT ab_sets ab_WR w00 w → only [77] wb w → fRow (rI w 77) (rI wb 77) (bt (n64 n)) dd.toInt i.toInt → n64 x < 2 ^ 36 → fNx (n64 x) (bt (n64 n)) (rL wb 74) i.toInt → aw none (d + 1) 142 Q (44, [some (.ref 65), some (.int f), some (.long n), none, some (.long h), none, some (.int dd), some (.long x), none, some (.int i)], []) w := by
  intro m
  induction m with
  | zero => intro w x i p; omega
  | succ m ih =>
    intro w x i p1 p2 p3 J O F p5 X
    have zz := O.sz (by decide)
    refine aw_step (f1 := (46, [some (.ref 65), some (.int f), some (.long n), none, some (.long h), none, some (.int dd), some (.long x), none, some (.int i)], [(.int i)])) (w1 := w) rfl rfl ?_
    refine aw_step (f1 := (47, [some (.ref 65), some (.int f), some (.long n), none, some (.long h), none, some (.int dd), some (.long x), none, some (.int i)], [(.ref 65), (.int i)])) (w1 := w) rfl rfl ?_
    refine s_cv (z := 113) (p := 65) (as := []) (st1 := [(.int i)]) J 50 rfl rfl rfl rfl rfl rfl rfl rfl (Nat.le_of_ble_eq_true rfl) (Nat.le_of_ble_eq_true rfl) (q_cells J.1) ?_
    rintro _ _ ⟨rfl, x1, rfl, x1t⟩
    refine ⟨rfl, ?_⟩
    show aw none _ 142 _ (50, [some (.ref 65), some (.int f), some (.long n), none, some (.long h), none, some (.int dd), some (.long x), none, some (.int i)], [(.int x1), (.int i)]) w
    have x1s := szM_in J.1
    refine s_ic 89 53 rfl rfl rfl (fun (h2 : x1.toInt ≤ i.toInt) => ?_) (fun (h2 : ¬ (x1.toInt ≤ i.toInt)) => ?_)
    · --
      exact K w x i J O (by rw [← O.sz (by decide), show szM w = i.toInt by omega]; exact F) p5 (by rw [← O.sz (by decide), show szM w = i.toInt by omega]; exact X)
    · --
      refine aw_step (f1 := (54, [some (.ref 65), some (.int f), some (.long n), none, some (.long h), none, some (.int dd), some (.long x), none, some (.int i)], [(.long n)])) (w1 := w) rfl rfl ?_
      refine aw_step (f1 := (56, [some (.ref 65), some (.int f), some (.long n), none, some (.long h), none, some (.int dd), some (.long x), none, some (.int i)], [(.int i), (.long n)])) (w1 := w) rfl rfl ?_
      refine s_cs (z := 110) (as := [(.long n), (.int i)]) (st1 := []) 59 rfl rfl rfl rfl rfl rfl (Nat.le_of_ble_eq_true rfl) (Nat.le_of_ble_eq_true rfl) (Nat.le_of_ble_eq_true rfl) (q_has n i (by omega) (by omega)) ?_
      rintro _ _ ⟨rfl, x3, rfl, x3t⟩
      refine ⟨rfl, ?_⟩
      show aw none _ 142 _ (59, [some (.ref 65), some (.int f), some (.long n), none, some (.long h), none, some (.int dd), some (.long x), none, some (.int i)], [(.int x3)]) w
      have x3l := bt_le (n64 n) i.toInt.toNat
      refine s_if 83 62 rfl rfl rfl (fun (h4 : x3.toInt = 0) => ?_) (fun (h4 : ¬ (x3.toInt = 0)) => ?_)
      · --
        refine aw_step (f1 := (86, [some (.ref 65), some (.int f), some (.long n), none, some (.long h), none, some (.int dd), some (.long x), none, some (.int (i + Int32.ofInt 1))], [])) (w1 := w) rfl rfl ?_
        obtain ⟨x5, x5e⟩ : ∃ z, z = (i + Int32.ofInt 1) := ⟨_, rfl⟩
        have x5t : x5.toInt = i.toInt + (1) := by rw [x5e]; exact n_add (y := Int32.ofInt (1)) (by show _ ≤ _ + (1 : Int); omega) (by show _ + (1 : Int) ≤ _; omega)
        rw [← x5e]
        refine aw_step (f1 := (44, [some (.ref 65), some (.int f), some (.long n), none, some (.long h), none, some (.int dd), some (.long x), none, some (.int x5)], [])) (w1 := w) rfl rfl ?_
        exact ih w x x5 (by omega) (by omega) (by omega) J O (by rw [x5t]; exact F.no p2 (by omega)) p5 (by rw [x5t]; exact X.no p2 (by omega))
      · --
        refine aw_step (f1 := (63, [some (.ref 65), some (.int f), some (.long n), none, some (.long h), none, some (.int dd), some (.long x), none, some (.int i)], [(.ref 65)])) (w1 := w) rfl rfl ?_
        refine s_gr 77 J 66 rfl rfl rfl rfl rfl rfl ?_
        refine aw_step (f1 := (68, [some (.ref 65), some (.int f), some (.long n), none, some (.long h), none, some (.int dd), some (.long x), none, some (.int i)], [(.int i), (.ref 77)])) (w1 := w) rfl rfl ?_
        refine aw_step (f1 := (70, [some (.ref 65), some (.int f), some (.long n), none, some (.long h), none, some (.int dd), some (.long x), none, some (.int i)], [(.int dd), (.int i), (.ref 77)])) (w1 := w) rfl rfl ?_
        refine s_is J 71 rfl rfl rfl rfl (by omega) (by omega) (by omega) (by omega) fun w6 J7 w6e => ?_
        refine aw_step (f1 := (73, [some (.ref 65), some (.int f), some (.long n), none, some (.long h), none, some (.int dd), some (.long x), none, some (.int i)], [(.long x)])) (w1 := w6) rfl rfl ?_
        refine aw_step (f1 := (74, [some (.ref 65), some (.int f), some (.long n), none, some (.long h), none, some (.int dd), some (.long x), none, some (.int i)], [(.ref 65), (.long x)])) (w1 := w6) rfl rfl ?_
        refine s_gr 74 J7 77 rfl rfl rfl rfl rfl rfl ?_
        refine aw_step (f1 := (79, [some (.ref 65), some (.int f), some (.long n), none, some (.long h), none, some (.int dd), some (.long x), none, some (.int i)], [(.int i), (.ref 74), (.long x)])) (w1 := w6) rfl rfl ?_
        refine s_la J7 80 rfl rfl rfl (by omega) (by omega) fun y8 y8a y8b y8f => ?_
        --
        refine s_l (pc1 := 81) (ls1 := [some (.ref 65), some (.int f), some (.long n), none, some (.long h), none, some (.int dd), some (.long x), none, some (.int i)]) (st1 := []) rfl rfl fun y9 e10 => ?_
        have e10 : y9 = x ||| y8 := e10
        --
        refine aw_step (f1 := (83, [some (.ref 65), some (.int f), some (.long n), none, some (.long h), none, some (.int dd), some (.long y9), none, some (.int i)], [])) (w1 := w6) rfl rfl ?_
        refine aw_step (f1 := (86, [some (.ref 65), some (.int f), some (.long n), none, some (.long h), none, some (.int dd), some (.long y9), none, some (.int (i + Int32.ofInt 1))], [])) (w1 := w6) rfl rfl ?_
        obtain ⟨x11, x11e⟩ : ∃ z, z = (i + Int32.ofInt 1) := ⟨_, rfl⟩
        have x11t : x11.toInt = i.toInt + (1) := by rw [x11e]; exact n_add (y := Int32.ofInt (1)) (by show _ ≤ _ + (1 : Int); omega) (by show _ + (1 : Int) ≤ _; omega)
        rw [← x11e]
        refine aw_step (f1 := (44, [some (.ref 65), some (.int f), some (.long n), none, some (.long h), none, some (.int dd), some (.long y9), none, some (.int x11)], [])) (w1 := w6) rfl rfl ?_
        have so := rI_st J.1 (p := 77) (j := i.toInt.toNat) rfl (by omega) w6e
        have ly : n64 y8 = rL wb 74 i.toInt.toNat := by rw [← rL_of y8f, so.1.rLe (by decide), O.rLe (by decide)]
        have xx : n64 y9 = n64 x ||| n64 y8 := by rw [e10, n64_or]
        exact ih w6 y9 x11 (by omega) (by omega) (by omega) J7 (O.trans so.1) (by rw [x11t]; exact F.ye p2 (by omega) so.2.1 so.2.2) (by rw [xx]; exact Nat.or_lt_two_pow p5 (n64_36 (by omega) (by omega))) (by rw [x11t, xx]; exact X.ye p2 (by omega) ly)
theorem fn_and {x h y : Int64} (hy : y.toInt = -1) (hx : n64 x < 2 ^ 36) (j : Nat) : bt (n64 (x &&& (h ^^^ y))) j = min (bt (n64 x) j) (1 - bt (n64 h) j) := by
  rw [n64_and, bt_and]
  by_cases q : j < 64
  · rw [bt_not hy q]
  · rw [bt_hi hx (by omega)]
    omega
noncomputable def QF (w00 wb : am_W) (f : Nat) : Option Value → am_W → Prop := fun r w => r = none ∧ ab_J ab_TT ab_sets ab_WR w00 w ∧ only [77] wb w ∧ fPost (szM wb) f (rL wb 74) (rI w 77)
theorem q_farO {d : Nat} {w00 wb : am_W} (f : Int32) (hf : 0 ≤ f.toInt ∧ f.toInt < 36) : ∀ (m : Nat) (w : am_W) (n h : Int64) (dd : Int32) (o7 o8 o9 : Option Value), 2 * (36 - cnt (n64 h) 36) + min (n64 n) 1 < m → ab_J ab_TT ab_sets ab_WR w00 w → only [77] wb w → n64 n < 2 ^ 36 → fInv (szM wb) f.toInt.toNat (rL wb 74) (rI w 77) (n64 n) (n64 h) dd.toInt → aw none (d + 1) 142 (QF w00 wb f.toInt.toNat) (32, [some (.ref 65), some (.int f), some (.long n), none, some (.long h), none, some (.int dd), o7, o8, o9], []) w := by
  intro m
  induction m with
  | zero => intro w n h dd o7 o8 o9 p; omega
  | succ m ih =>
    intro w n h dd o7 o8 o9 p1 J O p3 I
    have nz := @n64_z n
    have zz := O.sz (by decide)
    have sz := szM_in J.1
    have ch := cnt_le (n64 h) 36
    have i2 := I.2.1
    have i4 := I.2.2.2.1
    refine aw_step (f1 := (33, [some (.ref 65), some (.int f), some (.long n), none, some (.long h), none, some (.int dd), o7, o8, o9], [(.long n)])) (w1 := w) rfl rfl ?_
    refine s_l (pc1 := 34) (ls1 := [some (.ref 65), some (.int f), some (.long n), none, some (.long h), none, some (.int dd), o7, o8, o9]) (st1 := [(.long n)]) rfl rfl fun y1 e2 => ?_
    have e2t : y1.toInt = 0 := by rw [e2]; rfl
    refine s_lc 112 38 35 rfl rfl rfl rfl rfl (fun (h3 : n.toInt = y1.toInt) => ?_) (fun (h3 : ¬ (n.toInt = y1.toInt)) => ?_)
    · --
      refine aw_ret (v := none) rfl rfl ?_
      exact ⟨rfl, J, O, (show n64 n = 0 from n64_z.mp (by omega)) ▸ I |>.post⟩
    · --
      refine s_l (pc1 := 39) (ls1 := [some (.ref 65), some (.int f), some (.long n), none, some (.long h), none, some (.int dd), o7, o8, o9]) (st1 := []) rfl rfl fun y4 e5 => ?_
      have e5t : y4.toInt = 0 := by rw [e5]; rfl
      refine aw_step (f1 := (41, [some (.ref 65), some (.int f), some (.long n), none, some (.long h), none, some (.int dd), some (.long y4), none, o9], [])) (w1 := w) rfl rfl ?_
      refine s_i (pc1 := 42) (ls1 := [some (.ref 65), some (.int f), some (.long n), none, some (.long h), none, some (.int dd), some (.long y4), none, o9]) (st1 := []) rfl rfl fun x6 e7 => ?_
      have e7t : x6.toInt = 0 := by rw [e7]; rfl
      refine aw_step (f1 := (44, [some (.ref 65), some (.int f), some (.long n), none, some (.long h), none, some (.int dd), some (.long y4), none, some (.int x6)], [])) (w1 := w) rfl rfl ?_
      have hx0 : n64 y4 = 0 := by rw [show y4 = 0 from Int64.toInt_inj.mp (by rw [e5t]; rfl)]; rfl
      refine q_farI f dd n h p3 ⟨by omega, by omega⟩ (fun wq x i Jq Oq F px X => ?_) (szM w).toNat.succ w y4 x6 (by omega) (by omega) (by omega) J only.rf (by rw [e7t]; exact fRow.z) (by rw [hx0]; decide) (by rw [e7t, hx0]; exact fNx.z)
      refine aw_step (f1 := (91, [some (.ref 65), some (.int f), some (.long n), none, some (.long h), none, some (.int dd), some (.long x), none, some (.int i)], [(.long x)])) (w1 := wq) rfl rfl ?_
      refine aw_step (f1 := (93, [some (.ref 65), some (.int f), some (.long n), none, some (.long h), none, some (.int dd), some (.long x), none, some (.int i)], [(.long h), (.long x)])) (w1 := wq) rfl rfl ?_
      refine s_l (pc1 := 96) (ls1 := [some (.ref 65), some (.int f), some (.long n), none, some (.long h), none, some (.int dd), some (.long x), none, some (.int i)]) (st1 := [(.long h), (.long x)]) rfl rfl fun zy1 ze2 => ?_
      have ze2t : zy1.toInt = -1 := by rw [ze2]; rfl
      refine s_l (pc1 := 97) (ls1 := [some (.ref 65), some (.int f), some (.long n), none, some (.long h), none, some (.int dd), some (.long x), none, some (.int i)]) (st1 := [(.long x)]) rfl rfl fun zy3 ze4 => ?_
      have ze4 : zy3 = h ^^^ zy1 := ze4
      refine s_l (pc1 := 98) (ls1 := [some (.ref 65), some (.int f), some (.long n), none, some (.long h), none, some (.int dd), some (.long x), none, some (.int i)]) (st1 := []) rfl rfl fun zy5 ze6 => ?_
      have ze6 : zy5 = x &&& zy3 := ze6
      refine aw_step (f1 := (99, [some (.ref 65), some (.int f), some (.long zy5), none, some (.long h), none, some (.int dd), some (.long x), none, some (.int i)], [])) (w1 := wq) rfl rfl ?_
      refine aw_step (f1 := (101, [some (.ref 65), some (.int f), some (.long zy5), none, some (.long h), none, some (.int dd), some (.long x), none, some (.int i)], [(.long h)])) (w1 := wq) rfl rfl ?_
      refine aw_step (f1 := (103, [some (.ref 65), some (.int f), some (.long zy5), none, some (.long h), none, some (.int dd), some (.long x), none, some (.int i)], [(.long x), (.long h)])) (w1 := wq) rfl rfl ?_
      refine s_l (pc1 := 104) (ls1 := [some (.ref 65), some (.int f), some (.long zy5), none, some (.long h), none, some (.int dd), some (.long x), none, some (.int i)]) (st1 := []) rfl rfl fun zy7 ze8 => ?_
      have ze8 : zy7 = h ||| x := ze8
      refine aw_step (f1 := (106, [some (.ref 65), some (.int f), some (.long zy5), none, some (.long zy7), none, some (.int dd), some (.long x), none, some (.int i)], [])) (w1 := wq) rfl rfl ?_
      refine aw_step (f1 := (109, [some (.ref 65), some (.int f), some (.long zy5), none, some (.long zy7), none, some (.int (dd + Int32.ofInt 1)), some (.long x), none, some (.int i)], [])) (w1 := wq) rfl rfl ?_
      obtain ⟨zx9, zx9e⟩ : ∃ z, z = (dd + Int32.ofInt 1) := ⟨_, rfl⟩
      have zx9t : zx9.toInt = dd.toInt + (1) := by rw [zx9e]; exact n_add (y := Int32.ofInt (1)) (by show _ ≤ _ + (1 : Int); omega) (by show _ + (1 : Int) ≤ _; omega)
      rw [← zx9e]
      refine aw_step (f1 := (32, [some (.ref 65), some (.int f), some (.long zy5), none, some (.long zy7), none, some (.int zx9), some (.long x), none, some (.int i)], [])) (w1 := wq) rfl rfl ?_
      have en : ∀ j, bt (n64 zy5) j = min (bt (n64 x) j) (1 - bt (n64 h) j) := fun j => by rw [ze6, ze4]; exact fn_and ze2t px j
      have eh : ∀ j, bt (n64 zy7) j = max (bt (n64 h) j) (bt (n64 x) j) := fun j => by rw [ze8, n64_or, bt_or]
      have zo := O.sz (by decide)
      have lo : rL w 74 = rL wb 74 := by funext b; exact O.rLe (by decide)
      rw [zo] at F
      rw [zo, lo] at X
      obtain ⟨g1, g2, g3⟩ := I.go (by omega) (by omega) F X px en eh zx9t
      have cl := cnt_le (n64 zy7) 36
      exact ih wq zy5 zy7 zx9 _ _ _ (by omega) Jq (O.trans Oq) (by rw [ze6, n64_and]; exact Nat.lt_of_le_of_lt Nat.and_le_left px) g1
theorem q_far0 {d : Nat} {w00 wb : am_W} (f : Int32) (hf : 0 ≤ f.toInt ∧ f.toInt < 36) : ∀ (m : Nat) (w : am_W) (i : Int32), (36 - i.toInt).toNat < m → 0 ≤ i.toInt → i.toInt ≤ 36 → ab_J ab_TT ab_sets ab_WR w00 w → only [77] wb w → (∀ j : Nat, (j : Int) < i.toInt → rI w 77 j = 100000) → aw none (d + 1) 142 (QF w00 wb f.toInt.toNat) (2, [some (.ref 65), some (.int f), some (.int i), none, none, none, none, none, none, none], []) w := by
  intro m
  induction m with
  | zero => intro w i p; omega
  | succ m ih =>
    intro w i p1 p2 p3 J O F
    refine aw_step (f1 := (3, [some (.ref 65), some (.int f), some (.int i), none, none, none, none, none, none, none], [(.int i)])) (w1 := w) rfl rfl ?_
    refine s_i (pc1 := 5) (ls1 := [some (.ref 65), some (.int f), some (.int i), none, none, none, none, none, none, none]) (st1 := [(.int i)]) rfl rfl fun x1 e2 => ?_
    have e2t : x1.toInt = 36 := by rw [e2]; rfl
    refine s_ic 22 8 rfl rfl rfl (fun (h3 : x1.toInt ≤ i.toInt) => ?_) (fun (h3 : ¬ (x1.toInt ≤ i.toInt)) => ?_)
    · --
      refine s_l (pc1 := 23) (ls1 := [some (.ref 65), some (.int f), some (.int i), none, none, none, none, none, none, none]) (st1 := []) rfl rfl fun y4 e5 => ?_
      have e5t : y4.toInt = 1 := by rw [e5]; rfl
      refine aw_step (f1 := (24, [some (.ref 65), some (.int f), some (.int i), none, none, none, none, none, none, none], [(.int f), (.long y4)])) (w1 := w) rfl rfl ?_
      refine s_l (pc1 := 25) (ls1 := [some (.ref 65), some (.int f), some (.int i), none, none, none, none, none, none, none]) (st1 := []) rfl rfl fun y6 e7 => ?_
      have e7 : y6 = y4 <<< (f.toInt64 &&& 63) := e7
      refine aw_step (f1 := (26, [some (.ref 65), some (.int f), some (.long y6), none, none, none, none, none, none, none], [])) (w1 := w) rfl rfl ?_
      refine aw_step (f1 := (27, [some (.ref 65), some (.int f), some (.long y6), none, none, none, none, none, none, none], [(.long y6)])) (w1 := w) rfl rfl ?_
      refine aw_step (f1 := (29, [some (.ref 65), some (.int f), some (.long y6), none, some (.long y6), none, none, none, none, none], [])) (w1 := w) rfl rfl ?_
      refine s_i (pc1 := 30) (ls1 := [some (.ref 65), some (.int f), some (.long y6), none, some (.long y6), none, none, none, none, none]) (st1 := []) rfl rfl fun x8 e9 => ?_
      have e9t : x8.toInt = 0 := by rw [e9]; rfl
      refine aw_step (f1 := (32, [some (.ref 65), some (.int f), some (.long y6), none, some (.long y6), none, some (.int x8), none, none, none], [])) (w1 := w) rfl rfl ?_
      have hn : n64 y6 = 2 ^ f.toInt.toNat := by rw [e7]; exact n64_shl (by omega) (by omega) (by omega)
      have hp : 2 ^ f.toInt.toNat < 2 ^ 36 := Nat.pow_lt_pow_right (by omega) (by omega)
      have sz := szM_in J.1
      have zz := O.sz (by decide)
      have r0 : ∀ j, j < 36 → rI w 77 j = 100000 := fun j hj => F j (by omega)
      have ii := fInv.st (sz := szM wb) (l := rL wb 74) (r := rI w 77) (d := x8.toInt) (by omega) (show f.toInt.toNat < 36 by omega) r0 (by omega)
      rw [← hn] at ii
      exact q_farO f ⟨by omega, by omega⟩ (2 * 36 + 2) w y6 y6 x8 none none none (by omega) J O (by omega) ii
    · --
      refine aw_step (f1 := (9, [some (.ref 65), some (.int f), some (.int i), none, none, none, none, none, none, none], [(.ref 65)])) (w1 := w) rfl rfl ?_
      refine s_gr 77 J 12 rfl rfl rfl rfl rfl rfl ?_
      refine aw_step (f1 := (13, [some (.ref 65), some (.int f), some (.int i), none, none, none, none, none, none, none], [(.int i), (.ref 77)])) (w1 := w) rfl rfl ?_
      refine s_i (pc1 := 15) (ls1 := [some (.ref 65), some (.int f), some (.int i), none, none, none, none, none, none, none]) (st1 := [(.int i), (.ref 77)]) rfl rfl fun x10 e11 => ?_
      have e11t : x10.toInt = 100000 := by rw [e11]; rfl
      refine s_is J 16 rfl rfl rfl rfl (by omega) (by omega) (by omega) (by omega) fun w12 J13 w12e => ?_
      refine aw_step (f1 := (19, [some (.ref 65), some (.int f), some (.int (i + Int32.ofInt 1)), none, none, none, none, none, none, none], [])) (w1 := w12) rfl rfl ?_
      obtain ⟨x14, x14e⟩ : ∃ z, z = (i + Int32.ofInt 1) := ⟨_, rfl⟩
      have x14t : x14.toInt = i.toInt + (1) := by rw [x14e]; exact n_add (y := Int32.ofInt (1)) (by show _ ≤ _ + (1 : Int); omega) (by show _ + (1 : Int) ≤ _; omega)
      rw [← x14e]
      refine aw_step (f1 := (2, [some (.ref 65), some (.int f), some (.int x14), none, none, none, none, none, none, none], [])) (w1 := w12) rfl rfl ?_
      have so := rI_st J.1 (p := 77) (j := i.toInt.toNat) rfl (by omega) w12e
      exact ih w12 x14 (by omega) (by omega) (by omega) J13 (O.trans so.1) (fun j hj => by
        by_cases e : j = i.toInt.toNat
        · rw [e, so.2.1]; omega
        · rw [so.2.2 j e]; exact F j (by omega))
/-- findFar: the row far holds the fewest strides -/
theorem q_findFar {d : Nat} {w : am_W} (f : Int32) (hf : 0 ≤ f.toInt ∧ f.toInt < 36) (I : ab_inv ab_TT ab_sets w) : aw none (d + 1) 142 (QF w w f.toInt.toNat) (0, am_entry 142 [.ref 65, .int f], []) w := by
  have J : ab_J ab_TT ab_sets ab_WR w w := ⟨I, ab_fr.rf⟩
  show aw none (d + 1) 142 _ (0, [some (.ref 65), some (.int f), none, none, none, none, none, none, none, none], []) w
  refine s_i (pc1 := 1) (ls1 := [some (.ref 65), some (.int f), none, none, none, none, none, none, none, none]) (st1 := []) rfl rfl fun x1 e2 => ?_
  have e2t : x1.toInt = 0 := by rw [e2]; rfl
  refine aw_step (f1 := (2, [some (.ref 65), some (.int f), some (.int x1), none, none, none, none, none, none, none], [])) (w1 := w) rfl rfl ?_
  exact q_far0 f hf 37 w x1 (by omega) (by omega) (by omega) J only.rf (fun j hj => by omega)
noncomputable def m_findFar : ab_M := ([(2, 65, 0), (0, 0, 35)], [(none, [(2, 65, 0), (0, 0, 35)])])
theorem ab_vals2 {sets : List (List Nat)} {as : List Value} {t1 t2 : ab_F} (h : ab_vals sets as [t1, t2]) : ∃ v1 v2, as = [v1, v2] ∧ ab_vF sets t1 v1 ∧ ab_vF sets t2 v2 := by
  match as, h with
  | [v1, v2], h => exact ⟨v1, v2, rfl, h.1, h.2.1⟩
  | [], h => exact h.elim
  | [_], h => exact h.2.elim
  | _ :: _ :: _ :: _, h => exact h.2.2.elim
theorem ab_vFr {sets : List (List Nat)} {p : Nat} {hi : Int} {v : Value} (h : ab_vF sets (2, (p : Int), hi) v) : v = .ref p := by
  rcases h with ⟨h, -⟩ | ⟨h, -⟩ | ⟨-, q, rfl, e⟩ | ⟨h, -⟩
  · cases h
  · cases h
  · rw [Int.ofNat_inj.mp e]
  · cases h
theorem ab_vFi {sets : List (List Nat)} {lo hi : Int} {v : Value} (h : ab_vF sets (0, lo, hi) v) : ∃ x : Int32, v = .int x ∧ lo ≤ x.toInt ∧ x.toInt ≤ hi := by
  rcases h with ⟨-, x, rfl, e⟩ | ⟨h, -⟩ | ⟨h, -⟩ | ⟨h, -⟩
  · exact ⟨x, rfl, e⟩
  all_goals cases h
theorem k_findFar : ab_ok ab_TT ab_sets ab_WR 3 142 m_findFar := by
  intro w as hI hv
  obtain ⟨v1, v2, rfl, h1, h2⟩ := ab_vals2 hv
  have h1' := ab_vFr (p := 65) h1
  obtain ⟨x, rfl, a, b⟩ := ab_vFi h2
  subst h1'
  refine ⟨Nat.le_of_ble_eq_true rfl, (q_findFar x ⟨a, by omega⟩ hI).mono ?_⟩
  rintro _ _ ⟨rfl, J, -, -⟩
  exact ⟨J, _, List.mem_singleton.mpr rfl, trivial, hv⟩
