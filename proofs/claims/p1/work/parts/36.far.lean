/-! ===== cells, findFar ===== -/
theorem q_cells {d : Nat} {w : am_W} (I : ab_inv ab_TT ab_sets w) : aw none d 113 (fun r w1 => w = w1 ∧ ∃ b : Int32, r = some (.int b) ∧ b.toInt = szM w) (0, am_entry 113 [.ref 65], []) w := by
  have J : ab_J ab_TT ab_sets ab_WR w w := ⟨I, ab_fr.rf⟩
  show aw none d 113 _ (0, [some (.ref 65)], []) w
  refine aw_step (f1 := (1, [some (.ref 65)], [(.ref 65)])) (w1 := w) rfl rfl ?_
  refine s_gi J 4 rfl rfl rfl rfl rfl rfl fun x1 x1a x1b x1f => ?_
  refine aw_step (f1 := (5, [some (.ref 65)], [(.ref 65), (.int x1)])) (w1 := w) rfl rfl ?_
  refine s_gi J 8 rfl rfl rfl rfl rfl rfl fun x2 x2a x2b x2f => ?_
  refine s_i (pc1 := 9) (ls1 := [some (.ref 65)]) (st1 := []) rfl rfl fun x3 e4 => ?_
  have e4 : x3 = x1 * x2 := e4
  have hm := m6 x1a x1b x2a x2b
  have hz : x3.toInt = szM w := by rw [e4, n_mul (by omega) (by omega)]; unfold szM; rw [fI_of x1f, fI_of x2f]
  refine aw_ret (v := some (.int x3)) rfl rfl ?_
  exact ⟨rfl, x3, rfl, hz⟩
/-! the pure side -/
def fRow (r r0 : Nat → Int) (b : Nat → Nat) (D i : Int) : Prop := ∀ j : Nat, r j = if (j : Int) < i ∧ b j = 1 then D else r0 j
def fNx (x : Nat) (n l : Nat → Nat) (i : Int) : Prop := ∀ j : Nat, bt x j = 1 ↔ ∃ b : Nat, (b : Int) < i ∧ n b = 1 ∧ bt (l b) j = 1
theorem fRow.z {r : Nat → Int} {b : Nat → Nat} {D : Int} : fRow r r b D 0 := fun j => by rw [if_neg (by omega)]
theorem fNx.z {n l : Nat → Nat} : fNx 0 n l 0 := fun j => ⟨fun h => by rw [bt_z] at h; omega, fun ⟨b, h, _⟩ => by omega⟩
theorem fRow.no {r r0 : Nat → Int} {b : Nat → Nat} {D i : Int} (h : fRow r r0 b D i) (hi : 0 ≤ i) (hb : b i.toNat ≠ 1) : fRow r r0 b D (i + 1) := fun j => by
  rw [h j]
  by_cases q : (j : Int) < i ∧ b j = 1
  · rw [if_pos q, if_pos ⟨by omega, q.2⟩]
  · rw [if_neg q, if_neg]
    intro z
    by_cases e : j = i.toNat
    · exact hb (by rw [← e]; exact z.2)
    · exact q ⟨by omega, z.2⟩
theorem fRow.ye {r r0 r1 : Nat → Int} {b : Nat → Nat} {D i : Int} (h : fRow r r0 b D i) (hi : 0 ≤ i) (hb : b i.toNat = 1) (h1 : r1 i.toNat = D) (h2 : ∀ j, j ≠ i.toNat → r1 j = r j) : fRow r1 r0 b D (i + 1) := fun j => by
  by_cases e : j = i.toNat
  · rw [e, h1, if_pos ⟨by omega, hb⟩]
  · rw [h2 j e, h j]
    by_cases q : (j : Int) < i ∧ b j = 1
    · rw [if_pos q, if_pos ⟨by omega, q.2⟩]
    · rw [if_neg q, if_neg (fun z => q ⟨by omega, z.2⟩)]
theorem fNx.no {x : Nat} {n l : Nat → Nat} {i : Int} (h : fNx x n l i) (hi : 0 ≤ i) (hb : n i.toNat ≠ 1) : fNx x n l (i + 1) := fun j => by
  rw [h j]
  constructor
  · rintro ⟨b, h1, h2⟩
    exact ⟨b, by omega, h2⟩
  · rintro ⟨b, h1, h2, h3⟩
    refine ⟨b, ?_, h2, h3⟩
    by_cases e : b = i.toNat
    · rw [e] at h2; exact absurd h2 hb
    · omega
theorem fNx.ye {x y : Nat} {n l : Nat → Nat} {i : Int} (h : fNx x n l i) (hi : 0 ≤ i) (hb : n i.toNat = 1) (hy : y = l i.toNat) : fNx (x ||| y) n l (i + 1) := fun j => by
  rw [bt_or, hy]
  have b1 := bt_le x j
  have b2 := bt_le (l i.toNat) j
  constructor
  · intro q
    by_cases e : bt x j = 1
    · obtain ⟨b, h1, h2⟩ := (h j).mp e
      exact ⟨b, by omega, h2⟩
    · exact ⟨i.toNat, by omega, hb, by omega⟩
  · rintro ⟨b, h1, h2, h3⟩
    by_cases e : b = i.toNat
    · rw [e] at h3; omega
    · have := (h j).mpr ⟨b, by omega, h2, h3⟩
      omega
def fInv (sz : Int) (f : Nat) (l : Nat → Nat) (r : Nat → Int) (n h : Nat) (d : Int) : Prop :=
  (∀ j, bt n j ≤ bt h j) ∧ 0 ≤ d ∧ (n ≠ 0 → d + 1 ≤ cnt h 36) ∧ d ≤ cnt h 36 ∧
  (∀ j : Nat, j < 36 → (r j = 100000 ∧ (bt h j = 0 ∨ bt n j = 1 ∨ sz ≤ j)) ∨ (0 ≤ r j ∧ r j < d ∧ bt h j = 1 ∧ bt n j = 0 ∧ (j : Int) < sz)) ∧
  (∀ j : Nat, bt n j = 1 → (d = 0 ∧ j = f) ∨ ∃ b : Nat, (b : Int) < sz ∧ r b = d - 1 ∧ bt (l b) j = 1) ∧
  (∀ j : Nat, j < 36 → r j < 100000 → (r j = 0 ∧ j = f) ∨ ∃ b : Nat, (b : Int) < sz ∧ r b = r j - 1 ∧ bt (l b) j = 1) ∧
  bt h f = 1 ∧
  (∀ b j : Nat, (b : Int) < sz → r b < 100000 → bt (l b) j = 1 → bt h j = 1 ∧ (bt n j = 1 → d ≤ r b + 1) ∧ (bt n j = 0 → (j : Int) < sz → r j ≤ r b + 1)) ∧
  ((d = 0 ∧ bt n f = 1) ∨ (0 < d ∧ bt n f = 0 ∧ ((f : Int) < sz → r f = 0)))
def fPost (sz : Int) (f : Nat) (l : Nat → Nat) (r : Nat → Int) : Prop :=
  (∀ j : Nat, j < 36 → r j = 100000 ∨ (0 ≤ r j ∧ r j < 36 ∧ (j : Int) < sz)) ∧ ((f : Int) < sz → r f = 0) ∧
  (∀ j : Nat, j < 36 → r j < 100000 → (r j = 0 ∧ j = f) ∨ ∃ b : Nat, (b : Int) < sz ∧ r b = r j - 1 ∧ bt (l b) j = 1) ∧
  (∀ b j : Nat, (b : Int) < sz → (j : Int) < sz → r b < 100000 → bt (l b) j = 1 → r j ≤ r b + 1)
theorem fInv.post {sz : Int} {f : Nat} {l : Nat → Nat} {r : Nat → Int} {h : Nat} {d : Int} (I : fInv sz f l r 0 h d) : fPost sz f l r := by
  obtain ⟨i1, i2, i3, i4, i5, i6, i7, i8, i9, i10⟩ := I
  have hc := cnt_le h 36
  refine ⟨fun j hj => ?_, fun hf => ?_, i7, fun b j hb hj hr hl => (i9 b j hb hr hl).2.2 (bt_z j) hj⟩
  · rcases i5 j hj with q | q
    · exact Or.inl q.1
    · exact Or.inr ⟨q.1, by omega, q.2.2.2.2⟩
  · rcases i10 with q | q
    · rw [bt_z] at q; omega
    · exact q.2.2 hf
theorem fInv.st {sz : Int} {f : Nat} {l : Nat → Nat} {r : Nat → Int} {d : Int} (hsz : sz ≤ 36) (hf : f < 36) (r0 : ∀ j, j < 36 → r j = 100000) (hd : d = 0) : fInv sz f l r (2 ^ f) (2 ^ f) d := by
  have bf : bt (2 ^ f) f = 1 := by rw [bt_pow, if_pos rfl]
  have cf : 0 < cnt (2 ^ f) 36 := bt_pos hf (by omega)
  refine ⟨fun j => Nat.le_refl _, by omega, fun _ => by omega, by omega, fun j hj => ?_, fun j hj => ?_, fun j hj h => ?_, bf, fun b j hb h => ?_, Or.inl ⟨hd, bf⟩⟩
  · refine Or.inl ⟨r0 j hj, ?_⟩
    have := bt_le (2 ^ f) j
    omega
  · refine Or.inl ⟨hd, ?_⟩
    rw [bt_pow] at hj
    by_cases e : f = j
    · exact e.symm
    · rw [if_neg e] at hj; omega
  · have := r0 j hj; omega
  · have := r0 b (by omega); omega
theorem fInv.go {sz : Int} {f : Nat} {l : Nat → Nat} {r r' : Nat → Int} {n h x n' h' : Nat} {d d' : Int} (I : fInv sz f l r n h d) (hsz : sz ≤ 36) (hn : n ≠ 0) (hr : fRow r' r (bt n) d sz) (hx : fNx x (bt n) l sz) (x36 : x < 2 ^ 36) (e1 : ∀ j, bt n' j = min (bt x j) (1 - bt h j)) (e2 : ∀ j, bt h' j = max (bt h j) (bt x j)) (ed : d' = d + 1) : fInv sz f l r' n' h' d' ∧ (n' ≠ 0 → cnt h 36 < cnt h' 36) ∧ cnt h 36 ≤ cnt h' 36 := by
  obtain ⟨i1, i2, i3, i4, i5, i6, i7, i8, i9, i10⟩ := I
  have i3 := i3 hn
  have hc := cnt_le h 36
  have L : ∀ j, bt h j ≤ bt h' j := fun j => by have := e2 j; omega
  have c1 := cnt_sub L 36
  have c2 : n' ≠ 0 → cnt h 36 < cnt h' 36 := by
    intro q
    obtain ⟨j, hj⟩ := bt_some q
    have a1 := e1 j
    have a2 := e2 j
    have a3 := @bt_hi x 36 j x36
    have b1 := bt_le x j
    have b2 := bt_le h j
    exact cnt_lt L (i := j) (by omega) 36 (by omega)
  have rn : ∀ b : Nat, (b : Int) < sz → r b < 100000 → bt n b = 0 := by
    intro b hb h1
    rcases i5 b (by omega) with q | q
    · omega
    · exact q.2.2.2.1
  have ry : ∀ b : Nat, (b : Int) < sz → bt n b = 1 → r' b = d := fun b h1 h2 => by rw [hr b, if_pos ⟨h1, h2⟩]
  have ro : ∀ b : Nat, bt n b = 0 → r' b = r b := fun b h2 => by rw [hr b, if_neg (fun z => by omega)]
  have rz : ∀ b : Nat, sz ≤ b → r' b = r b := fun b h2 => by rw [hr b, if_neg (fun z => by omega)]
  refine ⟨⟨fun j => ?_, by omega, fun q => ?_, by omega, fun j hj => ?_, fun j hj => ?_, fun j hj q => ?_, ?_, fun b j hb q hl => ?_, ?_⟩, c2, c1⟩
  · have a1 := e1 j
    have a2 := e2 j
    omega
  · have := c2 q; omega
  · have a1 := e1 j
    have a2 := e2 j
    have b1 := bt_le x j
    have b2 := bt_le h j
    have b3 := bt_le n j
    have b4 := i1 j
    rcases i5 j hj with q | q
    · by_cases y : (j : Int) < sz
      · by_cases z : bt n j = 1
        · have := ry j y z
          exact Or.inr ⟨by omega, by omega, by omega, by omega, y⟩
        · have := ro j (by omega)
          exact Or.inl ⟨by omega, by omega⟩
      · have := rz j (by omega)
        exact Or.inl ⟨by omega, by omega⟩
    · have := ro j q.2.2.2.1
      exact Or.inr ⟨by omega, by omega, by omega, by omega, by omega⟩
  · have a1 := e1 j
    have b1 := bt_le x j
    obtain ⟨b, h1, h2, h3⟩ := (hx j).mp (by omega)
    exact Or.inr ⟨b, h1, by rw [ry b h1 h2]; omega, h3⟩
  · have b3 := bt_le n j
    by_cases y : (j : Int) < sz ∧ bt n j = 1
    · have e := ry j y.1 y.2
      rcases i6 j y.2 with z | ⟨b, h1, h2, h3⟩
      · exact Or.inl ⟨by omega, z.2⟩
      · exact Or.inr ⟨b, h1, by rw [ro b (rn b h1 (by omega))]; omega, h3⟩
    · have e : r' j = r j := by rw [hr j, if_neg y]
      rcases i7 j hj (by omega) with z | ⟨b, h1, h2, h3⟩
      · exact Or.inl ⟨by omega, z.2⟩
      · exact Or.inr ⟨b, h1, by rw [ro b (rn b h1 (by omega))]; omega, h3⟩
  · have a2 := e2 f
    have b1 := bt_le x f
    omega
  · have a1 := e1 j
    have a2 := e2 j
    have b1 := bt_le x j
    have b2 := bt_le h j
    have b3 := bt_le n j
    have b4 := i1 j
    have b5 := bt_le n b
    by_cases y : bt n b = 1
    · have e := ry b hb y
      have xx := (hx j).mpr ⟨b, hb, y, hl⟩
      refine ⟨by omega, by omega, fun n0 hj => ?_⟩
      by_cases z : bt n j = 1
      · have := ry j hj z; omega
      · have := ro j (by omega)
        rcases i5 j (by omega) with q | q
        · omega
        · omega
    · have e := ro b (by omega)
      obtain ⟨k1, k2, k3⟩ := i9 b j hb (by omega) hl
      refine ⟨by omega, by omega, fun n0 hj => ?_⟩
      by_cases z : bt n j = 1
      · have := ry j hj z
        have := k2 z
        omega
      · have := ro j (by omega)
        have := k3 (by omega) hj
        omega
  · have a1 := e1 f
    have b1 := bt_le x f
    rcases i10 with q | q
    · refine Or.inr ⟨by omega, by omega, fun hf => ?_⟩
      have := ry f hf q.2
      omega
    · refine Or.inr ⟨by omega, by omega, fun hf => ?_⟩
      have := ro f q.2.1
      have := q.2.2 hf
      omega
theorem q_farI {d : Nat} {Q : Option Value → am_W → Prop} {w00 wb : am_W} (f dd : Int32) (n h : Int64) (hn : n64 n < 2 ^ 36) (hd : 0 ≤ dd.toInt ∧ dd.toInt ≤ 100000) (K : ∀ (w : am_W) (x : Int64) (i : Int32), ab_J ab_TT ab_sets ab_WR w00 w → only [77] wb w → fRow (rI w 77) (rI wb 77) (bt (n64 n)) dd.toInt (szM wb) → n64 x < 2 ^ 36 → fNx (n64 x) (bt (n64 n)) (rL wb 74) (szM wb) → aw none (d + 1) 142 Q (89, [some (.ref 65), some (.int f), some (.long n), none, some (.long h), none, some (.int dd), some (.long x), none, some (.int i)], []) w) : ∀ (m : Nat) (w : am_W) (x : Int64) (i : Int32), (szM wb - i.toInt).toNat < m → 0 ≤ i.toInt → i.toInt ≤ szM wb → ab_J ab_TT ab_sets ab_WR w00 w → only [77] wb w → fRow (rI w 77) (rI wb 77) (bt (n64 n)) dd.toInt i.toInt → n64 x < 2 ^ 36 → fNx (n64 x) (bt (n64 n)) (rL wb 74) i.toInt → aw none (d + 1) 142 Q (44, [some (.ref 65), some (.int f), some (.long n), none, some (.long h), none, some (.int dd), some (.long x), none, some (.int i)], []) w := by
  intro m
  induction m with
  | zero => intro w x i p; omega
  | succ m ih =>
    intro w x i p1 p2 p3 J O F p5 X
    have zz := O.sz (by decide)
    refine aw_step (f1 := (46, [some (.ref 65), some (.int f), some (.long n), none, some (.long h), none, some (.int dd), some (.long x), none, some (.int i)], [(.int i)])) (w1 := w) rfl rfl ?_
    refine aw_step (f1 := (47, [some (.ref 65), some (.int f), some (.long n), none, some (.long h), none, some (.int dd), some (.long x), none, some (.int i)], [(.ref 65), (.int i)])) (w1 := w) rfl rfl ?_
    refine s_cv (z := 113) (p := 65) (as := []) (st1 := [(.int i)]) J 50 rfl rfl rfl rfl rfl rfl rfl rfl (Nat.le_of_ble_eq_true rfl) (Nat.le_of_ble_eq_true rfl) (q_cells J.1) ?_
    rintro _ _ ⟨rfl, x1, rfl, x1t⟩
    refine ⟨rfl, ?_⟩
    show aw none _ 142 _ (50, [some (.ref 65), some (.int f), some (.long n), none, some (.long h), none, some (.int dd), some (.long x), none, some (.int i)], [(.int x1), (.int i)]) w
    have x1s := szM_in J.1
    refine s_ic 89 53 rfl rfl rfl (fun (h2 : x1.toInt ≤ i.toInt) => ?_) (fun (h2 : ¬ (x1.toInt ≤ i.toInt)) => ?_)
    · --
      exact K w x i J O (by rw [← O.sz (by decide), show szM w = i.toInt by omega]; exact F) p5 (by rw [← O.sz (by decide), show szM w = i.toInt by omega]; exact X)
    · --
      refine aw_step (f1 := (54, [some (.ref 65), some (.int f), some (.long n), none, some (.long h), none, some (.int dd), some (.long x), none, some (.int i)], [(.long n)])) (w1 := w) rfl rfl ?_
      refine aw_step (f1 := (56, [some (.ref 65), some (.int f), some (.long n), none, some (.long h), none, some (.int dd), some (.long x), none, some (.int i)], [(.int i), (.long n)])) (w1 := w) rfl rfl ?_
      refine s_cs (z := 110) (as := [(.long n), (.int i)]) (st1 := []) 59 rfl rfl rfl rfl rfl rfl (Nat.le_of_ble_eq_true rfl) (Nat.le_of_ble_eq_true rfl) (Nat.le_of_ble_eq_true rfl) (q_has n i (by omega) (by omega)) ?_
      rintro _ _ ⟨rfl, x3, rfl, x3t⟩
      refine ⟨rfl, ?_⟩
      show aw none _ 142 _ (59, [some (.ref 65), some (.int f), some (.long n), none, some (.long h), none, some (.int dd), some (.long x), none, some (.int i)], [(.int x3)]) w
      have x3l := bt_le (n64 n) i.toInt.toNat
      refine s_if 83 62 rfl rfl rfl (fun (h4 : x3.toInt = 0) => ?_) (fun (h4 : ¬ (x3.toInt = 0)) => ?_)
      · --
        refine aw_step (f1 := (86, [some (.ref 65), some (.int f), some (.long n), none, some (.long h), none, some (.int dd), some (.long x), none, some (.int (i + Int32.ofInt 1))], [])) (w1 := w) rfl rfl ?_
        obtain ⟨x5, x5e⟩ : ∃ z, z = (i + Int32.ofInt 1) := ⟨_, rfl⟩
        have x5t : x5.toInt = i.toInt + (1) := by rw [x5e]; exact n_add (y := Int32.ofInt (1)) (by show _ ≤ _ + (1 : Int); omega) (by show _ + (1 : Int) ≤ _; omega)
        rw [← x5e]
        refine aw_step (f1 := (44, [some (.ref 65), some (.int f), some (.long n), none, some (.long h), none, some (.int dd), some (.long x), none, some (.int x5)], [])) (w1 := w) rfl rfl ?_
        exact ih w x x5 (by omega) (by omega) (by omega) J O (by rw [x5t]; exact F.no p2 (by omega)) p5 (by rw [x5t]; exact X.no p2 (by omega))
      · --
        refine aw_step (f1 := (63, [some (.ref 65), some (.int f), some (.long n), none, some (.long h), none, some (.int dd), some (.long x), none, some (.int i)], [(.ref 65)])) (w1 := w) rfl rfl ?_
        refine s_gr 77 J 66 rfl rfl rfl rfl rfl rfl ?_
        refine aw_step (f1 := (68, [some (.ref 65), some (.int f), some (.long n), none, some (.long h), none, some (.int dd), some (.long x), none, some (.int i)], [(.int i), (.ref 77)])) (w1 := w) rfl rfl ?_
        refine aw_step (f1 := (70, [some (.ref 65), some (.int f), some (.long n), none, some (.long h), none, some (.int dd), some (.long x), none, some (.int i)], [(.int dd), (.int i), (.ref 77)])) (w1 := w) rfl rfl ?_
        refine s_is J 71 rfl rfl rfl rfl (by omega) (by omega) (by omega) (by omega) fun w6 J7 w6e => ?_
        refine aw_step (f1 := (73, [some (.ref 65), some (.int f), some (.long n), none, some (.long h), none, some (.int dd), some (.long x), none, some (.int i)], [(.long x)])) (w1 := w6) rfl rfl ?_
        refine aw_step (f1 := (74, [some (.ref 65), some (.int f), some (.long n), none, some (.long h), none, some (.int dd), some (.long x), none, some (.int i)], [(.ref 65), (.long x)])) (w1 := w6) rfl rfl ?_
        refine s_gr 74 J7 77 rfl rfl rfl rfl rfl rfl ?_
        refine aw_step (f1 := (79, [some (.ref 65), some (.int f), some (.long n), none, some (.long h), none, some (.int dd), some (.long x), none, some (.int i)], [(.int i), (.ref 74), (.long x)])) (w1 := w6) rfl rfl ?_
        refine s_la J7 80 rfl rfl rfl (by omega) (by omega) fun y8 y8a y8b y8f => ?_
        --
        refine s_l (pc1 := 81) (ls1 := [some (.ref 65), some (.int f), some (.long n), none, some (.long h), none, some (.int dd), some (.long x), none, some (.int i)]) (st1 := []) rfl rfl fun y9 e10 => ?_
        have e10 : y9 = x ||| y8 := e10
        --
        refine aw_step (f1 := (83, [some (.ref 65), some (.int f), some (.long n), none, some (.long h), none, some (.int dd), some (.long y9), none, some (.int i)], [])) (w1 := w6) rfl rfl ?_
        refine aw_step (f1 := (86, [some (.ref 65), some (.int f), some (.long n), none, some (.long h), none, some (.int dd), some (.long y9), none, some (.int (i + Int32.ofInt 1))], [])) (w1 := w6) rfl rfl ?_
        obtain ⟨x11, x11e⟩ : ∃ z, z = (i + Int32.ofInt 1) := ⟨_, rfl⟩
        have x11t : x11.toInt = i.toInt + (1) := by rw [x11e]; exact n_add (y := Int32.ofInt (1)) (by show _ ≤ _ + (1 : Int); omega) (by show _ + (1 : Int) ≤ _; omega)
        rw [← x11e]
        refine aw_step (f1 := (44, [some (.ref 65), some (.int f), some (.long n), none, some (.long h), none, some (.int dd), some (.long y9), none, some (.int x11)], [])) (w1 := w6) rfl rfl ?_
        have so := rI_st J.1 (p := 77) (j := i.toInt.toNat) rfl (by omega) w6e
        have ly : n64 y8 = rL wb 74 i.toInt.toNat := by rw [← rL_of y8f, so.1.rLe (by decide), O.rLe (by decide)]
        have xx : n64 y9 = n64 x ||| n64 y8 := by rw [e10, n64_or]
        exact ih w6 y9 x11 (by omega) (by omega) (by omega) J7 (O.trans so.1) (by rw [x11t]; exact F.ye p2 (by omega) so.2.1 so.2.2) (by rw [xx]; exact Nat.or_lt_two_pow p5 (n64_36 (by omega) (by omega))) (by rw [x11t, xx]; exact X.ye p2 (by omega) ly)
