/-! BOXES: behind the first n of the boxes h, on pages of height ht with the gap g: the page, the top on it, the bottom -/
def bq (h : Nat → Int32) (ht g t0 : Int) : Nat → Int × Int × Int
  | 0 => (-1, t0, 0)
  | n + 1 => if (bq h ht g t0 n).1 ≠ -1 ∧ (bq h ht g t0 n).2.2 + g + (h n).toInt ≤ ht then ((bq h ht g t0 n).1, (bq h ht g t0 n).2.2 + g, (bq h ht g t0 n).2.2 + g + (h n).toInt) else ((bq h ht g t0 n).1 + 1, 0, (h n).toInt)
theorem bq_fit {h : Nat → Int32} {ht g t0 P T B : Int} {k : Nat} (hst : bq h ht g t0 k = (P, T, B)) (h1 : P ≠ -1) (h2 : B + g + (h k).toInt ≤ ht) : bq h ht g t0 (k + 1) = (P, B + g, B + g + (h k).toInt) := by
  rw [bq, hst]
  exact if_pos ⟨h1, h2⟩
theorem bq_new {h : Nat → Int32} {ht g t0 P T B : Int} {k : Nat} (hst : bq h ht g t0 k = (P, T, B)) (h1 : P = -1 ∨ ht < B + g + (h k).toInt) : bq h ht g t0 (k + 1) = (P + 1, 0, (h k).toInt) := by
  rw [bq, hst]
  exact if_neg (fun q => by have q1 := q.1; have q2 := q.2; dsimp only at q1 q2; omega)
theorem bq_bnd {h : Nat → Int32} {ht g t0 : Int} (hg : 0 ≤ g) : ∀ (n : Nat) (P T B : Int), bq h ht g t0 n = (P, T, B) → (∀ j, j < n → 1 ≤ (h j).toInt ∧ (h j).toInt ≤ 1000) → ht ≤ 1000 → -1 ≤ P ∧ P < n ∧ 0 ≤ B ∧ B ≤ 1000 ∧ (0 < n → 0 ≤ P ∧ 0 ≤ T ∧ T ≤ 1000) := by
  intro n
  induction n with
  | zero => intro P T B h1 _ _; rw [bq] at h1; cases h1; omega
  | succ n ih =>
    intro P T B h1 h2 h3
    obtain ⟨P0, T0, B0⟩ : Int × Int × Int := bq h ht g t0 n
    rcases hq : bq h ht g t0 n with ⟨P1, T1, B1⟩
    have h4 := ih P1 T1 B1 hq (fun j hj => h2 j (by omega)) h3
    have h5 := h2 n (by omega)
    rw [bq, hq] at h1
    dsimp only at h1
    split at h1
    · cases h1; omega
    · cases h1; omega
theorem bq_t0 {h : Nat → Int32} {ht g t0 : Int} : ∀ n : Nat, bq h ht g t0 (n + 1) = bq h ht g 0 (n + 1) := by
  intro n
  induction n with
  | zero => simp [bq]
  | succ n ih => rw [bq, ih, ← bq]
theorem bq_t1 {h : Nat → Int32} {ht g t0 : Int} (n : Nat) : (bq h ht g t0 n).1 = (bq h ht g 0 n).1 := by
  cases n with
  | zero => rfl
  | succ n => rw [bq_t0]
def bq_ok (ht g : Int) : Prop := 1 ≤ ht ∧ ht ≤ 1000 ∧ 0 ≤ g ∧ g ≤ 100
def bq_I (cnt : Int32) (hgt : Nat → Int32) : Prop := ∃ n : Nat, cnt.toInt = (n : Int) ∧ n ≤ 60 ∧ ∀ j, j < n → 1 ≤ (hgt j).toInt ∧ (hgt j).toInt ≤ 1000
/-- box(p): r the answer -/
def bq_add (cnt : Int32) (hgt : Nat → Int32) (p r cnt' : Int32) (hgt' : Nat → Int32) : Prop := (1 ≤ p.toInt ∧ p.toInt ≤ 1000 ∧ cnt.toInt < 60 ∧ r.toInt = cnt.toInt ∧ cnt'.toInt = cnt.toInt + 1 ∧ hgt' = upd hgt cnt.toInt.toNat p) ∨ ((p.toInt < 1 ∨ 1000 < p.toInt ∨ 60 ≤ cnt.toInt) ∧ r.toInt = -1 ∧ cnt' = cnt ∧ hgt' = hgt)
def bq_pages (cnt : Int32) (hgt : Nat → Int32) (ht g r : Int32) : Prop := (bq_ok ht.toInt g.toInt ∧ r.toInt = (bq hgt ht.toInt g.toInt 0 cnt.toInt.toNat).1 + 1) ∨ (¬ bq_ok ht.toInt g.toInt ∧ r.toInt = -1)
def bq_put (cnt : Int32) (hgt : Nat → Int32) (b ht g w r : Int32) : Prop := (bq_ok ht.toInt g.toInt ∧ 0 ≤ b.toInt ∧ b.toInt < cnt.toInt ∧ ((w.toInt = 0 ∧ r.toInt = (bq hgt ht.toInt g.toInt 0 (b.toInt.toNat + 1)).1) ∨ (w.toInt = 1 ∧ r.toInt = (bq hgt ht.toInt g.toInt 0 (b.toInt.toNat + 1)).2.1))) ∨ (¬ (bq_ok ht.toInt g.toInt ∧ 0 ≤ b.toInt ∧ b.toInt < cnt.toInt ∧ (w.toInt = 0 ∨ w.toInt = 1)) ∧ r.toInt = -1)
def cd_u (x : Int32) (k : Int32) : Int32 := (x.toUInt32 >>> (k.toUInt32 &&& Int32.toUInt32 31)).toInt32
def cd_b1 (i : Int32) : Int32 := i - ((i.toUInt32 >>> ((1 : Int32).toUInt32 &&& Int32.toUInt32 31)).toInt32 &&& 1431655765)
def cd_b2 (i : Int32) : Int32 := (i &&& 858993459) + ((i.toUInt32 >>> ((2 : Int32).toUInt32 &&& Int32.toUInt32 31)).toInt32 &&& 858993459)
def cd_b3 (i : Int32) : Int32 := (i + (i.toUInt32 >>> ((4 : Int32).toUInt32 &&& Int32.toUInt32 31)).toInt32) &&& 252645135
def cd_b4 (i : Int32) : Int32 := i + (i.toUInt32 >>> ((8 : Int32).toUInt32 &&& Int32.toUInt32 31)).toInt32
def cd_b5 (i : Int32) : Int32 := i + (i.toUInt32 >>> ((16 : Int32).toUInt32 &&& Int32.toUInt32 31)).toInt32
def cd_bc (i : Int32) : Int32 := cd_b5 (cd_b4 (cd_b3 (cd_b2 (cd_b1 i)))) &&& 63
/-! CODE: rows of nine bits -/
def cd_odd (x : Int32) : Bool := decide (cd_bc x &&& 1 = 1)
def cd_enc (b : Int32) : Int32 := (b <<< ((1 : Int32) &&& 31)) ||| (if cd_odd b = true then 1 else 0)
def cd_x (f : Nat → Int32) : Nat → Int32
  | 0 => 0
  | n + 1 => cd_x f n ^^^ f n
def cd_c (f : Nat → Int32) : Nat → Nat
  | 0 => 0
  | n + 1 => if cd_odd (f n) = true then cd_c f n + 1 else cd_c f n
def cd_l (f : Nat → Int32) : Nat → Nat
  | 0 => 0
  | n + 1 => if cd_odd (f n) = true then n else cd_l f n
theorem cd_c_le (f : Nat → Int32) : ∀ n, cd_c f n ≤ n := by
  intro n
  induction n with
  | zero => exact Nat.le_refl _
  | succ n ih => rw [cd_c]; split <;> omega
theorem cd_l_lt (f : Nat → Int32) : ∀ n, 0 < n → cd_l f n < n := by
  intro n
  induction n with
  | zero => intro h; omega
  | succ n ih =>
    intro _
    rw [cd_l]
    split
    · omega
    · rcases Nat.eq_zero_or_pos n with rfl | h
      · exact Nat.lt_succ_self _
      · have := ih h; omega
theorem cd_x_congr {f g : Nat → Int32} : ∀ n, (∀ j, j < n → f j = g j) → cd_x f n = cd_x g n := by
  intro n
  induction n with
  | zero => intro _; rfl
  | succ n ih => intro h; rw [cd_x, cd_x, ih (fun j hj => h j (by omega)), h n (by omega)]
theorem cd_stp {v : Int32} {byt g : Nat → Int32} {k : Nat} (hv : v = cd_enc (byt k)) (hg : ∀ y : Nat, y < k → g y = cd_enc (byt y)) : ∀ y : Nat, y < k + 1 → upd g k v y = cd_enc (byt y) := by
  intro y hy
  by_cases q : y = k
  · rw [q, xi_upd_s]; exact hv
  · rw [xi_upd_n q]; exact hg y (by omega)
def cd_ok (cnt : Int32) (x y : Int) : Prop := 0 < cnt.toInt ∧ 0 ≤ x ∧ x ≤ 8 ∧ 0 ≤ y ∧ y ≤ cnt.toInt
def cd_add (cnt : Int32) (byt bit : Nat → Int32) (p r cnt' : Int32) (byt' bit' : Nat → Int32) : Prop := (0 ≤ p.toInt ∧ p.toInt ≤ 255 ∧ cnt.toInt < 12 ∧ r.toInt = 1 ∧ cnt'.toInt = cnt.toInt + 1 ∧ byt' = upd byt cnt.toInt.toNat p ∧ (∀ y : Nat, (y : Int) ≤ cnt.toInt → bit' y = cd_enc (byt' y)) ∧ bit' (cnt.toInt.toNat + 1) = cd_x (fun y => cd_enc (byt' y)) (cnt.toInt.toNat + 1)) ∨ ((p.toInt < 0 ∨ 255 < p.toInt ∨ 12 ≤ cnt.toInt) ∧ r.toInt = 0 ∧ cnt' = cnt ∧ byt' = byt ∧ bit' = bit)
def cd_dark (cnt : Int32) (bit : Nat → Int32) (x y r : Int32) : Prop := (cd_ok cnt x.toInt y.toInt ∧ ((r.toInt = 1 ∧ (bit y.toInt.toNat >>> ((8 - x) &&& 31)) &&& 1 = 1) ∨ (r.toInt = 0 ∧ ¬ (bit y.toInt.toNat >>> ((8 - x) &&& 31)) &&& 1 = 1))) ∨ (¬ cd_ok cnt x.toInt y.toInt ∧ r.toInt = 0)
def cd_spoil (cnt : Int32) (bit : Nat → Int32) (x y r : Int32) (bit' : Nat → Int32) : Prop := (cd_ok cnt x.toInt y.toInt ∧ r.toInt = 1 ∧ bit' = upd bit y.toInt.toNat (bit y.toInt.toNat ^^^ (1 <<< ((8 - x) &&& 31)))) ∨ (¬ cd_ok cnt x.toInt y.toInt ∧ r.toInt = 0 ∧ bit' = bit)
def cd_read (cnt : Int32) (bit : Nat → Int32) (r : Int32) (bit' : Nat → Int32) : Prop := (cnt.toInt = 0 ∧ r.toInt = -1 ∧ bit' = bit) ∨ (cnt.toInt ≠ 0 ∧ ((cd_c bit (cnt.toInt.toNat + 1) = 0 ∧ cd_x bit (cnt.toInt.toNat + 1) = 0 ∧ r.toInt = 0 ∧ bit' = bit) ∨ (¬ (cd_c bit (cnt.toInt.toNat + 1) = 0 ∧ cd_x bit (cnt.toInt.toNat + 1) = 0) ∧ ¬ (cd_c bit (cnt.toInt.toNat + 1) = 1 ∧ cd_bc (cd_x bit (cnt.toInt.toNat + 1)) = 1) ∧ r.toInt = -1 ∧ bit' = bit) ∨ (cd_c bit (cnt.toInt.toNat + 1) = 1 ∧ cd_bc (cd_x bit (cnt.toInt.toNat + 1)) = 1 ∧ r.toInt = 1 ∧ bit' = upd bit (cd_l bit (cnt.toInt.toNat + 1)) (bit (cd_l bit (cnt.toInt.toNat + 1)) ^^^ cd_x bit (cnt.toInt.toNat + 1)))))
def cd_byte (cnt : Int32) (bit : Nat → Int32) (i r : Int32) : Prop := (0 ≤ i.toInt ∧ i.toInt < cnt.toInt ∧ r = bit i.toInt.toNat >>> ((1 : Int32) &&& 31)) ∨ ((i.toInt < 0 ∨ cnt.toInt ≤ i.toInt) ∧ r.toInt = -1)
def cd_n (cnt : Int32) (n : Nat) : Prop := cnt.toInt = (n : Int) ∧ n ≤ 12
/-! GRID: the pieces of a row, the runs of like pieces, the list of all lines -/
def gd_a (W H : Nat) (cg : Nat → Int32) (y x : Nat) : Bool := decide (y = 0 ∨ H ≤ y ∨ ¬ cg (x + W * y) = cg (x + W * y - W))
def gd_s (W H : Nat) (cg : Nat → Int32) (x y : Nat) : Bool := decide (x = 0 ∨ W ≤ x ∨ ¬ cg (x + W * y) = cg (x + W * y - 1))
def gd_row (th : Nat → Bool) (len : Nat) : Nat → List (Nat × Nat × Bool) × Nat
  | 0 => ([], 0)
  | t + 1 => if t + 1 = len ∨ ¬ th (t + 1) = th (gd_row th len t).2 then ((gd_row th len t).1 ++ [((gd_row th len t).2, t + 1, th (gd_row th len t).2)], t + 1) else gd_row th len t
abbrev gd_L : Type := Int × Int × Int × Int × Int
def gd_b (b : Bool) : Int := if b = true then 1 else 0
def gd_la (y : Nat) (q : Nat × Nat × Bool) : gd_L := ((q.1 : Int), (y : Int), (q.2.1 : Int), (y : Int), gd_b q.2.2)
def gd_ls (x : Nat) (q : Nat × Nat × Bool) : gd_L := ((x : Int), (q.1 : Int), (x : Int), (q.2.1 : Int), gd_b q.2.2)
def gd_is (wan : Nat → Int32) (q : gd_L) : Prop := (wan 0).toInt = q.1 ∧ (wan 1).toInt = q.2.1 ∧ (wan 2).toInt = q.2.2.1 ∧ (wan 3).toInt = q.2.2.2.1 ∧ (wan 4).toInt = q.2.2.2.2
def gd_part (q : gd_L) (j : Nat) : Int := match j with
  | 0 => q.1
  | 1 => q.2.1
  | 2 => q.2.2.1
  | 3 => q.2.2.2.1
  | _ => q.2.2.2.2
theorem gd_is_part {wan : Nat → Int32} {q : gd_L} (h : gd_is wan q) : ∀ j, j < 5 → (wan j).toInt = gd_part q j := by
  intro j hj
  obtain ⟨h0, h1, h2, h3, h4⟩ := h
  match j, hj with
  | 0, _ => exact h0
  | 1, _ => exact h1
  | 2, _ => exact h2
  | 3, _ => exact h3
  | 4, _ => exact h4
def gd_rowa (W H : Nat) (cg : Nat → Int32) (y : Nat) : List gd_L := (gd_row (gd_a W H cg y) W W).1.map (gd_la y)
def gd_rows (W H : Nat) (cg : Nat → Int32) (x : Nat) : List gd_L := (gd_row (gd_s W H cg x) H H).1.map (gd_ls x)
def gd_cat (f : Nat → List gd_L) : Nat → List gd_L
  | 0 => []
  | n + 1 => gd_cat f n ++ f n
def gd_all (W H : Nat) (cg : Nat → Int32) : List gd_L := gd_cat (gd_rowa W H cg) (H + 1) ++ gd_cat (gd_rows W H cg) (W + 1)
/-- the line p, if it is in G already, is held -/
def gd_K (p : Int32) (wan : Nat → Int32) (G : List gd_L) : Prop := ∀ (k : Nat) (q : gd_L), p.toInt = (k : Int) → G[k]? = some q → gd_is wan q
theorem gd_K_0 {p : Int32} {wan : Nat → Int32} : gd_K p wan [] := fun k q _ h => by simp at h
theorem gd_K_skip {p : Int32} {wan : Nat → Int32} {G : List gd_L} {q0 : gd_L} (h : gd_K p wan G) (hn : ¬ (G.length : Int) = p.toInt) : gd_K p wan (G ++ [q0]) := by
  intro k q hk hq
  rcases Nat.lt_or_ge k G.length with a | a
  · rw [List.getElem?_append_left a] at hq
    exact h k q hk hq
  · rw [List.getElem?_append_right a] at hq
    have hz : k - G.length < 1 := (List.getElem?_eq_some_iff.mp hq).1
    omega
theorem gd_K_put {p : Int32} {wan : Nat → Int32} {G : List gd_L} {q0 : gd_L} (h : gd_is wan q0) (hn : (G.length : Int) = p.toInt) : gd_K p wan (G ++ [q0]) := by
  intro k q hk hq
  have e : k = G.length := by omega
  subst e
  rw [List.getElem?_append_right (Nat.le_refl _), Nat.sub_self] at hq
  cases hq
  exact h
theorem gd_row_le (th : Nat → Bool) (len : Nat) : ∀ t, (gd_row th len t).2 ≤ t ∧ (gd_row th len t).1.length ≤ t := by
  intro t
  induction t with
  | zero => exact ⟨Nat.le_refl _, Nat.le_refl _⟩
  | succ t ih =>
    rw [gd_row]
    split
    · refine ⟨Nat.le_refl _, ?_⟩
      rw [List.length_append, List.length_singleton]
      omega
    · omega
theorem gd_row_y {th : Nat → Bool} {len t : Nat} (h : t + 1 = len ∨ ¬ th (t + 1) = th (gd_row th len t).2) : gd_row th len (t + 1) = ((gd_row th len t).1 ++ [((gd_row th len t).2, t + 1, th (gd_row th len t).2)], t + 1) := by
  rw [gd_row]; exact if_pos h
theorem gd_row_n {th : Nat → Bool} {len t : Nat} (h1 : ¬ t + 1 = len) (h2 : th (t + 1) = th (gd_row th len t).2) : gd_row th len (t + 1) = gd_row th len t := by
  rw [gd_row]; exact if_neg (fun q => by rcases q with q | q; exact h1 q; exact q h2)
theorem gd_cat_len {f : Nat → List gd_L} (h : ∀ n, (f n).length ≤ 8) : ∀ n, (gd_cat f n).length ≤ 8 * n := by
  intro n
  induction n with
  | zero => exact Nat.le_refl _
  | succ n ih => rw [gd_cat, List.length_append]; have := h n; omega
theorem gd_bb {r r2 : Int32} {b b2 : Bool} (h : (r.toInt = 1 ∧ b = true) ∨ (r.toInt = 0 ∧ b = false)) (h2 : (r2.toInt = 1 ∧ b2 = true) ∨ (r2.toInt = 0 ∧ b2 = false)) : r2.toInt = r.toInt ↔ b2 = b := by
  rcases h with ⟨a, rfl⟩ | ⟨a, rfl⟩ <;> rcases h2 with ⟨a2, rfl⟩ | ⟨a2, rfl⟩ <;> simp [a, a2]
theorem gd_in {W H x y : Nat} (hW : W ≤ 8) (hH : H ≤ 8) (hx : x < W) (hy : y < H) : x + W * y < 64 := by
  have h : W * y ≤ 8 * 7 := Nat.mul_le_mul hW (by omega)
  omega
theorem gd_ge {W y : Nat} (hy : 1 ≤ y) : W ≤ W * y := Nat.le_mul_of_pos_right W hy
theorem gd_64 {W H : Nat} (hW : W ≤ 8) (hH : H ≤ 8) : W * H ≤ 64 := Nat.mul_le_mul hW hH
def gd_ok (w : Int) : Prop := 1 ≤ w ∧ w ≤ 8
def gd_set (wid hig : Int32) (cag : Nat → Int32) (p1 p2 r wid' hig' : Int32) (cag' : Nat → Int32) : Prop := (gd_ok p1.toInt ∧ gd_ok p2.toInt ∧ r.toInt = 1 ∧ wid' = p1 ∧ hig' = p2 ∧ ∀ j, j < 64 → cag' j = 0) ∨ (¬ (gd_ok p1.toInt ∧ gd_ok p2.toInt) ∧ r.toInt = 0 ∧ wid' = wid ∧ hig' = hig ∧ cag' = cag)
def gd_mark (wN hN : Nat) (cag : Nat → Int32) (p1 p2 r : Int32) (cag' : Nat → Int32) : Prop := (0 ≤ p1.toInt ∧ p1.toInt < ((wN * hN : Nat) : Int) ∧ 0 ≤ p2.toInt ∧ p2.toInt ≤ 9 ∧ r.toInt = 1 ∧ cag' = upd cag p1.toInt.toNat p2) ∨ (¬ (0 ≤ p1.toInt ∧ p1.toInt < ((wN * hN : Nat) : Int) ∧ 0 ≤ p2.toInt ∧ p2.toInt ≤ 9) ∧ r.toInt = 0 ∧ cag' = cag)
def gd_draw (wN hN : Nat) (cag : Nat → Int32) (p1 p2 r : Int32) : Prop := (0 ≤ p1.toInt ∧ 0 ≤ p2.toInt ∧ p2.toInt < 5 ∧ ∃ q, (gd_all wN hN cag)[p1.toInt.toNat]? = some q ∧ r.toInt = gd_part q p2.toInt.toNat) ∨ (¬ (0 ≤ p1.toInt ∧ 0 ≤ p2.toInt ∧ p2.toInt < 5 ∧ p1.toInt < ((gd_all wN hN cag).length : Int)) ∧ r.toInt = -1)
theorem gd_rowa_len {W H : Nat} {cg : Nat → Int32} (hW : W ≤ 8) (y : Nat) : (gd_rowa W H cg y).length ≤ 8 := by
  unfold gd_rowa
  rw [List.length_map]
  have := (gd_row_le (gd_a W H cg y) W W).2
  omega
theorem gd_rows_len {W H : Nat} {cg : Nat → Int32} (hH : H ≤ 8) (x : Nat) : (gd_rows W H cg x).length ≤ 8 := by
  unfold gd_rows
  rw [List.length_map]
  have := (gd_row_le (gd_s W H cg x) H H).2
  omega
/-! TEXT: w words, of lengths L; a line of the words i to j - 1 in the width v -/
def tx_S (L : Nat → Nat) : Nat → Nat
  | 0 => 0
  | m + 1 => tx_S L m + L m + 1
def tx_fit (L : Nat → Nat) (v i j : Nat) : Prop := tx_S L j ≤ tx_S L i + v + 1
def tx_r (L : Nat → Nat) (v i j : Nat) : Nat := tx_S L i + v + 1 - tx_S L j
theorem tx_S_mono (L : Nat → Nat) {i j : Nat} (h : i ≤ j) : tx_S L i + (j - i) ≤ tx_S L j := by
  induction j with
  | zero => have : i = 0 := by omega
            subst this; exact Nat.le_refl _
  | succ j ih =>
    rcases Nat.lt_or_ge j i with q | q
    · have : i = j + 1 := by omega
      subst this; omega
    · have := ih q
      rw [tx_S]; omega
theorem tx_r_le {L : Nat → Nat} {v i j : Nat} (h : i < j) : tx_r L v i j ≤ v := by
  have := tx_S_mono L (Nat.le_of_lt h)
  unfold tx_r; omega
theorem tx_sq {L : Nat → Nat} {v i j : Nat} (h : i < j) (hv : v ≤ 100) : tx_r L v i j * tx_r L v i j ≤ 10000 := by
  have h1 := tx_r_le (L := L) (v := v) h
  exact Nat.mul_le_mul (Nat.le_trans h1 hv) (Nat.le_trans h1 hv)
theorem tx_r1 {L : Nat → Nat} {v i : Nat} (h : L i ≤ v) : tx_fit L v i (i + 1) ∧ ((tx_r L v i (i + 1) : Nat) : Int) = (v : Int) - (L i : Int) := by
  unfold tx_fit tx_r
  rw [tx_S]
  omega
theorem tx_rS {L : Nat → Nat} {v i m : Nat} (h : tx_fit L v i m) (h2 : 0 ≤ ((tx_r L v i m : Nat) : Int) - (1 + (L m : Int))) : tx_fit L v i (m + 1) ∧ ((tx_r L v i (m + 1) : Nat) : Int) = ((tx_r L v i m : Nat) : Int) - (1 + (L m : Int)) := by
  unfold tx_fit tx_r at *
  rw [tx_S]
  omega
theorem tx_rN {L : Nat → Nat} {v i m j : Nat} (h : tx_fit L v i m) (h2 : ((tx_r L v i m : Nat) : Int) - (1 + (L m : Int)) < 0) (hj : m < j) : ¬ tx_fit L v i j := by
  have h3 := tx_S_mono L (show m + 1 ≤ j from hj)
  unfold tx_fit tx_r at *
  rw [tx_S] at h3
  omega
/-- c is the least sum from word i on, over the first lines that end ahead of word j ≤ m; n is the last such j -/
def tx_bt (L : Nat → Nat) (v : Nat) (C : Nat → Nat) (i m c n : Nat) : Prop := i < n ∧ n ≤ m ∧ tx_fit L v i n ∧ c = tx_r L v i n * tx_r L v i n + C n ∧ ∀ j, i < j → j ≤ m → tx_fit L v i j → c ≤ tx_r L v i j * tx_r L v i j + C j ∧ (c = tx_r L v i j * tx_r L v i j + C j → j ≤ n)
theorem tx_bt_0 {L : Nat → Nat} {v : Nat} {C : Nat → Nat} {i : Nat} (h : L i ≤ v) : tx_bt L v C i (i + 1) (tx_r L v i (i + 1) * tx_r L v i (i + 1) + C (i + 1)) (i + 1) := by
  refine ⟨by omega, by omega, (tx_r1 h).1, rfl, fun j h1 h2 _ => ?_⟩
  have : j = i + 1 := by omega
  subst this
  exact ⟨Nat.le_refl _, fun _ => Nat.le_refl _⟩
theorem tx_bt_keep {L : Nat → Nat} {v : Nat} {C : Nat → Nat} {i m c n : Nat} (h : tx_bt L v C i m c n) (hc : c < tx_r L v i (m + 1) * tx_r L v i (m + 1) + C (m + 1)) : tx_bt L v C i (m + 1) c n := by
  obtain ⟨h1, h2, h3, h4, h5⟩ := h
  refine ⟨h1, by omega, h3, h4, fun j g1 g2 g3 => ?_⟩
  rcases Nat.lt_or_ge m j with q | q
  · have : j = m + 1 := by omega
    subst this
    exact ⟨by omega, fun z => by omega⟩
  · exact h5 j g1 q g3
theorem tx_bt_take {L : Nat → Nat} {v : Nat} {C : Nat → Nat} {i m c n : Nat} (h : tx_bt L v C i m c n) (hf : tx_fit L v i (m + 1)) (hc : tx_r L v i (m + 1) * tx_r L v i (m + 1) + C (m + 1) ≤ c) : tx_bt L v C i (m + 1) (tx_r L v i (m + 1) * tx_r L v i (m + 1) + C (m + 1)) (m + 1) := by
  obtain ⟨h1, h2, h3, h4, h5⟩ := h
  refine ⟨by omega, Nat.le_refl _, hf, rfl, fun j g1 g2 g3 => ⟨?_, fun _ => g2⟩⟩
  rcases Nat.lt_or_ge m j with q | q
  · have : j = m + 1 := by omega
    subst this
    exact Nat.le_refl _
  · exact Nat.le_trans hc (h5 j g1 q g3).1
theorem tx_bt_stop {L : Nat → Nat} {v : Nat} {C : Nat → Nat} {i m w c n : Nat} (h : tx_bt L v C i m c n) (hm : m ≤ w) (hn : ∀ j, m < j → ¬ tx_fit L v i j) : tx_bt L v C i w c n := by
  obtain ⟨h1, h2, h3, h4, h5⟩ := h
  refine ⟨h1, by omega, h3, h4, fun j g1 g2 g3 => ?_⟩
  rcases Nat.lt_or_ge m j with q | q
  · exact absurd g3 (hn j q)
  · exact h5 j g1 q g3
theorem tx_bt_congr {L : Nat → Nat} {v : Nat} {C C2 : Nat → Nat} {i w c n : Nat} (h : tx_bt L v C i w c n) (hC : ∀ j, i < j → j ≤ w → C2 j = C j) : tx_bt L v C2 i w c n := by
  obtain ⟨h1, h2, h3, h4, h5⟩ := h
  refine ⟨h1, h2, h3, by rw [hC n h1 h2]; exact h4, fun j g1 g2 g3 => ?_⟩
  rw [hC j g1 g2]
  exact h5 j g1 g2 g3
/-- least sums C and next lines N of all words from k on -/
def tx_D (L : Nat → Nat) (v w k : Nat) (C N : Nat → Nat) : Prop := C w = 0 ∧ ∀ i, k ≤ i → i < w → C i ≤ 10000 * (w - i) ∧ tx_bt L v C i w (C i) (N i)
def tx_nat (f : Nat → Int32) : Nat → Nat := fun j => (f j).toInt.toNat
/-- the lines' first words -/
def tx_it (N : Nat → Nat) : Nat → Nat
  | 0 => 0
  | t + 1 => N (tx_it N t)
/-- the lines of a break: how many, their first words -/
def tx_lines (N : Nat → Nat) (w q : Nat) (fw : Nat → Int32) : Prop := tx_it N q = w ∧ ∀ t, t < q → tx_it N t < w ∧ (fw t).toInt = (tx_it N t : Int)
def tx_step (bl : Bool) (w : Nat) (b : Bool) (L : Nat → Nat) : Nat × Bool × (Nat → Nat) := if bl = true then (w, false, L) else if b = true then (w, true, fun j => if j = w - 1 then L j + 1 else L j) else (w + 1, true, fun j => if j = w then 1 else L j)
/-- the class's text: nB bytes, w words of lengths L, b: the last byte belongs to a word -/
def tx_I (byt wds inw : Int32) (len : Nat → Int32) (nB w : Nat) (b : Bool) (L : Nat → Nat) : Prop := byt.toInt = (nB : Int) ∧ nB ≤ 200 ∧ wds.toInt = (w : Int) ∧ inw.toInt = gd_b b ∧ (∀ j, j < w → (len j).toInt = (L j : Int) ∧ 1 ≤ L j ∧ L j ≤ nB) ∧ (b = true → 1 ≤ w ∧ 2 * w ≤ nB + 1) ∧ (b = false → 2 * w ≤ nB)
def tx_app (byt wds inw : Int32) (len : Nat → Int32) (nB w : Nat) (b : Bool) (L : Nat → Nat) (p r byt' wds' inw' : Int32) (len' : Nat → Int32) : Prop := (32 ≤ p.toInt ∧ p.toInt ≤ 126 ∧ nB < 200 ∧ r.toInt = 1 ∧ ∃ bl : Bool, (bl = true ↔ p.toInt = 32) ∧ tx_I byt' wds' inw' len' (nB + 1) (tx_step bl w b L).1 (tx_step bl w b L).2.1 (tx_step bl w b L).2.2) ∨ ((p.toInt < 32 ∨ 126 < p.toInt ∨ 200 ≤ nB) ∧ r.toInt = 0 ∧ byt' = byt ∧ wds' = wds ∧ inw' = inw ∧ len' = len)
theorem tx_up1 {len : Nat → Int32} {w nB : Nat} {L : Nat → Nat} {x : Int32} (h : ∀ j, j < w → (len j).toInt = (L j : Int) ∧ 1 ≤ L j ∧ L j ≤ nB) (hw : 1 ≤ w) (hx : x.toInt = (L (w - 1) : Int) + 1) : ∀ j, j < (tx_step false w true L).1 → (upd len (w - 1) x j).toInt = ((tx_step false w true L).2.2 j : Int) ∧ 1 ≤ (tx_step false w true L).2.2 j ∧ (tx_step false w true L).2.2 j ≤ nB + 1 := by
  intro j hj
  have hj : j < w := hj
  show (upd len (w - 1) x j).toInt = ((if j = w - 1 then L j + 1 else L j : Nat) : Int) ∧ 1 ≤ (if j = w - 1 then L j + 1 else L j) ∧ (if j = w - 1 then L j + 1 else L j) ≤ nB + 1
  have hq := h j hj
  by_cases q : j = w - 1
  · rw [if_pos q, q, xi_upd_s]
    rw [q] at hq
    omega
  · rw [if_neg q, xi_upd_n q]
    omega
theorem tx_up2 {len : Nat → Int32} {w nB : Nat} {L : Nat → Nat} (h : ∀ j, j < w → (len j).toInt = (L j : Int) ∧ 1 ≤ L j ∧ L j ≤ nB) : ∀ j, j < (tx_step false w false L).1 → (upd len w 1 j).toInt = ((tx_step false w false L).2.2 j : Int) ∧ 1 ≤ (tx_step false w false L).2.2 j ∧ (tx_step false w false L).2.2 j ≤ nB + 1 := by
  intro j hj
  have hj : j < w + 1 := hj
  show (upd len w 1 j).toInt = ((if j = w then 1 else L j : Nat) : Int) ∧ 1 ≤ (if j = w then 1 else L j) ∧ (if j = w then 1 else L j) ≤ nB + 1
  by_cases q : j = w
  · rw [if_pos q, q, xi_upd_s]
    exact ⟨by decide, by omega, by omega⟩
  · rw [if_neg q, xi_upd_n q]
    have hq := h j (by omega)
    omega
theorem tx_st_b {x : Int32} {w : Nat} {b : Bool} {L : Nat → Nat} (h : x.toInt = 1) : x.toInt = gd_b (tx_step false w b L).2.1 := by
  cases b <;> exact h
theorem tx_st_t {w nB : Nat} {b : Bool} {L : Nat → Nat} (hbt : b = true → 1 ≤ w ∧ 2 * w ≤ nB + 1) (hbf : b = false → 2 * w ≤ nB) : (tx_step false w b L).2.1 = true → 1 ≤ (tx_step false w b L).1 ∧ 2 * (tx_step false w b L).1 ≤ nB + 1 + 1 := by
  intro _
  cases b
  · have := hbf rfl
    show 1 ≤ w + 1 ∧ 2 * (w + 1) ≤ nB + 1 + 1
    omega
  · have := hbt rfl
    show 1 ≤ w ∧ 2 * w ≤ nB + 1 + 1
    omega
theorem tx_st_f {w nB : Nat} {b : Bool} {L : Nat → Nat} : (tx_step false w b L).2.1 = false → 2 * (tx_step false w b L).1 ≤ nB := by
  intro h
  cases b <;> cases h
theorem tx_bl {w nB : Nat} {b : Bool} (hbt : b = true → 1 ≤ w ∧ 2 * w ≤ nB + 1) (hbf : b = false → 2 * w ≤ nB) : 2 * w ≤ nB + 1 := by
  cases b
  · have := hbf rfl; omega
  · have := hbt rfl; omega
theorem tx_D_0 {L : Nat → Nat} {v w : Nat} {f g : Nat → Int32} (h : f w = 0) : tx_D L v w w (tx_nat f) (tx_nat g) := by
  refine ⟨?_, fun i h1 h2 => by omega⟩
  unfold tx_nat
  rw [h]
  decide
theorem tx_D_C {L : Nat → Nat} {v w k : Nat} {f : Nat → Int32} {N : Nat → Nat} (h : tx_D L v w k (tx_nat f) N) (hl : ∀ j, k ≤ j → j ≤ w → (f j).toInt = (tx_nat f j : Int)) : ∀ j, k - 1 < j → j ≤ w → (f j).toInt = (tx_nat f j : Int) ∧ tx_nat f j ≤ 10000 * (w - j) := by
  intro j h1 h2
  refine ⟨hl j (by omega) h2, ?_⟩
  rcases Nat.lt_or_ge j w with q | q
  · exact (h.2 j (by omega) q).1
  · rw [show j = w by omega, h.1]
    exact Nat.zero_le _
theorem tx_D_s {L : Nat → Nat} {v w k : Nat} {f g f2 g2 : Nat → Int32} {cb nb : Nat} (hk : k < w) (h : tx_D L v w (k + 1) (tx_nat f) (tx_nat g)) (hl1 : ∀ j, k + 1 ≤ j → j ≤ w → (f j).toInt = (tx_nat f j : Int)) (hl2 : ∀ j, k + 1 ≤ j → j < w → (g j).toInt = (tx_nat g j : Int))
    (z1 : (f2 k).toInt = (cb : Int)) (z2 : (g2 k).toInt = (nb : Int)) (z3 : tx_bt L v (tx_nat f) k w cb nb) (z4 : ∀ j, j ≠ k → f2 j = f j) (z5 : ∀ j, j ≠ k → g2 j = g j) (hv : v ≤ 100) (hLk : L k ≤ v) : tx_D L v w k (tx_nat f2) (tx_nat g2) ∧ (∀ j, k ≤ j → j ≤ w → (f2 j).toInt = (tx_nat f2 j : Int)) ∧ (∀ j, k ≤ j → j < w → (g2 j).toInt = (tx_nat g2 j : Int)) := by
  have e1 : tx_nat f2 k = cb := by unfold tx_nat; rw [z1]; rfl
  have e2 : tx_nat g2 k = nb := by unfold tx_nat; rw [z2]; rfl
  have e3 : ∀ j, j ≠ k → tx_nat f2 j = tx_nat f j := fun j hj => by unfold tx_nat; rw [z4 j hj]
  have e4 : ∀ j, j ≠ k → tx_nat g2 j = tx_nat g j := fun j hj => by unfold tx_nat; rw [z5 j hj]
  refine ⟨⟨by rw [e3 w (by omega)]; exact h.1, fun i h1 h2 => ?_⟩, fun j h1 h2 => ?_, fun j h1 h2 => ?_⟩
  · rcases Nat.lt_or_ge k i with q | q
    · have h3 := h.2 i q h2
      rw [e3 i (by omega), e4 i (by omega)]
      exact ⟨h3.1, tx_bt_congr h3.2 (fun j g1 g2 => e3 j (by omega))⟩
    · have : i = k := by omega
      subst this
      rw [e1, e2]
      refine ⟨?_, tx_bt_congr z3 (fun j g1 g2 => e3 j (by omega))⟩
      have h4 := (z3.2.2.2.2 (i + 1) (by omega) (by omega) (tx_r1 hLk).1).1
      have h5 := tx_sq (L := L) (v := v) (show i < i + 1 by omega) hv
      have h6 : tx_nat f (i + 1) ≤ 10000 * (w - (i + 1)) := by
        rcases Nat.lt_or_ge (i + 1) w with q | q
        · exact (h.2 (i + 1) (Nat.le_refl _) q).1
        · rw [show i + 1 = w by omega, h.1]; exact Nat.zero_le _
      omega
  · rcases Nat.lt_or_ge k j with q | q
    · rw [e3 j (by omega), z4 j (by omega)]
      exact hl1 j q h2
    · rw [show j = k by omega, e1]; exact z1
  · rcases Nat.lt_or_ge k j with q | q
    · rw [e4 j (by omega), z5 j (by omega)]
      exact hl2 j q h2
    · rw [show j = k by omega, e2]; exact z2
theorem tx_fw {N : Nat → Nat} {w q : Nat} {fw : Nat → Int32} {x : Int32} (h : ∀ t, t < q → tx_it N t < w ∧ (fw t).toInt = (tx_it N t : Int)) (hw : tx_it N q < w) (hx : x.toInt = (tx_it N q : Int)) : ∀ t, t < q + 1 → tx_it N t < w ∧ (upd fw q x t).toInt = (tx_it N t : Int) := by
  intro t ht
  by_cases z : t = q
  · rw [z, xi_upd_s]; exact ⟨hw, hx⟩
  · rw [xi_upd_n z]; exact h t (by omega)
/-- broken(p): the text of w words of lengths L -/
def tx_break (w : Nat) (L : Nat → Nat) (lct sqs : Int32) (fwd : Nat → Int32) (p r lct' sqs' : Int32) (fwd' : Nat → Int32) : Prop := ((p.toInt < 1 ∨ 100 < p.toInt) ∧ r.toInt = -1 ∧ lct' = lct ∧ sqs' = sqs ∧ fwd' = fwd) ∨ (1 ≤ p.toInt ∧ p.toInt ≤ 100 ∧ (∃ j, j < w ∧ p.toInt < (L j : Int)) ∧ r.toInt = -2 ∧ lct'.toInt = 0 ∧ sqs'.toInt = 0) ∨ (1 ≤ p.toInt ∧ p.toInt ≤ 100 ∧ (∀ j, j < w → (L j : Int) ≤ p.toInt) ∧ ∃ (q : Nat) (C N : Nat → Nat), tx_D L p.toInt.toNat w 0 C N ∧ r.toInt = (q : Int) ∧ lct'.toInt = (q : Int) ∧ q ≤ 100 ∧ tx_lines N w q fwd' ∧ sqs'.toInt = (C 0 : Int))
