/-! BOTH TEXTS -/
theorem ts_congr {f g : Nat → Int32} : ∀ n, (∀ j, j < n → f j = g j) → ts f n = ts g n := by
  intro n
  induction n with
  | zero => intro _; rfl
  | succ n ih => intro h; rw [ts, ts, ih (fun j hj => h j (by omega)), h n (by omega)]
theorem tx_D_uniq {L : Nat → Nat} {v w : Nat} {C N C2 N2 : Nat → Nat} (h : tx_D L v w 0 C N) (h2 : tx_D L v w 0 C2 N2) : ∀ d i, i + d = w → C i = C2 i ∧ (i < w → N i = N2 i) := by
  intro d
  induction d using Nat.strongRecOn with
  | ind d ih =>
    intro i hi
    rcases Nat.eq_zero_or_pos d with hd | hd
    · have e : i = w := by omega
      subst e
      exact ⟨by rw [h.1, h2.1], fun q => absurd q (Nat.lt_irrefl _)⟩
    · have hCC : ∀ j, i < j → j ≤ w → C j = C2 j := fun j g1 g2 => (ih (w - j) (by omega) j (by omega)).1
      obtain ⟨-, a1, a2, a3, a4, a5⟩ := h.2 i (Nat.zero_le _) (by omega)
      obtain ⟨-, b1, b2, b3, b4, b5⟩ := h2.2 i (Nat.zero_le _) (by omega)
      have x1 := a5 (N2 i) b1 b2 b3
      have x2 := b5 (N i) a1 a2 a3
      rw [hCC (N2 i) b1 b2, ← b4] at x1
      rw [← hCC (N i) a1 a2, ← a4] at x2
      have e : C i = C2 i := by omega
      have y1 := x1.2 e
      have y2 := x2.2 e.symm
      exact ⟨e, fun _ => by omega⟩
theorem tx_lines_uniq {N N2 : Nat → Nat} {w q q2 : Nat} {f f2 : Nat → Int32} (hN : ∀ i, i < w → N i = N2 i) (h : tx_lines N w q f) (h2 : tx_lines N2 w q2 f2) : q = q2 ∧ ∀ t, t < q → f t = f2 t := by
  have key : ∀ t, t ≤ q → t ≤ q2 → tx_it N t = tx_it N2 t := by
    intro t
    induction t with
    | zero => intro _ _; rfl
    | succ t ih =>
      intro g1 g2
      rw [tx_it, tx_it, ← ih (by omega) (by omega)]
      exact hN _ (h.2 t (by omega)).1
  have e : q = q2 := by
    rcases Nat.lt_trichotomy q q2 with g | g | g
    · have a := key q (Nat.le_refl _) (by omega)
      have b := (h2.2 q g).1
      have c := h.1
      omega
    · exact g
    · have a := key q2 (by omega) (Nat.le_refl _)
      have b := (h.2 q2 g).1
      have c := h2.1
      omega
  refine ⟨e, fun t ht => Int32.toInt_inj.mp ?_⟩
  rw [(h.2 t ht).2, (h2.2 t (by omega)).2, key t (by omega) (by omega)]
def rr_T (byt wds inw : Int32) (len : Nat → Int32) (lct sqs : Int32) (fwd : Nat → Int32) (siz : Int32) (txt : Nat → Int32) (lnm rsm : Int32) (fst : Nat → Int32) (nB q : Nat) : Prop := tx_I byt wds inw len nB (ts txt nB).1 (ts txt nB).2.1 (ts txt nB).2.2 ∧ siz.toInt = (nB : Int) ∧ nB ≤ 200 ∧ lct.toInt = (q : Int) ∧ lnm.toInt = (q : Int) ∧ q ≤ 100 ∧ sqs.toInt = rsm.toInt ∧ ∀ t, t < q → fwd t = fst t
section RT
variable {byt wds inw lct sqs siz lnm rsm p r r2 byt' wds' inw' lct' sqs' siz' lnm' rsm' : Int32} {len fwd txt fst len' fwd' txt' fst' : Nat → Int32} {nB q : Nat}
theorem rr_unit (h : rr_T byt wds inw len lct sqs fwd siz txt lnm rsm fst nB q) (w1 : tx_app byt wds inw len nB (ts txt nB).1 (ts txt nB).2.1 (ts txt nB).2.2 p r byt' wds' inw' len') (w2 : mt_unit siz txt p r2 siz' txt') : r.toInt = r2.toInt ∧ ∃ nB q, rr_T byt' wds' inw' len' lct sqs fwd siz' txt' lnm rsm fst nB q := by
  obtain ⟨h1, h2, h3, h4⟩ := h
  rcases w1 with ⟨a1, a2, a3, a4, bl, a5, a6⟩ | ⟨a1, a2, a3, a4, a5, a6⟩
  · rcases w2 with ⟨b1, b2, b3, b4, b5, b6⟩ | ⟨b1, b2⟩
    · refine ⟨by omega, nB + 1, q, ?_, by omega, by omega, h4⟩
      have hn : siz.toInt.toNat = nB := by omega
      rw [hn] at b6
      have e1 : ts txt' nB = ts txt nB := ts_congr nB (fun j hj => by rw [b6, xi_upd_n (by omega)])
      have e2 : decide (txt' nB = 32) = bl := by
        rw [b6, xi_upd_s]
        have e3 : p = 32 ↔ p.toInt = 32 := ⟨fun z => by rw [z]; decide, fun z => Int32.toInt_inj.mp (by rw [z]; decide)⟩
        rw [Bool.eq_iff_iff, decide_eq_true_iff, e3, a5]
      have e4 : ts txt' (nB + 1) = tx_step bl (ts txt nB).1 (ts txt nB).2.1 (ts txt nB).2.2 := by rw [ts, e1, e2]
      rw [e4]
      exact a6
    · omega
  · rcases w2 with ⟨b1, b2, b3, b4, b5, b6⟩ | ⟨b1, b2, b3, b4⟩
    · omega
    · subst a3 a4 a5 a6 b3 b4
      exact ⟨by omega, nB, q, h1, h2, h3, h4⟩
theorem rr_break (h : rr_T byt wds inw len lct sqs fwd siz txt lnm rsm fst nB q) (w1 : tx_break (ts txt nB).1 (ts txt nB).2.2 lct sqs fwd p r lct' sqs' fwd') (w2 : tx_break (ts txt nB).1 (ts txt nB).2.2 lnm rsm fst p r2 lnm' rsm' fst') : r.toInt = r2.toInt ∧ ∃ nB q, rr_T byt wds inw len lct' sqs' fwd' siz txt lnm' rsm' fst' nB q := by
  obtain ⟨h1, h2, h3, h4, h5, h6, h7, h8⟩ := h
  rcases w1 with ⟨a1, a2, a3, a4, a5⟩ | ⟨a1, a2, ⟨j, a3, a4⟩, a5, a6, a7⟩ | ⟨a1, a2, a3, q1, C, N, a4, a5, a6, a7, a8, a9⟩
  · rcases w2 with ⟨b1, b2, b3, b4, b5⟩ | ⟨b1, b2, b3⟩ | ⟨b1, b2, b3⟩
    · subst a3 a4 a5 b3 b4 b5
      exact ⟨by omega, nB, q, h1, h2, h3, h4, h5, h6, h7, h8⟩
    · omega
    · omega
  · rcases w2 with ⟨b1, b2⟩ | ⟨b1, b2, b3, b5, b6, b7⟩ | ⟨b1, b2, b3, b4⟩
    · omega
    · exact ⟨by omega, nB, 0, h1, h2, h3, a6, b6, Nat.zero_le _, by omega, fun t ht => by omega⟩
    · have := b3 j a3
      omega
  · rcases w2 with ⟨b1, b2⟩ | ⟨b1, b2, ⟨j, b3, b4⟩, b5⟩ | ⟨b1, b2, b3, q2, C2, N2, b4, b5, b6, b7, b8, b9⟩
    · omega
    · have := a3 j b3
      omega
    · have hu := tx_D_uniq a4 b4
      have hN : ∀ i, i < (ts txt nB).1 → N i = N2 i := fun i hi => (hu ((ts txt nB).1 - i) i (by omega)).2 hi
      obtain ⟨e1, e2⟩ := tx_lines_uniq hN a8 b8
      subst e1
      have e3 := (hu (ts txt nB).1 0 (by omega)).1
      exact ⟨by omega, nB, q1, h1, h2, h3, a6, b6, a7, by omega, e2⟩
theorem rr_line (h : rr_T byt wds inw len lct sqs fwd siz txt lnm rsm fst nB q) (w1 : (0 ≤ p.toInt ∧ p.toInt < (q : Int) ∧ r = fwd p.toInt.toNat) ∨ ((p.toInt < 0 ∨ (q : Int) ≤ p.toInt) ∧ r.toInt = -1)) (w2 : (0 ≤ p.toInt ∧ p.toInt < (q : Int) ∧ r2 = fst p.toInt.toNat) ∨ ((p.toInt < 0 ∨ (q : Int) ≤ p.toInt) ∧ r2.toInt = -1)) : r.toInt = r2.toInt := by
  rcases w1 with ⟨a1, a2, a3⟩ | ⟨a1, a2⟩
  · rcases w2 with ⟨b1, b2, b3⟩ | ⟨b1, b2⟩
    · rw [a3, b3, h.2.2.2.2.2.2.2 _ (by omega)]
    · omega
  · rcases w2 with ⟨b1, b2, b3⟩ | ⟨b1, b2⟩
    · omega
    · omega
theorem rr_clear (w1 : byt'.toInt = 0 ∧ wds'.toInt = 0 ∧ inw'.toInt = 0 ∧ lct'.toInt = 0 ∧ sqs'.toInt = 0) (w2 : siz'.toInt = 0 ∧ lnm'.toInt = 0 ∧ rsm'.toInt = 0) : ∃ nB q, rr_T byt' wds' inw' len lct' sqs' fwd siz' txt lnm' rsm' fst nB q := by
  obtain ⟨a1, a2, a3, a4, a5⟩ := w1
  obtain ⟨b1, b2, b3⟩ := w2
  exact ⟨0, 0, ⟨a1, by omega, a2, a3, fun j hj => absurd hj (Nat.not_lt_zero _), fun z => (by cases z), fun _ => Nat.le_refl _⟩, b1, by omega, a4, b2, by omega, by omega, fun t ht => by omega⟩
end RT
/-! BOTH BOXES -/
def rr_B (cnt : Int32) (hgt : Nat → Int32) (bxs : Int32) (hei : Nat → Int32) : Prop := ∃ n : Nat, cnt.toInt = (n : Int) ∧ bxs.toInt = (n : Int) ∧ n ≤ 60 ∧ ∀ j, j < n → hgt j = hei j ∧ 1 ≤ (hgt j).toInt ∧ (hgt j).toInt ≤ 1000
theorem bq_congr {h h2 : Nat → Int32} {ht g t0 : Int} : ∀ n, (∀ j, j < n → h j = h2 j) → bq h ht g t0 n = bq h2 ht g t0 n := by
  intro n
  induction n with
  | zero => intro _; rfl
  | succ n ih => intro q; rw [bq, bq, ih (fun j hj => q j (by omega)), q n (by omega)]
section RB
variable {cnt bxs p p2 p3 p4 r r2 cnt' bxs' : Int32} {hgt hei hgt' hei' : Nat → Int32}
theorem rr_B1 (h : rr_B cnt hgt bxs hei) : bq_I cnt hgt := by
  obtain ⟨n, a1, a2, a3, a4⟩ := h
  exact ⟨n, a1, a3, fun j hj => (a4 j hj).2⟩
theorem rr_B2 (h : rr_B cnt hgt bxs hei) : bq_I bxs hei := by
  obtain ⟨n, a1, a2, a3, a4⟩ := h
  exact ⟨n, a2, a3, fun j hj => by rw [← (a4 j hj).1]; exact (a4 j hj).2⟩
theorem rr_box (h : rr_B cnt hgt bxs hei) (w1 : bq_add cnt hgt p r cnt' hgt') (w2 : bq_add bxs hei p r2 bxs' hei') : r.toInt = r2.toInt ∧ rr_B cnt' hgt' bxs' hei' := by
  obtain ⟨n, a1, a2, a3, a4⟩ := h
  rcases w1 with ⟨b1, b2, b3, b4, b5, b6⟩ | ⟨b1, b2, b3, b4⟩
  · rcases w2 with ⟨c1, c2, c3, c4, c5, c6⟩ | ⟨c1, c2, c3, c4⟩
    · refine ⟨by omega, n + 1, by omega, by omega, by omega, fun j hj => ?_⟩
      rw [b6, c6, show cnt.toInt.toNat = n by omega, show bxs.toInt.toNat = n by omega]
      by_cases z : j = n
      · rw [z, xi_upd_s, xi_upd_s]
        exact ⟨rfl, b1, b2⟩
      · rw [xi_upd_n z, xi_upd_n z]
        exact a4 j (by omega)
    · omega
  · rcases w2 with ⟨c1, c2, c3, c4, c5, c6⟩ | ⟨c1, c2, c3, c4⟩
    · omega
    · subst b3 b4 c3 c4
      exact ⟨by omega, n, a1, a2, a3, a4⟩
theorem rr_pages (h : rr_B cnt hgt bxs hei) (w1 : bq_pages cnt hgt p p2 r) (w2 : bq_pages bxs hei p p2 r2) : r.toInt = r2.toInt := by
  obtain ⟨n, a1, a2, a3, a4⟩ := h
  rcases w1 with ⟨b1, b2⟩ | ⟨b1, b2⟩
  · rcases w2 with ⟨c1, c2⟩ | ⟨c1, c2⟩
    · rw [b2, c2, show cnt.toInt.toNat = n by omega, show bxs.toInt.toNat = n by omega, bq_congr n (fun j hj => (a4 j hj).1)]
    · exact absurd b1 c1
  · rcases w2 with ⟨c1, c2⟩ | ⟨c1, c2⟩
    · exact absurd c1 b1
    · omega
theorem rr_put (h : rr_B cnt hgt bxs hei) (w1 : bq_put cnt hgt p p2 p3 p4 r) (w2 : bq_put bxs hei p p2 p3 p4 r2) : r.toInt = r2.toInt := by
  obtain ⟨n, a1, a2, a3, a4⟩ := h
  rcases w1 with ⟨b1, b2, b3, b4⟩ | ⟨b1, b2⟩
  · have e : bq hgt p2.toInt p3.toInt 0 (p.toInt.toNat + 1) = bq hei p2.toInt p3.toInt 0 (p.toInt.toNat + 1) := bq_congr _ (fun j hj => (a4 j (by omega)).1)
    rcases w2 with ⟨c1, c2, c3, c4⟩ | ⟨c1, c2⟩
    · rw [e] at b4
      rcases b4 with b4 | b4 <;> rcases c4 with c4 | c4 <;> omega
    · exact absurd ⟨b1, b2, by omega, by omega⟩ c1
  · rcases w2 with ⟨c1, c2, c3, c4⟩ | ⟨c1, c2⟩
    · exact absurd ⟨c1, c2, by omega, by omega⟩ b1
    · omega
end RB
/-! BOTH GRIDS -/
def rr_G (wid hig : Int32) (cag : Nat → Int32) (wdt hgh : Int32) (cgs : Nat → Int32) (wN hN : Nat) : Prop := wid.toInt = (wN : Int) ∧ hig.toInt = (hN : Int) ∧ wdt.toInt = (wN : Int) ∧ hgh.toInt = (hN : Int) ∧ (1 ≤ wN ∧ wN ≤ 8) ∧ (1 ≤ hN ∧ hN ≤ 8) ∧ ∀ j, j < 64 → cag j = cgs j
theorem gd_row_congr {th th2 : Nat → Bool} {len : Nat} (h : ∀ i, i < len → th i = th2 i) : ∀ t, t ≤ len → gd_row th len t = gd_row th2 len t := by
  intro t
  induction t with
  | zero => intro _; rfl
  | succ t ih =>
    intro ht
    have e := ih (by omega)
    have hF := (gd_row_le th len t).1
    have eF : th (gd_row th len t).2 = th2 (gd_row th2 len t).2 := by rw [← e]; exact h _ (by omega)
    by_cases z : t + 1 = len
    · rw [gd_row_y (Or.inl z), gd_row_y (Or.inl z), eF, e]
    · have e1 := h (t + 1) (by omega)
      by_cases y : th (t + 1) = th (gd_row th len t).2
      · rw [gd_row_n z y, gd_row_n z (by rw [← e1, ← eF]; exact y), e]
      · rw [gd_row_y (Or.inr y), gd_row_y (Or.inr (by rw [← e1, ← eF]; exact y)), eF, e]
theorem gd_cat_congr {f g : Nat → List gd_L} : ∀ n, (∀ j, j < n → f j = g j) → gd_cat f n = gd_cat g n := by
  intro n
  induction n with
  | zero => intro _; rfl
  | succ n ih => intro h; rw [gd_cat, gd_cat, ih (fun j hj => h j (by omega)), h n (by omega)]
theorem gd_a_congr {W H : Nat} {c1 c2 : Nat → Int32} (hW : W ≤ 8) (hH : H ≤ 8) (h : ∀ j, j < 64 → c1 j = c2 j) (y x : Nat) (hx : x < W) : gd_a W H c1 y x = gd_a W H c2 y x := by
  unfold gd_a
  by_cases z : y = 0 ∨ H ≤ y
  · rw [decide_eq_true (by omega), decide_eq_true (by omega)]
  · have hi := gd_in hW hH hx (show y < H by omega)
    rw [h _ hi, h _ (by omega)]
theorem gd_s_congr {W H : Nat} {c1 c2 : Nat → Int32} (hW : W ≤ 8) (hH : H ≤ 8) (h : ∀ j, j < 64 → c1 j = c2 j) (x y : Nat) (hy : y < H) : gd_s W H c1 x y = gd_s W H c2 x y := by
  unfold gd_s
  by_cases z : x = 0 ∨ W ≤ x
  · rw [decide_eq_true (by omega), decide_eq_true (by omega)]
  · have hi := gd_in hW hH (show x < W by omega) hy
    rw [h _ hi, h _ (by omega)]
theorem gd_all_congr {W H : Nat} {c1 c2 : Nat → Int32} (hW : W ≤ 8) (hH : H ≤ 8) (h : ∀ j, j < 64 → c1 j = c2 j) : gd_all W H c1 = gd_all W H c2 := by
  unfold gd_all
  rw [gd_cat_congr (g := gd_rowa W H c2) (H + 1) (fun y _ => ?_), gd_cat_congr (g := gd_rows W H c2) (W + 1) (fun x _ => ?_)]
  · unfold gd_rows
    rw [gd_row_congr (fun i hi => gd_s_congr hW hH h x i hi) H (Nat.le_refl _)]
  · unfold gd_rowa
    rw [gd_row_congr (fun i hi => gd_a_congr hW hH h y i hi) W (Nat.le_refl _)]
section RG
variable {wid hig wdt hgh p p2 r r2 wid' hig' wdt' hgh' : Int32} {cag cgs cag' cgs' : Nat → Int32} {wN hN : Nat}
theorem rr_grid (h : rr_G wid hig cag wdt hgh cgs wN hN) (w1 : gd_set wid hig cag p p2 r wid' hig' cag') (w2 : gd_set wdt hgh cgs p p2 r2 wdt' hgh' cgs') : r.toInt = r2.toInt ∧ ∃ wN hN, rr_G wid' hig' cag' wdt' hgh' cgs' wN hN := by
  rcases w1 with ⟨a1, a2, a3, a4, a5, a6⟩ | ⟨a1, a2, a3, a4, a5⟩
  · rcases w2 with ⟨b1, b2, b3, b4, b5, b6⟩ | ⟨b1, b2, b3⟩
    · unfold gd_ok at a1 a2
      refine ⟨by omega, p.toInt.toNat, p2.toInt.toNat, by rw [a4]; omega, by rw [a5]; omega, by rw [b4]; omega, by rw [b5]; omega, by omega, by omega, fun j hj => by rw [a6 j hj, b6 j hj]⟩
    · exact absurd ⟨a1, a2⟩ b1
  · rcases w2 with ⟨b1, b2, b3⟩ | ⟨b1, b2, b3, b4, b5⟩
    · exact absurd ⟨b1, b2⟩ a1
    · subst a3 a4 a5 b3 b4 b5
      exact ⟨by omega, wN, hN, h⟩
theorem rr_cage (h : rr_G wid hig cag wdt hgh cgs wN hN) (w1 : gd_mark wN hN cag p p2 r cag') (w2 : gd_mark wN hN cgs p p2 r2 cgs') : r.toInt = r2.toInt ∧ ∃ wN hN, rr_G wid hig cag' wdt hgh cgs' wN hN := by
  obtain ⟨h1, h2, h3, h4, h5, h6, h7⟩ := h
  rcases w1 with ⟨a1, a2, a3, a4, a5, a6⟩ | ⟨a1, a2, a3⟩
  · rcases w2 with ⟨b1, b2, b3, b4, b5, b6⟩ | ⟨b1, b2, b3⟩
    · refine ⟨by omega, wN, hN, h1, h2, h3, h4, h5, h6, fun j hj => ?_⟩
      rw [a6, b6]
      by_cases z : j = p.toInt.toNat
      · rw [z, xi_upd_s, xi_upd_s]
      · rw [xi_upd_n z, xi_upd_n z]
        exact h7 j hj
    · exact absurd ⟨a1, a2, a3, a4⟩ b1
  · rcases w2 with ⟨b1, b2, b3, b4, b5, b6⟩ | ⟨b1, b2, b3⟩
    · exact absurd ⟨b1, b2, b3, b4⟩ a1
    · subst a3 b3
      exact ⟨by omega, wN, hN, h1, h2, h3, h4, h5, h6, h7⟩
theorem rr_lines (h : rr_G wid hig cag wdt hgh cgs wN hN) (w1 : r.toInt = ((gd_all wN hN cag).length : Int)) (w2 : r2.toInt = ((gm_all wN hN cgs).length : Int)) : r.toInt = r2.toInt := by
  obtain ⟨h1, h2, h3, h4, h5, h6, h7⟩ := h
  rw [w1, w2, gl_len h5.1 h6.1, gd_all_congr h5.2 h6.2 h7]
theorem rr_drawn (h : rr_G wid hig cag wdt hgh cgs wN hN) (w1 : gd_draw wN hN cag p p2 r) (w2 : gd_draw wN hN cgs p p2 r2) : r.toInt = r2.toInt := by
  obtain ⟨h1, h2, h3, h4, h5, h6, h7⟩ := h
  unfold gd_draw at w1 w2
  rw [gd_all_congr h5.2 h6.2 h7] at w1
  rcases w1 with ⟨a1, a2, a3, q, a4, a5⟩ | ⟨a1, a2⟩
  · have hl := (List.getElem?_eq_some_iff.mp a4).1
    rcases w2 with ⟨b1, b2, b3, q2, b4, b5⟩ | ⟨b1, b2⟩
    · rw [a4] at b4
      cases b4
      rw [a5, b5]
    · omega
  · rcases w2 with ⟨b1, b2, b3, q2, b4, b5⟩ | ⟨b1, b2⟩
    · have hl := (List.getElem?_eq_some_iff.mp b4).1
      omega
    · omega
end RG
