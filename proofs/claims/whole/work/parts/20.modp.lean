/-! THE REFERENCE: its text, cut into words -/
def ts (f : Nat → Int32) : Nat → Nat × Bool × (Nat → Nat)
  | 0 => (0, false, fun _ => 0)
  | n + 1 => tx_step (decide (f n = 32)) (ts f n).1 (ts f n).2.1 (ts f n).2.2
theorem ts_bl {f : Nat → Int32} {n : Nat} (h : f n = 32) : ts f (n + 1) = ((ts f n).1, false, (ts f n).2.2) := by
  rw [ts, decide_eq_true h]; rfl
theorem ts_in {f : Nat → Int32} {n : Nat} (h : ¬ f n = 32) (hb : (ts f n).2.1 = true) : ts f (n + 1) = ((ts f n).1, true, fun j => if j = (ts f n).1 - 1 then (ts f n).2.2 j + 1 else (ts f n).2.2 j) := by
  rw [ts, decide_eq_false h, hb]; rfl
theorem ts_new {f : Nat → Int32} {n : Nat} (h : ¬ f n = 32) (hb : (ts f n).2.1 = false) : ts f (n + 1) = ((ts f n).1 + 1, true, fun j => if j = (ts f n).1 then 1 else (ts f n).2.2 j) := by
  rw [ts, decide_eq_false h, hb]; rfl
theorem ts_bnd (f : Nat → Int32) : ∀ n, ((ts f n).2.1 = true → 1 ≤ (ts f n).1 ∧ 2 * (ts f n).1 ≤ n + 1) ∧ ((ts f n).2.1 = false → 2 * (ts f n).1 ≤ n) := by
  intro n
  induction n with
  | zero => exact ⟨fun h => (by cases h), fun _ => Nat.le_refl _⟩
  | succ n ih =>
    by_cases h : f n = 32
    · rw [ts_bl h]
      refine ⟨fun q => (by cases q), fun _ => ?_⟩
      show 2 * (ts f n).1 ≤ n + 1
      cases hb : (ts f n).2.1
      · have := ih.2 hb; omega
      · have := ih.1 hb; omega
    · cases hb : (ts f n).2.1
      · rw [ts_new h hb]
        refine ⟨fun _ => ?_, fun q => by cases q⟩
        have := ih.2 hb
        show 1 ≤ (ts f n).1 + 1 ∧ 2 * ((ts f n).1 + 1) ≤ n + 1 + 1
        omega
      · rw [ts_in h hb]
        refine ⟨fun _ => ?_, fun q => by cases q⟩
        have := ih.1 hb
        show 1 ≤ (ts f n).1 ∧ 2 * (ts f n).1 ≤ n + 1 + 1
        omega
/-- begins and ends of the first w words, of lengths L, within the first k bytes -/
def ts_w (bgn enn : Nat → Int32) (w k : Nat) (L : Nat → Nat) : Prop := ∀ j, j < w → 0 ≤ (bgn j).toInt ∧ (enn j).toInt ≤ (k : Int) ∧ (enn j).toInt - (bgn j).toInt = (L j : Int) ∧ 1 ≤ L j
theorem ts_w_le {bgn enn : Nat → Int32} {w k k2 : Nat} {L : Nat → Nat} (h : ts_w bgn enn w k L) (hk : k ≤ k2) : ts_w bgn enn w k2 L := fun j hj => by
  have := h j hj
  omega
/-- in the midst of a word that begins at k0: w words ahead of it, of lengths L -/
def ts_mid (f : Nat → Int32) (k0 k w : Nat) (L : Nat → Nat) : Prop := (k = k0 ∧ (ts f k).1 = w ∧ (ts f k).2.1 = false ∧ (ts f k).2.2 = L) ∨ (k0 < k ∧ (ts f k).1 = w + 1 ∧ (ts f k).2.1 = true ∧ (∀ j, j < w → (ts f k).2.2 j = L j) ∧ (ts f k).2.2 w = k - k0)
theorem ts_mid_s {f : Nat → Int32} {k0 k w : Nat} {L : Nat → Nat} (h : ts_mid f k0 k w L) (hn : ¬ f k = 32) : ts_mid f k0 (k + 1) w L := by
  rcases h with ⟨h1, h2, h3, h4⟩ | ⟨h1, h2, h3, h4, h5⟩
  · right
    rw [ts_new hn h3]
    refine ⟨by omega, by show (ts f k).1 + 1 = w + 1; omega, rfl, fun j hj => ?_, ?_⟩
    · show (if j = (ts f k).1 then 1 else (ts f k).2.2 j) = L j
      rw [if_neg (by omega), h4]
    · show (if w = (ts f k).1 then 1 else (ts f k).2.2 w) = k + 1 - k0
      rw [if_pos h2.symm]
      omega
  · right
    rw [ts_in hn h3]
    refine ⟨by omega, h2, rfl, fun j hj => ?_, ?_⟩
    · show (if j = (ts f k).1 - 1 then (ts f k).2.2 j + 1 else (ts f k).2.2 j) = L j
      rw [if_neg (by omega)]
      exact h4 j hj
    · show (if w = (ts f k).1 - 1 then (ts f k).2.2 w + 1 else (ts f k).2.2 w) = k + 1 - k0
      rw [if_pos (by omega), h5]
      omega
/-- between two words -/
def ts_out (f : Nat → Int32) (k sz w : Nat) : Prop := (ts f k).1 = w ∧ ((ts f k).2.1 = true → k = sz ∨ f k = 32)
theorem ts_end {f : Nat → Int32} {bgn enn : Nat → Int32} {k0 k w sz : Nat} {L : Nat → Nat} {x y : Int32} (h : ts_mid f k0 k w L) (hk : k0 < k) (hw : ts_w bgn enn w k0 L) (hb : x.toInt = (k0 : Int)) (he : y.toInt = (k : Int)) (hs : k = sz ∨ f k = 32) : ts_out f k sz (w + 1) ∧ ts_w (upd bgn w x) (upd enn w y) (w + 1) k (ts f k).2.2 := by
  rcases h with ⟨h1, _⟩ | ⟨h1, h2, h3, h4, h5⟩
  · omega
  · refine ⟨⟨h2, fun _ => hs⟩, fun j hj => ?_⟩
    by_cases q : j = w
    · rw [q, xi_upd_s, xi_upd_s, h5, hb, he]
      omega
    · rw [xi_upd_n q, xi_upd_n q, h4 j (by omega)]
      have := hw j (by omega)
      omega
def mt_unit (siz : Int32) (txt : Nat → Int32) (p r siz' : Int32) (txt' : Nat → Int32) : Prop := (32 ≤ p.toInt ∧ p.toInt ≤ 126 ∧ siz.toInt ≠ 200 ∧ r.toInt = 1 ∧ siz'.toInt = siz.toInt + 1 ∧ txt' = upd txt siz.toInt.toNat p) ∨ ((p.toInt < 32 ∨ 126 < p.toInt ∨ siz.toInt = 200) ∧ r.toInt = 0 ∧ siz' = siz ∧ txt' = txt)
theorem tx_far {L : Nat → Nat} {v i m j : Nat} (h : tx_S L i + v + 1 < tx_S L (m + 1)) (hj : m < j) : ¬ tx_fit L v i j := by
  have h3 := tx_S_mono L (show m + 1 ≤ j from hj)
  unfold tx_fit
  omega
theorem ts_100 {f : Nat → Int32} {n : Nat} (h : n ≤ 200) : (ts f n).1 ≤ 100 := by
  have hb := ts_bnd f n
  cases hq : (ts f n).2.1
  · have := hb.2 hq; omega
  · have := hb.1 hq; omega
def tx_nx (f : Nat → Int32) : Nat → Nat := fun j => j + tx_nat f j
theorem mo_D_0 {L : Nat → Nat} {v w : Nat} {f g : Nat → Int32} (h : f w = 0) : tx_D L v w w (tx_nat f) (tx_nx g) := by
  refine ⟨?_, fun i h1 h2 => by omega⟩
  unfold tx_nat
  rw [h]
  decide
theorem mo_D_s {L : Nat → Nat} {v w k : Nat} {f g f2 g2 : Nat → Int32} {cb nb : Nat} (hk : k < w) (h : tx_D L v w (k + 1) (tx_nat f) (tx_nx g)) (hl1 : ∀ j, k + 1 ≤ j → j ≤ w → (f j).toInt = (tx_nat f j : Int)) (hl2 : ∀ j, k + 1 ≤ j → j < w → (g j).toInt = (tx_nx g j : Int) - (j : Int))
    (z1 : (f2 k).toInt = (cb : Int)) (z2 : (g2 k).toInt = (nb : Int) - (k : Int)) (z3 : tx_bt L v (tx_nat f) k w cb nb) (z4 : ∀ j, j ≠ k → f2 j = f j) (z5 : ∀ j, j ≠ k → g2 j = g j) (hv : v ≤ 100) (hLk : L k ≤ v) : tx_D L v w k (tx_nat f2) (tx_nx g2) ∧ (∀ j, k ≤ j → j ≤ w → (f2 j).toInt = (tx_nat f2 j : Int)) ∧ (∀ j, k ≤ j → j < w → (g2 j).toInt = (tx_nx g2 j : Int) - (j : Int)) := by
  have hkn := z3.1
  have e1 : tx_nat f2 k = cb := by unfold tx_nat; rw [z1]; rfl
  have e2 : tx_nx g2 k = nb := by unfold tx_nx tx_nat; rw [z2]; omega
  have e3 : ∀ j, j ≠ k → tx_nat f2 j = tx_nat f j := fun j hj => by unfold tx_nat; rw [z4 j hj]
  have e4 : ∀ j, j ≠ k → tx_nx g2 j = tx_nx g j := fun j hj => by unfold tx_nx tx_nat; rw [z5 j hj]
  refine ⟨⟨by rw [e3 w (by omega)]; exact h.1, fun i h1 h2 => ?_⟩, fun j h1 h2 => ?_, fun j h1 h2 => ?_⟩
  · rcases Nat.lt_or_ge k i with q | q
    · have h3 := h.2 i q h2
      rw [e3 i (by omega), e4 i (by omega)]
      exact ⟨h3.1, tx_bt_congr h3.2 (fun j g1 g2 => e3 j (by omega))⟩
    · have : i = k := by omega
      subst this
      rw [e1, e2]
      refine ⟨?_, tx_bt_congr z3 (fun j g1 g2 => e3 j (by omega))⟩
      have h4 := (z3.2.2.2.2 (i + 1) (by omega) (by omega) (tx_r1 hLk).1).1
      have h5 := tx_sq (L := L) (v := v) (show i < i + 1 by omega) hv
      have h6 : tx_nat f (i + 1) ≤ 10000 * (w - (i + 1)) := by
        rcases Nat.lt_or_ge (i + 1) w with q | q
        · exact (h.2 (i + 1) (Nat.le_refl _) q).1
        · rw [show i + 1 = w by omega, h.1]; exact Nat.zero_le _
      omega
  · rcases Nat.lt_or_ge k j with q | q
    · rw [e3 j (by omega), z4 j (by omega)]
      exact hl1 j q h2
    · rw [show j = k by omega, e1]; exact z1
  · rcases Nat.lt_or_ge k j with q | q
    · rw [e4 j (by omega), z5 j (by omega)]
      exact hl2 j q h2
    · rw [show j = k by omega, e2]; exact z2
