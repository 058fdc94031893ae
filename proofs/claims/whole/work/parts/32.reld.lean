/-! BOTH CODES -/
def ci (b : Int32) (x : Nat) : Bool := decide (cm_in b x 8 % 2 = 1)
theorem ct_o1 {tol : Nat → Int32} {n x y : Nat} (hy : y < n) : ∀ k, k ≤ n → cm_out tol n x y k = if y < k then cm_in (tol y) x 8 else 0 := by
  intro k
  induction k with
  | zero => intro _; rfl
  | succ k ih =>
    intro hk
    rw [cm_out, ih (by omega)]
    by_cases z : y = k
    · rw [if_pos (Or.inr z), if_neg (by omega), if_pos (by omega), z]
      omega
    · rw [if_neg (by omega)]
      by_cases w : y < k
      · rw [if_pos w, if_pos (by omega)]
      · rw [if_neg w, if_neg (by omega)]
theorem ct_row {tol : Nat → Int32} {n x y : Nat} (hy : y < n) : cm_told tol n x y = ci (tol y) x := by
  unfold cm_told ci
  rw [ct_o1 hy n (Nat.le_refl _), if_pos hy]
theorem ct_o2 {tol : Nat → Int32} {n x : Nat} : ∀ k, decide (cm_out tol n x n k % 2 = 1) = xf (fun j => ci (tol j) x) k := by
  intro k
  induction k with
  | zero => rfl
  | succ k ih =>
    rw [xf, ← ih, cm_out, if_pos (Or.inl rfl)]
    unfold ci
    rcases Nat.mod_two_eq_zero_or_one (cm_out tol n x n k) with q | q <;> rcases Nat.mod_two_eq_zero_or_one (cm_in (tol k) x 8) with q2 | q2
    · rw [decide_eq_false (show ¬ (cm_out tol n x n k + cm_in (tol k) x 8) % 2 = 1 by omega), decide_eq_false (show ¬ cm_out tol n x n k % 2 = 1 by omega), decide_eq_false (show ¬ cm_in (tol k) x 8 % 2 = 1 by omega)]; rfl
    · rw [decide_eq_true (show (cm_out tol n x n k + cm_in (tol k) x 8) % 2 = 1 by omega), decide_eq_false (show ¬ cm_out tol n x n k % 2 = 1 by omega), decide_eq_true q2]; rfl
    · rw [decide_eq_true (show (cm_out tol n x n k + cm_in (tol k) x 8) % 2 = 1 by omega), decide_eq_true q, decide_eq_false (show ¬ cm_in (tol k) x 8 % 2 = 1 by omega)]; rfl
    · rw [decide_eq_false (show ¬ (cm_out tol n x n k + cm_in (tol k) x 8) % 2 = 1 by omega), decide_eq_true q, decide_eq_true q2]; rfl
theorem ct_last {tol : Nat → Int32} {n x : Nat} : cm_told tol n x n = xf (fun j => ci (tol j) x) n := ct_o2 n
def ct_by (tol : Nat → Int32) (n : Nat) : Prop := ∀ j, j < n → 0 ≤ (tol j).toInt ∧ (tol j).toInt ≤ 255
theorem ct_nI {b : Int32} (h : 0 ≤ b.toInt ∧ b.toInt ≤ 255) : ∃ k, k < 256 ∧ b = nI k := ⟨b.toInt.toNat, by omega, xi_of (by omega)⟩
theorem ct_r0 {b : Int32} (h : 0 ≤ b.toInt ∧ b.toInt ≤ 255) : xf (fun x => ci b x) 9 = false := by
  obtain ⟨k, hk, rfl⟩ := ct_nI h
  exact ck_row k hk
theorem ct_rowpar {tol : Nat → Int32} {n y : Nat} (h : ct_by tol n) (hy : y ≤ n) : xf (fun x => cm_told tol n x y) 9 = false := by
  rcases Nat.lt_or_ge y n with q | q
  · rw [xf_congr 9 (fun x _ => ct_row q)]
    exact ct_r0 (h y q)
  · have e : y = n := by omega
    subst e
    rw [xf_congr 9 (g := fun x => xf (fun j => ci (tol j) x) y) (fun x _ => ct_last), xf_swap (fun j x => ci (tol j) x)]
    rw [xf_congr y (g := fun _ => false) (fun j hj => ct_r0 (h j hj)), xf_0]
theorem ct_colpar {tol : Nat → Int32} {n x : Nat} : xf (fun y => cm_told tol n x y) (n + 1) = false := by
  rw [xf, xf_congr n (g := fun j => ci (tol j) x) (fun j hj => ct_row hj), ct_last]
  cases xf (fun j => ci (tol j) x) n <;> rfl
def rr_C (ccn : Int32) (cby cbt : Nat → Int32) (byn : Int32) (tol trn : Nat → Int32) (n : Nat) : Prop := ccn.toInt = (n : Int) ∧ byn.toInt = (n : Int) ∧ n ≤ 12 ∧ (∀ j, j < n → cby j = tol j) ∧ ct_by tol n ∧ cm_01 trn ∧ (0 < n → ∀ y, y ≤ n → cs_ok (cbt y) ∧ ∀ x, x < 9 → cs_bit (cbt y) x = cm_dark tol trn n x y)
section RC
variable {ccn byn p p2 r r2 ccn' byn' : Int32} {cby cbt tol trn cby' cbt' tol' trn' : Nat → Int32} {n : Nat}
theorem rr_code (h : rr_C ccn cby cbt byn tol trn n) (w1 : cd_add ccn cby cbt p r ccn' cby' cbt') (w2 : cm_code byn tol trn p r2 byn' tol' trn') : r.toInt = r2.toInt ∧ ∃ n, rr_C ccn' cby' cbt' byn' tol' trn' n := by
  obtain ⟨h1, h2, h3, h4, h5, h6, h7⟩ := h
  rcases w1 with ⟨a1, a2, a3, a4, a5, a6, a7, a8⟩ | ⟨a1, a2, a3, a4, a5⟩
  · rcases w2 with ⟨b1, b2, b3, b4, b5, b6, b7⟩ | ⟨b1, b2⟩
    · have e1 : ccn.toInt.toNat = n := by omega
      have e2 : byn.toInt.toNat = n := by omega
      rw [e1] at a6 a8
      rw [e2] at b6
      have e3 : ∀ j, j < n + 1 → cby' j = tol' j := fun j hj => by
        rw [a6, b6]
        by_cases z : j = n
        · rw [z, xi_upd_s, xi_upd_s]
        · rw [xi_upd_n z, xi_upd_n z]
          exact h4 j (by omega)
      have e4 : ct_by tol' (n + 1) := fun j hj => by
        rw [b6]
        by_cases z : j = n
        · rw [z, xi_upd_s]; exact ⟨a1, a2⟩
        · rw [xi_upd_n z]; exact h5 j (by omega)
      have e5 : ∀ i, i < 117 → cm_tr trn' i = false := fun i hi => cm_tr_n (by rw [b7 i hi]; decide)
      have e6 : ∀ y, y < n + 1 → cs_ok (cd_enc (cby' y)) ∧ ∀ x, x < 9 → cs_bit (cd_enc (cby' y)) x = ci (tol' y) x := fun y hy => by
        rw [e3 y hy]
        obtain ⟨b, hb, hbe⟩ := ct_nI (e4 y hy)
        rw [hbe]
        exact ⟨⟨_, ck_encok b hb⟩, fun x hx => ck_enc b hb x hx⟩
      refine ⟨by omega, n + 1, by omega, by omega, by omega, e3, e4, fun i hi => Or.inl (by rw [b7 i hi]; decide), fun _ y hy => ?_⟩
      rcases Nat.lt_or_ge y (n + 1) with q | q
      · rw [a7 y (by omega)]
        refine ⟨(e6 y q).1, fun x hx => ?_⟩
        rw [(e6 y q).2 x hx]
        unfold cm_dark
        rw [ct_row q, e5 _ (by omega), Bool.xor_false]
      · have e : y = n + 1 := by omega
        subst e
        obtain ⟨g1, g2⟩ := cd_x_bit (f := fun y => cd_enc (cby' y)) (n + 1) (fun y hy => (e6 y hy).1)
        rw [a8]
        refine ⟨g1, fun x hx => ?_⟩
        rw [g2 x hx]
        unfold cm_dark
        rw [ct_last, e5 _ (by omega), Bool.xor_false]
        exact xf_congr (n + 1) (fun y hy => (e6 y hy).2 x hx)
    · omega
  · rcases w2 with ⟨b1, b2, b3, b4⟩ | ⟨b1, b2, b3, b4, b5⟩
    · omega
    · subst a3 a4 a5 b3 b4 b5
      exact ⟨by omega, n, h1, h2, h3, h4, h5, h6, h7⟩
theorem rr_ok (h : rr_C ccn cby cbt byn tol trn n) (a b : Int) : cd_ok ccn a b ↔ cd_ok byn a b := by
  unfold cd_ok
  rw [h.1, h.2.1]
theorem rr_dark (h : rr_C ccn cby cbt byn tol trn n) (w1 : cd_dark ccn cbt p p2 r) (w2 : cm_drk byn tol trn n p p2 r2) : r.toInt = r2.toInt := by
  rcases w1 with ⟨a1, a2⟩ | ⟨a1, a2⟩
  · have ho := a1
    unfold cd_ok at ho
    have hh := h.1
    have e := (h.2.2.2.2.2.2 (by omega) p2.toInt.toNat (by omega)).2 p.toInt.toNat (by omega)
    have ep : nI p.toInt.toNat = p := (xi_of (by omega)).symm
    unfold cs_bit at e
    rw [ep] at e
    rcases w2 with ⟨b1, b2⟩ | ⟨b1, b2⟩
    · rw [← e] at b2
      rcases a2 with ⟨a2, a3⟩ | ⟨a2, a3⟩
      · rw [decide_eq_true a3] at b2
        rcases b2 with ⟨b2, b3⟩ | ⟨b2, b3⟩
        · omega
        · cases b3
      · rw [decide_eq_false a3] at b2
        rcases b2 with ⟨b2, b3⟩ | ⟨b2, b3⟩
        · cases b3
        · omega
    · exact absurd ((rr_ok h _ _).mp a1) b1
  · rcases w2 with ⟨b1, b2⟩ | ⟨b1, b2⟩
    · exact absurd ((rr_ok h _ _).mpr b1) a1
    · omega
theorem rr_flip {D : Int32} {x y : Nat} (h : rr_C ccn cby cbt byn tol trn n) (hn : 0 < n) (hy : y ≤ n) (hx : x < 9) (hD : cs_ok D) (hb : ∀ z, z < 9 → cs_bit D z = decide (z = x)) (hc : cbt' = upd cbt y (cbt y ^^^ D)) (ht : cm_flip trn (9 * y + x) trn') : rr_C ccn cby cbt' byn tol trn' n := by
  obtain ⟨h1, h2, h3, h4, h5, h6, h7⟩ := h
  obtain ⟨v, t1, t2⟩ := ht
  have h60 := h6 (9 * y + x) (by omega)
  refine ⟨h1, h2, h3, h4, h5, fun i hi => ?_, fun _ y1 hy1 => ?_⟩
  · rw [t1]
    by_cases z : i = 9 * y + x
    · rw [z, xi_upd_s]; omega
    · rw [xi_upd_n z]; exact h6 i hi
  · obtain ⟨g1, g2⟩ := h7 hn y1 hy1
    rw [hc]
    by_cases z : y1 = y
    · subst z
      rw [xi_upd_s]
      obtain ⟨k1, k2⟩ := cs_xor g1 hD
      refine ⟨k1, fun x1 hx1 => ?_⟩
      rw [k2 x1 hx1, g2 x1 hx1, hb x1 hx1]
      unfold cm_dark
      by_cases w : x1 = x
      · subst w
        have e1 : cm_tr trn' (9 * y1 + x1) = !cm_tr trn (9 * y1 + x1) := by
          unfold cm_tr
          rw [t1, xi_upd_s]
          rcases h60 with q | q
          · rw [decide_eq_true (by omega), decide_eq_false (by omega)]; rfl
          · rw [decide_eq_false (by omega), decide_eq_true (by omega)]; rfl
        rw [e1, decide_eq_true rfl]
        cases cm_told tol n x1 y1 <;> cases cm_tr trn (9 * y1 + x1) <;> rfl
      · have e1 : cm_tr trn' (9 * y1 + x1) = cm_tr trn (9 * y1 + x1) := by
          unfold cm_tr
          rw [t1, xi_upd_n (by omega)]
        rw [e1, decide_eq_false w, Bool.xor_false]
    · rw [xi_upd_n z]
      refine ⟨g1, fun x1 hx1 => ?_⟩
      rw [g2 x1 hx1]
      unfold cm_dark cm_tr
      rw [t1, xi_upd_n (by omega)]
theorem rr_spoil (h : rr_C ccn cby cbt byn tol trn n) (w1 : cd_spoil ccn cbt p p2 r cbt') (w2 : cm_spoil byn trn p p2 r2 trn') : r.toInt = r2.toInt ∧ ∃ n, rr_C ccn cby cbt' byn tol trn' n := by
  rcases w1 with ⟨a1, a2, a3⟩ | ⟨a1, a2, a3⟩
  · have ho := a1
    unfold cd_ok at ho
    have hh := h.1
    rcases w2 with ⟨b1, b2, b3⟩ | ⟨b1, b2⟩
    · have ep : nI p.toInt.toNat = p := (xi_of (by omega)).symm
      have hone := cs_one_ok (x := p.toInt.toNat) (by omega)
      rw [ep] at hone
      exact ⟨by omega, n, rr_flip h (by omega) (by omega) (by omega) hone.1 hone.2 a3 b3⟩
    · exact absurd ((rr_ok h _ _).mp a1) b1
  · rcases w2 with ⟨b1, b2, b3⟩ | ⟨b1, b2, b3⟩
    · exact absurd ((rr_ok h _ _).mpr b1) a1
    · subst a3 b3
      exact ⟨by omega, n, h⟩
theorem rr_rho (h : rr_C ccn cby cbt byn tol trn n) (hn : 0 < n) {y : Nat} (hy : y ≤ n) : cd_odd (cbt y) = cm_rho trn y := by
  obtain ⟨h1, h2, h3, h4, h5, h6, h7⟩ := h
  obtain ⟨⟨k, hk, hke⟩, g2⟩ := h7 hn y hy
  unfold cm_rho
  rw [xf_cnt, hke, ck_odd k hk, ← hke, xf_congr 9 (g := fun x => cm_dark tol trn n x y) g2]
  have e := xf_xor (fun x => cm_told tol n x y) (fun x => cm_tr trn (9 * y + x)) 9
  rw [ct_rowpar h5 hy, Bool.false_xor] at e
  exact e
theorem rr_kap (h : rr_C ccn cby cbt byn tol trn n) (hn : 0 < n) : cs_ok (cd_x cbt (n + 1)) ∧ ∀ x, x < 9 → cs_bit (cd_x cbt (n + 1)) x = cm_kap trn n x := by
  obtain ⟨h1, h2, h3, h4, h5, h6, h7⟩ := h
  obtain ⟨g1, g2⟩ := cd_x_bit (f := cbt) (n + 1) (fun y hy => (h7 hn y (by omega)).1)
  refine ⟨g1, fun x hx => ?_⟩
  unfold cm_kap
  rw [g2 x hx, xf_cnt, xf_congr (n + 1) (g := fun y => cm_dark tol trn n x y) (fun y hy => (h7 hn y (by omega)).2 x hx)]
  have e := xf_xor (fun y => cm_told tol n x y) (fun y => cm_tr trn (9 * y + x)) (n + 1)
  rw [ct_colpar, Bool.false_xor] at e
  exact e
theorem rr_read (h : rr_C ccn cby cbt byn tol trn n) (w1 : cd_read ccn cbt r cbt') (w2 : cm_read n trn r2 trn') : r.toInt = r2.toInt ∧ ∃ n, rr_C ccn cby cbt' byn tol trn' n := by
  have hh := h.1
  rcases Nat.eq_zero_or_pos n with hn | hn
  · rcases w1 with ⟨a1, a2, a3⟩ | ⟨a1, a2⟩
    · rcases w2 with ⟨b1, b2, b3⟩ | ⟨b1, b2⟩
      · subst a3 b3
        exact ⟨by omega, n, h⟩
      · omega
    · omega
  · have en : ccn.toInt.toNat + 1 = n + 1 := by omega
    have eC : cd_c cbt (n + 1) = cr_cnt (cm_rho trn) (n + 1) := by rw [cd_c_cnt]; exact cr_cnt_congr (n + 1) (fun y hy => rr_rho h hn (by omega))
    have eL : cd_l cbt (n + 1) = cr_lst (cm_rho trn) (n + 1) := by rw [cd_l_lst]; exact cr_lst_congr (n + 1) (fun y hy => rr_rho h hn (by omega))
    obtain ⟨⟨k, hk, hke⟩, hkb⟩ := rr_kap h hn
    have eK : cr_cnt (fun x => cs_bit (nI k) x) 9 = cr_cnt (cm_kap trn n) 9 := by rw [← hke]; exact cr_cnt_congr 9 hkb
    have eM : cr_lst (fun x => cs_bit (nI k) x) 9 = cr_lst (cm_kap trn n) 9 := by rw [← hke]; exact cr_lst_congr 9 hkb
    have z0 := ck_0 k hk
    have z1 := ck_bc k hk
    rw [eK, ← hke] at z0 z1
    rcases w1 with ⟨a1, a2⟩ | ⟨a1, a2⟩
    · omega
    · rcases w2 with ⟨b1, b2⟩ | ⟨b1, b2⟩
      · omega
      · rw [en, eC, eL, z0, z1] at a2
        rcases a2 with ⟨c1, c2, c3, c4⟩ | ⟨c1, c2, c3, c4⟩ | ⟨c1, c2, c3, c4⟩
        · rcases b2 with ⟨d1, d2, d3, d4⟩ | ⟨d1, d2, d3, d4⟩ | ⟨d1, d2, d3, d4⟩
          · subst c4 d4
            exact ⟨by omega, n, h⟩
          · exact absurd ⟨c1, c2⟩ d1
          · omega
        · rcases b2 with ⟨d1, d2, d3, d4⟩ | ⟨d1, d2, d3, d4⟩ | ⟨d1, d2, d3, d4⟩
          · exact absurd ⟨d1, d2⟩ c1
          · subst c4 d4
            exact ⟨by omega, n, h⟩
          · exact absurd ⟨d1, d2⟩ c2
        · rcases b2 with ⟨d1, d2, d3, d4⟩ | ⟨d1, d2, d3, d4⟩ | ⟨d1, d2, d3, d4⟩
          · omega
          · exact absurd ⟨c1, c2⟩ d2
          · have l1 := cr_lst_lt (cm_rho trn) (n + 1) (by omega)
            have l2 := cr_lst_lt (cm_kap trn n) 9 (by omega)
            have hb := ck_lst k hk (by rw [eK]; exact c2)
            rw [eM, ← hke] at hb
            exact ⟨by omega, n, rr_flip h hn (by omega) l2 ⟨k, hk, hke⟩ hb c4 d4⟩
theorem rr_byte (h : rr_C ccn cby cbt byn tol trn n) (w1 : cd_byte ccn cbt p r) (w2 : (0 ≤ p.toInt ∧ p.toInt < (n : Int) ∧ r2.toInt = (cv_val tol trn n p.toInt.toNat 8 : Int)) ∨ ((p.toInt < 0 ∨ (n : Int) ≤ p.toInt) ∧ r2.toInt = -1)) : r.toInt = r2.toInt := by
  have hh := h.1
  rcases w1 with ⟨a1, a2, a3⟩ | ⟨a1, a2⟩
  · rcases w2 with ⟨b1, b2, b3⟩ | ⟨b1, b2⟩
    · obtain ⟨⟨k, hk, hke⟩, g2⟩ := h.2.2.2.2.2.2 (by omega) p.toInt.toNat (by omega)
      rw [a3, b3, cv_eq, hke, ck_val k hk, ← hke, cv_congr 8 (fun x hx => g2 x (by omega))]
    · omega
  · rcases w2 with ⟨b1, b2, b3⟩ | ⟨b1, b2⟩
    · omega
    · omega
theorem rr_wipe (w1 : ccn'.toInt = 0) (w2 : byn'.toInt = 0 ∧ ∀ i, i < 117 → trn' i = 0) : ∃ n, rr_C ccn' cby cbt byn' tol trn' n := ⟨0, w1, w2.1, by omega, fun j hj => absurd hj (Nat.not_lt_zero _), fun j hj => absurd hj (Nat.not_lt_zero _), fun i hi => Or.inl (by rw [w2.2 i hi]; decide), fun z => absurd z (Nat.lt_irrefl _)⟩
end RC
