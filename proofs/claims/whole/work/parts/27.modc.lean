/-! THE REFERENCE'S CODE -/
def cm_b (b : Int32) (j : Nat) : Int32 := (b >>> ((7 - nI j) &&& 31)) &&& 1
def cm_n (b : Int32) (j : Nat) : Nat := (cm_b b j).toInt.toNat
theorem cm_and1 (x : Int32) : (x &&& 1).toInt = 0 ∨ (x &&& 1).toInt = 1 := by
  obtain ⟨j, hj, he⟩ := pk_andE x (m := 1) 1 (by decide)
  rw [he, xi_nI (by omega)]
  omega
theorem cm_n_eq {b x : Int32} {j : Nat} (h : x.toInt = (j : Int)) : ((b >>> ((7 - x) &&& 31)) &&& 1).toInt = (cm_n b j : Int) := by
  rw [xi_of h]
  unfold cm_n cm_b
  rcases cm_and1 (b >>> ((7 - nI j) &&& 31)) with q | q <;> rw [q] <;> rfl
theorem cm_n_le (b : Int32) (j : Nat) : cm_n b j ≤ 1 := by
  unfold cm_n cm_b
  rcases cm_and1 (b >>> ((7 - nI j) &&& 31)) with q | q <;> rw [q] <;> decide
def cm_in (b : Int32) (x : Nat) : Nat → Nat
  | 0 => 0
  | j + 1 => if x = 8 ∨ x = j then cm_in b x j + cm_n b j else cm_in b x j
theorem cm_in_le (b : Int32) (x : Nat) : ∀ j, cm_in b x j ≤ j := by
  intro j
  induction j with
  | zero => exact Nat.le_refl _
  | succ j ih =>
    rw [cm_in]
    have := cm_n_le b j
    split <;> omega
def cm_out (tol : Nat → Int32) (n x y : Nat) : Nat → Nat
  | 0 => 0
  | k + 1 => if y = n ∨ y = k then cm_out tol n x y k + cm_in (tol k) x 8 else cm_out tol n x y k
theorem cm_out_le (tol : Nat → Int32) (n x y : Nat) : ∀ k, cm_out tol n x y k ≤ 8 * k := by
  intro k
  induction k with
  | zero => exact Nat.le_refl _
  | succ k ih =>
    rw [cm_out]
    have := cm_in_le (tol k) x 8
    split <;> omega
def cm_told (tol : Nat → Int32) (n x y : Nat) : Bool := decide (cm_out tol n x y n % 2 = 1)
def cm_tr (trn : Nat → Int32) (i : Nat) : Bool := decide (¬ (trn i).toInt = 0)
def cm_dark (tol trn : Nat → Int32) (n x y : Nat) : Bool := cm_told tol n x y ^^ cm_tr trn (9 * y + x)
def cm_01 (trn : Nat → Int32) : Prop := ∀ i, i < 117 → (trn i).toInt = 0 ∨ (trn i).toInt = 1
def cr_cnt (f : Nat → Bool) : Nat → Nat
  | 0 => 0
  | k + 1 => if f k = true then cr_cnt f k + 1 else cr_cnt f k
def cr_lst (f : Nat → Bool) : Nat → Nat
  | 0 => 0
  | k + 1 => if f k = true then k else cr_lst f k
theorem cr_cnt_le (f : Nat → Bool) : ∀ k, cr_cnt f k ≤ k := by
  intro k
  induction k with
  | zero => exact Nat.le_refl _
  | succ k ih => rw [cr_cnt]; split <;> omega
theorem cr_lst_lt (f : Nat → Bool) : ∀ k, 0 < k → cr_lst f k < k := by
  intro k
  induction k with
  | zero => intro h; omega
  | succ k ih =>
    intro _
    rw [cr_lst]
    split
    · omega
    · rcases Nat.eq_zero_or_pos k with rfl | h
      · exact Nat.lt_succ_self _
      · have := ih h; omega
theorem cr_cnt_y {f : Nat → Bool} {k : Nat} (h : f k = true) : cr_cnt f (k + 1) = cr_cnt f k + 1 := by rw [cr_cnt]; exact if_pos h
theorem cr_cnt_n {f : Nat → Bool} {k : Nat} (h : f k = false) : cr_cnt f (k + 1) = cr_cnt f k := by rw [cr_cnt]; exact if_neg (by rw [h]; decide)
theorem cr_lst_y {f : Nat → Bool} {k : Nat} (h : f k = true) : cr_lst f (k + 1) = k := by rw [cr_lst]; exact if_pos h
theorem cr_lst_n {f : Nat → Bool} {k : Nat} (h : f k = false) : cr_lst f (k + 1) = cr_lst f k := by rw [cr_lst]; exact if_neg (by rw [h]; decide)
/-- odd rows, odd columns of what is turned -/
def cm_rho (trn : Nat → Int32) (y : Nat) : Bool := decide (cr_cnt (fun x => cm_tr trn (9 * y + x)) 9 % 2 = 1)
def cm_kap (trn : Nat → Int32) (n x : Nat) : Bool := decide (cr_cnt (fun y => cm_tr trn (9 * y + x)) (n + 1) % 2 = 1)
def cm_code (byn : Int32) (tol trn : Nat → Int32) (p r byn' : Int32) (tol' trn' : Nat → Int32) : Prop := (0 ≤ p.toInt ∧ p.toInt ≤ 255 ∧ byn.toInt ≠ 12 ∧ r.toInt = 1 ∧ byn'.toInt = byn.toInt + 1 ∧ tol' = upd tol byn.toInt.toNat p ∧ ∀ i, i < 117 → trn' i = 0) ∨ ((p.toInt < 0 ∨ 255 < p.toInt ∨ byn.toInt = 12) ∧ r.toInt = 0 ∧ byn' = byn ∧ tol' = tol ∧ trn' = trn)
def cm_drk (byn : Int32) (tol trn : Nat → Int32) (n : Nat) (x y r : Int32) : Prop := (cd_ok byn x.toInt y.toInt ∧ ((r.toInt = 1 ∧ cm_dark tol trn n x.toInt.toNat y.toInt.toNat = true) ∨ (r.toInt = 0 ∧ cm_dark tol trn n x.toInt.toNat y.toInt.toNat = false))) ∨ (¬ cd_ok byn x.toInt y.toInt ∧ r.toInt = 0)
/-- one square turned over -/
def cm_flip (trn : Nat → Int32) (i : Nat) (trn' : Nat → Int32) : Prop := ∃ v : Int32, trn' = upd trn i v ∧ v.toInt = 1 - (trn i).toInt
def cm_spoil (byn : Int32) (trn : Nat → Int32) (x y r : Int32) (trn' : Nat → Int32) : Prop := (cd_ok byn x.toInt y.toInt ∧ r.toInt = 1 ∧ cm_flip trn (9 * y.toInt.toNat + x.toInt.toNat) trn') ∨ (¬ cd_ok byn x.toInt y.toInt ∧ r.toInt = 0 ∧ trn' = trn)
def cm_read (n : Nat) (trn : Nat → Int32) (r : Int32) (trn' : Nat → Int32) : Prop := (n = 0 ∧ r.toInt = -1 ∧ trn' = trn) ∨ (n ≠ 0 ∧ ((cr_cnt (cm_rho trn) (n + 1) = 0 ∧ cr_cnt (cm_kap trn n) 9 = 0 ∧ r.toInt = 0 ∧ trn' = trn) ∨ (¬ (cr_cnt (cm_rho trn) (n + 1) = 0 ∧ cr_cnt (cm_kap trn n) 9 = 0) ∧ ¬ (cr_cnt (cm_rho trn) (n + 1) = 1 ∧ cr_cnt (cm_kap trn n) 9 = 1) ∧ r.toInt = -1 ∧ trn' = trn) ∨ (cr_cnt (cm_rho trn) (n + 1) = 1 ∧ cr_cnt (cm_kap trn n) 9 = 1 ∧ r.toInt = 1 ∧ cm_flip trn (9 * cr_lst (cm_rho trn) (n + 1) + cr_lst (cm_kap trn n) 9) trn')))
def cv_val (tol trn : Nat → Int32) (n y : Nat) : Nat → Nat
  | 0 => 0
  | x + 1 => 2 * cv_val tol trn n y x + (if cm_dark tol trn n x y = true then 1 else 0)
theorem cv_val_le (tol trn : Nat → Int32) (n y : Nat) : ∀ x, cv_val tol trn n y x < 2 ^ x := by
  intro x
  induction x with
  | zero => exact Nat.one_pos
  | succ x ih =>
    rw [cv_val, Nat.pow_succ]
    split <;> omega
theorem cv_val_b {tol trn : Nat → Int32} {n y x : Nat} (h : x ≤ 8) : cv_val tol trn n y x ≤ 256 := by
  have h1 := cv_val_le tol trn n y x
  have h2 : 2 ^ x ≤ 2 ^ 8 := Nat.pow_le_pow_right (by decide) h
  omega
theorem cm_tr_y {trn : Nat → Int32} {i : Nat} (h : ¬ (trn i).toInt = 0) : cm_tr trn i = true := decide_eq_true h
theorem cm_tr_n {trn : Nat → Int32} {i : Nat} (h : (trn i).toInt = 0) : cm_tr trn i = false := decide_eq_false (fun q => q h)
theorem cm_ds {tol trn : Nat → Int32} {n x y : Nat} {r : Int32} (w : (r.toInt = 1 ∧ cm_told tol n x y = true) ∨ (r.toInt = 0 ∧ cm_told tol n x y = false)) (ht : (trn (9 * y + x)).toInt = 0 ∨ (trn (9 * y + x)).toInt = 1) (h : r.toInt = (trn (9 * y + x)).toInt) : ((0 : Int32).toInt = 1 ∧ cm_dark tol trn n x y = true) ∨ ((0 : Int32).toInt = 0 ∧ cm_dark tol trn n x y = false) := by
  right
  refine ⟨by decide, ?_⟩
  unfold cm_dark
  rcases w with ⟨a, b⟩ | ⟨a, b⟩
  · rw [b, cm_tr_y (by omega)]; rfl
  · rw [b, cm_tr_n (by omega)]; rfl
theorem cm_dn {tol trn : Nat → Int32} {n x y : Nat} {r : Int32} (w : (r.toInt = 1 ∧ cm_told tol n x y = true) ∨ (r.toInt = 0 ∧ cm_told tol n x y = false)) (ht : (trn (9 * y + x)).toInt = 0 ∨ (trn (9 * y + x)).toInt = 1) (h : ¬ r.toInt = (trn (9 * y + x)).toInt) : ((1 : Int32).toInt = 1 ∧ cm_dark tol trn n x y = true) ∨ ((1 : Int32).toInt = 0 ∧ cm_dark tol trn n x y = false) := by
  left
  refine ⟨by decide, ?_⟩
  unfold cm_dark
  rcases w with ⟨a, b⟩ | ⟨a, b⟩
  · rw [b, cm_tr_n (by omega)]; rfl
  · rw [b, cm_tr_y (by omega)]; rfl
set_option maxHeartbeats 4000000 in
set_option maxRecDepth 100000 in
theorem k_Mod_wipe (l : Launch) (dC : Nat → ClassId) (dI : Nat → Nat → Nat) (cI cZ : ClassId) (oM : Nat) (aTu : Nat) (thr : Int32) (aTx : Nat) (siz : Int32) (aBg : Nat) (aEn : Nat) (aLe : Nat) (aMa : Nat) (aFi : Nat) (lnm : Int32) (rsm : Int32) (aHe : Nat) (bxs : Int32) (wdt : Int32) (hgh : Int32) (aCa : Nat) (aTo : Nat) (byn : Int32) (pgm : Int32) (tpm : Int32) (stn : Int32) (lnx : Int32) (lny : Int32) (trn : Nat → Int32) (sz : Nat) : Met l y_Mod_wipe w_Mod_wipe ({ frames := 0, cells := 0, slots := 0, locals := 0 }) (va_Pc [.ref oM] (fun U => U.heap.size = sz ∧ va_P (dC, dI) classes [(oM, .inr (5, [.int thr, .ref aTx, .int siz, .ref aBg, .ref aEn, .ref aLe, .ref aMa, .ref aFi, .int lnm, .int rsm, .ref aHe, .int bxs, .int wdt, .int hgh, .ref aCa, .ref aTo, .int byn, .ref aTu, .int pgm, .int tpm, .int stn, .int lnx, .int lny])), (aTu, .inl (cZ, 117, .inl trn))] U.heap ∧ va_K (dC, dI) classes [(cI, .int), (cZ, .boolean)] U ∧ va_D (fun _ => True) [(oM, .inr (5, [.int thr, .ref aTx, .int siz, .ref aBg, .ref aEn, .ref aLe, .ref aMa, .ref aFi, .int lnm, .int rsm, .ref aHe, .int bxs, .int wdt, .int hgh, .ref aCa, .ref aTo, .int byn, .ref aTu, .int pgm, .int tpm, .int stn, .int lnx, .int lny])), (aTu, .inl (cZ, 117, .inl trn))])) (va_Qv (fun (u : Int32 × Int32 × (Nat → Int32)) => u.2.1.toInt = 0 ∧ ∀ i, i < 117 → u.2.2 i = 0) (fun (u : Int32 × Int32 × (Nat → Int32)) (t : State) => va_P (dC, dI) classes [(oM, .inr (5, [.int u.1, .ref aTx, .int siz, .ref aBg, .ref aEn, .ref aLe, .ref aMa, .ref aFi, .int lnm, .int rsm, .ref aHe, .int bxs, .int wdt, .int hgh, .ref aCa, .ref aTo, .int u.2.1, .ref aTu, .int pgm, .int tpm, .int stn, .int lnx, .int lny])), (aTu, .inl (cZ, 117, .inl u.2.2))] t.heap ∧ va_K (dC, dI) classes [(cI, .int), (cZ, .boolean)] t ∧ va_D (va_A [(oM, .inr (5, [.int thr, .ref aTx, .int siz, .ref aBg, .ref aEn, .ref aLe, .ref aMa, .ref aFi, .int lnm, .int rsm, .ref aHe, .int bxs, .int wdt, .int hgh, .ref aCa, .ref aTo, .int byn, .ref aTu, .int pgm, .int tpm, .int stn, .int lnx, .int lny])), (aTu, .inl (cZ, 117, .inl trn))] sz) [(oM, .inr (5, [.int u.1, .ref aTx, .int siz, .ref aBg, .ref aEn, .ref aLe, .ref aMa, .ref aFi, .int lnm, .int rsm, .ref aHe, .int bxs, .int wdt, .int hgh, .ref aCa, .ref aTo, .int u.2.1, .ref aTu, .int pgm, .int tpm, .int stn, .int lnx, .int lny])), (aTu, .inl (cZ, 117, .inl u.2.2))]) (va_A [(oM, .inr (5, [.int thr, .ref aTx, .int siz, .ref aBg, .ref aEn, .ref aLe, .ref aMa, .ref aFi, .int lnm, .int rsm, .ref aHe, .int bxs, .int wdt, .int hgh, .ref aCa, .ref aTo, .int byn, .ref aTu, .int pgm, .int tpm, .int stn, .int lnx, .int lny])), (aTu, .inl (cZ, 117, .inl trn))] sz)) 0 0 (va_A [(oM, .inr (5, [.int thr, .ref aTx, .int siz, .ref aBg, .ref aEn, .ref aLe, .ref aMa, .ref aFi, .int lnm, .int rsm, .ref aHe, .int bxs, .int wdt, .int hgh, .ref aCa, .ref aTo, .int byn, .ref aTu, .int pgm, .int tpm, .int stn, .int lnx, .int lny])), (aTu, .inl (cZ, 117, .inl trn))] sz) := by
  refine Met.ofW (cc := b_Mod_wipe) (maxL := 2) (ret := none) (by decide) rfl ?_
  intro p e s m args below meth c s₁ B hml hv
  obtain ⟨rfl, hsz, hP, hK, hD0⟩ := hv
  have hx := B.exec
  have hb := B.bytes
  have hr := B.returns
  have hts := atoms_spec (ws := w_Mod_wipe) B.pre
  have hown : s.vm.findClass R_Mod = some m.cls := findClass_of_methodNamed B.named
  have hlocks := B.notSynchronized
  have hw_Mod : ∀ w ∈ w_Mod, w ∈ w_Mod_wipe := by decide +kernel
  subst hsz
  have hD := hD0.self (sz := s.heap.size)
  generalize hAe : va_A [(oM, .inr (5, [.int thr, .ref aTx, .int siz, .ref aBg, .ref aEn, .ref aLe, .ref aMa, .ref aFi, .int lnm, .int rsm, .ref aHe, .int bxs, .int wdt, .int hgh, .ref aCa, .ref aTo, .int byn, .ref aTu, .int pgm, .int tpm, .int stn, .int lnx, .int lny])), (aTu, .inl (cZ, 117, .inl trn))] s.heap.size = A at hD ⊢
  have hA : ∀ q : Nat, s.heap.size ≤ q → A q := fun q h => by rw [← hAe]; exact Or.inr h
  have hS : va_S A s.heap s.heap [] := va_S.rf
  have hP : va_P (dC, dI) classes [(oM, .inr (5, [.int thr, .ref aTx, .int siz, .ref aBg, .ref aEn, .ref aLe, .ref aMa, .ref aFi, .int lnm, .int rsm, .ref aHe, .int bxs, .int wdt, .int hgh, .ref aCa, .ref aTo, .int byn, .ref aTu, .int pgm, .int tpm, .int stn, .int lnx, .int lny])), (aTu, .inl (cZ, 117, .inl trn))] s.heap := hP
  have hl := lv_entry ([.ref oM]) (n := 2) (Nat.le_of_ble_eq_true rfl)
  rw [lg_entry_eq]
  generalize (lg_sl ([.ref oM]) ++ List.replicate (2 - (lg_sl ([.ref oM])).length) Slot.unset).toArray = ls at hl ⊢
  have hl : lv_has ls 2 [(0, .ref oM)] := hl
  have loop12 : ∀ (n12 : Nat) (k : Nat) (x2 : Int32) (trn1 : Nat → Int32), (117 - k < n12) → (k ≤ 117) → (x2.toInt = (k : Int)) → (∀ j, j < k → trn1 j = 0) → ∀ (H : Heap) (locs : List Loc), va_P (dC, dI) classes [(oM, .inr (5, [.int 0, .ref aTx, .int siz, .ref aBg, .ref aEn, .ref aLe, .ref aMa, .ref aFi, .int lnm, .int rsm, .ref aHe, .int bxs, .int wdt, .int hgh, .ref aCa, .ref aTo, .int 0, .ref aTu, .int pgm, .int tpm, .int stn, .int lnx, .int lny])), (aTu, .inl (cZ, 117, .inl trn1))] H → va_D A [(oM, .inr (5, [.int 0, .ref aTx, .int siz, .ref aBg, .ref aEn, .ref aLe, .ref aMa, .ref aFi, .int lnm, .int rsm, .ref aHe, .int bxs, .int wdt, .int hgh, .ref aCa, .ref aTo, .int 0, .ref aTu, .int pgm, .int tpm, .int stn, .int lnx, .int lny])), (aTu, .inl (cZ, 117, .inl trn1))] → va_S A s.heap H locs → ∀ (ls : Array Slot), lv_has ls 2 [(0, .ref oM), (1, .int x2)] → W p l e (headSpec w_Mod_wipe ({ frames := 0, cells := 0, slots := 0, locals := 0 })).room s m ([.ref oM] : List Value).toArray below meth c H locs 0 0 (MQ below (va_Qv (fun (u : Int32 × Int32 × (Nat → Int32)) => u.2.1.toInt = 0 ∧ ∀ i, i < 117 → u.2.2 i = 0) (fun (u : Int32 × Int32 × (Nat → Int32)) (t : State) => va_P (dC, dI) classes [(oM, .inr (5, [.int u.1, .ref aTx, .int siz, .ref aBg, .ref aEn, .ref aLe, .ref aMa, .ref aFi, .int lnm, .int rsm, .ref aHe, .int bxs, .int wdt, .int hgh, .ref aCa, .ref aTo, .int u.2.1, .ref aTu, .int pgm, .int tpm, .int stn, .int lnx, .int lny])), (aTu, .inl (cZ, 117, .inl u.2.2))] t.heap ∧ va_K (dC, dI) classes [(cI, .int), (cZ, .boolean)] t ∧ va_D (A) [(oM, .inr (5, [.int u.1, .ref aTx, .int siz, .ref aBg, .ref aEn, .ref aLe, .ref aMa, .ref aFi, .int lnm, .int rsm, .ref aHe, .int bxs, .int wdt, .int hgh, .ref aCa, .ref aTo, .int u.2.1, .ref aTu, .int pgm, .int tpm, .int stn, .int lnx, .int lny])), (aTu, .inl (cZ, 117, .inl u.2.2))]) (A)) ([.ref oM] : List Value).toArray s 0 0 A) (F0 m 12 ls []) := by
    intro n12
    induction n12 with
    | zero => intro k x2 trn1 hmz12; omega
    | succ n12 ih12 =>
      intro k x2 trn1 hmz12 hk e2 hz H locs hP hD hS ls hl
      refine lv_iload_n hx hb d_Mod_wipe_12 rfl (lv_at hl 1 rfl) ?_
      refine lv_bipush (v := 117) hx hb d_Mod_wipe_13 (by decide) ?_
      refine xi_icmp_ge (tgt := 31) hx hb e2 (show (117 : Int32).toInt = 117 by decide) d_Mod_wipe_15 (by decide) (fun c15 => ?_) (fun c15 => ?_)
      · exact W.vret hx hb hr (fun t ht hW => ⟨⟨(0, 0, trn1), rfl, (show 0 = 0 ∧ ∀ i, i < 117 → trn1 i = 0 from ⟨by decide, fun i hi => hz i (by omega)⟩), by rw [ht]; exact hP, va_K.moved hW.alike hK, hD⟩, hS.F ht⟩) hS.2.2 d_Mod_wipe_31
      · refine lv_aload_n hx hb d_Mod_wipe_18 rfl (lv_at hl 0 rfl) ?_
        refine va_get (D := (dC, dI)) (ci := 5) (v := .ref aTu) (C := R_Mod) (T := F_Mod) (N := 23) hx hb hts hw_Mod hown hK hP 0 rfl rfl 17 (by decide) (hts (.fieldLink R_Mod 44 "PageFormsModel" "turned" "[Z") (by decide +kernel)) (fun _ h9 => h9) rfl d_Mod_wipe_19 ?_
        refine lv_iload_n hx hb d_Mod_wipe_22 rfl (lv_at hl 1 rfl) ?_
        refine lv_iconst (v := 0) hx hb d_Mod_wipe_23 (by decide) ?_
        refine xa_zast hx hb hK hP hD hS 1 1 rfl rfl e2 k (by omega) (by omega) rfl d_Mod_wipe_24 (fun H locs hP hD hS => ?_)
        have hP : va_P (dC, dI) classes [(oM, .inr (5, [.int 0, .ref aTx, .int siz, .ref aBg, .ref aEn, .ref aLe, .ref aMa, .ref aFi, .int lnm, .int rsm, .ref aHe, .int bxs, .int wdt, .int hgh, .ref aCa, .ref aTo, .int 0, .ref aTu, .int pgm, .int tpm, .int stn, .int lnx, .int lny])), (aTu, .inl (cZ, 117, .inl (upd trn1 k 0)))] H := hP
        have hD : va_D A [(oM, .inr (5, [.int 0, .ref aTx, .int siz, .ref aBg, .ref aEn, .ref aLe, .ref aMa, .ref aFi, .int lnm, .int rsm, .ref aHe, .int bxs, .int wdt, .int hgh, .ref aCa, .ref aTo, .int 0, .ref aTu, .int pgm, .int tpm, .int stn, .int lnx, .int lny])), (aTu, .inl (cZ, 117, .inl (upd trn1 k 0)))] := hD
        obtain ⟨v25, ev25⟩ : ∃ y : Int32, y = (x2 + 1) := ⟨_, rfl⟩
        have fv25 : v25.toInt = ((k : Int) + 1) := by rw [ev25]; exact xi_add e2 (show (1 : Int32).toInt = 1 by decide) (by omega) (by omega)
        refine lv_iinc (v := v25) (lv' := [(1, .int v25), (0, .ref oM)]) hx hb d_Mod_wipe_25 hl (k := 1) rfl (by rw [ev25]; rfl) (by decide) rfl (fun ls hl => ?_)
        refine lv_goto (tgt := 12) hx hb d_Mod_wipe_28 (by decide) ?_
        exact ih12 (k + 1) v25 (upd trn1 k 0) (by omega) (by omega) (by omega) (fun j hj => by rcases Nat.lt_or_ge j k with q | q; rw [xi_upd_n (by omega)]; exact hz j q; rw [show j = k by omega, xi_upd_s]) _ _ hP hD hS ls (lv_sub hl [1, 0] rfl)
  refine lv_aload_n hx hb d_Mod_wipe_0 rfl (lv_at hl 0 rfl) ?_
  refine lv_iconst (v := 0) hx hb d_Mod_wipe_1 (by decide) ?_
  refine va_put (D := (dC, dI)) (ci := 5) (v := .int 0) (ty := .int) (C := R_Mod) (T := F_Mod) (N := 23) hx hb hts hw_Mod t_Mod t_Mod_ok n_Mod hown hK hP hD hS 0 rfl rfl 0 (by decide) (hts (.fieldLink R_Mod 48 "PageFormsModel" "thrown" "I") (by decide +kernel)) (fun _ h9 => h9) rfl (by decide +kernel) rfl rfl (Nat.le_of_ble_eq_true rfl) d_Mod_wipe_2 (fun H locs hP hD hS => ?_)
  have hP : va_P (dC, dI) classes [(oM, .inr (5, [.int 0, .ref aTx, .int siz, .ref aBg, .ref aEn, .ref aLe, .ref aMa, .ref aFi, .int lnm, .int rsm, .ref aHe, .int bxs, .int wdt, .int hgh, .ref aCa, .ref aTo, .int byn, .ref aTu, .int pgm, .int tpm, .int stn, .int lnx, .int lny])), (aTu, .inl (cZ, 117, .inl trn))] H := hP
  have hD : va_D A [(oM, .inr (5, [.int 0, .ref aTx, .int siz, .ref aBg, .ref aEn, .ref aLe, .ref aMa, .ref aFi, .int lnm, .int rsm, .ref aHe, .int bxs, .int wdt, .int hgh, .ref aCa, .ref aTo, .int byn, .ref aTu, .int pgm, .int tpm, .int stn, .int lnx, .int lny])), (aTu, .inl (cZ, 117, .inl trn))] := hD
  refine lv_aload_n hx hb d_Mod_wipe_5 rfl (lv_at hl 0 rfl) ?_
  refine lv_iconst (v := 0) hx hb d_Mod_wipe_6 (by decide) ?_
  refine va_put (D := (dC, dI)) (ci := 5) (v := .int 0) (ty := .int) (C := R_Mod) (T := F_Mod) (N := 23) hx hb hts hw_Mod t_Mod t_Mod_ok n_Mod hown hK hP hD hS 0 rfl rfl 16 (by decide) (hts (.fieldLink R_Mod 113 "PageFormsModel" "bytes" "I") (by decide +kernel)) (fun _ h9 => h9) rfl (by decide +kernel) rfl rfl (Nat.le_of_ble_eq_true rfl) d_Mod_wipe_7 (fun H locs hP hD hS => ?_)
  have hP : va_P (dC, dI) classes [(oM, .inr (5, [.int 0, .ref aTx, .int siz, .ref aBg, .ref aEn, .ref aLe, .ref aMa, .ref aFi, .int lnm, .int rsm, .ref aHe, .int bxs, .int wdt, .int hgh, .ref aCa, .ref aTo, .int 0, .ref aTu, .int pgm, .int tpm, .int stn, .int lnx, .int lny])), (aTu, .inl (cZ, 117, .inl trn))] H := hP
  have hD : va_D A [(oM, .inr (5, [.int 0, .ref aTx, .int siz, .ref aBg, .ref aEn, .ref aLe, .ref aMa, .ref aFi, .int lnm, .int rsm, .ref aHe, .int bxs, .int wdt, .int hgh, .ref aCa, .ref aTo, .int 0, .ref aTu, .int pgm, .int tpm, .int stn, .int lnx, .int lny])), (aTu, .inl (cZ, 117, .inl trn))] := hD
  refine lv_iconst (v := 0) hx hb d_Mod_wipe_10 (by decide) ?_
  refine lv_istore_n (lv' := [(1, .int 0), (0, .ref oM)]) hx hb d_Mod_wipe_11 rfl hl (by decide) rfl (fun ls hl => ?_)
  exact loop12 118 0 0 trn (by omega) (by omega) (by decide) (fun j hj => by omega) _ _ hP hD hS ls (lv_sub hl [1, 0] rfl)

set_option maxHeartbeats 4000000 in
set_option maxRecDepth 100000 in
theorem k_Mod_code (l : Launch) (dC : Nat → ClassId) (dI : Nat → Nat → Nat) (cI cZ : ClassId) (oM : Nat) (aTo : Nat) (aTu : Nat) (thr : Int32) (aTx : Nat) (siz : Int32) (aBg : Nat) (aEn : Nat) (aLe : Nat) (aMa : Nat) (aFi : Nat) (lnm : Int32) (rsm : Int32) (aHe : Nat) (bxs : Int32) (wdt : Int32) (hgh : Int32) (aCa : Nat) (byn : Int32) (pgm : Int32) (tpm : Int32) (stn : Int32) (lnx : Int32) (lny : Int32) (tol : Nat → Int32) (trn : Nat → Int32) (sz : Nat) (p1 : Int32) (nC : Nat) (hc : byn.toInt = (nC : Int)) (hc12 : nC ≤ 12) : Met l y_Mod_code w_Mod_code ({ frames := 1, cells := 0, slots := 0, locals := 22 }) (va_Pc [.ref oM, .int p1] (fun U => U.heap.size = sz ∧ va_P (dC, dI) classes [(oM, .inr (5, [.int thr, .ref aTx, .int siz, .ref aBg, .ref aEn, .ref aLe, .ref aMa, .ref aFi, .int lnm, .int rsm, .ref aHe, .int bxs, .int wdt, .int hgh, .ref aCa, .ref aTo, .int byn, .ref aTu, .int pgm, .int tpm, .int stn, .int lnx, .int lny])), (aTo, .inl (cI, 12, .inl tol)), (aTu, .inl (cZ, 117, .inl trn))] U.heap ∧ va_K (dC, dI) classes [(cI, .int), (cZ, .boolean)] U ∧ va_D (fun _ => True) [(oM, .inr (5, [.int thr, .ref aTx, .int siz, .ref aBg, .ref aEn, .ref aLe, .ref aMa, .ref aFi, .int lnm, .int rsm, .ref aHe, .int bxs, .int wdt, .int hgh, .ref aCa, .ref aTo, .int byn, .ref aTu, .int pgm, .int tpm, .int stn, .int lnx, .int lny])), (aTo, .inl (cI, 12, .inl tol)), (aTu, .inl (cZ, 117, .inl trn))])) (va_Qi (fun (r : Int32) (u : Int32 × Int32 × (Nat → Int32) × (Nat → Int32)) => cm_code byn tol trn p1 r u.2.1 u.2.2.1 u.2.2.2) (fun (u : Int32 × Int32 × (Nat → Int32) × (Nat → Int32)) (t : State) => va_P (dC, dI) classes [(oM, .inr (5, [.int u.1, .ref aTx, .int siz, .ref aBg, .ref aEn, .ref aLe, .ref aMa, .ref aFi, .int lnm, .int rsm, .ref aHe, .int bxs, .int wdt, .int hgh, .ref aCa, .ref aTo, .int u.2.1, .ref aTu, .int pgm, .int tpm, .int stn, .int lnx, .int lny])), (aTo, .inl (cI, 12, .inl u.2.2.1)), (aTu, .inl (cZ, 117, .inl u.2.2.2))] t.heap ∧ va_K (dC, dI) classes [(cI, .int), (cZ, .boolean)] t ∧ va_D (va_A [(oM, .inr (5, [.int thr, .ref aTx, .int siz, .ref aBg, .ref aEn, .ref aLe, .ref aMa, .ref aFi, .int lnm, .int rsm, .ref aHe, .int bxs, .int wdt, .int hgh, .ref aCa, .ref aTo, .int byn, .ref aTu, .int pgm, .int tpm, .int stn, .int lnx, .int lny])), (aTo, .inl (cI, 12, .inl tol)), (aTu, .inl (cZ, 117, .inl trn))] sz) [(oM, .inr (5, [.int u.1, .ref aTx, .int siz, .ref aBg, .ref aEn, .ref aLe, .ref aMa, .ref aFi, .int lnm, .int rsm, .ref aHe, .int bxs, .int wdt, .int hgh, .ref aCa, .ref aTo, .int u.2.1, .ref aTu, .int pgm, .int tpm, .int stn, .int lnx, .int lny])), (aTo, .inl (cI, 12, .inl u.2.2.1)), (aTu, .inl (cZ, 117, .inl u.2.2.2))]) (va_A [(oM, .inr (5, [.int thr, .ref aTx, .int siz, .ref aBg, .ref aEn, .ref aLe, .ref aMa, .ref aFi, .int lnm, .int rsm, .ref aHe, .int bxs, .int wdt, .int hgh, .ref aCa, .ref aTo, .int byn, .ref aTu, .int pgm, .int tpm, .int stn, .int lnx, .int lny])), (aTo, .inl (cI, 12, .inl tol)), (aTu, .inl (cZ, 117, .inl trn))] sz)) 0 0 (va_A [(oM, .inr (5, [.int thr, .ref aTx, .int siz, .ref aBg, .ref aEn, .ref aLe, .ref aMa, .ref aFi, .int lnm, .int rsm, .ref aHe, .int bxs, .int wdt, .int hgh, .ref aCa, .ref aTo, .int byn, .ref aTu, .int pgm, .int tpm, .int stn, .int lnx, .int lny])), (aTo, .inl (cI, 12, .inl tol)), (aTu, .inl (cZ, 117, .inl trn))] sz) := by
  refine Met.ofW (cc := b_Mod_code) (maxL := 3) (ret := (some .boolean)) (by decide) rfl ?_
  intro p e s m args below meth c s₁ B hml hv
  obtain ⟨rfl, hsz, hP, hK, hD0⟩ := hv
  have hx := B.exec
  have hb := B.bytes
  have hr := B.returns
  have hts := atoms_spec (ws := w_Mod_code) B.pre
  have hown : s.vm.findClass R_Mod = some m.cls := findClass_of_methodNamed B.named
  have hlocks := B.notSynchronized
  have hw_Mod : ∀ w ∈ w_Mod, w ∈ w_Mod_code := by decide +kernel
  subst hsz
  have hD := hD0.self (sz := s.heap.size)
  generalize hAe : va_A [(oM, .inr (5, [.int thr, .ref aTx, .int siz, .ref aBg, .ref aEn, .ref aLe, .ref aMa, .ref aFi, .int lnm, .int rsm, .ref aHe, .int bxs, .int wdt, .int hgh, .ref aCa, .ref aTo, .int byn, .ref aTu, .int pgm, .int tpm, .int stn, .int lnx, .int lny])), (aTo, .inl (cI, 12, .inl tol)), (aTu, .inl (cZ, 117, .inl trn))] s.heap.size = A at hD ⊢
  have hA : ∀ q : Nat, s.heap.size ≤ q → A q := fun q h => by rw [← hAe]; exact Or.inr h
  have hS : va_S A s.heap s.heap [] := va_S.rf
  have hP : va_P (dC, dI) classes [(oM, .inr (5, [.int thr, .ref aTx, .int siz, .ref aBg, .ref aEn, .ref aLe, .ref aMa, .ref aFi, .int lnm, .int rsm, .ref aHe, .int bxs, .int wdt, .int hgh, .ref aCa, .ref aTo, .int byn, .ref aTu, .int pgm, .int tpm, .int stn, .int lnx, .int lny])), (aTo, .inl (cI, 12, .inl tol)), (aTu, .inl (cZ, 117, .inl trn))] s.heap := hP
  have hl := lv_entry ([.ref oM, .int p1]) (n := 3) (Nat.le_of_ble_eq_true rfl)
  rw [lg_entry_eq]
  generalize (lg_sl ([.ref oM, .int p1]) ++ List.replicate (3 - (lg_sl ([.ref oM, .int p1])).length) Slot.unset).toArray = ls at hl ⊢
  have hl : lv_has ls 3 [(0, .ref oM), (1, .int p1)] := hl
  refine lv_aload_n hx hb d_Mod_code_0 rfl (lv_at hl 0 rfl) ?_
  refine lv_iconst (v := 0) hx hb d_Mod_code_1 (by decide) ?_
  refine va_put (D := (dC, dI)) (ci := 5) (v := .int 0) (ty := .int) (C := R_Mod) (T := F_Mod) (N := 23) hx hb hts hw_Mod t_Mod t_Mod_ok n_Mod hown hK hP hD hS 0 rfl rfl 0 (by decide) (hts (.fieldLink R_Mod 48 "PageFormsModel" "thrown" "I") (by decide +kernel)) (fun _ h9 => h9) rfl (by decide +kernel) rfl rfl (Nat.le_of_ble_eq_true rfl) d_Mod_code_2 (fun H locs hP hD hS => ?_)
  have hP : va_P (dC, dI) classes [(oM, .inr (5, [.int 0, .ref aTx, .int siz, .ref aBg, .ref aEn, .ref aLe, .ref aMa, .ref aFi, .int lnm, .int rsm, .ref aHe, .int bxs, .int wdt, .int hgh, .ref aCa, .ref aTo, .int byn, .ref aTu, .int pgm, .int tpm, .int stn, .int lnx, .int lny])), (aTo, .inl (cI, 12, .inl tol)), (aTu, .inl (cZ, 117, .inl trn))] H := hP
  have hD : va_D A [(oM, .inr (5, [.int 0, .ref aTx, .int siz, .ref aBg, .ref aEn, .ref aLe, .ref aMa, .ref aFi, .int lnm, .int rsm, .ref aHe, .int bxs, .int wdt, .int hgh, .ref aCa, .ref aTo, .int byn, .ref aTu, .int pgm, .int tpm, .int stn, .int lnx, .int lny])), (aTo, .inl (cI, 12, .inl tol)), (aTu, .inl (cZ, 117, .inl trn))] := hD
  refine lv_iload_n hx hb d_Mod_code_5 rfl (lv_at hl 1 rfl) ?_
  refine lv_iconst (v := 0) hx hb d_Mod_code_6 (by decide) ?_
  refine lv_sipush (v := 255) hx hb d_Mod_code_7 (by decide) ?_
  have hPc := hP.sub (ws' := []) [] rfl
  have hDc := hD.sub (ws' := []) [] (by decide) rfl
  have hFc := va_free (wc := []) hD hS hA [] rfl
  refine va_calli (va_runS (As := [.int p1, .int 0, .int 255]) (rest := []) ⟨hx, hb, hml, hown, hts⟩ (k_Mod_within l dC dI cI cZ H.size p1 0 255) (cwS 3 hts g_Mod_code_Mod_within rfl rfl rfl (by decide +kernel) ⟨Nat.le_of_ble_eq_true rfl, Nat.le_of_ble_eq_true rfl⟩) ⟨fun a U g mk q => by obtain ⟨q0, q1, qP, qK, qD⟩ := q; exact ⟨q0, q1, qP, va_K.moved (u := U) (U := U.calling g mk a) (Vm.Alike.refl U.vm) qK, qD⟩, fun U hU hW => ⟨rfl, by rw [hU], by rw [hU]; exact hPc, va_K.moved hW.alike hK, hDc.weaken (fun _ _ _ _ => trivial)⟩⟩ rfl rfl hl.1 rfl (lv_room (Nat.le_of_ble_eq_true rfl)) d_Mod_code_10 ⟨Nat.le_of_ble_eq_true rfl, Nat.le_of_ble_eq_true rfl⟩) hS (fun q _ h => hFc q h) hFc (fun r10 u t H1 locs ht hvm hw hB hz1 hk1 hS => ?_)
  have w10 : (r10.toInt = 1 ∧ 0 ≤ p1.toInt ∧ p1.toInt ≤ 255) ∨ (r10.toInt = 0 ∧ (p1.toInt < 0 ∨ 255 < p1.toInt)) := hw
  obtain ⟨hP1, hK1, hD1⟩ := hB
  rw [ht] at hP1
  obtain ⟨hP, hD⟩ := va_join (wr := [(oM, .inr (5, [.int 0, .ref aTx, .int siz, .ref aBg, .ref aEn, .ref aLe, .ref aMa, .ref aFi, .int lnm, .int rsm, .ref aHe, .int bxs, .int wdt, .int hgh, .ref aCa, .ref aTo, .int byn, .ref aTu, .int pgm, .int tpm, .int stn, .int lnx, .int lny])), (aTo, .inl (cI, 12, .inl tol)), (aTu, .inl (cZ, 117, .inl trn))]) (w1 := []) hP hD [] [0, 1, 2] rfl rfl (by decide) (by decide) hk1 hFc hP1 hD1
  generalize H1 = H at hP hS ⊢
  have hP : va_P (dC, dI) classes [(oM, .inr (5, [.int 0, .ref aTx, .int siz, .ref aBg, .ref aEn, .ref aLe, .ref aMa, .ref aFi, .int lnm, .int rsm, .ref aHe, .int bxs, .int wdt, .int hgh, .ref aCa, .ref aTo, .int byn, .ref aTu, .int pgm, .int tpm, .int stn, .int lnx, .int lny])), (aTo, .inl (cI, 12, .inl tol)), (aTu, .inl (cZ, 117, .inl trn))] H := hP
  have hD : va_D A [(oM, .inr (5, [.int 0, .ref aTx, .int siz, .ref aBg, .ref aEn, .ref aLe, .ref aMa, .ref aFi, .int lnm, .int rsm, .ref aHe, .int bxs, .int wdt, .int hgh, .ref aCa, .ref aTo, .int byn, .ref aTu, .int pgm, .int tpm, .int stn, .int lnx, .int lny])), (aTo, .inl (cI, 12, .inl tol)), (aTu, .inl (cZ, 117, .inl trn))] := hD
  refine xi_if_eq (tgt := 25) hx hb (rfl) d_Mod_code_13 (by decide) (fun c13 => ?_) (fun c13 => ?_)
  · refine lv_iconst (v := 0) hx hb d_Mod_code_25 (by decide) ?_
    exact W.zret (v := 0) hx hb hr rfl (fun t ht hW => ⟨⟨0, (0, byn, tol, trn), rfl, (show cm_code byn tol trn p1 (0 : Int32) byn tol trn from (Or.inr ⟨by omega, by decide, rfl, rfl, rfl⟩)), by rw [ht]; exact hP, va_K.moved hW.alike hK, hD⟩, hS.F ht⟩) hS.2.2 d_Mod_code_26
  · refine lv_aload_n hx hb d_Mod_code_16 rfl (lv_at hl 0 rfl) ?_
    refine va_get (D := (dC, dI)) (ci := 5) (v := .int byn) (C := R_Mod) (T := F_Mod) (N := 23) hx hb hts hw_Mod hown hK hP 0 rfl rfl 16 (by decide) (hts (.fieldLink R_Mod 113 "PageFormsModel" "bytes" "I") (by decide +kernel)) (fun _ h9 => h9) rfl d_Mod_code_17 ?_
    refine lv_bipush (v := 12) hx hb d_Mod_code_20 (by decide) ?_
    refine xi_icmp_ne (tgt := 27) hx hb hc (show (12 : Int32).toInt = 12 by decide) d_Mod_code_22 (by decide) (fun c22 => ?_) (fun c22 => ?_)
    · refine lv_aload_n hx hb d_Mod_code_27 rfl (lv_at hl 0 rfl) ?_
      refine va_get (D := (dC, dI)) (ci := 5) (v := .ref aTo) (C := R_Mod) (T := F_Mod) (N := 23) hx hb hts hw_Mod hown hK hP 0 rfl rfl 15 (by decide) (hts (.fieldLink R_Mod 41 "PageFormsModel" "told" "[I") (by decide +kernel)) (fun _ h9 => h9) rfl d_Mod_code_28 ?_
      refine lv_aload_n hx hb d_Mod_code_31 rfl (lv_at hl 0 rfl) ?_
      refine va_get (D := (dC, dI)) (ci := 5) (v := .int byn) (C := R_Mod) (T := F_Mod) (N := 23) hx hb hts hw_Mod hown hK hP 0 rfl rfl 16 (by decide) (hts (.fieldLink R_Mod 113 "PageFormsModel" "bytes" "I") (by decide +kernel)) (fun _ h9 => h9) rfl d_Mod_code_32 ?_
      refine lv_iload_n hx hb d_Mod_code_35 rfl (lv_at hl 1 rfl) ?_
      refine xa_iast hx hb hK hP hD hS 1 0 rfl rfl hc nC (by omega) (by omega) d_Mod_code_36 (fun H locs hP hD hS => ?_)
      have hP : va_P (dC, dI) classes [(oM, .inr (5, [.int 0, .ref aTx, .int siz, .ref aBg, .ref aEn, .ref aLe, .ref aMa, .ref aFi, .int lnm, .int rsm, .ref aHe, .int bxs, .int wdt, .int hgh, .ref aCa, .ref aTo, .int byn, .ref aTu, .int pgm, .int tpm, .int stn, .int lnx, .int lny])), (aTo, .inl (cI, 12, .inl (upd tol nC p1))), (aTu, .inl (cZ, 117, .inl trn))] H := hP
      have hD : va_D A [(oM, .inr (5, [.int 0, .ref aTx, .int siz, .ref aBg, .ref aEn, .ref aLe, .ref aMa, .ref aFi, .int lnm, .int rsm, .ref aHe, .int bxs, .int wdt, .int hgh, .ref aCa, .ref aTo, .int byn, .ref aTu, .int pgm, .int tpm, .int stn, .int lnx, .int lny])), (aTo, .inl (cI, 12, .inl (upd tol nC p1))), (aTu, .inl (cZ, 117, .inl trn))] := hD
      refine lv_aload_n hx hb d_Mod_code_37 rfl (lv_at hl 0 rfl) ?_
      refine lv_dup hx hb d_Mod_code_38 rfl ?_
      refine va_get (D := (dC, dI)) (ci := 5) (v := .int byn) (C := R_Mod) (T := F_Mod) (N := 23) hx hb hts hw_Mod hown hK hP 0 rfl rfl 16 (by decide) (hts (.fieldLink R_Mod 113 "PageFormsModel" "bytes" "I") (by decide +kernel)) (fun _ h9 => h9) rfl d_Mod_code_39 ?_
      refine lv_iconst (v := 1) hx hb d_Mod_code_42 (by decide) ?_
      refine lv_iadd hx hb d_Mod_code_43 ?_
      have a43 : (byn + 1).toInt = ((nC : Int) + 1) := xi_add hc (show (1 : Int32).toInt = 1 by decide) (by omega) (by omega)
      refine lv_topi (fun v44 ev44 => ?_)
      have fv44 : v44.toInt = ((nC : Int) + 1) := by rw [ev44]; exact a43
      refine va_put (D := (dC, dI)) (ci := 5) (v := .int v44) (ty := .int) (C := R_Mod) (T := F_Mod) (N := 23) hx hb hts hw_Mod t_Mod t_Mod_ok n_Mod hown hK hP hD hS 0 rfl rfl 16 (by decide) (hts (.fieldLink R_Mod 113 "PageFormsModel" "bytes" "I") (by decide +kernel)) (fun _ h9 => h9) rfl (by decide +kernel) rfl rfl (Nat.le_of_ble_eq_true rfl) d_Mod_code_44 (fun H locs hP hD hS => ?_)
      have hP : va_P (dC, dI) classes [(oM, .inr (5, [.int 0, .ref aTx, .int siz, .ref aBg, .ref aEn, .ref aLe, .ref aMa, .ref aFi, .int lnm, .int rsm, .ref aHe, .int bxs, .int wdt, .int hgh, .ref aCa, .ref aTo, .int v44, .ref aTu, .int pgm, .int tpm, .int stn, .int lnx, .int lny])), (aTo, .inl (cI, 12, .inl (upd tol nC p1))), (aTu, .inl (cZ, 117, .inl trn))] H := hP
      have hD : va_D A [(oM, .inr (5, [.int 0, .ref aTx, .int siz, .ref aBg, .ref aEn, .ref aLe, .ref aMa, .ref aFi, .int lnm, .int rsm, .ref aHe, .int bxs, .int wdt, .int hgh, .ref aCa, .ref aTo, .int v44, .ref aTu, .int pgm, .int tpm, .int stn, .int lnx, .int lny])), (aTo, .inl (cI, 12, .inl (upd tol nC p1))), (aTu, .inl (cZ, 117, .inl trn))] := hD
      refine lv_iconst (v := 0) hx hb d_Mod_code_47 (by decide) ?_
      refine lv_istore_n (lv' := [(2, .int 0), (0, .ref oM), (1, .int p1)]) hx hb d_Mod_code_48 rfl hl (by decide) rfl (fun ls hl => ?_)
      have loop49 : ∀ (n49 : Nat) (k : Nat) (x2 : Int32) (trn1 : Nat → Int32), (117 - k < n49) → (k ≤ 117) → (x2.toInt = (k : Int)) → (∀ j, j < k → trn1 j = 0) → ∀ (H : Heap) (locs : List Loc), va_P (dC, dI) classes [(oM, .inr (5, [.int 0, .ref aTx, .int siz, .ref aBg, .ref aEn, .ref aLe, .ref aMa, .ref aFi, .int lnm, .int rsm, .ref aHe, .int bxs, .int wdt, .int hgh, .ref aCa, .ref aTo, .int v44, .ref aTu, .int pgm, .int tpm, .int stn, .int lnx, .int lny])), (aTo, .inl (cI, 12, .inl (upd tol nC p1))), (aTu, .inl (cZ, 117, .inl trn1))] H → va_D A [(oM, .inr (5, [.int 0, .ref aTx, .int siz, .ref aBg, .ref aEn, .ref aLe, .ref aMa, .ref aFi, .int lnm, .int rsm, .ref aHe, .int bxs, .int wdt, .int hgh, .ref aCa, .ref aTo, .int v44, .ref aTu, .int pgm, .int tpm, .int stn, .int lnx, .int lny])), (aTo, .inl (cI, 12, .inl (upd tol nC p1))), (aTu, .inl (cZ, 117, .inl trn1))] → va_S A s.heap H locs → ∀ (ls : Array Slot), lv_has ls 3 [(0, .ref oM), (1, .int p1), (2, .int x2)] → W p l e (headSpec w_Mod_code ({ frames := 1, cells := 0, slots := 0, locals := 22 })).room s m ([.ref oM, .int p1] : List Value).toArray below meth c H locs 0 0 (MQ below (va_Qi (fun (r : Int32) (u : Int32 × Int32 × (Nat → Int32) × (Nat → Int32)) => cm_code byn tol trn p1 r u.2.1 u.2.2.1 u.2.2.2) (fun (u : Int32 × Int32 × (Nat → Int32) × (Nat → Int32)) (t : State) => va_P (dC, dI) classes [(oM, .inr (5, [.int u.1, .ref aTx, .int siz, .ref aBg, .ref aEn, .ref aLe, .ref aMa, .ref aFi, .int lnm, .int rsm, .ref aHe, .int bxs, .int wdt, .int hgh, .ref aCa, .ref aTo, .int u.2.1, .ref aTu, .int pgm, .int tpm, .int stn, .int lnx, .int lny])), (aTo, .inl (cI, 12, .inl u.2.2.1)), (aTu, .inl (cZ, 117, .inl u.2.2.2))] t.heap ∧ va_K (dC, dI) classes [(cI, .int), (cZ, .boolean)] t ∧ va_D (A) [(oM, .inr (5, [.int u.1, .ref aTx, .int siz, .ref aBg, .ref aEn, .ref aLe, .ref aMa, .ref aFi, .int lnm, .int rsm, .ref aHe, .int bxs, .int wdt, .int hgh, .ref aCa, .ref aTo, .int u.2.1, .ref aTu, .int pgm, .int tpm, .int stn, .int lnx, .int lny])), (aTo, .inl (cI, 12, .inl u.2.2.1)), (aTu, .inl (cZ, 117, .inl u.2.2.2))]) (A)) ([.ref oM, .int p1] : List Value).toArray s 0 0 A) (F0 m 49 ls []) := by
        intro n49
        induction n49 with
        | zero => intro k x2 trn1 hmz49; omega
        | succ n49 ih49 =>
          intro k x2 trn1 hmz49 hk e2 hz H locs hP hD hS ls hl
          refine lv_iload_n hx hb d_Mod_code_49 rfl (lv_at hl 2 rfl) ?_
          refine lv_bipush (v := 117) hx hb d_Mod_code_50 (by decide) ?_
          refine xi_icmp_ge (tgt := 68) hx hb e2 (show (117 : Int32).toInt = 117 by decide) d_Mod_code_52 (by decide) (fun c52 => ?_) (fun c52 => ?_)
          · refine lv_iconst (v := 1) hx hb d_Mod_code_68 (by decide) ?_
            exact W.zret (v := 1) hx hb hr rfl (fun t ht hW => ⟨⟨1, (0, v44, (upd tol nC p1), trn1), rfl, (show cm_code byn tol trn p1 (1 : Int32) v44 (upd tol nC p1) trn1 from (Or.inl ⟨by omega, by omega, by omega, by decide, by omega, by rw [hc]; rfl, fun i hi => hz i (by omega)⟩)), by rw [ht]; exact hP, va_K.moved hW.alike hK, hD⟩, hS.F ht⟩) hS.2.2 d_Mod_code_69
          · refine lv_aload_n hx hb d_Mod_code_55 rfl (lv_at hl 0 rfl) ?_
            refine va_get (D := (dC, dI)) (ci := 5) (v := .ref aTu) (C := R_Mod) (T := F_Mod) (N := 23) hx hb hts hw_Mod hown hK hP 0 rfl rfl 17 (by decide) (hts (.fieldLink R_Mod 44 "PageFormsModel" "turned" "[Z") (by decide +kernel)) (fun _ h9 => h9) rfl d_Mod_code_56 ?_
            refine lv_iload_n hx hb d_Mod_code_59 rfl (lv_at hl 2 rfl) ?_
            refine lv_iconst (v := 0) hx hb d_Mod_code_60 (by decide) ?_
            refine xa_zast hx hb hK hP hD hS 2 1 rfl rfl e2 k (by omega) (by omega) rfl d_Mod_code_61 (fun H locs hP hD hS => ?_)
            have hP : va_P (dC, dI) classes [(oM, .inr (5, [.int 0, .ref aTx, .int siz, .ref aBg, .ref aEn, .ref aLe, .ref aMa, .ref aFi, .int lnm, .int rsm, .ref aHe, .int bxs, .int wdt, .int hgh, .ref aCa, .ref aTo, .int v44, .ref aTu, .int pgm, .int tpm, .int stn, .int lnx, .int lny])), (aTo, .inl (cI, 12, .inl (upd tol nC p1))), (aTu, .inl (cZ, 117, .inl (upd trn1 k 0)))] H := hP
            have hD : va_D A [(oM, .inr (5, [.int 0, .ref aTx, .int siz, .ref aBg, .ref aEn, .ref aLe, .ref aMa, .ref aFi, .int lnm, .int rsm, .ref aHe, .int bxs, .int wdt, .int hgh, .ref aCa, .ref aTo, .int v44, .ref aTu, .int pgm, .int tpm, .int stn, .int lnx, .int lny])), (aTo, .inl (cI, 12, .inl (upd tol nC p1))), (aTu, .inl (cZ, 117, .inl (upd trn1 k 0)))] := hD
            obtain ⟨v62, ev62⟩ : ∃ y : Int32, y = (x2 + 1) := ⟨_, rfl⟩
            have fv62 : v62.toInt = ((k : Int) + 1) := by rw [ev62]; exact xi_add e2 (show (1 : Int32).toInt = 1 by decide) (by omega) (by omega)
            refine lv_iinc (v := v62) (lv' := [(2, .int v62), (0, .ref oM), (1, .int p1)]) hx hb d_Mod_code_62 hl (k := 2) rfl (by rw [ev62]; rfl) (by decide) rfl (fun ls hl => ?_)
            refine lv_goto (tgt := 49) hx hb d_Mod_code_65 (by decide) ?_
            exact ih49 (k + 1) v62 (upd trn1 k 0) (by omega) (by omega) (by omega) (fun j hj => by rcases Nat.lt_or_ge j k with q | q; rw [xi_upd_n (by omega)]; exact hz j q; rw [show j = k by omega, xi_upd_s]) _ _ hP hD hS ls (lv_sub hl [1, 2, 0] rfl)
      exact loop49 118 0 0 trn (by omega) (by omega) (by decide) (fun j hj => by omega) _ _ hP hD hS ls (lv_sub hl [1, 2, 0] rfl)
    · refine lv_iconst (v := 0) hx hb d_Mod_code_25 (by decide) ?_
      exact W.zret (v := 0) hx hb hr rfl (fun t ht hW => ⟨⟨0, (0, byn, tol, trn), rfl, (show cm_code byn tol trn p1 (0 : Int32) byn tol trn from (Or.inr ⟨by omega, by decide, rfl, rfl, rfl⟩)), by rw [ht]; exact hP, va_K.moved hW.alike hK, hD⟩, hS.F ht⟩) hS.2.2 d_Mod_code_26

set_option maxHeartbeats 4000000 in
set_option maxRecDepth 100000 in
theorem k_Mod_rows (l : Launch) (dC : Nat → ClassId) (dI : Nat → Nat → Nat) (cI cZ : ClassId) (oM : Nat) (thr : Int32) (aTx : Nat) (siz : Int32) (aBg : Nat) (aEn : Nat) (aLe : Nat) (aMa : Nat) (aFi : Nat) (lnm : Int32) (rsm : Int32) (aHe : Nat) (bxs : Int32) (wdt : Int32) (hgh : Int32) (aCa : Nat) (aTo : Nat) (byn : Int32) (aTu : Nat) (pgm : Int32) (tpm : Int32) (stn : Int32) (lnx : Int32) (lny : Int32) (sz : Nat) (nC : Nat) (hc : byn.toInt = (nC : Int)) (hc12 : nC ≤ 12) : Met l y_Mod_rows w_Mod_rows ({ frames := 0, cells := 0, slots := 0, locals := 0 }) (va_Pc [.ref oM] (fun U => U.heap.size = sz ∧ va_P (dC, dI) classes [(oM, .inr (5, [.int thr, .ref aTx, .int siz, .ref aBg, .ref aEn, .ref aLe, .ref aMa, .ref aFi, .int lnm, .int rsm, .ref aHe, .int bxs, .int wdt, .int hgh, .ref aCa, .ref aTo, .int byn, .ref aTu, .int pgm, .int tpm, .int stn, .int lnx, .int lny]))] U.heap ∧ va_K (dC, dI) classes [(cI, .int), (cZ, .boolean)] U ∧ va_D (fun _ => True) [(oM, .inr (5, [.int thr, .ref aTx, .int siz, .ref aBg, .ref aEn, .ref aLe, .ref aMa, .ref aFi, .int lnm, .int rsm, .ref aHe, .int bxs, .int wdt, .int hgh, .ref aCa, .ref aTo, .int byn, .ref aTu, .int pgm, .int tpm, .int stn, .int lnx, .int lny]))])) (va_Qi (fun (r : Int32) (u : Int32) => (nC = 0 ∧ r.toInt = 0) ∨ (nC ≠ 0 ∧ r.toInt = (nC : Int) + 1)) (fun (u : Int32) (t : State) => va_P (dC, dI) classes [(oM, .inr (5, [.int u, .ref aTx, .int siz, .ref aBg, .ref aEn, .ref aLe, .ref aMa, .ref aFi, .int lnm, .int rsm, .ref aHe, .int bxs, .int wdt, .int hgh, .ref aCa, .ref aTo, .int byn, .ref aTu, .int pgm, .int tpm, .int stn, .int lnx, .int lny]))] t.heap ∧ va_K (dC, dI) classes [(cI, .int), (cZ, .boolean)] t ∧ va_D (va_A [(oM, .inr (5, [.int thr, .ref aTx, .int siz, .ref aBg, .ref aEn, .ref aLe, .ref aMa, .ref aFi, .int lnm, .int rsm, .ref aHe, .int bxs, .int wdt, .int hgh, .ref aCa, .ref aTo, .int byn, .ref aTu, .int pgm, .int tpm, .int stn, .int lnx, .int lny]))] sz) [(oM, .inr (5, [.int u, .ref aTx, .int siz, .ref aBg, .ref aEn, .ref aLe, .ref aMa, .ref aFi, .int lnm, .int rsm, .ref aHe, .int bxs, .int wdt, .int hgh, .ref aCa, .ref aTo, .int byn, .ref aTu, .int pgm, .int tpm, .int stn, .int lnx, .int lny]))]) (va_A [(oM, .inr (5, [.int thr, .ref aTx, .int siz, .ref aBg, .ref aEn, .ref aLe, .ref aMa, .ref aFi, .int lnm, .int rsm, .ref aHe, .int bxs, .int wdt, .int hgh, .ref aCa, .ref aTo, .int byn, .ref aTu, .int pgm, .int tpm, .int stn, .int lnx, .int lny]))] sz)) 0 0 (va_A [(oM, .inr (5, [.int thr, .ref aTx, .int siz, .ref aBg, .ref aEn, .ref aLe, .ref aMa, .ref aFi, .int lnm, .int rsm, .ref aHe, .int bxs, .int wdt, .int hgh, .ref aCa, .ref aTo, .int byn, .ref aTu, .int pgm, .int tpm, .int stn, .int lnx, .int lny]))] sz) := by
  refine Met.ofW (cc := b_Mod_rows) (maxL := 1) (ret := (some .int)) (by decide) rfl ?_
  intro p e s m args below meth c s₁ B hml hv
  obtain ⟨rfl, hsz, hP, hK, hD0⟩ := hv
  have hx := B.exec
  have hb := B.bytes
  have hr := B.returns
  have hts := atoms_spec (ws := w_Mod_rows) B.pre
  have hown : s.vm.findClass R_Mod = some m.cls := findClass_of_methodNamed B.named
  have hlocks := B.notSynchronized
  have hw_Mod : ∀ w ∈ w_Mod, w ∈ w_Mod_rows := by decide +kernel
  subst hsz
  have hD := hD0.self (sz := s.heap.size)
  generalize hAe : va_A [(oM, .inr (5, [.int thr, .ref aTx, .int siz, .ref aBg, .ref aEn, .ref aLe, .ref aMa, .ref aFi, .int lnm, .int rsm, .ref aHe, .int bxs, .int wdt, .int hgh, .ref aCa, .ref aTo, .int byn, .ref aTu, .int pgm, .int tpm, .int stn, .int lnx, .int lny]))] s.heap.size = A at hD ⊢
  have hA : ∀ q : Nat, s.heap.size ≤ q → A q := fun q h => by rw [← hAe]; exact Or.inr h
  have hS : va_S A s.heap s.heap [] := va_S.rf
  have hP : va_P (dC, dI) classes [(oM, .inr (5, [.int thr, .ref aTx, .int siz, .ref aBg, .ref aEn, .ref aLe, .ref aMa, .ref aFi, .int lnm, .int rsm, .ref aHe, .int bxs, .int wdt, .int hgh, .ref aCa, .ref aTo, .int byn, .ref aTu, .int pgm, .int tpm, .int stn, .int lnx, .int lny]))] s.heap := hP
  have hl := lv_entry ([.ref oM]) (n := 1) (Nat.le_of_ble_eq_true rfl)
  rw [lg_entry_eq]
  generalize (lg_sl ([.ref oM]) ++ List.replicate (1 - (lg_sl ([.ref oM])).length) Slot.unset).toArray = ls at hl ⊢
  have hl : lv_has ls 1 [(0, .ref oM)] := hl
  refine lv_aload_n hx hb d_Mod_rows_0 rfl (lv_at hl 0 rfl) ?_
  refine lv_iconst (v := 0) hx hb d_Mod_rows_1 (by decide) ?_
  refine va_put (D := (dC, dI)) (ci := 5) (v := .int 0) (ty := .int) (C := R_Mod) (T := F_Mod) (N := 23) hx hb hts hw_Mod t_Mod t_Mod_ok n_Mod hown hK hP hD hS 0 rfl rfl 0 (by decide) (hts (.fieldLink R_Mod 48 "PageFormsModel" "thrown" "I") (by decide +kernel)) (fun _ h9 => h9) rfl (by decide +kernel) rfl rfl (Nat.le_of_ble_eq_true rfl) d_Mod_rows_2 (fun H locs hP hD hS => ?_)
  have hP : va_P (dC, dI) classes [(oM, .inr (5, [.int 0, .ref aTx, .int siz, .ref aBg, .ref aEn, .ref aLe, .ref aMa, .ref aFi, .int lnm, .int rsm, .ref aHe, .int bxs, .int wdt, .int hgh, .ref aCa, .ref aTo, .int byn, .ref aTu, .int pgm, .int tpm, .int stn, .int lnx, .int lny]))] H := hP
  have hD : va_D A [(oM, .inr (5, [.int 0, .ref aTx, .int siz, .ref aBg, .ref aEn, .ref aLe, .ref aMa, .ref aFi, .int lnm, .int rsm, .ref aHe, .int bxs, .int wdt, .int hgh, .ref aCa, .ref aTo, .int byn, .ref aTu, .int pgm, .int tpm, .int stn, .int lnx, .int lny]))] := hD
  refine lv_aload_n hx hb d_Mod_rows_5 rfl (lv_at hl 0 rfl) ?_
  refine va_get (D := (dC, dI)) (ci := 5) (v := .int byn) (C := R_Mod) (T := F_Mod) (N := 23) hx hb hts hw_Mod hown hK hP 0 rfl rfl 16 (by decide) (hts (.fieldLink R_Mod 113 "PageFormsModel" "bytes" "I") (by decide +kernel)) (fun _ h9 => h9) rfl d_Mod_rows_6 ?_
  refine xi_if_ne (tgt := 16) hx hb hc d_Mod_rows_9 (by decide) (fun c9 => ?_) (fun c9 => ?_)
  · refine lv_aload_n hx hb d_Mod_rows_16 rfl (lv_at hl 0 rfl) ?_
    refine va_get (D := (dC, dI)) (ci := 5) (v := .int byn) (C := R_Mod) (T := F_Mod) (N := 23) hx hb hts hw_Mod hown hK hP 0 rfl rfl 16 (by decide) (hts (.fieldLink R_Mod 113 "PageFormsModel" "bytes" "I") (by decide +kernel)) (fun _ h9 => h9) rfl d_Mod_rows_17 ?_
    refine lv_iconst (v := 1) hx hb d_Mod_rows_20 (by decide) ?_
    refine lv_iadd hx hb d_Mod_rows_21 ?_
    have a21 : (byn + 1).toInt = ((nC : Int) + 1) := xi_add hc (show (1 : Int32).toInt = 1 by decide) (by omega) (by omega)
    exact W.iret (v := (byn + 1)) hx hb hr (fun t ht hW => ⟨⟨(byn + 1), 0, rfl, (show (nC = 0 ∧ (byn + 1).toInt = 0) ∨ (nC ≠ 0 ∧ (byn + 1).toInt = (nC : Int) + 1) from (by first | exact Or.inl ⟨by omega, by decide⟩ | exact Or.inr ⟨by omega, by omega⟩)), by rw [ht]; exact hP, va_K.moved hW.alike hK, hD⟩, hS.F ht⟩) hS.2.2 d_Mod_rows_22
  · refine lv_iconst (v := 0) hx hb d_Mod_rows_12 (by decide) ?_
    refine lv_goto (tgt := 22) hx hb d_Mod_rows_13 (by decide) ?_
    exact W.iret (v := 0) hx hb hr (fun t ht hW => ⟨⟨0, 0, rfl, (show (nC = 0 ∧ 0 = 0) ∨ (nC ≠ 0 ∧ 0 = (nC : Int) + 1) from (by first | exact Or.inl ⟨by omega, by decide⟩ | exact Or.inr ⟨by omega, by omega⟩)), by rw [ht]; exact hP, va_K.moved hW.alike hK, hD⟩, hS.F ht⟩) hS.2.2 d_Mod_rows_22

set_option maxHeartbeats 4000000 in
set_option maxRecDepth 100000 in
theorem k_Mod_isSquare (l : Launch) (dC : Nat → ClassId) (dI : Nat → Nat → Nat) (cI cZ : ClassId) (oM : Nat) (thr : Int32) (aTx : Nat) (siz : Int32) (aBg : Nat) (aEn : Nat) (aLe : Nat) (aMa : Nat) (aFi : Nat) (lnm : Int32) (rsm : Int32) (aHe : Nat) (bxs : Int32) (wdt : Int32) (hgh : Int32) (aCa : Nat) (aTo : Nat) (byn : Int32) (aTu : Nat) (pgm : Int32) (tpm : Int32) (stn : Int32) (lnx : Int32) (lny : Int32) (sz : Nat) (p1 : Int32) (p2 : Int32) (nC : Nat) (hc : byn.toInt = (nC : Int)) (hc12 : nC ≤ 12) : Met l y_Mod_isSquare w_Mod_isSquare ({ frames := 1, cells := 0, slots := 0, locals := 22 }) (va_Pc [.ref oM, .int p1, .int p2] (fun U => U.heap.size = sz ∧ va_P (dC, dI) classes [(oM, .inr (5, [.int thr, .ref aTx, .int siz, .ref aBg, .ref aEn, .ref aLe, .ref aMa, .ref aFi, .int lnm, .int rsm, .ref aHe, .int bxs, .int wdt, .int hgh, .ref aCa, .ref aTo, .int byn, .ref aTu, .int pgm, .int tpm, .int stn, .int lnx, .int lny]))] U.heap ∧ va_K (dC, dI) classes [(cI, .int), (cZ, .boolean)] U ∧ va_D (fun _ => True) [(oM, .inr (5, [.int thr, .ref aTx, .int siz, .ref aBg, .ref aEn, .ref aLe, .ref aMa, .ref aFi, .int lnm, .int rsm, .ref aHe, .int bxs, .int wdt, .int hgh, .ref aCa, .ref aTo, .int byn, .ref aTu, .int pgm, .int tpm, .int stn, .int lnx, .int lny]))])) (va_Qi (fun (r : Int32) (u : Unit) => (r.toInt = 1 ∧ cd_ok byn p1.toInt p2.toInt) ∨ (r.toInt = 0 ∧ ¬ cd_ok byn p1.toInt p2.toInt)) (fun (u : Unit) (t : State) => va_P (dC, dI) classes [(oM, .inr (5, [.int thr, .ref aTx, .int siz, .ref aBg, .ref aEn, .ref aLe, .ref aMa, .ref aFi, .int lnm, .int rsm, .ref aHe, .int bxs, .int wdt, .int hgh, .ref aCa, .ref aTo, .int byn, .ref aTu, .int pgm, .int tpm, .int stn, .int lnx, .int lny]))] t.heap ∧ va_K (dC, dI) classes [(cI, .int), (cZ, .boolean)] t ∧ va_D (va_A [(oM, .inr (5, [.int thr, .ref aTx, .int siz, .ref aBg, .ref aEn, .ref aLe, .ref aMa, .ref aFi, .int lnm, .int rsm, .ref aHe, .int bxs, .int wdt, .int hgh, .ref aCa, .ref aTo, .int byn, .ref aTu, .int pgm, .int tpm, .int stn, .int lnx, .int lny]))] sz) [(oM, .inr (5, [.int thr, .ref aTx, .int siz, .ref aBg, .ref aEn, .ref aLe, .ref aMa, .ref aFi, .int lnm, .int rsm, .ref aHe, .int bxs, .int wdt, .int hgh, .ref aCa, .ref aTo, .int byn, .ref aTu, .int pgm, .int tpm, .int stn, .int lnx, .int lny]))]) (va_A [(oM, .inr (5, [.int thr, .ref aTx, .int siz, .ref aBg, .ref aEn, .ref aLe, .ref aMa, .ref aFi, .int lnm, .int rsm, .ref aHe, .int bxs, .int wdt, .int hgh, .ref aCa, .ref aTo, .int byn, .ref aTu, .int pgm, .int tpm, .int stn, .int lnx, .int lny]))] sz)) 0 0 (va_A [(oM, .inr (5, [.int thr, .ref aTx, .int siz, .ref aBg, .ref aEn, .ref aLe, .ref aMa, .ref aFi, .int lnm, .int rsm, .ref aHe, .int bxs, .int wdt, .int hgh, .ref aCa, .ref aTo, .int byn, .ref aTu, .int pgm, .int tpm, .int stn, .int lnx, .int lny]))] sz) := by
  refine Met.ofW (cc := b_Mod_isSquare) (maxL := 3) (ret := (some .boolean)) (by decide) rfl ?_
  intro p e s m args below meth c s₁ B hml hv
  obtain ⟨rfl, hsz, hP, hK, hD0⟩ := hv
  have hx := B.exec
  have hb := B.bytes
  have hr := B.returns
  have hts := atoms_spec (ws := w_Mod_isSquare) B.pre
  have hown : s.vm.findClass R_Mod = some m.cls := findClass_of_methodNamed B.named
  have hlocks := B.notSynchronized
  have hw_Mod : ∀ w ∈ w_Mod, w ∈ w_Mod_isSquare := by decide +kernel
  subst hsz
  have hD := hD0.self (sz := s.heap.size)
  generalize hAe : va_A [(oM, .inr (5, [.int thr, .ref aTx, .int siz, .ref aBg, .ref aEn, .ref aLe, .ref aMa, .ref aFi, .int lnm, .int rsm, .ref aHe, .int bxs, .int wdt, .int hgh, .ref aCa, .ref aTo, .int byn, .ref aTu, .int pgm, .int tpm, .int stn, .int lnx, .int lny]))] s.heap.size = A at hD ⊢
  have hA : ∀ q : Nat, s.heap.size ≤ q → A q := fun q h => by rw [← hAe]; exact Or.inr h
  have hS : va_S A s.heap s.heap [] := va_S.rf
  have hP : va_P (dC, dI) classes [(oM, .inr (5, [.int thr, .ref aTx, .int siz, .ref aBg, .ref aEn, .ref aLe, .ref aMa, .ref aFi, .int lnm, .int rsm, .ref aHe, .int bxs, .int wdt, .int hgh, .ref aCa, .ref aTo, .int byn, .ref aTu, .int pgm, .int tpm, .int stn, .int lnx, .int lny]))] s.heap := hP
  have hl := lv_entry ([.ref oM, .int p1, .int p2]) (n := 3) (Nat.le_of_ble_eq_true rfl)
  rw [lg_entry_eq]
  generalize (lg_sl ([.ref oM, .int p1, .int p2]) ++ List.replicate (3 - (lg_sl ([.ref oM, .int p1, .int p2])).length) Slot.unset).toArray = ls at hl ⊢
  have hl : lv_has ls 3 [(0, .ref oM), (1, .int p1), (2, .int p2)] := hl
  refine lv_aload_n hx hb d_Mod_isSquare_0 rfl (lv_at hl 0 rfl) ?_
  refine va_get (D := (dC, dI)) (ci := 5) (v := .int byn) (C := R_Mod) (T := F_Mod) (N := 23) hx hb hts hw_Mod hown hK hP 0 rfl rfl 16 (by decide) (hts (.fieldLink R_Mod 113 "PageFormsModel" "bytes" "I") (by decide +kernel)) (fun _ h9 => h9) rfl d_Mod_isSquare_1 ?_
  refine xi_if_le (tgt := 33) hx hb hc d_Mod_isSquare_4 (by decide) (fun c4 => ?_) (fun c4 => ?_)
  · refine lv_iconst (v := 0) hx hb d_Mod_isSquare_33 (by decide) ?_
    exact W.zret (v := 0) hx hb hr rfl (fun t ht hW => ⟨⟨0, (), rfl, (show (0 = 1 ∧ cd_ok byn p1.toInt p2.toInt) ∨ (0 = 0 ∧ ¬ cd_ok byn p1.toInt p2.toInt) from (by unfold cd_ok; first | exact Or.inl ⟨by decide, by omega⟩ | exact Or.inr ⟨by decide, by omega⟩)), by rw [ht]; exact hP, va_K.moved hW.alike hK, hD⟩, hS.F ht⟩) hS.2.2 d_Mod_isSquare_34
  · refine lv_iload_n hx hb d_Mod_isSquare_7 rfl (lv_at hl 1 rfl) ?_
    refine lv_iconst (v := 0) hx hb d_Mod_isSquare_8 (by decide) ?_
    refine lv_bipush (v := 8) hx hb d_Mod_isSquare_9 (by decide) ?_
    have hPc := hP.sub (ws' := []) [] rfl
    have hDc := hD.sub (ws' := []) [] (by decide) rfl
    have hFc := va_free (wc := []) hD hS hA [] rfl
    refine va_calli (va_runS (As := [.int p1, .int 0, .int 8]) (rest := []) ⟨hx, hb, hml, hown, hts⟩ (k_Mod_within l dC dI cI cZ s.heap.size p1 0 8) (cwS 3 hts g_Mod_isSquare_Mod_within rfl rfl rfl (by decide +kernel) ⟨Nat.le_of_ble_eq_true rfl, Nat.le_of_ble_eq_true rfl⟩) ⟨fun a U g mk q => by obtain ⟨q0, q1, qP, qK, qD⟩ := q; exact ⟨q0, q1, qP, va_K.moved (u := U) (U := U.calling g mk a) (Vm.Alike.refl U.vm) qK, qD⟩, fun U hU hW => ⟨rfl, by rw [hU], by rw [hU]; exact hPc, va_K.moved hW.alike hK, hDc.weaken (fun _ _ _ _ => trivial)⟩⟩ rfl rfl hl.1 rfl (lv_room (Nat.le_of_ble_eq_true rfl)) d_Mod_isSquare_11 ⟨Nat.le_of_ble_eq_true rfl, Nat.le_of_ble_eq_true rfl⟩) hS (fun q _ h => hFc q h) hFc (fun r11 u t H1 locs ht hvm hw hB hz1 hk1 hS => ?_)
    have w11 : (r11.toInt = 1 ∧ 0 ≤ p1.toInt ∧ p1.toInt ≤ 8) ∨ (r11.toInt = 0 ∧ (p1.toInt < 0 ∨ 8 < p1.toInt)) := hw
    obtain ⟨hP1, hK1, hD1⟩ := hB
    rw [ht] at hP1
    obtain ⟨hP, hD⟩ := va_join (wr := [(oM, .inr (5, [.int thr, .ref aTx, .int siz, .ref aBg, .ref aEn, .ref aLe, .ref aMa, .ref aFi, .int lnm, .int rsm, .ref aHe, .int bxs, .int wdt, .int hgh, .ref aCa, .ref aTo, .int byn, .ref aTu, .int pgm, .int tpm, .int stn, .int lnx, .int lny]))]) (w1 := []) hP hD [] [0] rfl rfl (by decide) (by decide) hk1 hFc hP1 hD1
    generalize H1 = H at hP hS ⊢
    have hP : va_P (dC, dI) classes [(oM, .inr (5, [.int thr, .ref aTx, .int siz, .ref aBg, .ref aEn, .ref aLe, .ref aMa, .ref aFi, .int lnm, .int rsm, .ref aHe, .int bxs, .int wdt, .int hgh, .ref aCa, .ref aTo, .int byn, .ref aTu, .int pgm, .int tpm, .int stn, .int lnx, .int lny]))] H := hP
    have hD : va_D A [(oM, .inr (5, [.int thr, .ref aTx, .int siz, .ref aBg, .ref aEn, .ref aLe, .ref aMa, .ref aFi, .int lnm, .int rsm, .ref aHe, .int bxs, .int wdt, .int hgh, .ref aCa, .ref aTo, .int byn, .ref aTu, .int pgm, .int tpm, .int stn, .int lnx, .int lny]))] := hD
    refine xi_if_eq (tgt := 33) hx hb (rfl) d_Mod_isSquare_14 (by decide) (fun c14 => ?_) (fun c14 => ?_)
    · refine lv_iconst (v := 0) hx hb d_Mod_isSquare_33 (by decide) ?_
      exact W.zret (v := 0) hx hb hr rfl (fun t ht hW => ⟨⟨0, (), rfl, (show (0 = 1 ∧ cd_ok byn p1.toInt p2.toInt) ∨ (0 = 0 ∧ ¬ cd_ok byn p1.toInt p2.toInt) from (by unfold cd_ok; first | exact Or.inl ⟨by decide, by omega⟩ | exact Or.inr ⟨by decide, by omega⟩)), by rw [ht]; exact hP, va_K.moved hW.alike hK, hD⟩, hS.F ht⟩) hS.2.2 d_Mod_isSquare_34
    · refine lv_iload_n hx hb d_Mod_isSquare_17 rfl (lv_at hl 2 rfl) ?_
      refine lv_iconst (v := 0) hx hb d_Mod_isSquare_18 (by decide) ?_
      refine lv_aload_n hx hb d_Mod_isSquare_19 rfl (lv_at hl 0 rfl) ?_
      refine va_get (D := (dC, dI)) (ci := 5) (v := .int byn) (C := R_Mod) (T := F_Mod) (N := 23) hx hb hts hw_Mod hown hK hP 0 rfl rfl 16 (by decide) (hts (.fieldLink R_Mod 113 "PageFormsModel" "bytes" "I") (by decide +kernel)) (fun _ h9 => h9) rfl d_Mod_isSquare_20 ?_
      have hPc := hP.sub (ws' := []) [] rfl
      have hDc := hD.sub (ws' := []) [] (by decide) rfl
      have hFc := va_free (wc := []) hD hS hA [] rfl
      refine va_calli (va_runS (As := [.int p2, .int 0, .int byn]) (rest := []) ⟨hx, hb, hml, hown, hts⟩ (k_Mod_within l dC dI cI cZ H.size p2 0 byn) (cwS 3 hts g_Mod_isSquare_Mod_within rfl rfl rfl (by decide +kernel) ⟨Nat.le_of_ble_eq_true rfl, Nat.le_of_ble_eq_true rfl⟩) ⟨fun a U g mk q => by obtain ⟨q0, q1, qP, qK, qD⟩ := q; exact ⟨q0, q1, qP, va_K.moved (u := U) (U := U.calling g mk a) (Vm.Alike.refl U.vm) qK, qD⟩, fun U hU hW => ⟨rfl, by rw [hU], by rw [hU]; exact hPc, va_K.moved hW.alike hK, hDc.weaken (fun _ _ _ _ => trivial)⟩⟩ rfl rfl hl.1 rfl (lv_room (Nat.le_of_ble_eq_true rfl)) d_Mod_isSquare_23 ⟨Nat.le_of_ble_eq_true rfl, Nat.le_of_ble_eq_true rfl⟩) hS (fun q _ h => hFc q h) hFc (fun r23 u t H1 locs ht hvm hw hB hz1 hk1 hS => ?_)
      have w23 : (r23.toInt = 1 ∧ 0 ≤ p2.toInt ∧ p2.toInt ≤ byn.toInt) ∨ (r23.toInt = 0 ∧ (p2.toInt < 0 ∨ byn.toInt < p2.toInt)) := hw
      obtain ⟨hP1, hK1, hD1⟩ := hB
      rw [ht] at hP1
      obtain ⟨hP, hD⟩ := va_join (wr := [(oM, .inr (5, [.int thr, .ref aTx, .int siz, .ref aBg, .ref aEn, .ref aLe, .ref aMa, .ref aFi, .int lnm, .int rsm, .ref aHe, .int bxs, .int wdt, .int hgh, .ref aCa, .ref aTo, .int byn, .ref aTu, .int pgm, .int tpm, .int stn, .int lnx, .int lny]))]) (w1 := []) hP hD [] [0] rfl rfl (by decide) (by decide) hk1 hFc hP1 hD1
      generalize H1 = H at hP hS ⊢
      have hP : va_P (dC, dI) classes [(oM, .inr (5, [.int thr, .ref aTx, .int siz, .ref aBg, .ref aEn, .ref aLe, .ref aMa, .ref aFi, .int lnm, .int rsm, .ref aHe, .int bxs, .int wdt, .int hgh, .ref aCa, .ref aTo, .int byn, .ref aTu, .int pgm, .int tpm, .int stn, .int lnx, .int lny]))] H := hP
      have hD : va_D A [(oM, .inr (5, [.int thr, .ref aTx, .int siz, .ref aBg, .ref aEn, .ref aLe, .ref aMa, .ref aFi, .int lnm, .int rsm, .ref aHe, .int bxs, .int wdt, .int hgh, .ref aCa, .ref aTo, .int byn, .ref aTu, .int pgm, .int tpm, .int stn, .int lnx, .int lny]))] := hD
      refine xi_if_eq (tgt := 33) hx hb (rfl) d_Mod_isSquare_26 (by decide) (fun c26 => ?_) (fun c26 => ?_)
      · refine lv_iconst (v := 0) hx hb d_Mod_isSquare_33 (by decide) ?_
        exact W.zret (v := 0) hx hb hr rfl (fun t ht hW => ⟨⟨0, (), rfl, (show (0 = 1 ∧ cd_ok byn p1.toInt p2.toInt) ∨ (0 = 0 ∧ ¬ cd_ok byn p1.toInt p2.toInt) from (by unfold cd_ok; first | exact Or.inl ⟨by decide, by omega⟩ | exact Or.inr ⟨by decide, by omega⟩)), by rw [ht]; exact hP, va_K.moved hW.alike hK, hD⟩, hS.F ht⟩) hS.2.2 d_Mod_isSquare_34
      · refine lv_iconst (v := 1) hx hb d_Mod_isSquare_29 (by decide) ?_
        refine lv_goto (tgt := 34) hx hb d_Mod_isSquare_30 (by decide) ?_
        exact W.zret (v := 1) hx hb hr rfl (fun t ht hW => ⟨⟨1, (), rfl, (show (1 = 1 ∧ cd_ok byn p1.toInt p2.toInt) ∨ (1 = 0 ∧ ¬ cd_ok byn p1.toInt p2.toInt) from (by unfold cd_ok; first | exact Or.inl ⟨by decide, by omega⟩ | exact Or.inr ⟨by decide, by omega⟩)), by rw [ht]; exact hP, va_K.moved hW.alike hK, hD⟩, hS.F ht⟩) hS.2.2 d_Mod_isSquare_34

set_option maxHeartbeats 4000000 in
set_option maxRecDepth 100000 in
theorem k_Mod_asTold (l : Launch) (dC : Nat → ClassId) (dI : Nat → Nat → Nat) (cI cZ : ClassId) (oM : Nat) (aTo : Nat) (thr : Int32) (aTx : Nat) (siz : Int32) (aBg : Nat) (aEn : Nat) (aLe : Nat) (aMa : Nat) (aFi : Nat) (lnm : Int32) (rsm : Int32) (aHe : Nat) (bxs : Int32) (wdt : Int32) (hgh : Int32) (aCa : Nat) (byn : Int32) (aTu : Nat) (pgm : Int32) (tpm : Int32) (stn : Int32) (lnx : Int32) (lny : Int32) (tol : Nat → Int32) (sz : Nat) (p1 : Int32) (p2 : Int32) (nC : Nat) (x : Nat) (y : Nat) (hc : byn.toInt = (nC : Int)) (hc12 : nC ≤ 12) (hpx : p1.toInt = (x : Int)) (hpy : p2.toInt = (y : Int)) (hx8 : x ≤ 8) (hyn : y ≤ nC) : Met l y_Mod_asTold w_Mod_asTold ({ frames := 0, cells := 0, slots := 0, locals := 0 }) (va_Pc [.ref oM, .int p1, .int p2] (fun U => U.heap.size = sz ∧ va_P (dC, dI) classes [(oM, .inr (5, [.int thr, .ref aTx, .int siz, .ref aBg, .ref aEn, .ref aLe, .ref aMa, .ref aFi, .int lnm, .int rsm, .ref aHe, .int bxs, .int wdt, .int hgh, .ref aCa, .ref aTo, .int byn, .ref aTu, .int pgm, .int tpm, .int stn, .int lnx, .int lny])), (aTo, .inl (cI, 12, .inl tol))] U.heap ∧ va_K (dC, dI) classes [(cI, .int), (cZ, .boolean)] U ∧ va_D (fun _ => True) [(oM, .inr (5, [.int thr, .ref aTx, .int siz, .ref aBg, .ref aEn, .ref aLe, .ref aMa, .ref aFi, .int lnm, .int rsm, .ref aHe, .int bxs, .int wdt, .int hgh, .ref aCa, .ref aTo, .int byn, .ref aTu, .int pgm, .int tpm, .int stn, .int lnx, .int lny])), (aTo, .inl (cI, 12, .inl tol))])) (va_Qi (fun (r : Int32) (u : Unit) => (r.toInt = 1 ∧ cm_told tol nC x y = true) ∨ (r.toInt = 0 ∧ cm_told tol nC x y = false)) (fun (u : Unit) (t : State) => va_P (dC, dI) classes [(oM, .inr (5, [.int thr, .ref aTx, .int siz, .ref aBg, .ref aEn, .ref aLe, .ref aMa, .ref aFi, .int lnm, .int rsm, .ref aHe, .int bxs, .int wdt, .int hgh, .ref aCa, .ref aTo, .int byn, .ref aTu, .int pgm, .int tpm, .int stn, .int lnx, .int lny])), (aTo, .inl (cI, 12, .inl tol))] t.heap ∧ va_K (dC, dI) classes [(cI, .int), (cZ, .boolean)] t ∧ va_D (va_A [(oM, .inr (5, [.int thr, .ref aTx, .int siz, .ref aBg, .ref aEn, .ref aLe, .ref aMa, .ref aFi, .int lnm, .int rsm, .ref aHe, .int bxs, .int wdt, .int hgh, .ref aCa, .ref aTo, .int byn, .ref aTu, .int pgm, .int tpm, .int stn, .int lnx, .int lny])), (aTo, .inl (cI, 12, .inl tol))] sz) [(oM, .inr (5, [.int thr, .ref aTx, .int siz, .ref aBg, .ref aEn, .ref aLe, .ref aMa, .ref aFi, .int lnm, .int rsm, .ref aHe, .int bxs, .int wdt, .int hgh, .ref aCa, .ref aTo, .int byn, .ref aTu, .int pgm, .int tpm, .int stn, .int lnx, .int lny])), (aTo, .inl (cI, 12, .inl tol))]) (va_A [(oM, .inr (5, [.int thr, .ref aTx, .int siz, .ref aBg, .ref aEn, .ref aLe, .ref aMa, .ref aFi, .int lnm, .int rsm, .ref aHe, .int bxs, .int wdt, .int hgh, .ref aCa, .ref aTo, .int byn, .ref aTu, .int pgm, .int tpm, .int stn, .int lnx, .int lny])), (aTo, .inl (cI, 12, .inl tol))] sz)) 0 0 (va_A [(oM, .inr (5, [.int thr, .ref aTx, .int siz, .ref aBg, .ref aEn, .ref aLe, .ref aMa, .ref aFi, .int lnm, .int rsm, .ref aHe, .int bxs, .int wdt, .int hgh, .ref aCa, .ref aTo, .int byn, .ref aTu, .int pgm, .int tpm, .int stn, .int lnx, .int lny])), (aTo, .inl (cI, 12, .inl tol))] sz) := by
  refine Met.ofW (cc := b_Mod_asTold) (maxL := 6) (ret := (some .boolean)) (by decide) rfl ?_
  intro p e s m args below meth c s₁ B hml hv
  obtain ⟨rfl, hsz, hP, hK, hD0⟩ := hv
  have hx := B.exec
  have hb := B.bytes
  have hr := B.returns
  have hts := atoms_spec (ws := w_Mod_asTold) B.pre
  have hown : s.vm.findClass R_Mod = some m.cls := findClass_of_methodNamed B.named
  have hlocks := B.notSynchronized
  have hw_Mod : ∀ w ∈ w_Mod, w ∈ w_Mod_asTold := by decide +kernel
  subst hsz
  have hD := hD0.self (sz := s.heap.size)
  generalize hAe : va_A [(oM, .inr (5, [.int thr, .ref aTx, .int siz, .ref aBg, .ref aEn, .ref aLe, .ref aMa, .ref aFi, .int lnm, .int rsm, .ref aHe, .int bxs, .int wdt, .int hgh, .ref aCa, .ref aTo, .int byn, .ref aTu, .int pgm, .int tpm, .int stn, .int lnx, .int lny])), (aTo, .inl (cI, 12, .inl tol))] s.heap.size = A at hD ⊢
  have hA : ∀ q : Nat, s.heap.size ≤ q → A q := fun q h => by rw [← hAe]; exact Or.inr h
  have hS : va_S A s.heap s.heap [] := va_S.rf
  have hP : va_P (dC, dI) classes [(oM, .inr (5, [.int thr, .ref aTx, .int siz, .ref aBg, .ref aEn, .ref aLe, .ref aMa, .ref aFi, .int lnm, .int rsm, .ref aHe, .int bxs, .int wdt, .int hgh, .ref aCa, .ref aTo, .int byn, .ref aTu, .int pgm, .int tpm, .int stn, .int lnx, .int lny])), (aTo, .inl (cI, 12, .inl tol))] s.heap := hP
  have hl := lv_entry ([.ref oM, .int p1, .int p2]) (n := 6) (Nat.le_of_ble_eq_true rfl)
  rw [lg_entry_eq]
  generalize (lg_sl ([.ref oM, .int p1, .int p2]) ++ List.replicate (6 - (lg_sl ([.ref oM, .int p1, .int p2])).length) Slot.unset).toArray = ls at hl ⊢
  have hl : lv_has ls 6 [(0, .ref oM), (1, .int p1), (2, .int p2)] := hl
  have loop5 : ∀ (n5 : Nat) (k : Nat) (x3 : Int32) (x4 : Int32), (nC - k < n5) → (k ≤ nC) → (x4.toInt = (k : Int)) → (x3.toInt = (cm_out tol nC x y k : Int)) → ∀ (H : Heap) (locs : List Loc), va_P (dC, dI) classes [(oM, .inr (5, [.int thr, .ref aTx, .int siz, .ref aBg, .ref aEn, .ref aLe, .ref aMa, .ref aFi, .int lnm, .int rsm, .ref aHe, .int bxs, .int wdt, .int hgh, .ref aCa, .ref aTo, .int byn, .ref aTu, .int pgm, .int tpm, .int stn, .int lnx, .int lny])), (aTo, .inl (cI, 12, .inl tol))] H → va_D A [(oM, .inr (5, [.int thr, .ref aTx, .int siz, .ref aBg, .ref aEn, .ref aLe, .ref aMa, .ref aFi, .int lnm, .int rsm, .ref aHe, .int bxs, .int wdt, .int hgh, .ref aCa, .ref aTo, .int byn, .ref aTu, .int pgm, .int tpm, .int stn, .int lnx, .int lny])), (aTo, .inl (cI, 12, .inl tol))] → va_S A s.heap H locs → ∀ (ls : Array Slot), lv_has ls 6 [(0, .ref oM), (1, .int p1), (2, .int p2), (3, .int x3), (4, .int x4)] → W p l e (headSpec w_Mod_asTold ({ frames := 0, cells := 0, slots := 0, locals := 0 })).room s m ([.ref oM, .int p1, .int p2] : List Value).toArray below meth c H locs 0 0 (MQ below (va_Qi (fun (r : Int32) (u : Unit) => (r.toInt = 1 ∧ cm_told tol nC x y = true) ∨ (r.toInt = 0 ∧ cm_told tol nC x y = false)) (fun (u : Unit) (t : State) => va_P (dC, dI) classes [(oM, .inr (5, [.int thr, .ref aTx, .int siz, .ref aBg, .ref aEn, .ref aLe, .ref aMa, .ref aFi, .int lnm, .int rsm, .ref aHe, .int bxs, .int wdt, .int hgh, .ref aCa, .ref aTo, .int byn, .ref aTu, .int pgm, .int tpm, .int stn, .int lnx, .int lny])), (aTo, .inl (cI, 12, .inl tol))] t.heap ∧ va_K (dC, dI) classes [(cI, .int), (cZ, .boolean)] t ∧ va_D (A) [(oM, .inr (5, [.int thr, .ref aTx, .int siz, .ref aBg, .ref aEn, .ref aLe, .ref aMa, .ref aFi, .int lnm, .int rsm, .ref aHe, .int bxs, .int wdt, .int hgh, .ref aCa, .ref aTo, .int byn, .ref aTu, .int pgm, .int tpm, .int stn, .int lnx, .int lny])), (aTo, .inl (cI, 12, .inl tol))]) (A)) ([.ref oM, .int p1, .int p2] : List Value).toArray s 0 0 A) (F0 m 5 ls []) := by
    intro n5
    induction n5 with
    | zero => intro k x3 x4 hmz5; omega
    | succ n5 ih5 =>
      intro k x3 x4 hmz5 hk e4 e3 H locs hP hD hS ls hl
      have hol := cm_out_le tol nC x y k
      refine lv_iload hx hb d_Mod_asTold_5 (lv_at hl 4 rfl) ?_
      refine lv_aload_n hx hb d_Mod_asTold_7 rfl (lv_at hl 0 rfl) ?_
      refine va_get (D := (dC, dI)) (ci := 5) (v := .int byn) (C := R_Mod) (T := F_Mod) (N := 23) hx hb hts hw_Mod hown hK hP 0 rfl rfl 16 (by decide) (hts (.fieldLink R_Mod 113 "PageFormsModel" "bytes" "I") (by decide +kernel)) (fun _ h9 => h9) rfl d_Mod_asTold_8 ?_
      refine xi_icmp_ge (tgt := 80) hx hb e4 hc d_Mod_asTold_11 (by decide) (fun c11 => ?_) (fun c11 => ?_)
      · have hkN : k = nC := by omega
        rw [hkN] at e3
        refine lv_iload_n hx hb d_Mod_asTold_80 rfl (lv_at hl 3 rfl) ?_
        refine lv_iconst (v := 2) hx hb d_Mod_asTold_81 (by decide) ?_
        refine lv_irem hx hb d_Mod_asTold_82 (by decide) ?_
        have a82 : (x3 - x3 / 2 * 2).toInt = ((cm_out tol nC x y nC : Int) % 2) := xi_rem e3 (show (2 : Int32).toInt = 2 by decide) (by omega) (by omega)
        refine lv_iconst (v := 1) hx hb d_Mod_asTold_83 (by decide) ?_
        refine xi_icmp_ne (tgt := 91) hx hb a82 (show (1 : Int32).toInt = 1 by decide) d_Mod_asTold_84 (by decide) (fun c84 => ?_) (fun c84 => ?_)
        · refine lv_iconst (v := 0) hx hb d_Mod_asTold_91 (by decide) ?_
          exact W.zret (v := 0) hx hb hr rfl (fun t ht hW => ⟨⟨0, (), rfl, (show (0 = 1 ∧ cm_told tol nC x y = true) ∨ (0 = 0 ∧ cm_told tol nC x y = false) from (Or.inr ⟨by decide, decide_eq_false (by omega)⟩)), by rw [ht]; exact hP, va_K.moved hW.alike hK, hD⟩, hS.F ht⟩) hS.2.2 d_Mod_asTold_92
        · refine lv_iconst (v := 1) hx hb d_Mod_asTold_87 (by decide) ?_
          refine lv_goto (tgt := 92) hx hb d_Mod_asTold_88 (by decide) ?_
          exact W.zret (v := 1) hx hb hr rfl (fun t ht hW => ⟨⟨1, (), rfl, (show (1 = 1 ∧ cm_told tol nC x y = true) ∨ (1 = 0 ∧ cm_told tol nC x y = false) from (Or.inl ⟨by decide, decide_eq_true (by omega)⟩)), by rw [ht]; exact hP, va_K.moved hW.alike hK, hD⟩, hS.F ht⟩) hS.2.2 d_Mod_asTold_92
      · refine lv_iload_n hx hb d_Mod_asTold_14 rfl (lv_at hl 2 rfl) ?_
        refine lv_aload_n hx hb d_Mod_asTold_15 rfl (lv_at hl 0 rfl) ?_
        refine va_get (D := (dC, dI)) (ci := 5) (v := .int byn) (C := R_Mod) (T := F_Mod) (N := 23) hx hb hts hw_Mod hown hK hP 0 rfl rfl 16 (by decide) (hts (.fieldLink R_Mod 113 "PageFormsModel" "bytes" "I") (by decide +kernel)) (fun _ h9 => h9) rfl d_Mod_asTold_16 ?_
        refine xi_icmp_eq (tgt := 28) hx hb hpy hc d_Mod_asTold_19 (by decide) (fun c19 => ?_) (fun c19 => ?_)
        · refine lv_iconst (v := 0) hx hb d_Mod_asTold_28 (by decide) ?_
          refine lv_istore (lv' := [(5, .int 0), (0, .ref oM), (1, .int p1), (2, .int p2), (3, .int x3), (4, .int x4)]) hx hb d_Mod_asTold_29 hl (by decide) rfl (fun ls hl => ?_)
          have loop31 : ∀ (n31 : Nat) (j : Nat) (x3i : Int32) (x5 : Int32), (8 - j < n31) → (j ≤ 8) → (x5.toInt = (j : Int)) → (x3i.toInt = ((cm_out tol nC x y k + cm_in (tol k) x j : Nat) : Int)) → ∀ (H : Heap) (locs : List Loc), va_P (dC, dI) classes [(oM, .inr (5, [.int thr, .ref aTx, .int siz, .ref aBg, .ref aEn, .ref aLe, .ref aMa, .ref aFi, .int lnm, .int rsm, .ref aHe, .int bxs, .int wdt, .int hgh, .ref aCa, .ref aTo, .int byn, .ref aTu, .int pgm, .int tpm, .int stn, .int lnx, .int lny])), (aTo, .inl (cI, 12, .inl tol))] H → va_D A [(oM, .inr (5, [.int thr, .ref aTx, .int siz, .ref aBg, .ref aEn, .ref aLe, .ref aMa, .ref aFi, .int lnm, .int rsm, .ref aHe, .int bxs, .int wdt, .int hgh, .ref aCa, .ref aTo, .int byn, .ref aTu, .int pgm, .int tpm, .int stn, .int lnx, .int lny])), (aTo, .inl (cI, 12, .inl tol))] → va_S A s.heap H locs → ∀ (ls : Array Slot), lv_has ls 6 [(0, .ref oM), (1, .int p1), (2, .int p2), (3, .int x3i), (4, .int x4), (5, .int x5)] → W p l e (headSpec w_Mod_asTold ({ frames := 0, cells := 0, slots := 0, locals := 0 })).room s m ([.ref oM, .int p1, .int p2] : List Value).toArray below meth c H locs 0 0 (MQ below (va_Qi (fun (r : Int32) (u : Unit) => (r.toInt = 1 ∧ cm_told tol nC x y = true) ∨ (r.toInt = 0 ∧ cm_told tol nC x y = false)) (fun (u : Unit) (t : State) => va_P (dC, dI) classes [(oM, .inr (5, [.int thr, .ref aTx, .int siz, .ref aBg, .ref aEn, .ref aLe, .ref aMa, .ref aFi, .int lnm, .int rsm, .ref aHe, .int bxs, .int wdt, .int hgh, .ref aCa, .ref aTo, .int byn, .ref aTu, .int pgm, .int tpm, .int stn, .int lnx, .int lny])), (aTo, .inl (cI, 12, .inl tol))] t.heap ∧ va_K (dC, dI) classes [(cI, .int), (cZ, .boolean)] t ∧ va_D (A) [(oM, .inr (5, [.int thr, .ref aTx, .int siz, .ref aBg, .ref aEn, .ref aLe, .ref aMa, .ref aFi, .int lnm, .int rsm, .ref aHe, .int bxs, .int wdt, .int hgh, .ref aCa, .ref aTo, .int byn, .ref aTu, .int pgm, .int tpm, .int stn, .int lnx, .int lny])), (aTo, .inl (cI, 12, .inl tol))]) (A)) ([.ref oM, .int p1, .int p2] : List Value).toArray s 0 0 A) (F0 m 31 ls []) := by
            intro n31
            induction n31 with
            | zero => intro j x3i x5 hmz31; omega
            | succ n31 ih31 =>
              intro j x3i x5 hmz31 hj e5 e3i H locs hP hD hS ls hl
              have hil := cm_in_le (tol k) x j
              have hnl := cm_n_le (tol k) j
              refine lv_iload hx hb d_Mod_asTold_31 (lv_at hl 5 rfl) ?_
              refine lv_bipush (v := 8) hx hb d_Mod_asTold_33 (by decide) ?_
              refine xi_icmp_ge (tgt := 74) hx hb e5 (show (8 : Int32).toInt = 8 by decide) d_Mod_asTold_35 (by decide) (fun c35 => ?_) (fun c35 => ?_)
              · obtain ⟨v74, ev74⟩ : ∃ y : Int32, y = (x4 + 1) := ⟨_, rfl⟩
                have fv74 : v74.toInt = ((k : Int) + 1) := by rw [ev74]; exact xi_add e4 (show (1 : Int32).toInt = 1 by decide) (by omega) (by omega)
                refine lv_iinc (v := v74) (lv' := [(4, .int v74), (0, .ref oM), (1, .int p1), (2, .int p2), (3, .int x3i), (5, .int x5)]) hx hb d_Mod_asTold_74 hl (k := 4) rfl (by rw [ev74]; rfl) (by decide) rfl (fun ls hl => ?_)
                refine lv_goto (tgt := 5) hx hb d_Mod_asTold_77 (by decide) ?_
                have hj8 : j = 8 := by omega
                exact ih5 (k + 1) x3i v74 (by omega) (by omega) (by omega) (by rw [cm_out, if_pos (by omega), ← hj8]; exact e3i) _ _ hP hD hS ls (lv_sub hl [1, 2, 3, 4, 0] rfl)
              · refine lv_iload_n hx hb d_Mod_asTold_38 rfl (lv_at hl 1 rfl) ?_
                refine lv_bipush (v := 8) hx hb d_Mod_asTold_39 (by decide) ?_
                refine xi_icmp_eq (tgt := 50) hx hb hpx (show (8 : Int32).toInt = 8 by decide) d_Mod_asTold_41 (by decide) (fun c41 => ?_) (fun c41 => ?_)
                · refine lv_iload_n hx hb d_Mod_asTold_50 rfl (lv_at hl 3 rfl) ?_
                  refine lv_aload_n hx hb d_Mod_asTold_51 rfl (lv_at hl 0 rfl) ?_
                  refine va_get (D := (dC, dI)) (ci := 5) (v := .ref aTo) (C := R_Mod) (T := F_Mod) (N := 23) hx hb hts hw_Mod hown hK hP 0 rfl rfl 15 (by decide) (hts (.fieldLink R_Mod 41 "PageFormsModel" "told" "[I") (by decide +kernel)) (fun _ h9 => h9) rfl d_Mod_asTold_52 ?_
                  refine lv_iload hx hb d_Mod_asTold_55 (lv_at hl 4 rfl) ?_
                  refine xa_iald hx hb hK hP 1 0 rfl rfl e4 k (by omega) (by omega) d_Mod_asTold_57 ?_
                  refine lv_bipush (v := 7) hx hb d_Mod_asTold_58 (by decide) ?_
                  refine lv_iload hx hb d_Mod_asTold_60 (lv_at hl 5 rfl) ?_
                  refine lv_isub hx hb d_Mod_asTold_62 ?_
                  have a62 : (7 - x5).toInt = (7 - (j : Int)) := xi_sub (show (7 : Int32).toInt = 7 by decide) e5 (by omega) (by omega)
                  refine lv_ishr hx hb d_Mod_asTold_63 ?_
                  refine lv_iconst (v := 1) hx hb d_Mod_asTold_64 (by decide) ?_
                  refine lv_iand hx hb d_Mod_asTold_65 ?_
                  have b65 : (((tol k) >>> ((7 - x5) &&& 31)) &&& 1).toInt = (cm_n (tol k) j : Int) := (cm_n_eq e5)
                  refine lv_iadd hx hb d_Mod_asTold_66 ?_
                  have a66 : (x3i + (((tol k) >>> ((7 - x5) &&& 31)) &&& 1)).toInt = (((cm_out tol nC x y k + cm_in (tol k) x j : Nat) : Int) + (cm_n (tol k) j : Int)) := xi_add e3i b65 (by omega) (by omega)
                  refine lv_topi (fun v67 ev67 => ?_)
                  have fv67 : v67.toInt = (((cm_out tol nC x y k + cm_in (tol k) x j : Nat) : Int) + (cm_n (tol k) j : Int)) := by rw [ev67]; exact a66
                  refine lv_istore_n (lv' := [(3, .int v67), (0, .ref oM), (1, .int p1), (2, .int p2), (4, .int x4), (5, .int x5)]) hx hb d_Mod_asTold_67 rfl hl (by decide) rfl (fun ls hl => ?_)
                  obtain ⟨v68, ev68⟩ : ∃ y : Int32, y = (x5 + 1) := ⟨_, rfl⟩
                  have fv68 : v68.toInt = ((j : Int) + 1) := by rw [ev68]; exact xi_add e5 (show (1 : Int32).toInt = 1 by decide) (by omega) (by omega)
                  refine lv_iinc (v := v68) (lv' := [(5, .int v68), (3, .int v67), (0, .ref oM), (1, .int p1), (2, .int p2), (4, .int x4)]) hx hb d_Mod_asTold_68 hl (k := 5) rfl (by rw [ev68]; rfl) (by decide) rfl (fun ls hl => ?_)
                  refine lv_goto (tgt := 31) hx hb d_Mod_asTold_71 (by decide) ?_
                  exact ih31 (j + 1) v67 v68 (by omega) (by omega) (by omega) (by rw [cm_in, if_pos (by omega)]; omega) _ _ hP hD hS ls (lv_sub hl [2, 3, 4, 1, 5, 0] rfl)
                · refine lv_iload_n hx hb d_Mod_asTold_44 rfl (lv_at hl 1 rfl) ?_
                  refine lv_iload hx hb d_Mod_asTold_45 (lv_at hl 5 rfl) ?_
                  refine xi_icmp_ne (tgt := 68) hx hb hpx e5 d_Mod_asTold_47 (by decide) (fun c47 => ?_) (fun c47 => ?_)
                  · obtain ⟨v68, ev68⟩ : ∃ y : Int32, y = (x5 + 1) := ⟨_, rfl⟩
                    have fv68 : v68.toInt = ((j : Int) + 1) := by rw [ev68]; exact xi_add e5 (show (1 : Int32).toInt = 1 by decide) (by omega) (by omega)
                    refine lv_iinc (v := v68) (lv' := [(5, .int v68), (0, .ref oM), (1, .int p1), (2, .int p2), (3, .int x3i), (4, .int x4)]) hx hb d_Mod_asTold_68 hl (k := 5) rfl (by rw [ev68]; rfl) (by decide) rfl (fun ls hl => ?_)
                    refine lv_goto (tgt := 31) hx hb d_Mod_asTold_71 (by decide) ?_
                    exact ih31 (j + 1) x3i v68 (by omega) (by omega) (by omega) (by rw [cm_in, if_neg (by omega)]; exact e3i) _ _ hP hD hS ls (lv_sub hl [1, 2, 3, 4, 5, 0] rfl)
                  · refine lv_iload_n hx hb d_Mod_asTold_50 rfl (lv_at hl 3 rfl) ?_
                    refine lv_aload_n hx hb d_Mod_asTold_51 rfl (lv_at hl 0 rfl) ?_
                    refine va_get (D := (dC, dI)) (ci := 5) (v := .ref aTo) (C := R_Mod) (T := F_Mod) (N := 23) hx hb hts hw_Mod hown hK hP 0 rfl rfl 15 (by decide) (hts (.fieldLink R_Mod 41 "PageFormsModel" "told" "[I") (by decide +kernel)) (fun _ h9 => h9) rfl d_Mod_asTold_52 ?_
                    refine lv_iload hx hb d_Mod_asTold_55 (lv_at hl 4 rfl) ?_
                    refine xa_iald hx hb hK hP 1 0 rfl rfl e4 k (by omega) (by omega) d_Mod_asTold_57 ?_
                    refine lv_bipush (v := 7) hx hb d_Mod_asTold_58 (by decide) ?_
                    refine lv_iload hx hb d_Mod_asTold_60 (lv_at hl 5 rfl) ?_
                    refine lv_isub hx hb d_Mod_asTold_62 ?_
                    have a62 : (7 - x5).toInt = (7 - (j : Int)) := xi_sub (show (7 : Int32).toInt = 7 by decide) e5 (by omega) (by omega)
                    refine lv_ishr hx hb d_Mod_asTold_63 ?_
                    refine lv_iconst (v := 1) hx hb d_Mod_asTold_64 (by decide) ?_
                    refine lv_iand hx hb d_Mod_asTold_65 ?_
                    have b65 : (((tol k) >>> ((7 - x5) &&& 31)) &&& 1).toInt = (cm_n (tol k) j : Int) := (cm_n_eq e5)
                    refine lv_iadd hx hb d_Mod_asTold_66 ?_
                    have a66 : (x3i + (((tol k) >>> ((7 - x5) &&& 31)) &&& 1)).toInt = (((cm_out tol nC x y k + cm_in (tol k) x j : Nat) : Int) + (cm_n (tol k) j : Int)) := xi_add e3i b65 (by omega) (by omega)
                    refine lv_topi (fun v67 ev67 => ?_)
                    have fv67 : v67.toInt = (((cm_out tol nC x y k + cm_in (tol k) x j : Nat) : Int) + (cm_n (tol k) j : Int)) := by rw [ev67]; exact a66
                    refine lv_istore_n (lv' := [(3, .int v67), (0, .ref oM), (1, .int p1), (2, .int p2), (4, .int x4), (5, .int x5)]) hx hb d_Mod_asTold_67 rfl hl (by decide) rfl (fun ls hl => ?_)
                    obtain ⟨v68, ev68⟩ : ∃ y : Int32, y = (x5 + 1) := ⟨_, rfl⟩
                    have fv68 : v68.toInt = ((j : Int) + 1) := by rw [ev68]; exact xi_add e5 (show (1 : Int32).toInt = 1 by decide) (by omega) (by omega)
                    refine lv_iinc (v := v68) (lv' := [(5, .int v68), (3, .int v67), (0, .ref oM), (1, .int p1), (2, .int p2), (4, .int x4)]) hx hb d_Mod_asTold_68 hl (k := 5) rfl (by rw [ev68]; rfl) (by decide) rfl (fun ls hl => ?_)
                    refine lv_goto (tgt := 31) hx hb d_Mod_asTold_71 (by decide) ?_
                    exact ih31 (j + 1) v67 v68 (by omega) (by omega) (by omega) (by rw [cm_in, if_pos (by omega)]; omega) _ _ hP hD hS ls (lv_sub hl [2, 3, 4, 1, 5, 0] rfl)
          exact loop31 9 0 x3 0 (by omega) (by omega) (by decide) e3 _ _ hP hD hS ls (lv_sub hl [1, 2, 3, 4, 5, 0] rfl)
        · refine lv_iload_n hx hb d_Mod_asTold_22 rfl (lv_at hl 2 rfl) ?_
          refine lv_iload hx hb d_Mod_asTold_23 (lv_at hl 4 rfl) ?_
          refine xi_icmp_ne (tgt := 74) hx hb hpy e4 d_Mod_asTold_25 (by decide) (fun c25 => ?_) (fun c25 => ?_)
          · obtain ⟨v74, ev74⟩ : ∃ y : Int32, y = (x4 + 1) := ⟨_, rfl⟩
            have fv74 : v74.toInt = ((k : Int) + 1) := by rw [ev74]; exact xi_add e4 (show (1 : Int32).toInt = 1 by decide) (by omega) (by omega)
            refine lv_iinc (v := v74) (lv' := [(4, .int v74), (0, .ref oM), (1, .int p1), (2, .int p2), (3, .int x3)]) hx hb d_Mod_asTold_74 hl (k := 4) rfl (by rw [ev74]; rfl) (by decide) rfl (fun ls hl => ?_)
            refine lv_goto (tgt := 5) hx hb d_Mod_asTold_77 (by decide) ?_
            exact ih5 (k + 1) x3 v74 (by omega) (by omega) (by omega) (by rw [cm_out, if_neg (by omega)]; exact e3) _ _ hP hD hS ls (lv_sub hl [1, 2, 3, 4, 0] rfl)
          · refine lv_iconst (v := 0) hx hb d_Mod_asTold_28 (by decide) ?_
            refine lv_istore (lv' := [(5, .int 0), (0, .ref oM), (1, .int p1), (2, .int p2), (3, .int x3), (4, .int x4)]) hx hb d_Mod_asTold_29 hl (by decide) rfl (fun ls hl => ?_)
            have loop31 : ∀ (n31 : Nat) (j : Nat) (x3i : Int32) (x5 : Int32), (8 - j < n31) → (j ≤ 8) → (x5.toInt = (j : Int)) → (x3i.toInt = ((cm_out tol nC x y k + cm_in (tol k) x j : Nat) : Int)) → ∀ (H : Heap) (locs : List Loc), va_P (dC, dI) classes [(oM, .inr (5, [.int thr, .ref aTx, .int siz, .ref aBg, .ref aEn, .ref aLe, .ref aMa, .ref aFi, .int lnm, .int rsm, .ref aHe, .int bxs, .int wdt, .int hgh, .ref aCa, .ref aTo, .int byn, .ref aTu, .int pgm, .int tpm, .int stn, .int lnx, .int lny])), (aTo, .inl (cI, 12, .inl tol))] H → va_D A [(oM, .inr (5, [.int thr, .ref aTx, .int siz, .ref aBg, .ref aEn, .ref aLe, .ref aMa, .ref aFi, .int lnm, .int rsm, .ref aHe, .int bxs, .int wdt, .int hgh, .ref aCa, .ref aTo, .int byn, .ref aTu, .int pgm, .int tpm, .int stn, .int lnx, .int lny])), (aTo, .inl (cI, 12, .inl tol))] → va_S A s.heap H locs → ∀ (ls : Array Slot), lv_has ls 6 [(0, .ref oM), (1, .int p1), (2, .int p2), (3, .int x3i), (4, .int x4), (5, .int x5)] → W p l e (headSpec w_Mod_asTold ({ frames := 0, cells := 0, slots := 0, locals := 0 })).room s m ([.ref oM, .int p1, .int p2] : List Value).toArray below meth c H locs 0 0 (MQ below (va_Qi (fun (r : Int32) (u : Unit) => (r.toInt = 1 ∧ cm_told tol nC x y = true) ∨ (r.toInt = 0 ∧ cm_told tol nC x y = false)) (fun (u : Unit) (t : State) => va_P (dC, dI) classes [(oM, .inr (5, [.int thr, .ref aTx, .int siz, .ref aBg, .ref aEn, .ref aLe, .ref aMa, .ref aFi, .int lnm, .int rsm, .ref aHe, .int bxs, .int wdt, .int hgh, .ref aCa, .ref aTo, .int byn, .ref aTu, .int pgm, .int tpm, .int stn, .int lnx, .int lny])), (aTo, .inl (cI, 12, .inl tol))] t.heap ∧ va_K (dC, dI) classes [(cI, .int), (cZ, .boolean)] t ∧ va_D (A) [(oM, .inr (5, [.int thr, .ref aTx, .int siz, .ref aBg, .ref aEn, .ref aLe, .ref aMa, .ref aFi, .int lnm, .int rsm, .ref aHe, .int bxs, .int wdt, .int hgh, .ref aCa, .ref aTo, .int byn, .ref aTu, .int pgm, .int tpm, .int stn, .int lnx, .int lny])), (aTo, .inl (cI, 12, .inl tol))]) (A)) ([.ref oM, .int p1, .int p2] : List Value).toArray s 0 0 A) (F0 m 31 ls []) := by
              intro n31
              induction n31 with
              | zero => intro j x3i x5 hmz31; omega
              | succ n31 ih31 =>
                intro j x3i x5 hmz31 hj e5 e3i H locs hP hD hS ls hl
                have hil := cm_in_le (tol k) x j
                have hnl := cm_n_le (tol k) j
                refine lv_iload hx hb d_Mod_asTold_31 (lv_at hl 5 rfl) ?_
                refine lv_bipush (v := 8) hx hb d_Mod_asTold_33 (by decide) ?_
                refine xi_icmp_ge (tgt := 74) hx hb e5 (show (8 : Int32).toInt = 8 by decide) d_Mod_asTold_35 (by decide) (fun c35 => ?_) (fun c35 => ?_)
                · obtain ⟨v74, ev74⟩ : ∃ y : Int32, y = (x4 + 1) := ⟨_, rfl⟩
                  have fv74 : v74.toInt = ((k : Int) + 1) := by rw [ev74]; exact xi_add e4 (show (1 : Int32).toInt = 1 by decide) (by omega) (by omega)
                  refine lv_iinc (v := v74) (lv' := [(4, .int v74), (0, .ref oM), (1, .int p1), (2, .int p2), (3, .int x3i), (5, .int x5)]) hx hb d_Mod_asTold_74 hl (k := 4) rfl (by rw [ev74]; rfl) (by decide) rfl (fun ls hl => ?_)
                  refine lv_goto (tgt := 5) hx hb d_Mod_asTold_77 (by decide) ?_
                  have hj8 : j = 8 := by omega
                  exact ih5 (k + 1) x3i v74 (by omega) (by omega) (by omega) (by rw [cm_out, if_pos (by omega), ← hj8]; exact e3i) _ _ hP hD hS ls (lv_sub hl [1, 2, 3, 4, 0] rfl)
                · refine lv_iload_n hx hb d_Mod_asTold_38 rfl (lv_at hl 1 rfl) ?_
                  refine lv_bipush (v := 8) hx hb d_Mod_asTold_39 (by decide) ?_
                  refine xi_icmp_eq (tgt := 50) hx hb hpx (show (8 : Int32).toInt = 8 by decide) d_Mod_asTold_41 (by decide) (fun c41 => ?_) (fun c41 => ?_)
                  · refine lv_iload_n hx hb d_Mod_asTold_50 rfl (lv_at hl 3 rfl) ?_
                    refine lv_aload_n hx hb d_Mod_asTold_51 rfl (lv_at hl 0 rfl) ?_
                    refine va_get (D := (dC, dI)) (ci := 5) (v := .ref aTo) (C := R_Mod) (T := F_Mod) (N := 23) hx hb hts hw_Mod hown hK hP 0 rfl rfl 15 (by decide) (hts (.fieldLink R_Mod 41 "PageFormsModel" "told" "[I") (by decide +kernel)) (fun _ h9 => h9) rfl d_Mod_asTold_52 ?_
                    refine lv_iload hx hb d_Mod_asTold_55 (lv_at hl 4 rfl) ?_
                    refine xa_iald hx hb hK hP 1 0 rfl rfl e4 k (by omega) (by omega) d_Mod_asTold_57 ?_
                    refine lv_bipush (v := 7) hx hb d_Mod_asTold_58 (by decide) ?_
                    refine lv_iload hx hb d_Mod_asTold_60 (lv_at hl 5 rfl) ?_
                    refine lv_isub hx hb d_Mod_asTold_62 ?_
                    have a62 : (7 - x5).toInt = (7 - (j : Int)) := xi_sub (show (7 : Int32).toInt = 7 by decide) e5 (by omega) (by omega)
                    refine lv_ishr hx hb d_Mod_asTold_63 ?_
                    refine lv_iconst (v := 1) hx hb d_Mod_asTold_64 (by decide) ?_
                    refine lv_iand hx hb d_Mod_asTold_65 ?_
                    have b65 : (((tol k) >>> ((7 - x5) &&& 31)) &&& 1).toInt = (cm_n (tol k) j : Int) := (cm_n_eq e5)
                    refine lv_iadd hx hb d_Mod_asTold_66 ?_
                    have a66 : (x3i + (((tol k) >>> ((7 - x5) &&& 31)) &&& 1)).toInt = (((cm_out tol nC x y k + cm_in (tol k) x j : Nat) : Int) + (cm_n (tol k) j : Int)) := xi_add e3i b65 (by omega) (by omega)
                    refine lv_topi (fun v67 ev67 => ?_)
                    have fv67 : v67.toInt = (((cm_out tol nC x y k + cm_in (tol k) x j : Nat) : Int) + (cm_n (tol k) j : Int)) := by rw [ev67]; exact a66
                    refine lv_istore_n (lv' := [(3, .int v67), (0, .ref oM), (1, .int p1), (2, .int p2), (4, .int x4), (5, .int x5)]) hx hb d_Mod_asTold_67 rfl hl (by decide) rfl (fun ls hl => ?_)
                    obtain ⟨v68, ev68⟩ : ∃ y : Int32, y = (x5 + 1) := ⟨_, rfl⟩
                    have fv68 : v68.toInt = ((j : Int) + 1) := by rw [ev68]; exact xi_add e5 (show (1 : Int32).toInt = 1 by decide) (by omega) (by omega)
                    refine lv_iinc (v := v68) (lv' := [(5, .int v68), (3, .int v67), (0, .ref oM), (1, .int p1), (2, .int p2), (4, .int x4)]) hx hb d_Mod_asTold_68 hl (k := 5) rfl (by rw [ev68]; rfl) (by decide) rfl (fun ls hl => ?_)
                    refine lv_goto (tgt := 31) hx hb d_Mod_asTold_71 (by decide) ?_
                    exact ih31 (j + 1) v67 v68 (by omega) (by omega) (by omega) (by rw [cm_in, if_pos (by omega)]; omega) _ _ hP hD hS ls (lv_sub hl [2, 3, 4, 1, 5, 0] rfl)
                  · refine lv_iload_n hx hb d_Mod_asTold_44 rfl (lv_at hl 1 rfl) ?_
                    refine lv_iload hx hb d_Mod_asTold_45 (lv_at hl 5 rfl) ?_
                    refine xi_icmp_ne (tgt := 68) hx hb hpx e5 d_Mod_asTold_47 (by decide) (fun c47 => ?_) (fun c47 => ?_)
                    · obtain ⟨v68, ev68⟩ : ∃ y : Int32, y = (x5 + 1) := ⟨_, rfl⟩
                      have fv68 : v68.toInt = ((j : Int) + 1) := by rw [ev68]; exact xi_add e5 (show (1 : Int32).toInt = 1 by decide) (by omega) (by omega)
                      refine lv_iinc (v := v68) (lv' := [(5, .int v68), (0, .ref oM), (1, .int p1), (2, .int p2), (3, .int x3i), (4, .int x4)]) hx hb d_Mod_asTold_68 hl (k := 5) rfl (by rw [ev68]; rfl) (by decide) rfl (fun ls hl => ?_)
                      refine lv_goto (tgt := 31) hx hb d_Mod_asTold_71 (by decide) ?_
                      exact ih31 (j + 1) x3i v68 (by omega) (by omega) (by omega) (by rw [cm_in, if_neg (by omega)]; exact e3i) _ _ hP hD hS ls (lv_sub hl [1, 2, 3, 4, 5, 0] rfl)
                    · refine lv_iload_n hx hb d_Mod_asTold_50 rfl (lv_at hl 3 rfl) ?_
                      refine lv_aload_n hx hb d_Mod_asTold_51 rfl (lv_at hl 0 rfl) ?_
                      refine va_get (D := (dC, dI)) (ci := 5) (v := .ref aTo) (C := R_Mod) (T := F_Mod) (N := 23) hx hb hts hw_Mod hown hK hP 0 rfl rfl 15 (by decide) (hts (.fieldLink R_Mod 41 "PageFormsModel" "told" "[I") (by decide +kernel)) (fun _ h9 => h9) rfl d_Mod_asTold_52 ?_
                      refine lv_iload hx hb d_Mod_asTold_55 (lv_at hl 4 rfl) ?_
                      refine xa_iald hx hb hK hP 1 0 rfl rfl e4 k (by omega) (by omega) d_Mod_asTold_57 ?_
                      refine lv_bipush (v := 7) hx hb d_Mod_asTold_58 (by decide) ?_
                      refine lv_iload hx hb d_Mod_asTold_60 (lv_at hl 5 rfl) ?_
                      refine lv_isub hx hb d_Mod_asTold_62 ?_
                      have a62 : (7 - x5).toInt = (7 - (j : Int)) := xi_sub (show (7 : Int32).toInt = 7 by decide) e5 (by omega) (by omega)
                      refine lv_ishr hx hb d_Mod_asTold_63 ?_
                      refine lv_iconst (v := 1) hx hb d_Mod_asTold_64 (by decide) ?_
                      refine lv_iand hx hb d_Mod_asTold_65 ?_
                      have b65 : (((tol k) >>> ((7 - x5) &&& 31)) &&& 1).toInt = (cm_n (tol k) j : Int) := (cm_n_eq e5)
                      refine lv_iadd hx hb d_Mod_asTold_66 ?_
                      have a66 : (x3i + (((tol k) >>> ((7 - x5) &&& 31)) &&& 1)).toInt = (((cm_out tol nC x y k + cm_in (tol k) x j : Nat) : Int) + (cm_n (tol k) j : Int)) := xi_add e3i b65 (by omega) (by omega)
                      refine lv_topi (fun v67 ev67 => ?_)
                      have fv67 : v67.toInt = (((cm_out tol nC x y k + cm_in (tol k) x j : Nat) : Int) + (cm_n (tol k) j : Int)) := by rw [ev67]; exact a66
                      refine lv_istore_n (lv' := [(3, .int v67), (0, .ref oM), (1, .int p1), (2, .int p2), (4, .int x4), (5, .int x5)]) hx hb d_Mod_asTold_67 rfl hl (by decide) rfl (fun ls hl => ?_)
                      obtain ⟨v68, ev68⟩ : ∃ y : Int32, y = (x5 + 1) := ⟨_, rfl⟩
                      have fv68 : v68.toInt = ((j : Int) + 1) := by rw [ev68]; exact xi_add e5 (show (1 : Int32).toInt = 1 by decide) (by omega) (by omega)
                      refine lv_iinc (v := v68) (lv' := [(5, .int v68), (3, .int v67), (0, .ref oM), (1, .int p1), (2, .int p2), (4, .int x4)]) hx hb d_Mod_asTold_68 hl (k := 5) rfl (by rw [ev68]; rfl) (by decide) rfl (fun ls hl => ?_)
                      refine lv_goto (tgt := 31) hx hb d_Mod_asTold_71 (by decide) ?_
                      exact ih31 (j + 1) v67 v68 (by omega) (by omega) (by omega) (by rw [cm_in, if_pos (by omega)]; omega) _ _ hP hD hS ls (lv_sub hl [2, 3, 4, 1, 5, 0] rfl)
            exact loop31 9 0 x3 0 (by omega) (by omega) (by decide) e3 _ _ hP hD hS ls (lv_sub hl [1, 2, 3, 4, 5, 0] rfl)
  refine lv_iconst (v := 0) hx hb d_Mod_asTold_0 (by decide) ?_
  refine lv_istore_n (lv' := [(3, .int 0), (0, .ref oM), (1, .int p1), (2, .int p2)]) hx hb d_Mod_asTold_1 rfl hl (by decide) rfl (fun ls hl => ?_)
  refine lv_iconst (v := 0) hx hb d_Mod_asTold_2 (by decide) ?_
  refine lv_istore (lv' := [(4, .int 0), (3, .int 0), (0, .ref oM), (1, .int p1), (2, .int p2)]) hx hb d_Mod_asTold_3 hl (by decide) rfl (fun ls hl => ?_)
  exact loop5 (nC + 1) 0 0 0 (by omega) (by omega) (by decide) (show (0 : Int32).toInt = ((0 : Nat) : Int) by decide) _ _ hP hD hS ls (lv_sub hl [2, 3, 4, 1, 0] rfl)

set_option maxHeartbeats 4000000 in
set_option maxRecDepth 100000 in
theorem k_Mod_isDark (l : Launch) (dC : Nat → ClassId) (dI : Nat → Nat → Nat) (cI cZ : ClassId) (oM : Nat) (aTo : Nat) (aTu : Nat) (thr : Int32) (aTx : Nat) (siz : Int32) (aBg : Nat) (aEn : Nat) (aLe : Nat) (aMa : Nat) (aFi : Nat) (lnm : Int32) (rsm : Int32) (aHe : Nat) (bxs : Int32) (wdt : Int32) (hgh : Int32) (aCa : Nat) (byn : Int32) (pgm : Int32) (tpm : Int32) (stn : Int32) (lnx : Int32) (lny : Int32) (tol : Nat → Int32) (trn : Nat → Int32) (sz : Nat) (p1 : Int32) (p2 : Int32) (nC : Nat) (x : Nat) (y : Nat) (hc : byn.toInt = (nC : Int)) (hc12 : nC ≤ 12) (hpx : p1.toInt = (x : Int)) (hpy : p2.toInt = (y : Int)) (hx8 : x ≤ 8) (hyn : y ≤ nC) (h01 : cm_01 trn) : Met l y_Mod_isDark w_Mod_isDark ({ frames := 1, cells := 0, slots := 0, locals := 25 }) (va_Pc [.ref oM, .int p1, .int p2] (fun U => U.heap.size = sz ∧ va_P (dC, dI) classes [(oM, .inr (5, [.int thr, .ref aTx, .int siz, .ref aBg, .ref aEn, .ref aLe, .ref aMa, .ref aFi, .int lnm, .int rsm, .ref aHe, .int bxs, .int wdt, .int hgh, .ref aCa, .ref aTo, .int byn, .ref aTu, .int pgm, .int tpm, .int stn, .int lnx, .int lny])), (aTo, .inl (cI, 12, .inl tol)), (aTu, .inl (cZ, 117, .inl trn))] U.heap ∧ va_K (dC, dI) classes [(cI, .int), (cZ, .boolean)] U ∧ va_D (fun _ => True) [(oM, .inr (5, [.int thr, .ref aTx, .int siz, .ref aBg, .ref aEn, .ref aLe, .ref aMa, .ref aFi, .int lnm, .int rsm, .ref aHe, .int bxs, .int wdt, .int hgh, .ref aCa, .ref aTo, .int byn, .ref aTu, .int pgm, .int tpm, .int stn, .int lnx, .int lny])), (aTo, .inl (cI, 12, .inl tol)), (aTu, .inl (cZ, 117, .inl trn))])) (va_Qi (fun (r : Int32) (u : Unit) => (r.toInt = 1 ∧ cm_dark tol trn nC x y = true) ∨ (r.toInt = 0 ∧ cm_dark tol trn nC x y = false)) (fun (u : Unit) (t : State) => va_P (dC, dI) classes [(oM, .inr (5, [.int thr, .ref aTx, .int siz, .ref aBg, .ref aEn, .ref aLe, .ref aMa, .ref aFi, .int lnm, .int rsm, .ref aHe, .int bxs, .int wdt, .int hgh, .ref aCa, .ref aTo, .int byn, .ref aTu, .int pgm, .int tpm, .int stn, .int lnx, .int lny])), (aTo, .inl (cI, 12, .inl tol)), (aTu, .inl (cZ, 117, .inl trn))] t.heap ∧ va_K (dC, dI) classes [(cI, .int), (cZ, .boolean)] t ∧ va_D (va_A [(oM, .inr (5, [.int thr, .ref aTx, .int siz, .ref aBg, .ref aEn, .ref aLe, .ref aMa, .ref aFi, .int lnm, .int rsm, .ref aHe, .int bxs, .int wdt, .int hgh, .ref aCa, .ref aTo, .int byn, .ref aTu, .int pgm, .int tpm, .int stn, .int lnx, .int lny])), (aTo, .inl (cI, 12, .inl tol)), (aTu, .inl (cZ, 117, .inl trn))] sz) [(oM, .inr (5, [.int thr, .ref aTx, .int siz, .ref aBg, .ref aEn, .ref aLe, .ref aMa, .ref aFi, .int lnm, .int rsm, .ref aHe, .int bxs, .int wdt, .int hgh, .ref aCa, .ref aTo, .int byn, .ref aTu, .int pgm, .int tpm, .int stn, .int lnx, .int lny])), (aTo, .inl (cI, 12, .inl tol)), (aTu, .inl (cZ, 117, .inl trn))]) (va_A [(oM, .inr (5, [.int thr, .ref aTx, .int siz, .ref aBg, .ref aEn, .ref aLe, .ref aMa, .ref aFi, .int lnm, .int rsm, .ref aHe, .int bxs, .int wdt, .int hgh, .ref aCa, .ref aTo, .int byn, .ref aTu, .int pgm, .int tpm, .int stn, .int lnx, .int lny])), (aTo, .inl (cI, 12, .inl tol)), (aTu, .inl (cZ, 117, .inl trn))] sz)) 0 0 (va_A [(oM, .inr (5, [.int thr, .ref aTx, .int siz, .ref aBg, .ref aEn, .ref aLe, .ref aMa, .ref aFi, .int lnm, .int rsm, .ref aHe, .int bxs, .int wdt, .int hgh, .ref aCa, .ref aTo, .int byn, .ref aTu, .int pgm, .int tpm, .int stn, .int lnx, .int lny])), (aTo, .inl (cI, 12, .inl tol)), (aTu, .inl (cZ, 117, .inl trn))] sz) := by
  refine Met.ofW (cc := b_Mod_isDark) (maxL := 3) (ret := (some .boolean)) (by decide) rfl ?_
  intro p e s m args below meth c s₁ B hml hv
  obtain ⟨rfl, hsz, hP, hK, hD0⟩ := hv
  have hx := B.exec
  have hb := B.bytes
  have hr := B.returns
  have hts := atoms_spec (ws := w_Mod_isDark) B.pre
  have hown : s.vm.findClass R_Mod = some m.cls := findClass_of_methodNamed B.named
  have hlocks := B.notSynchronized
  have hw_Mod : ∀ w ∈ w_Mod, w ∈ w_Mod_isDark := by decide +kernel
  subst hsz
  have hD := hD0.self (sz := s.heap.size)
  generalize hAe : va_A [(oM, .inr (5, [.int thr, .ref aTx, .int siz, .ref aBg, .ref aEn, .ref aLe, .ref aMa, .ref aFi, .int lnm, .int rsm, .ref aHe, .int bxs, .int wdt, .int hgh, .ref aCa, .ref aTo, .int byn, .ref aTu, .int pgm, .int tpm, .int stn, .int lnx, .int lny])), (aTo, .inl (cI, 12, .inl tol)), (aTu, .inl (cZ, 117, .inl trn))] s.heap.size = A at hD ⊢
  have hA : ∀ q : Nat, s.heap.size ≤ q → A q := fun q h => by rw [← hAe]; exact Or.inr h
  have hS : va_S A s.heap s.heap [] := va_S.rf
  have hP : va_P (dC, dI) classes [(oM, .inr (5, [.int thr, .ref aTx, .int siz, .ref aBg, .ref aEn, .ref aLe, .ref aMa, .ref aFi, .int lnm, .int rsm, .ref aHe, .int bxs, .int wdt, .int hgh, .ref aCa, .ref aTo, .int byn, .ref aTu, .int pgm, .int tpm, .int stn, .int lnx, .int lny])), (aTo, .inl (cI, 12, .inl tol)), (aTu, .inl (cZ, 117, .inl trn))] s.heap := hP
  have hl := lv_entry ([.ref oM, .int p1, .int p2]) (n := 3) (Nat.le_of_ble_eq_true rfl)
  rw [lg_entry_eq]
  generalize (lg_sl ([.ref oM, .int p1, .int p2]) ++ List.replicate (3 - (lg_sl ([.ref oM, .int p1, .int p2])).length) Slot.unset).toArray = ls at hl ⊢
  have hl : lv_has ls 3 [(0, .ref oM), (1, .int p1), (2, .int p2)] := hl
  refine lv_aload_n hx hb d_Mod_isDark_0 rfl (lv_at hl 0 rfl) ?_
  refine lv_iload_n hx hb d_Mod_isDark_1 rfl (lv_at hl 1 rfl) ?_
  refine lv_iload_n hx hb d_Mod_isDark_2 rfl (lv_at hl 2 rfl) ?_
  have hPc := hP.sub (ws' := [(oM, .inr (5, [.int thr, .ref aTx, .int siz, .ref aBg, .ref aEn, .ref aLe, .ref aMa, .ref aFi, .int lnm, .int rsm, .ref aHe, .int bxs, .int wdt, .int hgh, .ref aCa, .ref aTo, .int byn, .ref aTu, .int pgm, .int tpm, .int stn, .int lnx, .int lny])), (aTo, .inl (cI, 12, .inl tol))]) [0, 1] rfl
  have hDc := hD.sub (ws' := [(oM, .inr (5, [.int thr, .ref aTx, .int siz, .ref aBg, .ref aEn, .ref aLe, .ref aMa, .ref aFi, .int lnm, .int rsm, .ref aHe, .int bxs, .int wdt, .int hgh, .ref aCa, .ref aTo, .int byn, .ref aTu, .int pgm, .int tpm, .int stn, .int lnx, .int lny])), (aTo, .inl (cI, 12, .inl tol))]) [0, 1] (by decide) rfl
  have hFc := va_free (wc := [(oM, .inr (5, [.int thr, .ref aTx, .int siz, .ref aBg, .ref aEn, .ref aLe, .ref aMa, .ref aFi, .int lnm, .int rsm, .ref aHe, .int bxs, .int wdt, .int hgh, .ref aCa, .ref aTo, .int byn, .ref aTu, .int pgm, .int tpm, .int stn, .int lnx, .int lny])), (aTo, .inl (cI, 12, .inl tol))]) hD hS hA [0, 1] rfl
  refine va_calli (va_runV (As := [.int p1, .int p2]) (rest := []) ⟨hx, hb, hml, hown, hts⟩ (k_Mod_asTold l dC dI cI cZ oM aTo thr aTx siz aBg aEn aLe aMa aFi lnm rsm aHe bxs wdt hgh aCa byn aTu pgm tpm stn lnx lny tol s.heap.size p1 p2 nC x y hc hc12 hpx hpy hx8 hyn) (cwV 2 hts g_Mod_isDark_Mod_asTold rfl rfl rfl (by decide +kernel) ⟨Nat.le_of_ble_eq_true rfl, Nat.le_of_ble_eq_true rfl⟩) ⟨fun a U g mk q => by obtain ⟨q0, q1, qP, qK, qD⟩ := q; exact ⟨q0, q1, qP, va_K.moved (u := U) (U := U.calling g mk a) (Vm.Alike.refl U.vm) qK, qD⟩, va_recv hK hPc (ci := 5) (q0 := 0) rfl rfl, fun U hU hW => ⟨rfl, by rw [hU], by rw [hU]; exact hPc, va_K.moved hW.alike hK, hDc.weaken (fun _ _ _ _ => trivial)⟩⟩ rfl rfl hl.1 rfl (lv_room (Nat.le_of_ble_eq_true rfl)) d_Mod_isDark_3 ⟨Nat.le_of_ble_eq_true rfl, Nat.le_of_ble_eq_true rfl⟩) hS (fun q _ h => hFc q h) hFc (fun r3 u t H1 locs ht hvm hw hB hz1 hk1 hS => ?_)
  have w3 : (r3.toInt = 1 ∧ cm_told tol nC x y = true) ∨ (r3.toInt = 0 ∧ cm_told tol nC x y = false) := hw
  obtain ⟨hP1, hK1, hD1⟩ := hB
  rw [ht] at hP1
  obtain ⟨hP, hD⟩ := va_join (wr := [(aTu, .inl (cZ, 117, .inl trn))]) (w1 := [(oM, .inr (5, [.int thr, .ref aTx, .int siz, .ref aBg, .ref aEn, .ref aLe, .ref aMa, .ref aFi, .int lnm, .int rsm, .ref aHe, .int bxs, .int wdt, .int hgh, .ref aCa, .ref aTo, .int byn, .ref aTu, .int pgm, .int tpm, .int stn, .int lnx, .int lny])), (aTo, .inl (cI, 12, .inl tol))]) hP hD [0, 1] [2] rfl rfl (by decide) (by decide) hk1 hFc hP1 hD1
  generalize H1 = H at hP hS ⊢
  have hP := hP.sub (ws' := [(oM, .inr (5, [.int thr, .ref aTx, .int siz, .ref aBg, .ref aEn, .ref aLe, .ref aMa, .ref aFi, .int lnm, .int rsm, .ref aHe, .int bxs, .int wdt, .int hgh, .ref aCa, .ref aTo, .int byn, .ref aTu, .int pgm, .int tpm, .int stn, .int lnx, .int lny])), (aTo, .inl (cI, 12, .inl tol)), (aTu, .inl (cZ, 117, .inl trn))]) [1, 2, 0] rfl
  have hD := hD.sub (ws' := [(oM, .inr (5, [.int thr, .ref aTx, .int siz, .ref aBg, .ref aEn, .ref aLe, .ref aMa, .ref aFi, .int lnm, .int rsm, .ref aHe, .int bxs, .int wdt, .int hgh, .ref aCa, .ref aTo, .int byn, .ref aTu, .int pgm, .int tpm, .int stn, .int lnx, .int lny])), (aTo, .inl (cI, 12, .inl tol)), (aTu, .inl (cZ, 117, .inl trn))]) [1, 2, 0] (by decide) rfl
  have hP : va_P (dC, dI) classes [(oM, .inr (5, [.int thr, .ref aTx, .int siz, .ref aBg, .ref aEn, .ref aLe, .ref aMa, .ref aFi, .int lnm, .int rsm, .ref aHe, .int bxs, .int wdt, .int hgh, .ref aCa, .ref aTo, .int byn, .ref aTu, .int pgm, .int tpm, .int stn, .int lnx, .int lny])), (aTo, .inl (cI, 12, .inl tol)), (aTu, .inl (cZ, 117, .inl trn))] H := hP
  have hD : va_D A [(oM, .inr (5, [.int thr, .ref aTx, .int siz, .ref aBg, .ref aEn, .ref aLe, .ref aMa, .ref aFi, .int lnm, .int rsm, .ref aHe, .int bxs, .int wdt, .int hgh, .ref aCa, .ref aTo, .int byn, .ref aTu, .int pgm, .int tpm, .int stn, .int lnx, .int lny])), (aTo, .inl (cI, 12, .inl tol)), (aTu, .inl (cZ, 117, .inl trn))] := hD
  refine lv_aload_n hx hb d_Mod_isDark_6 rfl (lv_at hl 0 rfl) ?_
  refine va_get (D := (dC, dI)) (ci := 5) (v := .ref aTu) (C := R_Mod) (T := F_Mod) (N := 23) hx hb hts hw_Mod hown hK hP 0 rfl rfl 17 (by decide) (hts (.fieldLink R_Mod 44 "PageFormsModel" "turned" "[Z") (by decide +kernel)) (fun _ h9 => h9) rfl d_Mod_isDark_7 ?_
  refine lv_bipush (v := 9) hx hb d_Mod_isDark_10 (by decide) ?_
  refine lv_iload_n hx hb d_Mod_isDark_12 rfl (lv_at hl 2 rfl) ?_
  refine lv_imul hx hb d_Mod_isDark_13 ?_
  have a13 : (9 * p2).toInt = ((9 * y : Nat) : Int) := xi_mulN (show (9 : Int32).toInt = 9 by decide) hpy (by omega)
  refine lv_iload_n hx hb d_Mod_isDark_14 rfl (lv_at hl 1 rfl) ?_
  refine lv_iadd hx hb d_Mod_isDark_15 ?_
  have a15 : ((9 * p2) + p1).toInt = (((9 * y : Nat) : Int) + (x : Int)) := xi_add a13 hpx (by omega) (by omega)
  refine xa_zald hx hb hK hP 2 1 rfl rfl a15 (9 * y + x) (by omega) (by omega) d_Mod_isDark_16 ?_
  have ht01 := h01 (9 * y + x) (by omega)
  refine xi_icmp_eq (tgt := 24) hx hb (rfl) (rfl) d_Mod_isDark_17 (by decide) (fun c17 => ?_) (fun c17 => ?_)
  · refine lv_iconst (v := 0) hx hb d_Mod_isDark_24 (by decide) ?_
    exact W.zret (v := 0) hx hb hr rfl (fun t ht hW => ⟨⟨0, (), rfl, (show (0 = 1 ∧ cm_dark tol trn nC x y = true) ∨ (0 = 0 ∧ cm_dark tol trn nC x y = false) from (cm_ds w3 ht01 c17)), by rw [ht]; exact hP, va_K.moved hW.alike hK, hD⟩, hS.F ht⟩) hS.2.2 d_Mod_isDark_25
  · refine lv_iconst (v := 1) hx hb d_Mod_isDark_20 (by decide) ?_
    refine lv_goto (tgt := 25) hx hb d_Mod_isDark_21 (by decide) ?_
    exact W.zret (v := 1) hx hb hr rfl (fun t ht hW => ⟨⟨1, (), rfl, (show (1 = 1 ∧ cm_dark tol trn nC x y = true) ∨ (1 = 0 ∧ cm_dark tol trn nC x y = false) from (cm_dn w3 ht01 c17)), by rw [ht]; exact hP, va_K.moved hW.alike hK, hD⟩, hS.F ht⟩) hS.2.2 d_Mod_isDark_25

set_option maxHeartbeats 4000000 in
set_option maxRecDepth 100000 in
theorem k_Mod_dark (l : Launch) (dC : Nat → ClassId) (dI : Nat → Nat → Nat) (cI cZ : ClassId) (oM : Nat) (aTo : Nat) (aTu : Nat) (thr : Int32) (aTx : Nat) (siz : Int32) (aBg : Nat) (aEn : Nat) (aLe : Nat) (aMa : Nat) (aFi : Nat) (lnm : Int32) (rsm : Int32) (aHe : Nat) (bxs : Int32) (wdt : Int32) (hgh : Int32) (aCa : Nat) (byn : Int32) (pgm : Int32) (tpm : Int32) (stn : Int32) (lnx : Int32) (lny : Int32) (tol : Nat → Int32) (trn : Nat → Int32) (sz : Nat) (p1 : Int32) (p2 : Int32) (nC : Nat) (hc : byn.toInt = (nC : Int)) (hc12 : nC ≤ 12) (h01 : cm_01 trn) : Met l y_Mod_dark w_Mod_dark ({ frames := 2, cells := 0, slots := 0, locals := 47 }) (va_Pc [.ref oM, .int p1, .int p2] (fun U => U.heap.size = sz ∧ va_P (dC, dI) classes [(oM, .inr (5, [.int thr, .ref aTx, .int siz, .ref aBg, .ref aEn, .ref aLe, .ref aMa, .ref aFi, .int lnm, .int rsm, .ref aHe, .int bxs, .int wdt, .int hgh, .ref aCa, .ref aTo, .int byn, .ref aTu, .int pgm, .int tpm, .int stn, .int lnx, .int lny])), (aTo, .inl (cI, 12, .inl tol)), (aTu, .inl (cZ, 117, .inl trn))] U.heap ∧ va_K (dC, dI) classes [(cI, .int), (cZ, .boolean)] U ∧ va_D (fun _ => True) [(oM, .inr (5, [.int thr, .ref aTx, .int siz, .ref aBg, .ref aEn, .ref aLe, .ref aMa, .ref aFi, .int lnm, .int rsm, .ref aHe, .int bxs, .int wdt, .int hgh, .ref aCa, .ref aTo, .int byn, .ref aTu, .int pgm, .int tpm, .int stn, .int lnx, .int lny])), (aTo, .inl (cI, 12, .inl tol)), (aTu, .inl (cZ, 117, .inl trn))])) (va_Qi (fun (r : Int32) (u : Int32) => cm_drk byn tol trn nC p1 p2 r) (fun (u : Int32) (t : State) => va_P (dC, dI) classes [(oM, .inr (5, [.int u, .ref aTx, .int siz, .ref aBg, .ref aEn, .ref aLe, .ref aMa, .ref aFi, .int lnm, .int rsm, .ref aHe, .int bxs, .int wdt, .int hgh, .ref aCa, .ref aTo, .int byn, .ref aTu, .int pgm, .int tpm, .int stn, .int lnx, .int lny])), (aTo, .inl (cI, 12, .inl tol)), (aTu, .inl (cZ, 117, .inl trn))] t.heap ∧ va_K (dC, dI) classes [(cI, .int), (cZ, .boolean)] t ∧ va_D (va_A [(oM, .inr (5, [.int thr, .ref aTx, .int siz, .ref aBg, .ref aEn, .ref aLe, .ref aMa, .ref aFi, .int lnm, .int rsm, .ref aHe, .int bxs, .int wdt, .int hgh, .ref aCa, .ref aTo, .int byn, .ref aTu, .int pgm, .int tpm, .int stn, .int lnx, .int lny])), (aTo, .inl (cI, 12, .inl tol)), (aTu, .inl (cZ, 117, .inl trn))] sz) [(oM, .inr (5, [.int u, .ref aTx, .int siz, .ref aBg, .ref aEn, .ref aLe, .ref aMa, .ref aFi, .int lnm, .int rsm, .ref aHe, .int bxs, .int wdt, .int hgh, .ref aCa, .ref aTo, .int byn, .ref aTu, .int pgm, .int tpm, .int stn, .int lnx, .int lny])), (aTo, .inl (cI, 12, .inl tol)), (aTu, .inl (cZ, 117, .inl trn))]) (va_A [(oM, .inr (5, [.int thr, .ref aTx, .int siz, .ref aBg, .ref aEn, .ref aLe, .ref aMa, .ref aFi, .int lnm, .int rsm, .ref aHe, .int bxs, .int wdt, .int hgh, .ref aCa, .ref aTo, .int byn, .ref aTu, .int pgm, .int tpm, .int stn, .int lnx, .int lny])), (aTo, .inl (cI, 12, .inl tol)), (aTu, .inl (cZ, 117, .inl trn))] sz)) 0 0 (va_A [(oM, .inr (5, [.int thr, .ref aTx, .int siz, .ref aBg, .ref aEn, .ref aLe, .ref aMa, .ref aFi, .int lnm, .int rsm, .ref aHe, .int bxs, .int wdt, .int hgh, .ref aCa, .ref aTo, .int byn, .ref aTu, .int pgm, .int tpm, .int stn, .int lnx, .int lny])), (aTo, .inl (cI, 12, .inl tol)), (aTu, .inl (cZ, 117, .inl trn))] sz) := by
  refine Met.ofW (cc := b_Mod_dark) (maxL := 3) (ret := (some .boolean)) (by decide) rfl ?_
  intro p e s m args below meth c s₁ B hml hv
  obtain ⟨rfl, hsz, hP, hK, hD0⟩ := hv
  have hx := B.exec
  have hb := B.bytes
  have hr := B.returns
  have hts := atoms_spec (ws := w_Mod_dark) B.pre
  have hown : s.vm.findClass R_Mod = some m.cls := findClass_of_methodNamed B.named
  have hlocks := B.notSynchronized
  have hw_Mod : ∀ w ∈ w_Mod, w ∈ w_Mod_dark := by decide +kernel
  subst hsz
  have hD := hD0.self (sz := s.heap.size)
  generalize hAe : va_A [(oM, .inr (5, [.int thr, .ref aTx, .int siz, .ref aBg, .ref aEn, .ref aLe, .ref aMa, .ref aFi, .int lnm, .int rsm, .ref aHe, .int bxs, .int wdt, .int hgh, .ref aCa, .ref aTo, .int byn, .ref aTu, .int pgm, .int tpm, .int stn, .int lnx, .int lny])), (aTo, .inl (cI, 12, .inl tol)), (aTu, .inl (cZ, 117, .inl trn))] s.heap.size = A at hD ⊢
  have hA : ∀ q : Nat, s.heap.size ≤ q → A q := fun q h => by rw [← hAe]; exact Or.inr h
  have hS : va_S A s.heap s.heap [] := va_S.rf
  have hP : va_P (dC, dI) classes [(oM, .inr (5, [.int thr, .ref aTx, .int siz, .ref aBg, .ref aEn, .ref aLe, .ref aMa, .ref aFi, .int lnm, .int rsm, .ref aHe, .int bxs, .int wdt, .int hgh, .ref aCa, .ref aTo, .int byn, .ref aTu, .int pgm, .int tpm, .int stn, .int lnx, .int lny])), (aTo, .inl (cI, 12, .inl tol)), (aTu, .inl (cZ, 117, .inl trn))] s.heap := hP
  have hl := lv_entry ([.ref oM, .int p1, .int p2]) (n := 3) (Nat.le_of_ble_eq_true rfl)
  rw [lg_entry_eq]
  generalize (lg_sl ([.ref oM, .int p1, .int p2]) ++ List.replicate (3 - (lg_sl ([.ref oM, .int p1, .int p2])).length) Slot.unset).toArray = ls at hl ⊢
  have hl : lv_has ls 3 [(0, .ref oM), (1, .int p1), (2, .int p2)] := hl
  refine lv_aload_n hx hb d_Mod_dark_0 rfl (lv_at hl 0 rfl) ?_
  refine lv_iconst (v := 0) hx hb d_Mod_dark_1 (by decide) ?_
  refine va_put (D := (dC, dI)) (ci := 5) (v := .int 0) (ty := .int) (C := R_Mod) (T := F_Mod) (N := 23) hx hb hts hw_Mod t_Mod t_Mod_ok n_Mod hown hK hP hD hS 0 rfl rfl 0 (by decide) (hts (.fieldLink R_Mod 48 "PageFormsModel" "thrown" "I") (by decide +kernel)) (fun _ h9 => h9) rfl (by decide +kernel) rfl rfl (Nat.le_of_ble_eq_true rfl) d_Mod_dark_2 (fun H locs hP hD hS => ?_)
  have hP : va_P (dC, dI) classes [(oM, .inr (5, [.int 0, .ref aTx, .int siz, .ref aBg, .ref aEn, .ref aLe, .ref aMa, .ref aFi, .int lnm, .int rsm, .ref aHe, .int bxs, .int wdt, .int hgh, .ref aCa, .ref aTo, .int byn, .ref aTu, .int pgm, .int tpm, .int stn, .int lnx, .int lny])), (aTo, .inl (cI, 12, .inl tol)), (aTu, .inl (cZ, 117, .inl trn))] H := hP
  have hD : va_D A [(oM, .inr (5, [.int 0, .ref aTx, .int siz, .ref aBg, .ref aEn, .ref aLe, .ref aMa, .ref aFi, .int lnm, .int rsm, .ref aHe, .int bxs, .int wdt, .int hgh, .ref aCa, .ref aTo, .int byn, .ref aTu, .int pgm, .int tpm, .int stn, .int lnx, .int lny])), (aTo, .inl (cI, 12, .inl tol)), (aTu, .inl (cZ, 117, .inl trn))] := hD
  refine lv_aload_n hx hb d_Mod_dark_5 rfl (lv_at hl 0 rfl) ?_
  refine lv_iload_n hx hb d_Mod_dark_6 rfl (lv_at hl 1 rfl) ?_
  refine lv_iload_n hx hb d_Mod_dark_7 rfl (lv_at hl 2 rfl) ?_
  have hPc := hP.sub (ws' := [(oM, .inr (5, [.int 0, .ref aTx, .int siz, .ref aBg, .ref aEn, .ref aLe, .ref aMa, .ref aFi, .int lnm, .int rsm, .ref aHe, .int bxs, .int wdt, .int hgh, .ref aCa, .ref aTo, .int byn, .ref aTu, .int pgm, .int tpm, .int stn, .int lnx, .int lny]))]) [0] rfl
  have hDc := hD.sub (ws' := [(oM, .inr (5, [.int 0, .ref aTx, .int siz, .ref aBg, .ref aEn, .ref aLe, .ref aMa, .ref aFi, .int lnm, .int rsm, .ref aHe, .int bxs, .int wdt, .int hgh, .ref aCa, .ref aTo, .int byn, .ref aTu, .int pgm, .int tpm, .int stn, .int lnx, .int lny]))]) [0] (by decide) rfl
  have hFc := va_free (wc := [(oM, .inr (5, [.int 0, .ref aTx, .int siz, .ref aBg, .ref aEn, .ref aLe, .ref aMa, .ref aFi, .int lnm, .int rsm, .ref aHe, .int bxs, .int wdt, .int hgh, .ref aCa, .ref aTo, .int byn, .ref aTu, .int pgm, .int tpm, .int stn, .int lnx, .int lny]))]) hD hS hA [0] rfl
  refine va_calli (va_runV (As := [.int p1, .int p2]) (rest := []) ⟨hx, hb, hml, hown, hts⟩ (k_Mod_isSquare l dC dI cI cZ oM 0 aTx siz aBg aEn aLe aMa aFi lnm rsm aHe bxs wdt hgh aCa aTo byn aTu pgm tpm stn lnx lny H.size p1 p2 nC hc hc12) (cwV 2 hts g_Mod_dark_Mod_isSquare rfl rfl rfl (by decide +kernel) ⟨Nat.le_of_ble_eq_true rfl, Nat.le_of_ble_eq_true rfl⟩) ⟨fun a U g mk q => by obtain ⟨q0, q1, qP, qK, qD⟩ := q; exact ⟨q0, q1, qP, va_K.moved (u := U) (U := U.calling g mk a) (Vm.Alike.refl U.vm) qK, qD⟩, va_recv hK hPc (ci := 5) (q0 := 0) rfl rfl, fun U hU hW => ⟨rfl, by rw [hU], by rw [hU]; exact hPc, va_K.moved hW.alike hK, hDc.weaken (fun _ _ _ _ => trivial)⟩⟩ rfl rfl hl.1 rfl (lv_room (Nat.le_of_ble_eq_true rfl)) d_Mod_dark_8 ⟨Nat.le_of_ble_eq_true rfl, Nat.le_of_ble_eq_true rfl⟩) hS (fun q _ h => hFc q h) hFc (fun r8 u t H1 locs ht hvm hw hB hz1 hk1 hS => ?_)
  have w8 : (r8.toInt = 1 ∧ cd_ok byn p1.toInt p2.toInt) ∨ (r8.toInt = 0 ∧ ¬ cd_ok byn p1.toInt p2.toInt) := hw
  obtain ⟨hP1, hK1, hD1⟩ := hB
  rw [ht] at hP1
  obtain ⟨hP, hD⟩ := va_join (wr := [(aTo, .inl (cI, 12, .inl tol)), (aTu, .inl (cZ, 117, .inl trn))]) (w1 := [(oM, .inr (5, [.int 0, .ref aTx, .int siz, .ref aBg, .ref aEn, .ref aLe, .ref aMa, .ref aFi, .int lnm, .int rsm, .ref aHe, .int bxs, .int wdt, .int hgh, .ref aCa, .ref aTo, .int byn, .ref aTu, .int pgm, .int tpm, .int stn, .int lnx, .int lny]))]) hP hD [0] [1, 2] rfl rfl (by decide) (by decide) hk1 hFc hP1 hD1
  generalize H1 = H at hP hS ⊢
  have hP := hP.sub (ws' := [(oM, .inr (5, [.int 0, .ref aTx, .int siz, .ref aBg, .ref aEn, .ref aLe, .ref aMa, .ref aFi, .int lnm, .int rsm, .ref aHe, .int bxs, .int wdt, .int hgh, .ref aCa, .ref aTo, .int byn, .ref aTu, .int pgm, .int tpm, .int stn, .int lnx, .int lny])), (aTo, .inl (cI, 12, .inl tol)), (aTu, .inl (cZ, 117, .inl trn))]) [2, 0, 1] rfl
  have hD := hD.sub (ws' := [(oM, .inr (5, [.int 0, .ref aTx, .int siz, .ref aBg, .ref aEn, .ref aLe, .ref aMa, .ref aFi, .int lnm, .int rsm, .ref aHe, .int bxs, .int wdt, .int hgh, .ref aCa, .ref aTo, .int byn, .ref aTu, .int pgm, .int tpm, .int stn, .int lnx, .int lny])), (aTo, .inl (cI, 12, .inl tol)), (aTu, .inl (cZ, 117, .inl trn))]) [2, 0, 1] (by decide) rfl
  have hP : va_P (dC, dI) classes [(oM, .inr (5, [.int 0, .ref aTx, .int siz, .ref aBg, .ref aEn, .ref aLe, .ref aMa, .ref aFi, .int lnm, .int rsm, .ref aHe, .int bxs, .int wdt, .int hgh, .ref aCa, .ref aTo, .int byn, .ref aTu, .int pgm, .int tpm, .int stn, .int lnx, .int lny])), (aTo, .inl (cI, 12, .inl tol)), (aTu, .inl (cZ, 117, .inl trn))] H := hP
  have hD : va_D A [(oM, .inr (5, [.int 0, .ref aTx, .int siz, .ref aBg, .ref aEn, .ref aLe, .ref aMa, .ref aFi, .int lnm, .int rsm, .ref aHe, .int bxs, .int wdt, .int hgh, .ref aCa, .ref aTo, .int byn, .ref aTu, .int pgm, .int tpm, .int stn, .int lnx, .int lny])), (aTo, .inl (cI, 12, .inl tol)), (aTu, .inl (cZ, 117, .inl trn))] := hD
  refine xi_if_eq (tgt := 27) hx hb (rfl) d_Mod_dark_11 (by decide) (fun c11 => ?_) (fun c11 => ?_)
  · refine lv_iconst (v := 0) hx hb d_Mod_dark_27 (by decide) ?_
    have q8 : ¬ cd_ok byn p1.toInt p2.toInt := by rcases w8 with q | q; omega; exact q.2
    exact W.zret (v := 0) hx hb hr rfl (fun t ht hW => ⟨⟨0, 0, rfl, (show cm_drk byn tol trn nC p1 p2 (0 : Int32) from (Or.inr ⟨q8, by decide⟩)), by rw [ht]; exact hP, va_K.moved hW.alike hK, hD⟩, hS.F ht⟩) hS.2.2 d_Mod_dark_28
  · have q8 : cd_ok byn p1.toInt p2.toInt := by rcases w8 with q | q; exact q.2; omega
    have q80 := q8
    unfold cd_ok at q80
    obtain ⟨x, hpx⟩ : ∃ x : Nat, p1.toInt = (x : Int) := ⟨p1.toInt.toNat, by omega⟩
    obtain ⟨y, hpy⟩ : ∃ y : Nat, p2.toInt = (y : Int) := ⟨p2.toInt.toNat, by omega⟩
    have hxn : p1.toInt.toNat = x := by omega
    have hyn0 : p2.toInt.toNat = y := by omega
    refine lv_aload_n hx hb d_Mod_dark_14 rfl (lv_at hl 0 rfl) ?_
    refine lv_iload_n hx hb d_Mod_dark_15 rfl (lv_at hl 1 rfl) ?_
    refine lv_iload_n hx hb d_Mod_dark_16 rfl (lv_at hl 2 rfl) ?_
    have hPc := hP.sub (ws' := [(oM, .inr (5, [.int 0, .ref aTx, .int siz, .ref aBg, .ref aEn, .ref aLe, .ref aMa, .ref aFi, .int lnm, .int rsm, .ref aHe, .int bxs, .int wdt, .int hgh, .ref aCa, .ref aTo, .int byn, .ref aTu, .int pgm, .int tpm, .int stn, .int lnx, .int lny])), (aTo, .inl (cI, 12, .inl tol)), (aTu, .inl (cZ, 117, .inl trn))]) [0, 1, 2] rfl
    have hDc := hD.sub (ws' := [(oM, .inr (5, [.int 0, .ref aTx, .int siz, .ref aBg, .ref aEn, .ref aLe, .ref aMa, .ref aFi, .int lnm, .int rsm, .ref aHe, .int bxs, .int wdt, .int hgh, .ref aCa, .ref aTo, .int byn, .ref aTu, .int pgm, .int tpm, .int stn, .int lnx, .int lny])), (aTo, .inl (cI, 12, .inl tol)), (aTu, .inl (cZ, 117, .inl trn))]) [0, 1, 2] (by decide) rfl
    have hFc := va_free (wc := [(oM, .inr (5, [.int 0, .ref aTx, .int siz, .ref aBg, .ref aEn, .ref aLe, .ref aMa, .ref aFi, .int lnm, .int rsm, .ref aHe, .int bxs, .int wdt, .int hgh, .ref aCa, .ref aTo, .int byn, .ref aTu, .int pgm, .int tpm, .int stn, .int lnx, .int lny])), (aTo, .inl (cI, 12, .inl tol)), (aTu, .inl (cZ, 117, .inl trn))]) hD hS hA [0, 1, 2] rfl
    refine va_calli (va_runV (As := [.int p1, .int p2]) (rest := []) ⟨hx, hb, hml, hown, hts⟩ (k_Mod_isDark l dC dI cI cZ oM aTo aTu 0 aTx siz aBg aEn aLe aMa aFi lnm rsm aHe bxs wdt hgh aCa byn pgm tpm stn lnx lny tol trn H.size p1 p2 nC x y hc hc12 hpx hpy (by omega) (by omega) h01) (cwV 2 hts g_Mod_dark_Mod_isDark rfl rfl rfl (by decide +kernel) ⟨Nat.le_of_ble_eq_true rfl, Nat.le_of_ble_eq_true rfl⟩) ⟨fun a U g mk q => by obtain ⟨q0, q1, qP, qK, qD⟩ := q; exact ⟨q0, q1, qP, va_K.moved (u := U) (U := U.calling g mk a) (Vm.Alike.refl U.vm) qK, qD⟩, va_recv hK hPc (ci := 5) (q0 := 0) rfl rfl, fun U hU hW => ⟨rfl, by rw [hU], by rw [hU]; exact hPc, va_K.moved hW.alike hK, hDc.weaken (fun _ _ _ _ => trivial)⟩⟩ rfl rfl hl.1 rfl (lv_room (Nat.le_of_ble_eq_true rfl)) d_Mod_dark_17 ⟨Nat.le_of_ble_eq_true rfl, Nat.le_of_ble_eq_true rfl⟩) hS (fun q _ h => hFc q h) hFc (fun r17 u t H1 locs ht hvm hw hB hz1 hk1 hS => ?_)
    have w17 : (r17.toInt = 1 ∧ cm_dark tol trn nC x y = true) ∨ (r17.toInt = 0 ∧ cm_dark tol trn nC x y = false) := hw
    obtain ⟨hP1, hK1, hD1⟩ := hB
    rw [ht] at hP1
    obtain ⟨hP, hD⟩ := va_join (wr := []) (w1 := [(oM, .inr (5, [.int 0, .ref aTx, .int siz, .ref aBg, .ref aEn, .ref aLe, .ref aMa, .ref aFi, .int lnm, .int rsm, .ref aHe, .int bxs, .int wdt, .int hgh, .ref aCa, .ref aTo, .int byn, .ref aTu, .int pgm, .int tpm, .int stn, .int lnx, .int lny])), (aTo, .inl (cI, 12, .inl tol)), (aTu, .inl (cZ, 117, .inl trn))]) hP hD [0, 1, 2] [] rfl rfl (by decide) (by decide) hk1 hFc hP1 hD1
    generalize H1 = H at hP hS ⊢
    have hP : va_P (dC, dI) classes [(oM, .inr (5, [.int 0, .ref aTx, .int siz, .ref aBg, .ref aEn, .ref aLe, .ref aMa, .ref aFi, .int lnm, .int rsm, .ref aHe, .int bxs, .int wdt, .int hgh, .ref aCa, .ref aTo, .int byn, .ref aTu, .int pgm, .int tpm, .int stn, .int lnx, .int lny])), (aTo, .inl (cI, 12, .inl tol)), (aTu, .inl (cZ, 117, .inl trn))] H := hP
    have hD : va_D A [(oM, .inr (5, [.int 0, .ref aTx, .int siz, .ref aBg, .ref aEn, .ref aLe, .ref aMa, .ref aFi, .int lnm, .int rsm, .ref aHe, .int bxs, .int wdt, .int hgh, .ref aCa, .ref aTo, .int byn, .ref aTu, .int pgm, .int tpm, .int stn, .int lnx, .int lny])), (aTo, .inl (cI, 12, .inl tol)), (aTu, .inl (cZ, 117, .inl trn))] := hD
    refine xi_if_eq (tgt := 27) hx hb (rfl) d_Mod_dark_20 (by decide) (fun c20 => ?_) (fun c20 => ?_)
    · refine lv_iconst (v := 0) hx hb d_Mod_dark_27 (by decide) ?_
      exact W.zret (v := 0) hx hb hr rfl (fun t ht hW => ⟨⟨0, 0, rfl, (show cm_drk byn tol trn nC p1 p2 (0 : Int32) from (Or.inl ⟨q8, Or.inr ⟨by decide, by rw [hxn, hyn0]; rcases w17 with q | q; omega; exact q.2⟩⟩)), by rw [ht]; exact hP, va_K.moved hW.alike hK, hD⟩, hS.F ht⟩) hS.2.2 d_Mod_dark_28
    · refine lv_iconst (v := 1) hx hb d_Mod_dark_23 (by decide) ?_
      refine lv_goto (tgt := 28) hx hb d_Mod_dark_24 (by decide) ?_
      exact W.zret (v := 1) hx hb hr rfl (fun t ht hW => ⟨⟨1, 0, rfl, (show cm_drk byn tol trn nC p1 p2 (1 : Int32) from (Or.inl ⟨q8, Or.inl ⟨by decide, by rw [hxn, hyn0]; rcases w17 with q | q; exact q.2; omega⟩⟩)), by rw [ht]; exact hP, va_K.moved hW.alike hK, hD⟩, hS.F ht⟩) hS.2.2 d_Mod_dark_28

set_option maxHeartbeats 4000000 in
set_option maxRecDepth 100000 in
theorem k_Mod_spoil (l : Launch) (dC : Nat → ClassId) (dI : Nat → Nat → Nat) (cI cZ : ClassId) (oM : Nat) (aTu : Nat) (thr : Int32) (aTx : Nat) (siz : Int32) (aBg : Nat) (aEn : Nat) (aLe : Nat) (aMa : Nat) (aFi : Nat) (lnm : Int32) (rsm : Int32) (aHe : Nat) (bxs : Int32) (wdt : Int32) (hgh : Int32) (aCa : Nat) (aTo : Nat) (byn : Int32) (pgm : Int32) (tpm : Int32) (stn : Int32) (lnx : Int32) (lny : Int32) (trn : Nat → Int32) (sz : Nat) (p1 : Int32) (p2 : Int32) (nC : Nat) (hc : byn.toInt = (nC : Int)) (hc12 : nC ≤ 12) (h01 : cm_01 trn) : Met l y_Mod_spoil w_Mod_spoil ({ frames := 2, cells := 0, slots := 0, locals := 44 }) (va_Pc [.ref oM, .int p1, .int p2] (fun U => U.heap.size = sz ∧ va_P (dC, dI) classes [(oM, .inr (5, [.int thr, .ref aTx, .int siz, .ref aBg, .ref aEn, .ref aLe, .ref aMa, .ref aFi, .int lnm, .int rsm, .ref aHe, .int bxs, .int wdt, .int hgh, .ref aCa, .ref aTo, .int byn, .ref aTu, .int pgm, .int tpm, .int stn, .int lnx, .int lny])), (aTu, .inl (cZ, 117, .inl trn))] U.heap ∧ va_K (dC, dI) classes [(cI, .int), (cZ, .boolean)] U ∧ va_D (fun _ => True) [(oM, .inr (5, [.int thr, .ref aTx, .int siz, .ref aBg, .ref aEn, .ref aLe, .ref aMa, .ref aFi, .int lnm, .int rsm, .ref aHe, .int bxs, .int wdt, .int hgh, .ref aCa, .ref aTo, .int byn, .ref aTu, .int pgm, .int tpm, .int stn, .int lnx, .int lny])), (aTu, .inl (cZ, 117, .inl trn))])) (va_Qi (fun (r : Int32) (u : Int32 × (Nat → Int32)) => cm_spoil byn trn p1 p2 r u.2) (fun (u : Int32 × (Nat → Int32)) (t : State) => va_P (dC, dI) classes [(oM, .inr (5, [.int u.1, .ref aTx, .int siz, .ref aBg, .ref aEn, .ref aLe, .ref aMa, .ref aFi, .int lnm, .int rsm, .ref aHe, .int bxs, .int wdt, .int hgh, .ref aCa, .ref aTo, .int byn, .ref aTu, .int pgm, .int tpm, .int stn, .int lnx, .int lny])), (aTu, .inl (cZ, 117, .inl u.2))] t.heap ∧ va_K (dC, dI) classes [(cI, .int), (cZ, .boolean)] t ∧ va_D (va_A [(oM, .inr (5, [.int thr, .ref aTx, .int siz, .ref aBg, .ref aEn, .ref aLe, .ref aMa, .ref aFi, .int lnm, .int rsm, .ref aHe, .int bxs, .int wdt, .int hgh, .ref aCa, .ref aTo, .int byn, .ref aTu, .int pgm, .int tpm, .int stn, .int lnx, .int lny])), (aTu, .inl (cZ, 117, .inl trn))] sz) [(oM, .inr (5, [.int u.1, .ref aTx, .int siz, .ref aBg, .ref aEn, .ref aLe, .ref aMa, .ref aFi, .int lnm, .int rsm, .ref aHe, .int bxs, .int wdt, .int hgh, .ref aCa, .ref aTo, .int byn, .ref aTu, .int pgm, .int tpm, .int stn, .int lnx, .int lny])), (aTu, .inl (cZ, 117, .inl u.2))]) (va_A [(oM, .inr (5, [.int thr, .ref aTx, .int siz, .ref aBg, .ref aEn, .ref aLe, .ref aMa, .ref aFi, .int lnm, .int rsm, .ref aHe, .int bxs, .int wdt, .int hgh, .ref aCa, .ref aTo, .int byn, .ref aTu, .int pgm, .int tpm, .int stn, .int lnx, .int lny])), (aTu, .inl (cZ, 117, .inl trn))] sz)) 0 0 (va_A [(oM, .inr (5, [.int thr, .ref aTx, .int siz, .ref aBg, .ref aEn, .ref aLe, .ref aMa, .ref aFi, .int lnm, .int rsm, .ref aHe, .int bxs, .int wdt, .int hgh, .ref aCa, .ref aTo, .int byn, .ref aTu, .int pgm, .int tpm, .int stn, .int lnx, .int lny])), (aTu, .inl (cZ, 117, .inl trn))] sz) := by
  refine Met.ofW (cc := b_Mod_spoil) (maxL := 3) (ret := (some .boolean)) (by decide) rfl ?_
  intro p e s m args below meth c s₁ B hml hv
  obtain ⟨rfl, hsz, hP, hK, hD0⟩ := hv
  have hx := B.exec
  have hb := B.bytes
  have hr := B.returns
  have hts := atoms_spec (ws := w_Mod_spoil) B.pre
  have hown : s.vm.findClass R_Mod = some m.cls := findClass_of_methodNamed B.named
  have hlocks := B.notSynchronized
  have hw_Mod : ∀ w ∈ w_Mod, w ∈ w_Mod_spoil := by decide +kernel
  subst hsz
  have hD := hD0.self (sz := s.heap.size)
  generalize hAe : va_A [(oM, .inr (5, [.int thr, .ref aTx, .int siz, .ref aBg, .ref aEn, .ref aLe, .ref aMa, .ref aFi, .int lnm, .int rsm, .ref aHe, .int bxs, .int wdt, .int hgh, .ref aCa, .ref aTo, .int byn, .ref aTu, .int pgm, .int tpm, .int stn, .int lnx, .int lny])), (aTu, .inl (cZ, 117, .inl trn))] s.heap.size = A at hD ⊢
  have hA : ∀ q : Nat, s.heap.size ≤ q → A q := fun q h => by rw [← hAe]; exact Or.inr h
  have hS : va_S A s.heap s.heap [] := va_S.rf
  have hP : va_P (dC, dI) classes [(oM, .inr (5, [.int thr, .ref aTx, .int siz, .ref aBg, .ref aEn, .ref aLe, .ref aMa, .ref aFi, .int lnm, .int rsm, .ref aHe, .int bxs, .int wdt, .int hgh, .ref aCa, .ref aTo, .int byn, .ref aTu, .int pgm, .int tpm, .int stn, .int lnx, .int lny])), (aTu, .inl (cZ, 117, .inl trn))] s.heap := hP
  have hl := lv_entry ([.ref oM, .int p1, .int p2]) (n := 3) (Nat.le_of_ble_eq_true rfl)
  rw [lg_entry_eq]
  generalize (lg_sl ([.ref oM, .int p1, .int p2]) ++ List.replicate (3 - (lg_sl ([.ref oM, .int p1, .int p2])).length) Slot.unset).toArray = ls at hl ⊢
  have hl : lv_has ls 3 [(0, .ref oM), (1, .int p1), (2, .int p2)] := hl
  refine lv_aload_n hx hb d_Mod_spoil_0 rfl (lv_at hl 0 rfl) ?_
  refine lv_iconst (v := 0) hx hb d_Mod_spoil_1 (by decide) ?_
  refine va_put (D := (dC, dI)) (ci := 5) (v := .int 0) (ty := .int) (C := R_Mod) (T := F_Mod) (N := 23) hx hb hts hw_Mod t_Mod t_Mod_ok n_Mod hown hK hP hD hS 0 rfl rfl 0 (by decide) (hts (.fieldLink R_Mod 48 "PageFormsModel" "thrown" "I") (by decide +kernel)) (fun _ h9 => h9) rfl (by decide +kernel) rfl rfl (Nat.le_of_ble_eq_true rfl) d_Mod_spoil_2 (fun H locs hP hD hS => ?_)
  have hP : va_P (dC, dI) classes [(oM, .inr (5, [.int 0, .ref aTx, .int siz, .ref aBg, .ref aEn, .ref aLe, .ref aMa, .ref aFi, .int lnm, .int rsm, .ref aHe, .int bxs, .int wdt, .int hgh, .ref aCa, .ref aTo, .int byn, .ref aTu, .int pgm, .int tpm, .int stn, .int lnx, .int lny])), (aTu, .inl (cZ, 117, .inl trn))] H := hP
  have hD : va_D A [(oM, .inr (5, [.int 0, .ref aTx, .int siz, .ref aBg, .ref aEn, .ref aLe, .ref aMa, .ref aFi, .int lnm, .int rsm, .ref aHe, .int bxs, .int wdt, .int hgh, .ref aCa, .ref aTo, .int byn, .ref aTu, .int pgm, .int tpm, .int stn, .int lnx, .int lny])), (aTu, .inl (cZ, 117, .inl trn))] := hD
  refine lv_aload_n hx hb d_Mod_spoil_5 rfl (lv_at hl 0 rfl) ?_
  refine lv_iload_n hx hb d_Mod_spoil_6 rfl (lv_at hl 1 rfl) ?_
  refine lv_iload_n hx hb d_Mod_spoil_7 rfl (lv_at hl 2 rfl) ?_
  have hPc := hP.sub (ws' := [(oM, .inr (5, [.int 0, .ref aTx, .int siz, .ref aBg, .ref aEn, .ref aLe, .ref aMa, .ref aFi, .int lnm, .int rsm, .ref aHe, .int bxs, .int wdt, .int hgh, .ref aCa, .ref aTo, .int byn, .ref aTu, .int pgm, .int tpm, .int stn, .int lnx, .int lny]))]) [0] rfl
  have hDc := hD.sub (ws' := [(oM, .inr (5, [.int 0, .ref aTx, .int siz, .ref aBg, .ref aEn, .ref aLe, .ref aMa, .ref aFi, .int lnm, .int rsm, .ref aHe, .int bxs, .int wdt, .int hgh, .ref aCa, .ref aTo, .int byn, .ref aTu, .int pgm, .int tpm, .int stn, .int lnx, .int lny]))]) [0] (by decide) rfl
  have hFc := va_free (wc := [(oM, .inr (5, [.int 0, .ref aTx, .int siz, .ref aBg, .ref aEn, .ref aLe, .ref aMa, .ref aFi, .int lnm, .int rsm, .ref aHe, .int bxs, .int wdt, .int hgh, .ref aCa, .ref aTo, .int byn, .ref aTu, .int pgm, .int tpm, .int stn, .int lnx, .int lny]))]) hD hS hA [0] rfl
  refine va_calli (va_runV (As := [.int p1, .int p2]) (rest := []) ⟨hx, hb, hml, hown, hts⟩ (k_Mod_isSquare l dC dI cI cZ oM 0 aTx siz aBg aEn aLe aMa aFi lnm rsm aHe bxs wdt hgh aCa aTo byn aTu pgm tpm stn lnx lny H.size p1 p2 nC hc hc12) (cwV 2 hts g_Mod_spoil_Mod_isSquare rfl rfl rfl (by decide +kernel) ⟨Nat.le_of_ble_eq_true rfl, Nat.le_of_ble_eq_true rfl⟩) ⟨fun a U g mk q => by obtain ⟨q0, q1, qP, qK, qD⟩ := q; exact ⟨q0, q1, qP, va_K.moved (u := U) (U := U.calling g mk a) (Vm.Alike.refl U.vm) qK, qD⟩, va_recv hK hPc (ci := 5) (q0 := 0) rfl rfl, fun U hU hW => ⟨rfl, by rw [hU], by rw [hU]; exact hPc, va_K.moved hW.alike hK, hDc.weaken (fun _ _ _ _ => trivial)⟩⟩ rfl rfl hl.1 rfl (lv_room (Nat.le_of_ble_eq_true rfl)) d_Mod_spoil_8 ⟨Nat.le_of_ble_eq_true rfl, Nat.le_of_ble_eq_true rfl⟩) hS (fun q _ h => hFc q h) hFc (fun r8 u t H1 locs ht hvm hw hB hz1 hk1 hS => ?_)
  have w8 : (r8.toInt = 1 ∧ cd_ok byn p1.toInt p2.toInt) ∨ (r8.toInt = 0 ∧ ¬ cd_ok byn p1.toInt p2.toInt) := hw
  obtain ⟨hP1, hK1, hD1⟩ := hB
  rw [ht] at hP1
  obtain ⟨hP, hD⟩ := va_join (wr := [(aTu, .inl (cZ, 117, .inl trn))]) (w1 := [(oM, .inr (5, [.int 0, .ref aTx, .int siz, .ref aBg, .ref aEn, .ref aLe, .ref aMa, .ref aFi, .int lnm, .int rsm, .ref aHe, .int bxs, .int wdt, .int hgh, .ref aCa, .ref aTo, .int byn, .ref aTu, .int pgm, .int tpm, .int stn, .int lnx, .int lny]))]) hP hD [0] [1] rfl rfl (by decide) (by decide) hk1 hFc hP1 hD1
  generalize H1 = H at hP hS ⊢
  have hP := hP.sub (ws' := [(oM, .inr (5, [.int 0, .ref aTx, .int siz, .ref aBg, .ref aEn, .ref aLe, .ref aMa, .ref aFi, .int lnm, .int rsm, .ref aHe, .int bxs, .int wdt, .int hgh, .ref aCa, .ref aTo, .int byn, .ref aTu, .int pgm, .int tpm, .int stn, .int lnx, .int lny])), (aTu, .inl (cZ, 117, .inl trn))]) [1, 0] rfl
  have hD := hD.sub (ws' := [(oM, .inr (5, [.int 0, .ref aTx, .int siz, .ref aBg, .ref aEn, .ref aLe, .ref aMa, .ref aFi, .int lnm, .int rsm, .ref aHe, .int bxs, .int wdt, .int hgh, .ref aCa, .ref aTo, .int byn, .ref aTu, .int pgm, .int tpm, .int stn, .int lnx, .int lny])), (aTu, .inl (cZ, 117, .inl trn))]) [1, 0] (by decide) rfl
  have hP : va_P (dC, dI) classes [(oM, .inr (5, [.int 0, .ref aTx, .int siz, .ref aBg, .ref aEn, .ref aLe, .ref aMa, .ref aFi, .int lnm, .int rsm, .ref aHe, .int bxs, .int wdt, .int hgh, .ref aCa, .ref aTo, .int byn, .ref aTu, .int pgm, .int tpm, .int stn, .int lnx, .int lny])), (aTu, .inl (cZ, 117, .inl trn))] H := hP
  have hD : va_D A [(oM, .inr (5, [.int 0, .ref aTx, .int siz, .ref aBg, .ref aEn, .ref aLe, .ref aMa, .ref aFi, .int lnm, .int rsm, .ref aHe, .int bxs, .int wdt, .int hgh, .ref aCa, .ref aTo, .int byn, .ref aTu, .int pgm, .int tpm, .int stn, .int lnx, .int lny])), (aTu, .inl (cZ, 117, .inl trn))] := hD
  refine xi_if_ne (tgt := 16) hx hb (rfl) d_Mod_spoil_11 (by decide) (fun c11 => ?_) (fun c11 => ?_)
  · have q8 : cd_ok byn p1.toInt p2.toInt := by rcases w8 with q | q; exact q.2; omega
    have q80 := q8
    unfold cd_ok at q80
    obtain ⟨x, hpx⟩ : ∃ x : Nat, p1.toInt = (x : Int) := ⟨p1.toInt.toNat, by omega⟩
    obtain ⟨y, hpy⟩ : ∃ y : Nat, p2.toInt = (y : Int) := ⟨p2.toInt.toNat, by omega⟩
    have hxn : p1.toInt.toNat = x := by omega
    have hyn0 : p2.toInt.toNat = y := by omega
    refine lv_aload_n hx hb d_Mod_spoil_16 rfl (lv_at hl 0 rfl) ?_
    refine va_get (D := (dC, dI)) (ci := 5) (v := .ref aTu) (C := R_Mod) (T := F_Mod) (N := 23) hx hb hts hw_Mod hown hK hP 0 rfl rfl 17 (by decide) (hts (.fieldLink R_Mod 44 "PageFormsModel" "turned" "[Z") (by decide +kernel)) (fun _ h9 => h9) rfl d_Mod_spoil_17 ?_
    refine lv_bipush (v := 9) hx hb d_Mod_spoil_20 (by decide) ?_
    refine lv_iload_n hx hb d_Mod_spoil_22 rfl (lv_at hl 2 rfl) ?_
    refine lv_imul hx hb d_Mod_spoil_23 ?_
    have a23 : (9 * p2).toInt = ((9 * y : Nat) : Int) := xi_mulN (show (9 : Int32).toInt = 9 by decide) hpy (by omega)
    refine lv_iload_n hx hb d_Mod_spoil_24 rfl (lv_at hl 1 rfl) ?_
    refine lv_iadd hx hb d_Mod_spoil_25 ?_
    have a25 : ((9 * p2) + p1).toInt = (((9 * y : Nat) : Int) + (x : Int)) := xi_add a23 hpx (by omega) (by omega)
    refine lv_aload_n hx hb d_Mod_spoil_26 rfl (lv_at hl 0 rfl) ?_
    refine va_get (D := (dC, dI)) (ci := 5) (v := .ref aTu) (C := R_Mod) (T := F_Mod) (N := 23) hx hb hts hw_Mod hown hK hP 0 rfl rfl 17 (by decide) (hts (.fieldLink R_Mod 44 "PageFormsModel" "turned" "[Z") (by decide +kernel)) (fun _ h9 => h9) rfl d_Mod_spoil_27 ?_
    refine lv_bipush (v := 9) hx hb d_Mod_spoil_30 (by decide) ?_
    refine lv_iload_n hx hb d_Mod_spoil_32 rfl (lv_at hl 2 rfl) ?_
    refine lv_imul hx hb d_Mod_spoil_33 ?_
    refine lv_iload_n hx hb d_Mod_spoil_34 rfl (lv_at hl 1 rfl) ?_
    refine lv_iadd hx hb d_Mod_spoil_35 ?_
    refine xa_zald hx hb hK hP 1 1 rfl rfl a25 (9 * y + x) (by omega) (by omega) d_Mod_spoil_36 ?_
    have ht01 := h01 (9 * y + x) (by omega)
    refine xi_if_ne (tgt := 44) hx hb (rfl) d_Mod_spoil_37 (by decide) (fun c37 => ?_) (fun c37 => ?_)
    · refine lv_iconst (v := 0) hx hb d_Mod_spoil_44 (by decide) ?_
      refine xa_zast hx hb hK hP hD hS 1 1 rfl rfl a25 (9 * y + x) (by omega) (by omega) rfl d_Mod_spoil_45 (fun H locs hP hD hS => ?_)
      have hP : va_P (dC, dI) classes [(oM, .inr (5, [.int 0, .ref aTx, .int siz, .ref aBg, .ref aEn, .ref aLe, .ref aMa, .ref aFi, .int lnm, .int rsm, .ref aHe, .int bxs, .int wdt, .int hgh, .ref aCa, .ref aTo, .int byn, .ref aTu, .int pgm, .int tpm, .int stn, .int lnx, .int lny])), (aTu, .inl (cZ, 117, .inl (upd trn (9 * y + x) 0)))] H := hP
      have hD : va_D A [(oM, .inr (5, [.int 0, .ref aTx, .int siz, .ref aBg, .ref aEn, .ref aLe, .ref aMa, .ref aFi, .int lnm, .int rsm, .ref aHe, .int bxs, .int wdt, .int hgh, .ref aCa, .ref aTo, .int byn, .ref aTu, .int pgm, .int tpm, .int stn, .int lnx, .int lny])), (aTu, .inl (cZ, 117, .inl (upd trn (9 * y + x) 0)))] := hD
      refine lv_iconst (v := 1) hx hb d_Mod_spoil_46 (by decide) ?_
      exact W.zret (v := 1) hx hb hr rfl (fun t ht hW => ⟨⟨1, (0, (upd trn (9 * y + x) 0)), rfl, (show cm_spoil byn trn p1 p2 (1 : Int32) (upd trn (9 * y + x) 0) from (Or.inl ⟨q8, by decide, 0, by rw [hxn, hyn0], by rw [hxn, hyn0]; rw [show (0 : Int32).toInt = 0 by decide]; omega⟩)), by rw [ht]; exact hP, va_K.moved hW.alike hK, hD⟩, hS.F ht⟩) hS.2.2 d_Mod_spoil_47
    · refine lv_iconst (v := 1) hx hb d_Mod_spoil_40 (by decide) ?_
      refine lv_goto (tgt := 45) hx hb d_Mod_spoil_41 (by decide) ?_
      refine xa_zast hx hb hK hP hD hS 1 1 rfl rfl a25 (9 * y + x) (by omega) (by omega) rfl d_Mod_spoil_45 (fun H locs hP hD hS => ?_)
      have hP : va_P (dC, dI) classes [(oM, .inr (5, [.int 0, .ref aTx, .int siz, .ref aBg, .ref aEn, .ref aLe, .ref aMa, .ref aFi, .int lnm, .int rsm, .ref aHe, .int bxs, .int wdt, .int hgh, .ref aCa, .ref aTo, .int byn, .ref aTu, .int pgm, .int tpm, .int stn, .int lnx, .int lny])), (aTu, .inl (cZ, 117, .inl (upd trn (9 * y + x) 1)))] H := hP
      have hD : va_D A [(oM, .inr (5, [.int 0, .ref aTx, .int siz, .ref aBg, .ref aEn, .ref aLe, .ref aMa, .ref aFi, .int lnm, .int rsm, .ref aHe, .int bxs, .int wdt, .int hgh, .ref aCa, .ref aTo, .int byn, .ref aTu, .int pgm, .int tpm, .int stn, .int lnx, .int lny])), (aTu, .inl (cZ, 117, .inl (upd trn (9 * y + x) 1)))] := hD
      refine lv_iconst (v := 1) hx hb d_Mod_spoil_46 (by decide) ?_
      exact W.zret (v := 1) hx hb hr rfl (fun t ht hW => ⟨⟨1, (0, (upd trn (9 * y + x) 1)), rfl, (show cm_spoil byn trn p1 p2 (1 : Int32) (upd trn (9 * y + x) 1) from (Or.inl ⟨q8, by decide, 1, by rw [hxn, hyn0], by rw [hxn, hyn0]; rw [show (1 : Int32).toInt = 1 by decide]; omega⟩)), by rw [ht]; exact hP, va_K.moved hW.alike hK, hD⟩, hS.F ht⟩) hS.2.2 d_Mod_spoil_47
  · refine lv_iconst (v := 0) hx hb d_Mod_spoil_14 (by decide) ?_
    have q8 : ¬ cd_ok byn p1.toInt p2.toInt := by rcases w8 with q | q; omega; exact q.2
    exact W.zret (v := 0) hx hb hr rfl (fun t ht hW => ⟨⟨0, (0, trn), rfl, (show cm_spoil byn trn p1 p2 (0 : Int32) trn from (Or.inr ⟨q8, by decide, rfl⟩)), by rw [ht]; exact hP, va_K.moved hW.alike hK, hD⟩, hS.F ht⟩) hS.2.2 d_Mod_spoil_15

set_option maxHeartbeats 4000000 in
set_option maxRecDepth 100000 in
theorem k_Mod_byteAt (l : Launch) (dC : Nat → ClassId) (dI : Nat → Nat → Nat) (cI cZ : ClassId) (oM : Nat) (aTo : Nat) (aTu : Nat) (thr : Int32) (aTx : Nat) (siz : Int32) (aBg : Nat) (aEn : Nat) (aLe : Nat) (aMa : Nat) (aFi : Nat) (lnm : Int32) (rsm : Int32) (aHe : Nat) (bxs : Int32) (wdt : Int32) (hgh : Int32) (aCa : Nat) (byn : Int32) (pgm : Int32) (tpm : Int32) (stn : Int32) (lnx : Int32) (lny : Int32) (tol : Nat → Int32) (trn : Nat → Int32) (sz : Nat) (p1 : Int32) (nC : Nat) (hc : byn.toInt = (nC : Int)) (hc12 : nC ≤ 12) (h01 : cm_01 trn) : Met l y_Mod_byteAt w_Mod_byteAt ({ frames := 2, cells := 0, slots := 0, locals := 47 }) (va_Pc [.ref oM, .int p1] (fun U => U.heap.size = sz ∧ va_P (dC, dI) classes [(oM, .inr (5, [.int thr, .ref aTx, .int siz, .ref aBg, .ref aEn, .ref aLe, .ref aMa, .ref aFi, .int lnm, .int rsm, .ref aHe, .int bxs, .int wdt, .int hgh, .ref aCa, .ref aTo, .int byn, .ref aTu, .int pgm, .int tpm, .int stn, .int lnx, .int lny])), (aTo, .inl (cI, 12, .inl tol)), (aTu, .inl (cZ, 117, .inl trn))] U.heap ∧ va_K (dC, dI) classes [(cI, .int), (cZ, .boolean)] U ∧ va_D (fun _ => True) [(oM, .inr (5, [.int thr, .ref aTx, .int siz, .ref aBg, .ref aEn, .ref aLe, .ref aMa, .ref aFi, .int lnm, .int rsm, .ref aHe, .int bxs, .int wdt, .int hgh, .ref aCa, .ref aTo, .int byn, .ref aTu, .int pgm, .int tpm, .int stn, .int lnx, .int lny])), (aTo, .inl (cI, 12, .inl tol)), (aTu, .inl (cZ, 117, .inl trn))])) (va_Qi (fun (r : Int32) (u : Int32) => (0 ≤ p1.toInt ∧ p1.toInt < (nC : Int) ∧ r.toInt = (cv_val tol trn nC p1.toInt.toNat 8 : Int)) ∨ ((p1.toInt < 0 ∨ (nC : Int) ≤ p1.toInt) ∧ r.toInt = -1)) (fun (u : Int32) (t : State) => va_P (dC, dI) classes [(oM, .inr (5, [.int u, .ref aTx, .int siz, .ref aBg, .ref aEn, .ref aLe, .ref aMa, .ref aFi, .int lnm, .int rsm, .ref aHe, .int bxs, .int wdt, .int hgh, .ref aCa, .ref aTo, .int byn, .ref aTu, .int pgm, .int tpm, .int stn, .int lnx, .int lny])), (aTo, .inl (cI, 12, .inl tol)), (aTu, .inl (cZ, 117, .inl trn))] t.heap ∧ va_K (dC, dI) classes [(cI, .int), (cZ, .boolean)] t ∧ va_D (va_A [(oM, .inr (5, [.int thr, .ref aTx, .int siz, .ref aBg, .ref aEn, .ref aLe, .ref aMa, .ref aFi, .int lnm, .int rsm, .ref aHe, .int bxs, .int wdt, .int hgh, .ref aCa, .ref aTo, .int byn, .ref aTu, .int pgm, .int tpm, .int stn, .int lnx, .int lny])), (aTo, .inl (cI, 12, .inl tol)), (aTu, .inl (cZ, 117, .inl trn))] sz) [(oM, .inr (5, [.int u, .ref aTx, .int siz, .ref aBg, .ref aEn, .ref aLe, .ref aMa, .ref aFi, .int lnm, .int rsm, .ref aHe, .int bxs, .int wdt, .int hgh, .ref aCa, .ref aTo, .int byn, .ref aTu, .int pgm, .int tpm, .int stn, .int lnx, .int lny])), (aTo, .inl (cI, 12, .inl tol)), (aTu, .inl (cZ, 117, .inl trn))]) (va_A [(oM, .inr (5, [.int thr, .ref aTx, .int siz, .ref aBg, .ref aEn, .ref aLe, .ref aMa, .ref aFi, .int lnm, .int rsm, .ref aHe, .int bxs, .int wdt, .int hgh, .ref aCa, .ref aTo, .int byn, .ref aTu, .int pgm, .int tpm, .int stn, .int lnx, .int lny])), (aTo, .inl (cI, 12, .inl tol)), (aTu, .inl (cZ, 117, .inl trn))] sz)) 0 0 (va_A [(oM, .inr (5, [.int thr, .ref aTx, .int siz, .ref aBg, .ref aEn, .ref aLe, .ref aMa, .ref aFi, .int lnm, .int rsm, .ref aHe, .int bxs, .int wdt, .int hgh, .ref aCa, .ref aTo, .int byn, .ref aTu, .int pgm, .int tpm, .int stn, .int lnx, .int lny])), (aTo, .inl (cI, 12, .inl tol)), (aTu, .inl (cZ, 117, .inl trn))] sz) := by
  refine Met.ofW (cc := b_Mod_byteAt) (maxL := 4) (ret := (some .int)) (by decide) rfl ?_
  intro p e s m args below meth c s₁ B hml hv
  obtain ⟨rfl, hsz, hP, hK, hD0⟩ := hv
  have hx := B.exec
  have hb := B.bytes
  have hr := B.returns
  have hts := atoms_spec (ws := w_Mod_byteAt) B.pre
  have hown : s.vm.findClass R_Mod = some m.cls := findClass_of_methodNamed B.named
  have hlocks := B.notSynchronized
  have hw_Mod : ∀ w ∈ w_Mod, w ∈ w_Mod_byteAt := by decide +kernel
  subst hsz
  have hD := hD0.self (sz := s.heap.size)
  generalize hAe : va_A [(oM, .inr (5, [.int thr, .ref aTx, .int siz, .ref aBg, .ref aEn, .ref aLe, .ref aMa, .ref aFi, .int lnm, .int rsm, .ref aHe, .int bxs, .int wdt, .int hgh, .ref aCa, .ref aTo, .int byn, .ref aTu, .int pgm, .int tpm, .int stn, .int lnx, .int lny])), (aTo, .inl (cI, 12, .inl tol)), (aTu, .inl (cZ, 117, .inl trn))] s.heap.size = A at hD ⊢
  have hA : ∀ q : Nat, s.heap.size ≤ q → A q := fun q h => by rw [← hAe]; exact Or.inr h
  have hS : va_S A s.heap s.heap [] := va_S.rf
  have hP : va_P (dC, dI) classes [(oM, .inr (5, [.int thr, .ref aTx, .int siz, .ref aBg, .ref aEn, .ref aLe, .ref aMa, .ref aFi, .int lnm, .int rsm, .ref aHe, .int bxs, .int wdt, .int hgh, .ref aCa, .ref aTo, .int byn, .ref aTu, .int pgm, .int tpm, .int stn, .int lnx, .int lny])), (aTo, .inl (cI, 12, .inl tol)), (aTu, .inl (cZ, 117, .inl trn))] s.heap := hP
  have hl := lv_entry ([.ref oM, .int p1]) (n := 4) (Nat.le_of_ble_eq_true rfl)
  rw [lg_entry_eq]
  generalize (lg_sl ([.ref oM, .int p1]) ++ List.replicate (4 - (lg_sl ([.ref oM, .int p1])).length) Slot.unset).toArray = ls at hl ⊢
  have hl : lv_has ls 4 [(0, .ref oM), (1, .int p1)] := hl
  refine lv_aload_n hx hb d_Mod_byteAt_0 rfl (lv_at hl 0 rfl) ?_
  refine lv_iconst (v := 0) hx hb d_Mod_byteAt_1 (by decide) ?_
  refine va_put (D := (dC, dI)) (ci := 5) (v := .int 0) (ty := .int) (C := R_Mod) (T := F_Mod) (N := 23) hx hb hts hw_Mod t_Mod t_Mod_ok n_Mod hown hK hP hD hS 0 rfl rfl 0 (by decide) (hts (.fieldLink R_Mod 48 "PageFormsModel" "thrown" "I") (by decide +kernel)) (fun _ h9 => h9) rfl (by decide +kernel) rfl rfl (Nat.le_of_ble_eq_true rfl) d_Mod_byteAt_2 (fun H locs hP hD hS => ?_)
  have hP : va_P (dC, dI) classes [(oM, .inr (5, [.int 0, .ref aTx, .int siz, .ref aBg, .ref aEn, .ref aLe, .ref aMa, .ref aFi, .int lnm, .int rsm, .ref aHe, .int bxs, .int wdt, .int hgh, .ref aCa, .ref aTo, .int byn, .ref aTu, .int pgm, .int tpm, .int stn, .int lnx, .int lny])), (aTo, .inl (cI, 12, .inl tol)), (aTu, .inl (cZ, 117, .inl trn))] H := hP
  have hD : va_D A [(oM, .inr (5, [.int 0, .ref aTx, .int siz, .ref aBg, .ref aEn, .ref aLe, .ref aMa, .ref aFi, .int lnm, .int rsm, .ref aHe, .int bxs, .int wdt, .int hgh, .ref aCa, .ref aTo, .int byn, .ref aTu, .int pgm, .int tpm, .int stn, .int lnx, .int lny])), (aTo, .inl (cI, 12, .inl tol)), (aTu, .inl (cZ, 117, .inl trn))] := hD
  refine lv_iload_n hx hb d_Mod_byteAt_5 rfl (lv_at hl 1 rfl) ?_
  refine lv_iconst (v := 0) hx hb d_Mod_byteAt_6 (by decide) ?_
  refine lv_aload_n hx hb d_Mod_byteAt_7 rfl (lv_at hl 0 rfl) ?_
  refine va_get (D := (dC, dI)) (ci := 5) (v := .int byn) (C := R_Mod) (T := F_Mod) (N := 23) hx hb hts hw_Mod hown hK hP 0 rfl rfl 16 (by decide) (hts (.fieldLink R_Mod 113 "PageFormsModel" "bytes" "I") (by decide +kernel)) (fun _ h9 => h9) rfl d_Mod_byteAt_8 ?_
  refine lv_iconst (v := 1) hx hb d_Mod_byteAt_11 (by decide) ?_
  refine lv_isub hx hb d_Mod_byteAt_12 ?_
  have a12 : (byn - 1).toInt = ((nC : Int) - 1) := xi_sub hc (show (1 : Int32).toInt = 1 by decide) (by omega) (by omega)
  have hPc := hP.sub (ws' := []) [] rfl
  have hDc := hD.sub (ws' := []) [] (by decide) rfl
  have hFc := va_free (wc := []) hD hS hA [] rfl
  refine va_calli (va_runS (As := [.int p1, .int 0, .int (byn - 1)]) (rest := []) ⟨hx, hb, hml, hown, hts⟩ (k_Mod_within l dC dI cI cZ H.size p1 0 (byn - 1)) (cwS 3 hts g_Mod_byteAt_Mod_within rfl rfl rfl (by decide +kernel) ⟨Nat.le_of_ble_eq_true rfl, Nat.le_of_ble_eq_true rfl⟩) ⟨fun a U g mk q => by obtain ⟨q0, q1, qP, qK, qD⟩ := q; exact ⟨q0, q1, qP, va_K.moved (u := U) (U := U.calling g mk a) (Vm.Alike.refl U.vm) qK, qD⟩, fun U hU hW => ⟨rfl, by rw [hU], by rw [hU]; exact hPc, va_K.moved hW.alike hK, hDc.weaken (fun _ _ _ _ => trivial)⟩⟩ rfl rfl hl.1 rfl (lv_room (Nat.le_of_ble_eq_true rfl)) d_Mod_byteAt_13 ⟨Nat.le_of_ble_eq_true rfl, Nat.le_of_ble_eq_true rfl⟩) hS (fun q _ h => hFc q h) hFc (fun r13 u t H1 locs ht hvm hw hB hz1 hk1 hS => ?_)
  have w13 : (r13.toInt = 1 ∧ 0 ≤ p1.toInt ∧ p1.toInt ≤ (byn - 1).toInt) ∨ (r13.toInt = 0 ∧ (p1.toInt < 0 ∨ (byn - 1).toInt < p1.toInt)) := hw
  obtain ⟨hP1, hK1, hD1⟩ := hB
  rw [ht] at hP1
  obtain ⟨hP, hD⟩ := va_join (wr := [(oM, .inr (5, [.int 0, .ref aTx, .int siz, .ref aBg, .ref aEn, .ref aLe, .ref aMa, .ref aFi, .int lnm, .int rsm, .ref aHe, .int bxs, .int wdt, .int hgh, .ref aCa, .ref aTo, .int byn, .ref aTu, .int pgm, .int tpm, .int stn, .int lnx, .int lny])), (aTo, .inl (cI, 12, .inl tol)), (aTu, .inl (cZ, 117, .inl trn))]) (w1 := []) hP hD [] [0, 1, 2] rfl rfl (by decide) (by decide) hk1 hFc hP1 hD1
  generalize H1 = H at hP hS ⊢
  have hP : va_P (dC, dI) classes [(oM, .inr (5, [.int 0, .ref aTx, .int siz, .ref aBg, .ref aEn, .ref aLe, .ref aMa, .ref aFi, .int lnm, .int rsm, .ref aHe, .int bxs, .int wdt, .int hgh, .ref aCa, .ref aTo, .int byn, .ref aTu, .int pgm, .int tpm, .int stn, .int lnx, .int lny])), (aTo, .inl (cI, 12, .inl tol)), (aTu, .inl (cZ, 117, .inl trn))] H := hP
  have hD : va_D A [(oM, .inr (5, [.int 0, .ref aTx, .int siz, .ref aBg, .ref aEn, .ref aLe, .ref aMa, .ref aFi, .int lnm, .int rsm, .ref aHe, .int bxs, .int wdt, .int hgh, .ref aCa, .ref aTo, .int byn, .ref aTu, .int pgm, .int tpm, .int stn, .int lnx, .int lny])), (aTo, .inl (cI, 12, .inl tol)), (aTu, .inl (cZ, 117, .inl trn))] := hD
  rw [a12] at w13
  refine xi_if_ne (tgt := 21) hx hb (rfl) d_Mod_byteAt_16 (by decide) (fun c16 => ?_) (fun c16 => ?_)
  · obtain ⟨y, hpy⟩ : ∃ y : Nat, p1.toInt = (y : Int) := ⟨p1.toInt.toNat, by omega⟩
    have hyn0 : p1.toInt.toNat = y := by omega
    refine lv_iconst (v := 0) hx hb d_Mod_byteAt_21 (by decide) ?_
    refine lv_istore_n (lv' := [(2, .int 0), (0, .ref oM), (1, .int p1)]) hx hb d_Mod_byteAt_22 rfl hl (by decide) rfl (fun ls hl => ?_)
    refine lv_iconst (v := 0) hx hb d_Mod_byteAt_23 (by decide) ?_
    refine lv_istore_n (lv' := [(3, .int 0), (2, .int 0), (0, .ref oM), (1, .int p1)]) hx hb d_Mod_byteAt_24 rfl hl (by decide) rfl (fun ls hl => ?_)
    have loop25 : ∀ (n25 : Nat) (k : Nat) (x2 : Int32) (x3 : Int32), (8 - k < n25) → (k ≤ 8) → (x3.toInt = (k : Int)) → (x2.toInt = (cv_val tol trn nC y k : Int)) → ∀ (H : Heap) (locs : List Loc), va_P (dC, dI) classes [(oM, .inr (5, [.int 0, .ref aTx, .int siz, .ref aBg, .ref aEn, .ref aLe, .ref aMa, .ref aFi, .int lnm, .int rsm, .ref aHe, .int bxs, .int wdt, .int hgh, .ref aCa, .ref aTo, .int byn, .ref aTu, .int pgm, .int tpm, .int stn, .int lnx, .int lny])), (aTo, .inl (cI, 12, .inl tol)), (aTu, .inl (cZ, 117, .inl trn))] H → va_D A [(oM, .inr (5, [.int 0, .ref aTx, .int siz, .ref aBg, .ref aEn, .ref aLe, .ref aMa, .ref aFi, .int lnm, .int rsm, .ref aHe, .int bxs, .int wdt, .int hgh, .ref aCa, .ref aTo, .int byn, .ref aTu, .int pgm, .int tpm, .int stn, .int lnx, .int lny])), (aTo, .inl (cI, 12, .inl tol)), (aTu, .inl (cZ, 117, .inl trn))] → va_S A s.heap H locs → ∀ (ls : Array Slot), lv_has ls 4 [(0, .ref oM), (1, .int p1), (2, .int x2), (3, .int x3)] → W p l e (headSpec w_Mod_byteAt ({ frames := 2, cells := 0, slots := 0, locals := 47 })).room s m ([.ref oM, .int p1] : List Value).toArray below meth c H locs 0 0 (MQ below (va_Qi (fun (r : Int32) (u : Int32) => (0 ≤ p1.toInt ∧ p1.toInt < (nC : Int) ∧ r.toInt = (cv_val tol trn nC p1.toInt.toNat 8 : Int)) ∨ ((p1.toInt < 0 ∨ (nC : Int) ≤ p1.toInt) ∧ r.toInt = -1)) (fun (u : Int32) (t : State) => va_P (dC, dI) classes [(oM, .inr (5, [.int u, .ref aTx, .int siz, .ref aBg, .ref aEn, .ref aLe, .ref aMa, .ref aFi, .int lnm, .int rsm, .ref aHe, .int bxs, .int wdt, .int hgh, .ref aCa, .ref aTo, .int byn, .ref aTu, .int pgm, .int tpm, .int stn, .int lnx, .int lny])), (aTo, .inl (cI, 12, .inl tol)), (aTu, .inl (cZ, 117, .inl trn))] t.heap ∧ va_K (dC, dI) classes [(cI, .int), (cZ, .boolean)] t ∧ va_D (A) [(oM, .inr (5, [.int u, .ref aTx, .int siz, .ref aBg, .ref aEn, .ref aLe, .ref aMa, .ref aFi, .int lnm, .int rsm, .ref aHe, .int bxs, .int wdt, .int hgh, .ref aCa, .ref aTo, .int byn, .ref aTu, .int pgm, .int tpm, .int stn, .int lnx, .int lny])), (aTo, .inl (cI, 12, .inl tol)), (aTu, .inl (cZ, 117, .inl trn))]) (A)) ([.ref oM, .int p1] : List Value).toArray s 0 0 A) (F0 m 25 ls []) := by
      intro n25
      induction n25 with
      | zero => intro k x2 x3 hmz25; omega
      | succ n25 ih25 =>
        intro k x2 x3 hmz25 hk e3 e2 H locs hP hD hS ls hl
        have hvb := cv_val_b (tol := tol) (trn := trn) (n := nC) (y := y) hk
        refine lv_iload_n hx hb d_Mod_byteAt_25 rfl (lv_at hl 3 rfl) ?_
        refine lv_bipush (v := 8) hx hb d_Mod_byteAt_26 (by decide) ?_
        refine xi_icmp_ge (tgt := 56) hx hb e3 (show (8 : Int32).toInt = 8 by decide) d_Mod_byteAt_28 (by decide) (fun c28 => ?_) (fun c28 => ?_)
        · refine lv_iload_n hx hb d_Mod_byteAt_56 rfl (lv_at hl 2 rfl) ?_
          have hk8 : k = 8 := by omega
          rw [hk8] at e2
          exact W.iret (v := x2) hx hb hr (fun t ht hW => ⟨⟨x2, 0, rfl, (show (0 ≤ p1.toInt ∧ p1.toInt < (nC : Int) ∧ x2.toInt = (cv_val tol trn nC p1.toInt.toNat 8 : Int)) ∨ ((p1.toInt < 0 ∨ (nC : Int) ≤ p1.toInt) ∧ x2.toInt = -1) from (Or.inl ⟨by omega, by omega, by rw [hyn0]; exact e2⟩)), by rw [ht]; exact hP, va_K.moved hW.alike hK, hD⟩, hS.F ht⟩) hS.2.2 d_Mod_byteAt_57
        · refine lv_iconst (v := 2) hx hb d_Mod_byteAt_31 (by decide) ?_
          refine lv_iload_n hx hb d_Mod_byteAt_32 rfl (lv_at hl 2 rfl) ?_
          refine lv_imul hx hb d_Mod_byteAt_33 ?_
          have a33 : (2 * x2).toInt = ((2 * (cv_val tol trn nC y k) : Nat) : Int) := xi_mulN (show (2 : Int32).toInt = 2 by decide) e2 (by omega)
          refine lv_aload_n hx hb d_Mod_byteAt_34 rfl (lv_at hl 0 rfl) ?_
          refine lv_iload_n hx hb d_Mod_byteAt_35 rfl (lv_at hl 3 rfl) ?_
          refine lv_iload_n hx hb d_Mod_byteAt_36 rfl (lv_at hl 1 rfl) ?_
          have hPc := hP.sub (ws' := [(oM, .inr (5, [.int 0, .ref aTx, .int siz, .ref aBg, .ref aEn, .ref aLe, .ref aMa, .ref aFi, .int lnm, .int rsm, .ref aHe, .int bxs, .int wdt, .int hgh, .ref aCa, .ref aTo, .int byn, .ref aTu, .int pgm, .int tpm, .int stn, .int lnx, .int lny])), (aTo, .inl (cI, 12, .inl tol)), (aTu, .inl (cZ, 117, .inl trn))]) [0, 1, 2] rfl
          have hDc := hD.sub (ws' := [(oM, .inr (5, [.int 0, .ref aTx, .int siz, .ref aBg, .ref aEn, .ref aLe, .ref aMa, .ref aFi, .int lnm, .int rsm, .ref aHe, .int bxs, .int wdt, .int hgh, .ref aCa, .ref aTo, .int byn, .ref aTu, .int pgm, .int tpm, .int stn, .int lnx, .int lny])), (aTo, .inl (cI, 12, .inl tol)), (aTu, .inl (cZ, 117, .inl trn))]) [0, 1, 2] (by decide) rfl
          have hFc := va_free (wc := [(oM, .inr (5, [.int 0, .ref aTx, .int siz, .ref aBg, .ref aEn, .ref aLe, .ref aMa, .ref aFi, .int lnm, .int rsm, .ref aHe, .int bxs, .int wdt, .int hgh, .ref aCa, .ref aTo, .int byn, .ref aTu, .int pgm, .int tpm, .int stn, .int lnx, .int lny])), (aTo, .inl (cI, 12, .inl tol)), (aTu, .inl (cZ, 117, .inl trn))]) hD hS hA [0, 1, 2] rfl
          refine va_calli (va_runV (As := [.int x3, .int p1]) (rest := [.int (2 * x2)]) ⟨hx, hb, hml, hown, hts⟩ (k_Mod_isDark l dC dI cI cZ oM aTo aTu 0 aTx siz aBg aEn aLe aMa aFi lnm rsm aHe bxs wdt hgh aCa byn pgm tpm stn lnx lny tol trn H.size x3 p1 nC k y hc hc12 e3 hpy (by omega) (by omega) h01) (cwV 2 hts g_Mod_byteAt_Mod_isDark rfl rfl rfl (by decide +kernel) ⟨Nat.le_of_ble_eq_true rfl, Nat.le_of_ble_eq_true rfl⟩) ⟨fun a U g mk q => by obtain ⟨q0, q1, qP, qK, qD⟩ := q; exact ⟨q0, q1, qP, va_K.moved (u := U) (U := U.calling g mk a) (Vm.Alike.refl U.vm) qK, qD⟩, va_recv hK hPc (ci := 5) (q0 := 0) rfl rfl, fun U hU hW => ⟨rfl, by rw [hU], by rw [hU]; exact hPc, va_K.moved hW.alike hK, hDc.weaken (fun _ _ _ _ => trivial)⟩⟩ rfl rfl hl.1 rfl (lv_room (Nat.le_of_ble_eq_true rfl)) d_Mod_byteAt_37 ⟨Nat.le_of_ble_eq_true rfl, Nat.le_of_ble_eq_true rfl⟩) hS (fun q _ h => hFc q h) hFc (fun r37 u t H1 locs ht hvm hw hB hz1 hk1 hS => ?_)
          have w37 : (r37.toInt = 1 ∧ cm_dark tol trn nC k y = true) ∨ (r37.toInt = 0 ∧ cm_dark tol trn nC k y = false) := hw
          obtain ⟨hP1, hK1, hD1⟩ := hB
          rw [ht] at hP1
          obtain ⟨hP, hD⟩ := va_join (wr := []) (w1 := [(oM, .inr (5, [.int 0, .ref aTx, .int siz, .ref aBg, .ref aEn, .ref aLe, .ref aMa, .ref aFi, .int lnm, .int rsm, .ref aHe, .int bxs, .int wdt, .int hgh, .ref aCa, .ref aTo, .int byn, .ref aTu, .int pgm, .int tpm, .int stn, .int lnx, .int lny])), (aTo, .inl (cI, 12, .inl tol)), (aTu, .inl (cZ, 117, .inl trn))]) hP hD [0, 1, 2] [] rfl rfl (by decide) (by decide) hk1 hFc hP1 hD1
          generalize H1 = H at hP hS ⊢
          have hP : va_P (dC, dI) classes [(oM, .inr (5, [.int 0, .ref aTx, .int siz, .ref aBg, .ref aEn, .ref aLe, .ref aMa, .ref aFi, .int lnm, .int rsm, .ref aHe, .int bxs, .int wdt, .int hgh, .ref aCa, .ref aTo, .int byn, .ref aTu, .int pgm, .int tpm, .int stn, .int lnx, .int lny])), (aTo, .inl (cI, 12, .inl tol)), (aTu, .inl (cZ, 117, .inl trn))] H := hP
          have hD : va_D A [(oM, .inr (5, [.int 0, .ref aTx, .int siz, .ref aBg, .ref aEn, .ref aLe, .ref aMa, .ref aFi, .int lnm, .int rsm, .ref aHe, .int bxs, .int wdt, .int hgh, .ref aCa, .ref aTo, .int byn, .ref aTu, .int pgm, .int tpm, .int stn, .int lnx, .int lny])), (aTo, .inl (cI, 12, .inl tol)), (aTu, .inl (cZ, 117, .inl trn))] := hD
          refine xi_if_eq (tgt := 47) hx hb (rfl) d_Mod_byteAt_40 (by decide) (fun c40 => ?_) (fun c40 => ?_)
          · refine lv_iconst (v := 0) hx hb d_Mod_byteAt_47 (by decide) ?_
            refine lv_iadd hx hb d_Mod_byteAt_48 ?_
            have a48 : ((2 * x2) + 0).toInt = (((2 * (cv_val tol trn nC y k) : Nat) : Int) + 0) := xi_add a33 (show (0 : Int32).toInt = 0 by decide) (by omega) (by omega)
            refine lv_topi (fun v49 ev49 => ?_)
            have fv49 : v49.toInt = (((2 * (cv_val tol trn nC y k) : Nat) : Int) + 0) := by rw [ev49]; exact a48
            refine lv_istore_n (lv' := [(2, .int v49), (0, .ref oM), (1, .int p1), (3, .int x3)]) hx hb d_Mod_byteAt_49 rfl hl (by decide) rfl (fun ls hl => ?_)
            obtain ⟨v50, ev50⟩ : ∃ y : Int32, y = (x3 + 1) := ⟨_, rfl⟩
            have fv50 : v50.toInt = ((k : Int) + 1) := by rw [ev50]; exact xi_add e3 (show (1 : Int32).toInt = 1 by decide) (by omega) (by omega)
            refine lv_iinc (v := v50) (lv' := [(3, .int v50), (2, .int v49), (0, .ref oM), (1, .int p1)]) hx hb d_Mod_byteAt_50 hl (k := 3) rfl (by rw [ev50]; rfl) (by decide) rfl (fun ls hl => ?_)
            refine lv_goto (tgt := 25) hx hb d_Mod_byteAt_53 (by decide) ?_
            have hdk : cm_dark tol trn nC k y = false := by rcases w37 with q | q; omega; exact q.2
            exact ih25 (k + 1) v49 v50 (by omega) (by omega) (by omega) (by rw [cv_val, if_neg (by rw [hdk]; decide)]; omega) _ _ hP hD hS ls (lv_sub hl [2, 3, 1, 0] rfl)
          · refine lv_iconst (v := 1) hx hb d_Mod_byteAt_43 (by decide) ?_
            refine lv_goto (tgt := 48) hx hb d_Mod_byteAt_44 (by decide) ?_
            refine lv_iadd hx hb d_Mod_byteAt_48 ?_
            have a48 : ((2 * x2) + 1).toInt = (((2 * (cv_val tol trn nC y k) : Nat) : Int) + 1) := xi_add a33 (show (1 : Int32).toInt = 1 by decide) (by omega) (by omega)
            refine lv_topi (fun v49 ev49 => ?_)
            have fv49 : v49.toInt = (((2 * (cv_val tol trn nC y k) : Nat) : Int) + 1) := by rw [ev49]; exact a48
            refine lv_istore_n (lv' := [(2, .int v49), (0, .ref oM), (1, .int p1), (3, .int x3)]) hx hb d_Mod_byteAt_49 rfl hl (by decide) rfl (fun ls hl => ?_)
            obtain ⟨v50, ev50⟩ : ∃ y : Int32, y = (x3 + 1) := ⟨_, rfl⟩
            have fv50 : v50.toInt = ((k : Int) + 1) := by rw [ev50]; exact xi_add e3 (show (1 : Int32).toInt = 1 by decide) (by omega) (by omega)
            refine lv_iinc (v := v50) (lv' := [(3, .int v50), (2, .int v49), (0, .ref oM), (1, .int p1)]) hx hb d_Mod_byteAt_50 hl (k := 3) rfl (by rw [ev50]; rfl) (by decide) rfl (fun ls hl => ?_)
            refine lv_goto (tgt := 25) hx hb d_Mod_byteAt_53 (by decide) ?_
            have hdk : cm_dark tol trn nC k y = true := by rcases w37 with q | q; exact q.2; omega
            exact ih25 (k + 1) v49 v50 (by omega) (by omega) (by omega) (by rw [cv_val, if_pos hdk]; omega) _ _ hP hD hS ls (lv_sub hl [2, 3, 1, 0] rfl)
    exact loop25 9 0 0 0 (by omega) (by omega) (by decide) (show (0 : Int32).toInt = ((0 : Nat) : Int) by decide) _ _ hP hD hS ls (lv_sub hl [2, 3, 1, 0] rfl)
  · refine lv_iconst (v := (-1)) hx hb d_Mod_byteAt_19 (by decide) ?_
    exact W.iret (v := (-1)) hx hb hr (fun t ht hW => ⟨⟨(-1), 0, rfl, (show (0 ≤ p1.toInt ∧ p1.toInt < (nC : Int) ∧ ((-1) : Int32).toInt = (cv_val tol trn nC p1.toInt.toNat 8 : Int)) ∨ ((p1.toInt < 0 ∨ (nC : Int) ≤ p1.toInt) ∧ ((-1) : Int32).toInt = -1) from (Or.inr ⟨by omega, by decide⟩)), by rw [ht]; exact hP, va_K.moved hW.alike hK, hD⟩, hS.F ht⟩) hS.2.2 d_Mod_byteAt_20
