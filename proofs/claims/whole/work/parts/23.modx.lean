set_option maxHeartbeats 4000000 in
set_option maxRecDepth 100000 in
theorem k_Mod_box (l : Launch) (dC : Nat → ClassId) (dI : Nat → Nat → Nat) (cI cZ : ClassId) (oM : Nat) (aHe : Nat) (thr : Int32) (aTx : Nat) (siz : Int32) (aBg : Nat) (aEn : Nat) (aLe : Nat) (aMa : Nat) (aFi : Nat) (lnm : Int32) (rsm : Int32) (bxs : Int32) (wdt : Int32) (hgh : Int32) (aCa : Nat) (aTo : Nat) (byn : Int32) (aTu : Nat) (pgm : Int32) (tpm : Int32) (stn : Int32) (lnx : Int32) (lny : Int32) (hei : Nat → Int32) (sz : Nat) (p1 : Int32) (hI : bq_I bxs hei) : Met l y_Mod_box w_Mod_box ({ frames := 1, cells := 0, slots := 0, locals := 22 }) (va_Pc [.ref oM, .int p1] (fun U => U.heap.size = sz ∧ va_P (dC, dI) classes [(oM, .inr (5, [.int thr, .ref aTx, .int siz, .ref aBg, .ref aEn, .ref aLe, .ref aMa, .ref aFi, .int lnm, .int rsm, .ref aHe, .int bxs, .int wdt, .int hgh, .ref aCa, .ref aTo, .int byn, .ref aTu, .int pgm, .int tpm, .int stn, .int lnx, .int lny])), (aHe, .inl (cI, 60, .inl hei))] U.heap ∧ va_K (dC, dI) classes [(cI, .int), (cZ, .boolean)] U ∧ va_D (fun _ => True) [(oM, .inr (5, [.int thr, .ref aTx, .int siz, .ref aBg, .ref aEn, .ref aLe, .ref aMa, .ref aFi, .int lnm, .int rsm, .ref aHe, .int bxs, .int wdt, .int hgh, .ref aCa, .ref aTo, .int byn, .ref aTu, .int pgm, .int tpm, .int stn, .int lnx, .int lny])), (aHe, .inl (cI, 60, .inl hei))])) (va_Qi (fun (r : Int32) (u : Int32 × Int32 × (Nat → Int32)) => bq_add bxs hei p1 r u.2.1 u.2.2) (fun (u : Int32 × Int32 × (Nat → Int32)) (t : State) => va_P (dC, dI) classes [(oM, .inr (5, [.int u.1, .ref aTx, .int siz, .ref aBg, .ref aEn, .ref aLe, .ref aMa, .ref aFi, .int lnm, .int rsm, .ref aHe, .int u.2.1, .int wdt, .int hgh, .ref aCa, .ref aTo, .int byn, .ref aTu, .int pgm, .int tpm, .int stn, .int lnx, .int lny])), (aHe, .inl (cI, 60, .inl u.2.2))] t.heap ∧ va_K (dC, dI) classes [(cI, .int), (cZ, .boolean)] t ∧ va_D (va_A [(oM, .inr (5, [.int thr, .ref aTx, .int siz, .ref aBg, .ref aEn, .ref aLe, .ref aMa, .ref aFi, .int lnm, .int rsm, .ref aHe, .int bxs, .int wdt, .int hgh, .ref aCa, .ref aTo, .int byn, .ref aTu, .int pgm, .int tpm, .int stn, .int lnx, .int lny])), (aHe, .inl (cI, 60, .inl hei))] sz) [(oM, .inr (5, [.int u.1, .ref aTx, .int siz, .ref aBg, .ref aEn, .ref aLe, .ref aMa, .ref aFi, .int lnm, .int rsm, .ref aHe, .int u.2.1, .int wdt, .int hgh, .ref aCa, .ref aTo, .int byn, .ref aTu, .int pgm, .int tpm, .int stn, .int lnx, .int lny])), (aHe, .inl (cI, 60, .inl u.2.2))]) (va_A [(oM, .inr (5, [.int thr, .ref aTx, .int siz, .ref aBg, .ref aEn, .ref aLe, .ref aMa, .ref aFi, .int lnm, .int rsm, .ref aHe, .int bxs, .int wdt, .int hgh, .ref aCa, .ref aTo, .int byn, .ref aTu, .int pgm, .int tpm, .int stn, .int lnx, .int lny])), (aHe, .inl (cI, 60, .inl hei))] sz)) 0 0 (va_A [(oM, .inr (5, [.int thr, .ref aTx, .int siz, .ref aBg, .ref aEn, .ref aLe, .ref aMa, .ref aFi, .int lnm, .int rsm, .ref aHe, .int bxs, .int wdt, .int hgh, .ref aCa, .ref aTo, .int byn, .ref aTu, .int pgm, .int tpm, .int stn, .int lnx, .int lny])), (aHe, .inl (cI, 60, .inl hei))] sz) := by
  refine Met.ofW (cc := b_Mod_box) (maxL := 2) (ret := (some .int)) (by decide) rfl ?_
  intro p e s m args below meth c s₁ B hml hv
  obtain ⟨rfl, hsz, hP, hK, hD0⟩ := hv
  have hx := B.exec
  have hb := B.bytes
  have hr := B.returns
  have hts := atoms_spec (ws := w_Mod_box) B.pre
  have hown : s.vm.findClass R_Mod = some m.cls := findClass_of_methodNamed B.named
  have hlocks := B.notSynchronized
  have hw_Mod : ∀ w ∈ w_Mod, w ∈ w_Mod_box := by decide +kernel
  subst hsz
  have hD := hD0.self (sz := s.heap.size)
  generalize hAe : va_A [(oM, .inr (5, [.int thr, .ref aTx, .int siz, .ref aBg, .ref aEn, .ref aLe, .ref aMa, .ref aFi, .int lnm, .int rsm, .ref aHe, .int bxs, .int wdt, .int hgh, .ref aCa, .ref aTo, .int byn, .ref aTu, .int pgm, .int tpm, .int stn, .int lnx, .int lny])), (aHe, .inl (cI, 60, .inl hei))] s.heap.size = A at hD ⊢
  have hA : ∀ q : Nat, s.heap.size ≤ q → A q := fun q h => by rw [← hAe]; exact Or.inr h
  have hS : va_S A s.heap s.heap [] := va_S.rf
  have hP : va_P (dC, dI) classes [(oM, .inr (5, [.int thr, .ref aTx, .int siz, .ref aBg, .ref aEn, .ref aLe, .ref aMa, .ref aFi, .int lnm, .int rsm, .ref aHe, .int bxs, .int wdt, .int hgh, .ref aCa, .ref aTo, .int byn, .ref aTu, .int pgm, .int tpm, .int stn, .int lnx, .int lny])), (aHe, .inl (cI, 60, .inl hei))] s.heap := hP
  have hl := lv_entry ([.ref oM, .int p1]) (n := 2) (Nat.le_of_ble_eq_true rfl)
  rw [lg_entry_eq]
  generalize (lg_sl ([.ref oM, .int p1]) ++ List.replicate (2 - (lg_sl ([.ref oM, .int p1])).length) Slot.unset).toArray = ls at hl ⊢
  have hl : lv_has ls 2 [(0, .ref oM), (1, .int p1)] := hl
  obtain ⟨nB, hnB, hn60, hh⟩ := hI
  refine lv_aload_n hx hb d_Mod_box_0 rfl (lv_at hl 0 rfl) ?_
  refine lv_iconst (v := 0) hx hb d_Mod_box_1 (by decide) ?_
  refine va_put (D := (dC, dI)) (ci := 5) (v := .int 0) (ty := .int) (C := R_Mod) (T := F_Mod) (N := 23) hx hb hts hw_Mod t_Mod t_Mod_ok n_Mod hown hK hP hD hS 0 rfl rfl 0 (by decide) (hts (.fieldLink R_Mod 48 "PageFormsModel" "thrown" "I") (by decide +kernel)) (fun _ h9 => h9) rfl (by decide +kernel) rfl rfl (Nat.le_of_ble_eq_true rfl) d_Mod_box_2 (fun H locs hP hD hS => ?_)
  have hP : va_P (dC, dI) classes [(oM, .inr (5, [.int 0, .ref aTx, .int siz, .ref aBg, .ref aEn, .ref aLe, .ref aMa, .ref aFi, .int lnm, .int rsm, .ref aHe, .int bxs, .int wdt, .int hgh, .ref aCa, .ref aTo, .int byn, .ref aTu, .int pgm, .int tpm, .int stn, .int lnx, .int lny])), (aHe, .inl (cI, 60, .inl hei))] H := hP
  have hD : va_D A [(oM, .inr (5, [.int 0, .ref aTx, .int siz, .ref aBg, .ref aEn, .ref aLe, .ref aMa, .ref aFi, .int lnm, .int rsm, .ref aHe, .int bxs, .int wdt, .int hgh, .ref aCa, .ref aTo, .int byn, .ref aTu, .int pgm, .int tpm, .int stn, .int lnx, .int lny])), (aHe, .inl (cI, 60, .inl hei))] := hD
  refine lv_iload_n hx hb d_Mod_box_5 rfl (lv_at hl 1 rfl) ?_
  refine lv_iconst (v := 1) hx hb d_Mod_box_6 (by decide) ?_
  refine lv_sipush (v := 1000) hx hb d_Mod_box_7 (by decide) ?_
  have hPc := hP.sub (ws' := []) [] rfl
  have hDc := hD.sub (ws' := []) [] (by decide) rfl
  have hFc := va_free (wc := []) hD hS hA [] rfl
  refine va_calli (va_runS (As := [.int p1, .int 1, .int 1000]) (rest := []) ⟨hx, hb, hml, hown, hts⟩ (k_Mod_within l dC dI cI cZ H.size p1 1 1000) (cwS 3 hts g_Mod_box_Mod_within rfl rfl rfl (by decide +kernel) ⟨Nat.le_of_ble_eq_true rfl, Nat.le_of_ble_eq_true rfl⟩) ⟨fun a U g mk q => by obtain ⟨q0, q1, qP, qK, qD⟩ := q; exact ⟨q0, q1, qP, va_K.moved (u := U) (U := U.calling g mk a) (Vm.Alike.refl U.vm) qK, qD⟩, fun U hU hW => ⟨rfl, by rw [hU], by rw [hU]; exact hPc, va_K.moved hW.alike hK, hDc.weaken (fun _ _ _ _ => trivial)⟩⟩ rfl rfl hl.1 rfl (lv_room (Nat.le_of_ble_eq_true rfl)) d_Mod_box_10 ⟨Nat.le_of_ble_eq_true rfl, Nat.le_of_ble_eq_true rfl⟩) hS (fun q _ h => hFc q h) hFc (fun r10 u t H1 locs ht hvm hw hB hz1 hk1 hS => ?_)
  have w10 : (r10.toInt = 1 ∧ 1 ≤ p1.toInt ∧ p1.toInt ≤ 1000) ∨ (r10.toInt = 0 ∧ (p1.toInt < 1 ∨ 1000 < p1.toInt)) := hw
  obtain ⟨hP1, hK1, hD1⟩ := hB
  rw [ht] at hP1
  obtain ⟨hP, hD⟩ := va_join (wr := [(oM, .inr (5, [.int 0, .ref aTx, .int siz, .ref aBg, .ref aEn, .ref aLe, .ref aMa, .ref aFi, .int lnm, .int rsm, .ref aHe, .int bxs, .int wdt, .int hgh, .ref aCa, .ref aTo, .int byn, .ref aTu, .int pgm, .int tpm, .int stn, .int lnx, .int lny])), (aHe, .inl (cI, 60, .inl hei))]) (w1 := []) hP hD [] [0, 1] rfl rfl (by decide) (by decide) hk1 hFc hP1 hD1
  generalize H1 = H at hP hS ⊢
  have hP : va_P (dC, dI) classes [(oM, .inr (5, [.int 0, .ref aTx, .int siz, .ref aBg, .ref aEn, .ref aLe, .ref aMa, .ref aFi, .int lnm, .int rsm, .ref aHe, .int bxs, .int wdt, .int hgh, .ref aCa, .ref aTo, .int byn, .ref aTu, .int pgm, .int tpm, .int stn, .int lnx, .int lny])), (aHe, .inl (cI, 60, .inl hei))] H := hP
  have hD : va_D A [(oM, .inr (5, [.int 0, .ref aTx, .int siz, .ref aBg, .ref aEn, .ref aLe, .ref aMa, .ref aFi, .int lnm, .int rsm, .ref aHe, .int bxs, .int wdt, .int hgh, .ref aCa, .ref aTo, .int byn, .ref aTu, .int pgm, .int tpm, .int stn, .int lnx, .int lny])), (aHe, .inl (cI, 60, .inl hei))] := hD
  refine xi_if_eq (tgt := 25) hx hb (rfl) d_Mod_box_13 (by decide) (fun c13 => ?_) (fun c13 => ?_)
  · refine lv_iconst (v := (-1)) hx hb d_Mod_box_25 (by decide) ?_
    exact W.iret (v := (-1)) hx hb hr (fun t ht hW => ⟨⟨(-1), (0, bxs, hei), rfl, (show bq_add bxs hei p1 ((-1) : Int32) bxs hei from (Or.inr ⟨by omega, by decide, rfl, rfl⟩)), by rw [ht]; exact hP, va_K.moved hW.alike hK, hD⟩, hS.F ht⟩) hS.2.2 d_Mod_box_26
  · refine lv_aload_n hx hb d_Mod_box_16 rfl (lv_at hl 0 rfl) ?_
    refine va_get (D := (dC, dI)) (ci := 5) (v := .int bxs) (C := R_Mod) (T := F_Mod) (N := 23) hx hb hts hw_Mod hown hK hP 0 rfl rfl 11 (by decide) (hts (.fieldLink R_Mod 72 "PageFormsModel" "boxes" "I") (by decide +kernel)) (fun _ h9 => h9) rfl d_Mod_box_17 ?_
    refine lv_bipush (v := 60) hx hb d_Mod_box_20 (by decide) ?_
    refine xi_icmp_ne (tgt := 27) hx hb hnB (show (60 : Int32).toInt = 60 by decide) d_Mod_box_22 (by decide) (fun c22 => ?_) (fun c22 => ?_)
    · refine lv_aload_n hx hb d_Mod_box_27 rfl (lv_at hl 0 rfl) ?_
      refine va_get (D := (dC, dI)) (ci := 5) (v := .ref aHe) (C := R_Mod) (T := F_Mod) (N := 23) hx hb hts hw_Mod hown hK hP 0 rfl rfl 10 (by decide) (hts (.fieldLink R_Mod 28 "PageFormsModel" "height" "[I") (by decide +kernel)) (fun _ h9 => h9) rfl d_Mod_box_28 ?_
      refine lv_aload_n hx hb d_Mod_box_31 rfl (lv_at hl 0 rfl) ?_
      refine va_get (D := (dC, dI)) (ci := 5) (v := .int bxs) (C := R_Mod) (T := F_Mod) (N := 23) hx hb hts hw_Mod hown hK hP 0 rfl rfl 11 (by decide) (hts (.fieldLink R_Mod 72 "PageFormsModel" "boxes" "I") (by decide +kernel)) (fun _ h9 => h9) rfl d_Mod_box_32 ?_
      refine lv_iload_n hx hb d_Mod_box_35 rfl (lv_at hl 1 rfl) ?_
      refine xa_iast hx hb hK hP hD hS 1 0 rfl rfl hnB nB (by omega) (by omega) d_Mod_box_36 (fun H locs hP hD hS => ?_)
      have hP : va_P (dC, dI) classes [(oM, .inr (5, [.int 0, .ref aTx, .int siz, .ref aBg, .ref aEn, .ref aLe, .ref aMa, .ref aFi, .int lnm, .int rsm, .ref aHe, .int bxs, .int wdt, .int hgh, .ref aCa, .ref aTo, .int byn, .ref aTu, .int pgm, .int tpm, .int stn, .int lnx, .int lny])), (aHe, .inl (cI, 60, .inl (upd hei nB p1)))] H := hP
      have hD : va_D A [(oM, .inr (5, [.int 0, .ref aTx, .int siz, .ref aBg, .ref aEn, .ref aLe, .ref aMa, .ref aFi, .int lnm, .int rsm, .ref aHe, .int bxs, .int wdt, .int hgh, .ref aCa, .ref aTo, .int byn, .ref aTu, .int pgm, .int tpm, .int stn, .int lnx, .int lny])), (aHe, .inl (cI, 60, .inl (upd hei nB p1)))] := hD
      refine lv_aload_n hx hb d_Mod_box_37 rfl (lv_at hl 0 rfl) ?_
      refine lv_dup hx hb d_Mod_box_38 rfl ?_
      refine va_get (D := (dC, dI)) (ci := 5) (v := .int bxs) (C := R_Mod) (T := F_Mod) (N := 23) hx hb hts hw_Mod hown hK hP 0 rfl rfl 11 (by decide) (hts (.fieldLink R_Mod 72 "PageFormsModel" "boxes" "I") (by decide +kernel)) (fun _ h9 => h9) rfl d_Mod_box_39 ?_
      refine lv_iconst (v := 1) hx hb d_Mod_box_42 (by decide) ?_
      refine lv_iadd hx hb d_Mod_box_43 ?_
      have a43 : (bxs + 1).toInt = ((nB : Int) + 1) := xi_add hnB (show (1 : Int32).toInt = 1 by decide) (by omega) (by omega)
      refine lv_topi (fun v44 ev44 => ?_)
      have fv44 : v44.toInt = ((nB : Int) + 1) := by rw [ev44]; exact a43
      refine va_put (D := (dC, dI)) (ci := 5) (v := .int v44) (ty := .int) (C := R_Mod) (T := F_Mod) (N := 23) hx hb hts hw_Mod t_Mod t_Mod_ok n_Mod hown hK hP hD hS 0 rfl rfl 11 (by decide) (hts (.fieldLink R_Mod 72 "PageFormsModel" "boxes" "I") (by decide +kernel)) (fun _ h9 => h9) rfl (by decide +kernel) rfl rfl (Nat.le_of_ble_eq_true rfl) d_Mod_box_44 (fun H locs hP hD hS => ?_)
      have hP : va_P (dC, dI) classes [(oM, .inr (5, [.int 0, .ref aTx, .int siz, .ref aBg, .ref aEn, .ref aLe, .ref aMa, .ref aFi, .int lnm, .int rsm, .ref aHe, .int v44, .int wdt, .int hgh, .ref aCa, .ref aTo, .int byn, .ref aTu, .int pgm, .int tpm, .int stn, .int lnx, .int lny])), (aHe, .inl (cI, 60, .inl (upd hei nB p1)))] H := hP
      have hD : va_D A [(oM, .inr (5, [.int 0, .ref aTx, .int siz, .ref aBg, .ref aEn, .ref aLe, .ref aMa, .ref aFi, .int lnm, .int rsm, .ref aHe, .int v44, .int wdt, .int hgh, .ref aCa, .ref aTo, .int byn, .ref aTu, .int pgm, .int tpm, .int stn, .int lnx, .int lny])), (aHe, .inl (cI, 60, .inl (upd hei nB p1)))] := hD
      refine lv_aload_n hx hb d_Mod_box_47 rfl (lv_at hl 0 rfl) ?_
      refine va_get (D := (dC, dI)) (ci := 5) (v := .int v44) (C := R_Mod) (T := F_Mod) (N := 23) hx hb hts hw_Mod hown hK hP 0 rfl rfl 11 (by decide) (hts (.fieldLink R_Mod 72 "PageFormsModel" "boxes" "I") (by decide +kernel)) (fun _ h9 => h9) rfl d_Mod_box_48 ?_
      refine lv_iconst (v := 1) hx hb d_Mod_box_51 (by decide) ?_
      refine lv_isub hx hb d_Mod_box_52 ?_
      have a52 : (v44 - 1).toInt = (((nB : Int) + 1) - 1) := xi_sub fv44 (show (1 : Int32).toInt = 1 by decide) (by omega) (by omega)
      exact W.iret (v := (v44 - 1)) hx hb hr (fun t ht hW => ⟨⟨(v44 - 1), (0, v44, (upd hei nB p1)), rfl, (show bq_add bxs hei p1 (v44 - 1) v44 (upd hei nB p1) from (Or.inl ⟨by omega, by omega, by omega, by omega, by omega, by rw [hnB]; rfl⟩)), by rw [ht]; exact hP, va_K.moved hW.alike hK, hD⟩, hS.F ht⟩) hS.2.2 d_Mod_box_53
    · refine lv_iconst (v := (-1)) hx hb d_Mod_box_25 (by decide) ?_
      exact W.iret (v := (-1)) hx hb hr (fun t ht hW => ⟨⟨(-1), (0, bxs, hei), rfl, (show bq_add bxs hei p1 ((-1) : Int32) bxs hei from (Or.inr ⟨by omega, by decide, rfl, rfl⟩)), by rw [ht]; exact hP, va_K.moved hW.alike hK, hD⟩, hS.F ht⟩) hS.2.2 d_Mod_box_26

set_option maxHeartbeats 4000000 in
set_option maxRecDepth 100000 in
theorem k_Mod_isPage (l : Launch) (dC : Nat → ClassId) (dI : Nat → Nat → Nat) (cI cZ : ClassId) (sz : Nat) (p0 : Int32) (p1 : Int32) : Met l y_Mod_isPage w_Mod_isPage ({ frames := 1, cells := 0, slots := 0, locals := 22 }) (va_Pc [.int p0, .int p1] (fun U => U.heap.size = sz ∧ va_P (dC, dI) classes [] U.heap ∧ va_K (dC, dI) classes [(cI, .int), (cZ, .boolean)] U ∧ va_D (fun _ => True) [])) (va_Qi (fun (r : Int32) (u : Unit) => (r.toInt = 1 ∧ bq_ok p0.toInt p1.toInt) ∨ (r.toInt = 0 ∧ ¬ bq_ok p0.toInt p1.toInt)) (fun (u : Unit) (t : State) => va_P (dC, dI) classes [] t.heap ∧ va_K (dC, dI) classes [(cI, .int), (cZ, .boolean)] t ∧ va_D (va_A [] sz) []) (va_A [] sz)) 0 0 (va_A [] sz) := by
  refine Met.ofW (cc := b_Mod_isPage) (maxL := 2) (ret := (some .boolean)) (by decide) rfl ?_
  intro p e s m args below meth c s₁ B hml hv
  obtain ⟨rfl, hsz, hP, hK, hD0⟩ := hv
  have hx := B.exec
  have hb := B.bytes
  have hr := B.returns
  have hts := atoms_spec (ws := w_Mod_isPage) B.pre
  have hown : s.vm.findClass R_Mod = some m.cls := findClass_of_methodNamed B.named
  have hlocks := B.notSynchronized
  subst hsz
  have hD := hD0.self (sz := s.heap.size)
  generalize hAe : va_A [] s.heap.size = A at hD ⊢
  have hA : ∀ q : Nat, s.heap.size ≤ q → A q := fun q h => by rw [← hAe]; exact Or.inr h
  have hS : va_S A s.heap s.heap [] := va_S.rf
  have hP : va_P (dC, dI) classes [] s.heap := hP
  have hl := lv_entry ([.int p0, .int p1]) (n := 2) (Nat.le_of_ble_eq_true rfl)
  rw [lg_entry_eq]
  generalize (lg_sl ([.int p0, .int p1]) ++ List.replicate (2 - (lg_sl ([.int p0, .int p1])).length) Slot.unset).toArray = ls at hl ⊢
  have hl : lv_has ls 2 [(0, .int p0), (1, .int p1)] := hl
  refine lv_iload_n hx hb d_Mod_isPage_0 rfl (lv_at hl 0 rfl) ?_
  refine lv_iconst (v := 1) hx hb d_Mod_isPage_1 (by decide) ?_
  refine lv_sipush (v := 1000) hx hb d_Mod_isPage_2 (by decide) ?_
  have hPc := hP.sub (ws' := []) [] rfl
  have hDc := hD.sub (ws' := []) [] (by decide) rfl
  have hFc := va_free (wc := []) hD hS hA [] rfl
  refine va_calli (va_runS (As := [.int p0, .int 1, .int 1000]) (rest := []) ⟨hx, hb, hml, hown, hts⟩ (k_Mod_within l dC dI cI cZ s.heap.size p0 1 1000) (cwS 3 hts g_Mod_isPage_Mod_within rfl rfl rfl (by decide +kernel) ⟨Nat.le_of_ble_eq_true rfl, Nat.le_of_ble_eq_true rfl⟩) ⟨fun a U g mk q => by obtain ⟨q0, q1, qP, qK, qD⟩ := q; exact ⟨q0, q1, qP, va_K.moved (u := U) (U := U.calling g mk a) (Vm.Alike.refl U.vm) qK, qD⟩, fun U hU hW => ⟨rfl, by rw [hU], by rw [hU]; exact hPc, va_K.moved hW.alike hK, hDc.weaken (fun _ _ _ _ => trivial)⟩⟩ rfl rfl hl.1 rfl (lv_room (Nat.le_of_ble_eq_true rfl)) d_Mod_isPage_5 ⟨Nat.le_of_ble_eq_true rfl, Nat.le_of_ble_eq_true rfl⟩) hS (fun q _ h => hFc q h) hFc (fun r5 u t H1 locs ht hvm hw hB hz1 hk1 hS => ?_)
  have w5 : (r5.toInt = 1 ∧ 1 ≤ p0.toInt ∧ p0.toInt ≤ 1000) ∨ (r5.toInt = 0 ∧ (p0.toInt < 1 ∨ 1000 < p0.toInt)) := hw
  obtain ⟨hP1, hK1, hD1⟩ := hB
  rw [ht] at hP1
  obtain ⟨hP, hD⟩ := va_join (wr := []) (w1 := []) hP hD [] [] rfl rfl (by decide) (by decide) hk1 hFc hP1 hD1
  generalize H1 = H at hP hS ⊢
  have hP : va_P (dC, dI) classes [] H := hP
  have hD : va_D A [] := hD
  refine xi_if_eq (tgt := 25) hx hb (rfl) d_Mod_isPage_8 (by decide) (fun c8 => ?_) (fun c8 => ?_)
  · refine lv_iconst (v := 0) hx hb d_Mod_isPage_25 (by decide) ?_
    exact W.zret (v := 0) hx hb hr rfl (fun t ht hW => ⟨⟨0, (), rfl, (show (0 = 1 ∧ bq_ok p0.toInt p1.toInt) ∨ (0 = 0 ∧ ¬ bq_ok p0.toInt p1.toInt) from (by unfold bq_ok; first | exact Or.inl ⟨by decide, by omega⟩ | exact Or.inr ⟨by decide, by omega⟩)), by rw [ht]; exact hP, va_K.moved hW.alike hK, hD⟩, hS.F ht⟩) hS.2.2 d_Mod_isPage_26
  · refine lv_iload_n hx hb d_Mod_isPage_11 rfl (lv_at hl 1 rfl) ?_
    refine lv_iconst (v := 0) hx hb d_Mod_isPage_12 (by decide) ?_
    refine lv_bipush (v := 100) hx hb d_Mod_isPage_13 (by decide) ?_
    have hPc := hP.sub (ws' := []) [] rfl
    have hDc := hD.sub (ws' := []) [] (by decide) rfl
    have hFc := va_free (wc := []) hD hS hA [] rfl
    refine va_calli (va_runS (As := [.int p1, .int 0, .int 100]) (rest := []) ⟨hx, hb, hml, hown, hts⟩ (k_Mod_within l dC dI cI cZ H.size p1 0 100) (cwS 3 hts g_Mod_isPage_Mod_within rfl rfl rfl (by decide +kernel) ⟨Nat.le_of_ble_eq_true rfl, Nat.le_of_ble_eq_true rfl⟩) ⟨fun a U g mk q => by obtain ⟨q0, q1, qP, qK, qD⟩ := q; exact ⟨q0, q1, qP, va_K.moved (u := U) (U := U.calling g mk a) (Vm.Alike.refl U.vm) qK, qD⟩, fun U hU hW => ⟨rfl, by rw [hU], by rw [hU]; exact hPc, va_K.moved hW.alike hK, hDc.weaken (fun _ _ _ _ => trivial)⟩⟩ rfl rfl hl.1 rfl (lv_room (Nat.le_of_ble_eq_true rfl)) d_Mod_isPage_15 ⟨Nat.le_of_ble_eq_true rfl, Nat.le_of_ble_eq_true rfl⟩) hS (fun q _ h => hFc q h) hFc (fun r15 u t H1 locs ht hvm hw hB hz1 hk1 hS => ?_)
    have w15 : (r15.toInt = 1 ∧ 0 ≤ p1.toInt ∧ p1.toInt ≤ 100) ∨ (r15.toInt = 0 ∧ (p1.toInt < 0 ∨ 100 < p1.toInt)) := hw
    obtain ⟨hP1, hK1, hD1⟩ := hB
    rw [ht] at hP1
    obtain ⟨hP, hD⟩ := va_join (wr := []) (w1 := []) hP hD [] [] rfl rfl (by decide) (by decide) hk1 hFc hP1 hD1
    generalize H1 = H at hP hS ⊢
    have hP : va_P (dC, dI) classes [] H := hP
    have hD : va_D A [] := hD
    refine xi_if_eq (tgt := 25) hx hb (rfl) d_Mod_isPage_18 (by decide) (fun c18 => ?_) (fun c18 => ?_)
    · refine lv_iconst (v := 0) hx hb d_Mod_isPage_25 (by decide) ?_
      exact W.zret (v := 0) hx hb hr rfl (fun t ht hW => ⟨⟨0, (), rfl, (show (0 = 1 ∧ bq_ok p0.toInt p1.toInt) ∨ (0 = 0 ∧ ¬ bq_ok p0.toInt p1.toInt) from (by unfold bq_ok; first | exact Or.inl ⟨by decide, by omega⟩ | exact Or.inr ⟨by decide, by omega⟩)), by rw [ht]; exact hP, va_K.moved hW.alike hK, hD⟩, hS.F ht⟩) hS.2.2 d_Mod_isPage_26
    · refine lv_iconst (v := 1) hx hb d_Mod_isPage_21 (by decide) ?_
      refine lv_goto (tgt := 26) hx hb d_Mod_isPage_22 (by decide) ?_
      exact W.zret (v := 1) hx hb hr rfl (fun t ht hW => ⟨⟨1, (), rfl, (show (1 = 1 ∧ bq_ok p0.toInt p1.toInt) ∨ (1 = 0 ∧ ¬ bq_ok p0.toInt p1.toInt) from (by unfold bq_ok; first | exact Or.inl ⟨by decide, by omega⟩ | exact Or.inr ⟨by decide, by omega⟩)), by rw [ht]; exact hP, va_K.moved hW.alike hK, hD⟩, hS.F ht⟩) hS.2.2 d_Mod_isPage_26

set_option maxHeartbeats 4000000 in
set_option maxRecDepth 100000 in
theorem k_Mod_putUpTo (l : Launch) (dC : Nat → ClassId) (dI : Nat → Nat → Nat) (cI cZ : ClassId) (oM : Nat) (aHe : Nat) (thr : Int32) (aTx : Nat) (siz : Int32) (aBg : Nat) (aEn : Nat) (aLe : Nat) (aMa : Nat) (aFi : Nat) (lnm : Int32) (rsm : Int32) (bxs : Int32) (wdt : Int32) (hgh : Int32) (aCa : Nat) (aTo : Nat) (byn : Int32) (aTu : Nat) (pgm : Int32) (tpm : Int32) (stn : Int32) (lnx : Int32) (lny : Int32) (hei : Nat → Int32) (sz : Nat) (p1 : Int32) (p2 : Int32) (p3 : Int32) (nN : Nat) (hnN : p1.toInt = (nN : Int) - 1) (hn60 : nN ≤ 60) (hh : ∀ j, j < nN → 1 ≤ (hei j).toInt ∧ (hei j).toInt ≤ 1000) (hht : p2.toInt ≤ 1000) (hg : 0 ≤ p3.toInt ∧ p3.toInt ≤ 100) : Met l y_Mod_putUpTo w_Mod_putUpTo ({ frames := 0, cells := 0, slots := 0, locals := 0 }) (va_Pc [.ref oM, .int p1, .int p2, .int p3] (fun U => U.heap.size = sz ∧ va_P (dC, dI) classes [(oM, .inr (5, [.int thr, .ref aTx, .int siz, .ref aBg, .ref aEn, .ref aLe, .ref aMa, .ref aFi, .int lnm, .int rsm, .ref aHe, .int bxs, .int wdt, .int hgh, .ref aCa, .ref aTo, .int byn, .ref aTu, .int pgm, .int tpm, .int stn, .int lnx, .int lny])), (aHe, .inl (cI, 60, .inl hei))] U.heap ∧ va_K (dC, dI) classes [(cI, .int), (cZ, .boolean)] U ∧ va_D (fun _ => True) [(oM, .inr (5, [.int thr, .ref aTx, .int siz, .ref aBg, .ref aEn, .ref aLe, .ref aMa, .ref aFi, .int lnm, .int rsm, .ref aHe, .int bxs, .int wdt, .int hgh, .ref aCa, .ref aTo, .int byn, .ref aTu, .int pgm, .int tpm, .int stn, .int lnx, .int lny])), (aHe, .inl (cI, 60, .inl hei))])) (va_Qv (fun (u : Int32 × Int32) => u.1.toInt = (bq hei p2.toInt p3.toInt 0 nN).1 ∧ u.2.toInt = (bq hei p2.toInt p3.toInt 0 nN).2.1) (fun (u : Int32 × Int32) (t : State) => va_P (dC, dI) classes [(oM, .inr (5, [.int thr, .ref aTx, .int siz, .ref aBg, .ref aEn, .ref aLe, .ref aMa, .ref aFi, .int lnm, .int rsm, .ref aHe, .int bxs, .int wdt, .int hgh, .ref aCa, .ref aTo, .int byn, .ref aTu, .int u.1, .int u.2, .int stn, .int lnx, .int lny])), (aHe, .inl (cI, 60, .inl hei))] t.heap ∧ va_K (dC, dI) classes [(cI, .int), (cZ, .boolean)] t ∧ va_D (va_A [(oM, .inr (5, [.int thr, .ref aTx, .int siz, .ref aBg, .ref aEn, .ref aLe, .ref aMa, .ref aFi, .int lnm, .int rsm, .ref aHe, .int bxs, .int wdt, .int hgh, .ref aCa, .ref aTo, .int byn, .ref aTu, .int pgm, .int tpm, .int stn, .int lnx, .int lny])), (aHe, .inl (cI, 60, .inl hei))] sz) [(oM, .inr (5, [.int thr, .ref aTx, .int siz, .ref aBg, .ref aEn, .ref aLe, .ref aMa, .ref aFi, .int lnm, .int rsm, .ref aHe, .int bxs, .int wdt, .int hgh, .ref aCa, .ref aTo, .int byn, .ref aTu, .int u.1, .int u.2, .int stn, .int lnx, .int lny])), (aHe, .inl (cI, 60, .inl hei))]) (va_A [(oM, .inr (5, [.int thr, .ref aTx, .int siz, .ref aBg, .ref aEn, .ref aLe, .ref aMa, .ref aFi, .int lnm, .int rsm, .ref aHe, .int bxs, .int wdt, .int hgh, .ref aCa, .ref aTo, .int byn, .ref aTu, .int pgm, .int tpm, .int stn, .int lnx, .int lny])), (aHe, .inl (cI, 60, .inl hei))] sz)) 0 0 (va_A [(oM, .inr (5, [.int thr, .ref aTx, .int siz, .ref aBg, .ref aEn, .ref aLe, .ref aMa, .ref aFi, .int lnm, .int rsm, .ref aHe, .int bxs, .int wdt, .int hgh, .ref aCa, .ref aTo, .int byn, .ref aTu, .int pgm, .int tpm, .int stn, .int lnx, .int lny])), (aHe, .inl (cI, 60, .inl hei))] sz) := by
  refine Met.ofW (cc := b_Mod_putUpTo) (maxL := 7) (ret := none) (by decide) rfl ?_
  intro p e s m args below meth c s₁ B hml hv
  obtain ⟨rfl, hsz, hP, hK, hD0⟩ := hv
  have hx := B.exec
  have hb := B.bytes
  have hr := B.returns
  have hts := atoms_spec (ws := w_Mod_putUpTo) B.pre
  have hown : s.vm.findClass R_Mod = some m.cls := findClass_of_methodNamed B.named
  have hlocks := B.notSynchronized
  have hw_Mod : ∀ w ∈ w_Mod, w ∈ w_Mod_putUpTo := by decide +kernel
  subst hsz
  have hD := hD0.self (sz := s.heap.size)
  generalize hAe : va_A [(oM, .inr (5, [.int thr, .ref aTx, .int siz, .ref aBg, .ref aEn, .ref aLe, .ref aMa, .ref aFi, .int lnm, .int rsm, .ref aHe, .int bxs, .int wdt, .int hgh, .ref aCa, .ref aTo, .int byn, .ref aTu, .int pgm, .int tpm, .int stn, .int lnx, .int lny])), (aHe, .inl (cI, 60, .inl hei))] s.heap.size = A at hD ⊢
  have hA : ∀ q : Nat, s.heap.size ≤ q → A q := fun q h => by rw [← hAe]; exact Or.inr h
  have hS : va_S A s.heap s.heap [] := va_S.rf
  have hP : va_P (dC, dI) classes [(oM, .inr (5, [.int thr, .ref aTx, .int siz, .ref aBg, .ref aEn, .ref aLe, .ref aMa, .ref aFi, .int lnm, .int rsm, .ref aHe, .int bxs, .int wdt, .int hgh, .ref aCa, .ref aTo, .int byn, .ref aTu, .int pgm, .int tpm, .int stn, .int lnx, .int lny])), (aHe, .inl (cI, 60, .inl hei))] s.heap := hP
  have hl := lv_entry ([.ref oM, .int p1, .int p2, .int p3]) (n := 7) (Nat.le_of_ble_eq_true rfl)
  rw [lg_entry_eq]
  generalize (lg_sl ([.ref oM, .int p1, .int p2, .int p3]) ++ List.replicate (7 - (lg_sl ([.ref oM, .int p1, .int p2, .int p3])).length) Slot.unset).toArray = ls at hl ⊢
  have hl : lv_has ls 7 [(0, .ref oM), (1, .int p1), (2, .int p2), (3, .int p3)] := hl
  have loop19 : ∀ (n19 : Nat) (k : Nat) (P0 : Int) (T0 : Int) (B0 : Int) (x4 : Int32) (x5 : Int32) (x6 : Int32) (pgm1 : Int32) (tpm1 : Int32), (nN - k < n19) → (k ≤ nN) → (bq hei p2.toInt p3.toInt 0 k = (P0, T0, B0)) → (x4.toInt = B0) → (x6.toInt = (k : Int)) → (pgm1.toInt = P0) → (tpm1.toInt = T0) → ((x5.toInt = 1 ∧ (P0 = -1 ∨ p2.toInt < B0)) ∨ (x5.toInt = 0 ∧ ¬ P0 = -1)) → ∀ (H : Heap) (locs : List Loc), va_P (dC, dI) classes [(oM, .inr (5, [.int thr, .ref aTx, .int siz, .ref aBg, .ref aEn, .ref aLe, .ref aMa, .ref aFi, .int lnm, .int rsm, .ref aHe, .int bxs, .int wdt, .int hgh, .ref aCa, .ref aTo, .int byn, .ref aTu, .int pgm1, .int tpm1, .int stn, .int lnx, .int lny])), (aHe, .inl (cI, 60, .inl hei))] H → va_D A [(oM, .inr (5, [.int thr, .ref aTx, .int siz, .ref aBg, .ref aEn, .ref aLe, .ref aMa, .ref aFi, .int lnm, .int rsm, .ref aHe, .int bxs, .int wdt, .int hgh, .ref aCa, .ref aTo, .int byn, .ref aTu, .int pgm1, .int tpm1, .int stn, .int lnx, .int lny])), (aHe, .inl (cI, 60, .inl hei))] → va_S A s.heap H locs → ∀ (ls : Array Slot), lv_has ls 7 [(0, .ref oM), (1, .int p1), (2, .int p2), (3, .int p3), (4, .int x4), (5, .int x5), (6, .int x6)] → W p l e (headSpec w_Mod_putUpTo ({ frames := 0, cells := 0, slots := 0, locals := 0 })).room s m ([.ref oM, .int p1, .int p2, .int p3] : List Value).toArray below meth c H locs 0 0 (MQ below (va_Qv (fun (u : Int32 × Int32) => u.1.toInt = (bq hei p2.toInt p3.toInt 0 nN).1 ∧ u.2.toInt = (bq hei p2.toInt p3.toInt 0 nN).2.1) (fun (u : Int32 × Int32) (t : State) => va_P (dC, dI) classes [(oM, .inr (5, [.int thr, .ref aTx, .int siz, .ref aBg, .ref aEn, .ref aLe, .ref aMa, .ref aFi, .int lnm, .int rsm, .ref aHe, .int bxs, .int wdt, .int hgh, .ref aCa, .ref aTo, .int byn, .ref aTu, .int u.1, .int u.2, .int stn, .int lnx, .int lny])), (aHe, .inl (cI, 60, .inl hei))] t.heap ∧ va_K (dC, dI) classes [(cI, .int), (cZ, .boolean)] t ∧ va_D (A) [(oM, .inr (5, [.int thr, .ref aTx, .int siz, .ref aBg, .ref aEn, .ref aLe, .ref aMa, .ref aFi, .int lnm, .int rsm, .ref aHe, .int bxs, .int wdt, .int hgh, .ref aCa, .ref aTo, .int byn, .ref aTu, .int u.1, .int u.2, .int stn, .int lnx, .int lny])), (aHe, .inl (cI, 60, .inl hei))]) (A)) ([.ref oM, .int p1, .int p2, .int p3] : List Value).toArray s 0 0 A) (F0 m 19 ls []) := by
    intro n19
    induction n19 with
    | zero => intro k P0 T0 B0 x4 x5 x6 pgm1 tpm1 hmz19; omega
    | succ n19 ih19 =>
      intro k P0 T0 B0 x4 x5 x6 pgm1 tpm1 hmz19 hk hst e4 e6 eP eT hfu H locs hP hD hS ls hl
      have hbd := bq_bnd hg.1 k P0 T0 B0 hst (fun j hj => hh j (by omega)) hht
      refine lv_iload hx hb d_Mod_putUpTo_19 (lv_at hl 6 rfl) ?_
      refine lv_iload_n hx hb d_Mod_putUpTo_21 rfl (lv_at hl 1 rfl) ?_
      refine xi_icmp_gt (tgt := 107) hx hb e6 hnN d_Mod_putUpTo_22 (by decide) (fun c22 => ?_) (fun c22 => ?_)
      · have hkN : k = nN := by omega
        rw [hkN] at hst
        exact W.vret hx hb hr (fun t ht hW => ⟨⟨(pgm1, tpm1), rfl, (show pgm1.toInt = (bq hei p2.toInt p3.toInt 0 nN).1 ∧ tpm1.toInt = (bq hei p2.toInt p3.toInt 0 nN).2.1 from ⟨by rw [hst]; exact eP, by rw [hst]; exact eT⟩), by rw [ht]; exact hP, va_K.moved hW.alike hK, hD⟩, hS.F ht⟩) hS.2.2 d_Mod_putUpTo_107
      · have hhk := hh k (by omega)
        refine lv_aload_n hx hb d_Mod_putUpTo_25 rfl (lv_at hl 0 rfl) ?_
        refine lv_iload hx hb d_Mod_putUpTo_26 (lv_at hl 4 rfl) ?_
        refine lv_iload_n hx hb d_Mod_putUpTo_28 rfl (lv_at hl 3 rfl) ?_
        refine lv_iadd hx hb d_Mod_putUpTo_29 ?_
        have a29 : (x4 + p3).toInt = (B0 + p3.toInt) := xi_add e4 (rfl) (by omega) (by omega)
        refine lv_topi (fun v30 ev30 => ?_)
        have fv30 : v30.toInt = (B0 + p3.toInt) := by rw [ev30]; exact a29
        refine va_put (D := (dC, dI)) (ci := 5) (v := .int v30) (ty := .int) (C := R_Mod) (T := F_Mod) (N := 23) hx hb hts hw_Mod t_Mod t_Mod_ok n_Mod hown hK hP hD hS 0 rfl rfl 19 (by decide) (hts (.fieldLink R_Mod 78 "PageFormsModel" "top" "I") (by decide +kernel)) (fun _ h9 => h9) rfl (by decide +kernel) rfl rfl (Nat.le_of_ble_eq_true rfl) d_Mod_putUpTo_30 (fun H locs hP hD hS => ?_)
        have hP : va_P (dC, dI) classes [(oM, .inr (5, [.int thr, .ref aTx, .int siz, .ref aBg, .ref aEn, .ref aLe, .ref aMa, .ref aFi, .int lnm, .int rsm, .ref aHe, .int bxs, .int wdt, .int hgh, .ref aCa, .ref aTo, .int byn, .ref aTu, .int pgm1, .int v30, .int stn, .int lnx, .int lny])), (aHe, .inl (cI, 60, .inl hei))] H := hP
        have hD : va_D A [(oM, .inr (5, [.int thr, .ref aTx, .int siz, .ref aBg, .ref aEn, .ref aLe, .ref aMa, .ref aFi, .int lnm, .int rsm, .ref aHe, .int bxs, .int wdt, .int hgh, .ref aCa, .ref aTo, .int byn, .ref aTu, .int pgm1, .int v30, .int stn, .int lnx, .int lny])), (aHe, .inl (cI, 60, .inl hei))] := hD
        refine lv_iload hx hb d_Mod_putUpTo_33 (lv_at hl 5 rfl) ?_
        refine xi_if_ne (tgt := 54) hx hb (rfl) d_Mod_putUpTo_35 (by decide) (fun c35 => ?_) (fun c35 => ?_)
        · refine lv_aload_n hx hb d_Mod_putUpTo_54 rfl (lv_at hl 0 rfl) ?_
          refine lv_dup hx hb d_Mod_putUpTo_55 rfl ?_
          refine va_get (D := (dC, dI)) (ci := 5) (v := .int pgm1) (C := R_Mod) (T := F_Mod) (N := 23) hx hb hts hw_Mod hown hK hP 0 rfl rfl 18 (by decide) (hts (.fieldLink R_Mod 75 "PageFormsModel" "page" "I") (by decide +kernel)) (fun _ h9 => h9) rfl d_Mod_putUpTo_56 ?_
          refine lv_iconst (v := 1) hx hb d_Mod_putUpTo_59 (by decide) ?_
          refine lv_iadd hx hb d_Mod_putUpTo_60 ?_
          have a60 : (pgm1 + 1).toInt = (P0 + 1) := xi_add eP (show (1 : Int32).toInt = 1 by decide) (by omega) (by omega)
          refine lv_topi (fun v61 ev61 => ?_)
          have fv61 : v61.toInt = (P0 + 1) := by rw [ev61]; exact a60
          refine va_put (D := (dC, dI)) (ci := 5) (v := .int v61) (ty := .int) (C := R_Mod) (T := F_Mod) (N := 23) hx hb hts hw_Mod t_Mod t_Mod_ok n_Mod hown hK hP hD hS 0 rfl rfl 18 (by decide) (hts (.fieldLink R_Mod 75 "PageFormsModel" "page" "I") (by decide +kernel)) (fun _ h9 => h9) rfl (by decide +kernel) rfl rfl (Nat.le_of_ble_eq_true rfl) d_Mod_putUpTo_61 (fun H locs hP hD hS => ?_)
          have hP : va_P (dC, dI) classes [(oM, .inr (5, [.int thr, .ref aTx, .int siz, .ref aBg, .ref aEn, .ref aLe, .ref aMa, .ref aFi, .int lnm, .int rsm, .ref aHe, .int bxs, .int wdt, .int hgh, .ref aCa, .ref aTo, .int byn, .ref aTu, .int v61, .int v30, .int stn, .int lnx, .int lny])), (aHe, .inl (cI, 60, .inl hei))] H := hP
          have hD : va_D A [(oM, .inr (5, [.int thr, .ref aTx, .int siz, .ref aBg, .ref aEn, .ref aLe, .ref aMa, .ref aFi, .int lnm, .int rsm, .ref aHe, .int bxs, .int wdt, .int hgh, .ref aCa, .ref aTo, .int byn, .ref aTu, .int v61, .int v30, .int stn, .int lnx, .int lny])), (aHe, .inl (cI, 60, .inl hei))] := hD
          refine lv_aload_n hx hb d_Mod_putUpTo_64 rfl (lv_at hl 0 rfl) ?_
          refine lv_iconst (v := 0) hx hb d_Mod_putUpTo_65 (by decide) ?_
          refine va_put (D := (dC, dI)) (ci := 5) (v := .int 0) (ty := .int) (C := R_Mod) (T := F_Mod) (N := 23) hx hb hts hw_Mod t_Mod t_Mod_ok n_Mod hown hK hP hD hS 0 rfl rfl 19 (by decide) (hts (.fieldLink R_Mod 78 "PageFormsModel" "top" "I") (by decide +kernel)) (fun _ h9 => h9) rfl (by decide +kernel) rfl rfl (Nat.le_of_ble_eq_true rfl) d_Mod_putUpTo_66 (fun H locs hP hD hS => ?_)
          have hP : va_P (dC, dI) classes [(oM, .inr (5, [.int thr, .ref aTx, .int siz, .ref aBg, .ref aEn, .ref aLe, .ref aMa, .ref aFi, .int lnm, .int rsm, .ref aHe, .int bxs, .int wdt, .int hgh, .ref aCa, .ref aTo, .int byn, .ref aTu, .int v61, .int 0, .int stn, .int lnx, .int lny])), (aHe, .inl (cI, 60, .inl hei))] H := hP
          have hD : va_D A [(oM, .inr (5, [.int thr, .ref aTx, .int siz, .ref aBg, .ref aEn, .ref aLe, .ref aMa, .ref aFi, .int lnm, .int rsm, .ref aHe, .int bxs, .int wdt, .int hgh, .ref aCa, .ref aTo, .int byn, .ref aTu, .int v61, .int 0, .int stn, .int lnx, .int lny])), (aHe, .inl (cI, 60, .inl hei))] := hD
          refine lv_aload_n hx hb d_Mod_putUpTo_69 rfl (lv_at hl 0 rfl) ?_
          refine va_get (D := (dC, dI)) (ci := 5) (v := .int 0) (C := R_Mod) (T := F_Mod) (N := 23) hx hb hts hw_Mod hown hK hP 0 rfl rfl 19 (by decide) (hts (.fieldLink R_Mod 78 "PageFormsModel" "top" "I") (by decide +kernel)) (fun _ h9 => h9) rfl d_Mod_putUpTo_70 ?_
          refine lv_aload_n hx hb d_Mod_putUpTo_73 rfl (lv_at hl 0 rfl) ?_
          refine va_get (D := (dC, dI)) (ci := 5) (v := .ref aHe) (C := R_Mod) (T := F_Mod) (N := 23) hx hb hts hw_Mod hown hK hP 0 rfl rfl 10 (by decide) (hts (.fieldLink R_Mod 28 "PageFormsModel" "height" "[I") (by decide +kernel)) (fun _ h9 => h9) rfl d_Mod_putUpTo_74 ?_
          refine lv_iload hx hb d_Mod_putUpTo_77 (lv_at hl 6 rfl) ?_
          refine xa_iald hx hb hK hP 1 0 rfl rfl e6 k (by omega) (by omega) d_Mod_putUpTo_79 ?_
          refine lv_iadd hx hb d_Mod_putUpTo_80 ?_
          have a80 : (0 + (hei k)).toInt = (0 + (hei k).toInt) := xi_add (show (0 : Int32).toInt = 0 by decide) (rfl) (by omega) (by omega)
          refine lv_topi (fun v81 ev81 => ?_)
          have fv81 : v81.toInt = (0 + (hei k).toInt) := by rw [ev81]; exact a80
          refine lv_istore (lv' := [(4, .int v81), (0, .ref oM), (1, .int p1), (2, .int p2), (3, .int p3), (5, .int x5), (6, .int x6)]) hx hb d_Mod_putUpTo_81 hl (by decide) rfl (fun ls hl => ?_)
          refine lv_aload_n hx hb d_Mod_putUpTo_83 rfl (lv_at hl 1 rfl) ?_
          refine va_get (D := (dC, dI)) (ci := 5) (v := .ref aHe) (C := R_Mod) (T := F_Mod) (N := 23) hx hb hts hw_Mod hown hK hP 0 rfl rfl 10 (by decide) (hts (.fieldLink R_Mod 28 "PageFormsModel" "height" "[I") (by decide +kernel)) (fun _ h9 => h9) rfl d_Mod_putUpTo_84 ?_
          refine lv_iload hx hb d_Mod_putUpTo_87 (lv_at hl 6 rfl) ?_
          refine xa_iald hx hb hK hP 1 0 rfl rfl e6 k (by omega) (by omega) d_Mod_putUpTo_89 ?_
          refine lv_iload_n hx hb d_Mod_putUpTo_90 rfl (lv_at hl 3 rfl) ?_
          refine xi_icmp_le (tgt := 98) hx hb (rfl) (rfl) d_Mod_putUpTo_91 (by decide) (fun c91 => ?_) (fun c91 => ?_)
          · refine lv_iconst (v := 0) hx hb d_Mod_putUpTo_98 (by decide) ?_
            refine lv_istore (lv' := [(5, .int 0), (4, .int v81), (0, .ref oM), (1, .int p1), (2, .int p2), (3, .int p3), (6, .int x6)]) hx hb d_Mod_putUpTo_99 hl (by decide) rfl (fun ls hl => ?_)
            obtain ⟨v101, ev101⟩ : ∃ y : Int32, y = (x6 + 1) := ⟨_, rfl⟩
            have fv101 : v101.toInt = ((k : Int) + 1) := by rw [ev101]; exact xi_add e6 (show (1 : Int32).toInt = 1 by decide) (by omega) (by omega)
            refine lv_iinc (v := v101) (lv' := [(6, .int v101), (5, .int 0), (4, .int v81), (0, .ref oM), (1, .int p1), (2, .int p2), (3, .int p3)]) hx hb d_Mod_putUpTo_101 hl (k := 6) rfl (by rw [ev101]; rfl) (by decide) rfl (fun ls hl => ?_)
            refine lv_goto (tgt := 19) hx hb d_Mod_putUpTo_104 (by decide) ?_
            exact ih19 (k + 1) (P0 + 1) 0 ((hei k).toInt) v81 0 v101 v61 0 (by omega) (by omega) (bq_new hst (by omega)) (by omega) (by omega) (by omega) (by decide) (Or.inr ⟨by decide, by omega⟩) _ _ hP hD hS ls (lv_sub hl [3, 4, 5, 6, 2, 1, 0] rfl)
          · refine lv_iconst (v := 1) hx hb d_Mod_putUpTo_94 (by decide) ?_
            refine lv_goto (tgt := 99) hx hb d_Mod_putUpTo_95 (by decide) ?_
            refine lv_istore (lv' := [(5, .int 1), (4, .int v81), (0, .ref oM), (1, .int p1), (2, .int p2), (3, .int p3), (6, .int x6)]) hx hb d_Mod_putUpTo_99 hl (by decide) rfl (fun ls hl => ?_)
            obtain ⟨v101, ev101⟩ : ∃ y : Int32, y = (x6 + 1) := ⟨_, rfl⟩
            have fv101 : v101.toInt = ((k : Int) + 1) := by rw [ev101]; exact xi_add e6 (show (1 : Int32).toInt = 1 by decide) (by omega) (by omega)
            refine lv_iinc (v := v101) (lv' := [(6, .int v101), (5, .int 1), (4, .int v81), (0, .ref oM), (1, .int p1), (2, .int p2), (3, .int p3)]) hx hb d_Mod_putUpTo_101 hl (k := 6) rfl (by rw [ev101]; rfl) (by decide) rfl (fun ls hl => ?_)
            refine lv_goto (tgt := 19) hx hb d_Mod_putUpTo_104 (by decide) ?_
            exact ih19 (k + 1) (P0 + 1) 0 ((hei k).toInt) v81 1 v101 v61 0 (by omega) (by omega) (bq_new hst (by omega)) (by omega) (by omega) (by omega) (by decide) (Or.inl ⟨by decide, Or.inr (by omega)⟩) _ _ hP hD hS ls (lv_sub hl [3, 4, 5, 6, 2, 1, 0] rfl)
        · refine lv_aload_n hx hb d_Mod_putUpTo_38 rfl (lv_at hl 0 rfl) ?_
          refine va_get (D := (dC, dI)) (ci := 5) (v := .int v30) (C := R_Mod) (T := F_Mod) (N := 23) hx hb hts hw_Mod hown hK hP 0 rfl rfl 19 (by decide) (hts (.fieldLink R_Mod 78 "PageFormsModel" "top" "I") (by decide +kernel)) (fun _ h9 => h9) rfl d_Mod_putUpTo_39 ?_
          refine lv_aload_n hx hb d_Mod_putUpTo_42 rfl (lv_at hl 0 rfl) ?_
          refine va_get (D := (dC, dI)) (ci := 5) (v := .ref aHe) (C := R_Mod) (T := F_Mod) (N := 23) hx hb hts hw_Mod hown hK hP 0 rfl rfl 10 (by decide) (hts (.fieldLink R_Mod 28 "PageFormsModel" "height" "[I") (by decide +kernel)) (fun _ h9 => h9) rfl d_Mod_putUpTo_43 ?_
          refine lv_iload hx hb d_Mod_putUpTo_46 (lv_at hl 6 rfl) ?_
          refine xa_iald hx hb hK hP 1 0 rfl rfl e6 k (by omega) (by omega) d_Mod_putUpTo_48 ?_
          refine lv_iadd hx hb d_Mod_putUpTo_49 ?_
          have a49 : (v30 + (hei k)).toInt = ((B0 + p3.toInt) + (hei k).toInt) := xi_add fv30 (rfl) (by omega) (by omega)
          refine lv_iload_n hx hb d_Mod_putUpTo_50 rfl (lv_at hl 2 rfl) ?_
          refine xi_icmp_le (tgt := 69) hx hb a49 (rfl) d_Mod_putUpTo_51 (by decide) (fun c51 => ?_) (fun c51 => ?_)
          · refine lv_aload_n hx hb d_Mod_putUpTo_69 rfl (lv_at hl 0 rfl) ?_
            refine va_get (D := (dC, dI)) (ci := 5) (v := .int v30) (C := R_Mod) (T := F_Mod) (N := 23) hx hb hts hw_Mod hown hK hP 0 rfl rfl 19 (by decide) (hts (.fieldLink R_Mod 78 "PageFormsModel" "top" "I") (by decide +kernel)) (fun _ h9 => h9) rfl d_Mod_putUpTo_70 ?_
            refine lv_aload_n hx hb d_Mod_putUpTo_73 rfl (lv_at hl 0 rfl) ?_
            refine va_get (D := (dC, dI)) (ci := 5) (v := .ref aHe) (C := R_Mod) (T := F_Mod) (N := 23) hx hb hts hw_Mod hown hK hP 0 rfl rfl 10 (by decide) (hts (.fieldLink R_Mod 28 "PageFormsModel" "height" "[I") (by decide +kernel)) (fun _ h9 => h9) rfl d_Mod_putUpTo_74 ?_
            refine lv_iload hx hb d_Mod_putUpTo_77 (lv_at hl 6 rfl) ?_
            refine xa_iald hx hb hK hP 1 0 rfl rfl e6 k (by omega) (by omega) d_Mod_putUpTo_79 ?_
            refine lv_iadd hx hb d_Mod_putUpTo_80 ?_
            refine lv_topi (fun v81 ev81 => ?_)
            have fv81 : v81.toInt = ((B0 + p3.toInt) + (hei k).toInt) := by rw [ev81]; exact a49
            refine lv_istore (lv' := [(4, .int v81), (0, .ref oM), (1, .int p1), (2, .int p2), (3, .int p3), (5, .int x5), (6, .int x6)]) hx hb d_Mod_putUpTo_81 hl (by decide) rfl (fun ls hl => ?_)
            refine lv_aload_n hx hb d_Mod_putUpTo_83 rfl (lv_at hl 1 rfl) ?_
            refine va_get (D := (dC, dI)) (ci := 5) (v := .ref aHe) (C := R_Mod) (T := F_Mod) (N := 23) hx hb hts hw_Mod hown hK hP 0 rfl rfl 10 (by decide) (hts (.fieldLink R_Mod 28 "PageFormsModel" "height" "[I") (by decide +kernel)) (fun _ h9 => h9) rfl d_Mod_putUpTo_84 ?_
            refine lv_iload hx hb d_Mod_putUpTo_87 (lv_at hl 6 rfl) ?_
            refine xa_iald hx hb hK hP 1 0 rfl rfl e6 k (by omega) (by omega) d_Mod_putUpTo_89 ?_
            refine lv_iload_n hx hb d_Mod_putUpTo_90 rfl (lv_at hl 3 rfl) ?_
            refine xi_icmp_le (tgt := 98) hx hb (rfl) (rfl) d_Mod_putUpTo_91 (by decide) (fun c91 => ?_) (fun c91 => ?_)
            · refine lv_iconst (v := 0) hx hb d_Mod_putUpTo_98 (by decide) ?_
              refine lv_istore (lv' := [(5, .int 0), (4, .int v81), (0, .ref oM), (1, .int p1), (2, .int p2), (3, .int p3), (6, .int x6)]) hx hb d_Mod_putUpTo_99 hl (by decide) rfl (fun ls hl => ?_)
              obtain ⟨v101, ev101⟩ : ∃ y : Int32, y = (x6 + 1) := ⟨_, rfl⟩
              have fv101 : v101.toInt = ((k : Int) + 1) := by rw [ev101]; exact xi_add e6 (show (1 : Int32).toInt = 1 by decide) (by omega) (by omega)
              refine lv_iinc (v := v101) (lv' := [(6, .int v101), (5, .int 0), (4, .int v81), (0, .ref oM), (1, .int p1), (2, .int p2), (3, .int p3)]) hx hb d_Mod_putUpTo_101 hl (k := 6) rfl (by rw [ev101]; rfl) (by decide) rfl (fun ls hl => ?_)
              refine lv_goto (tgt := 19) hx hb d_Mod_putUpTo_104 (by decide) ?_
              exact ih19 (k + 1) P0 (B0 + p3.toInt) (B0 + p3.toInt + (hei k).toInt) v81 0 v101 pgm1 v30 (by omega) (by omega) (bq_fit hst (by omega) (by omega)) (by omega) (by omega) (by omega) (by omega) (Or.inr ⟨by decide, by omega⟩) _ _ hP hD hS ls (lv_sub hl [3, 4, 5, 6, 2, 1, 0] rfl)
            · refine lv_iconst (v := 1) hx hb d_Mod_putUpTo_94 (by decide) ?_
              refine lv_goto (tgt := 99) hx hb d_Mod_putUpTo_95 (by decide) ?_
              refine lv_istore (lv' := [(5, .int 1), (4, .int v81), (0, .ref oM), (1, .int p1), (2, .int p2), (3, .int p3), (6, .int x6)]) hx hb d_Mod_putUpTo_99 hl (by decide) rfl (fun ls hl => ?_)
              obtain ⟨v101, ev101⟩ : ∃ y : Int32, y = (x6 + 1) := ⟨_, rfl⟩
              have fv101 : v101.toInt = ((k : Int) + 1) := by rw [ev101]; exact xi_add e6 (show (1 : Int32).toInt = 1 by decide) (by omega) (by omega)
              refine lv_iinc (v := v101) (lv' := [(6, .int v101), (5, .int 1), (4, .int v81), (0, .ref oM), (1, .int p1), (2, .int p2), (3, .int p3)]) hx hb d_Mod_putUpTo_101 hl (k := 6) rfl (by rw [ev101]; rfl) (by decide) rfl (fun ls hl => ?_)
              refine lv_goto (tgt := 19) hx hb d_Mod_putUpTo_104 (by decide) ?_
              exact ih19 (k + 1) P0 (B0 + p3.toInt) (B0 + p3.toInt + (hei k).toInt) v81 1 v101 pgm1 v30 (by omega) (by omega) (bq_fit hst (by omega) (by omega)) (by omega) (by omega) (by omega) (by omega) (Or.inl ⟨by decide, Or.inr (by omega)⟩) _ _ hP hD hS ls (lv_sub hl [3, 4, 5, 6, 2, 1, 0] rfl)
          · refine lv_aload_n hx hb d_Mod_putUpTo_54 rfl (lv_at hl 0 rfl) ?_
            refine lv_dup hx hb d_Mod_putUpTo_55 rfl ?_
            refine va_get (D := (dC, dI)) (ci := 5) (v := .int pgm1) (C := R_Mod) (T := F_Mod) (N := 23) hx hb hts hw_Mod hown hK hP 0 rfl rfl 18 (by decide) (hts (.fieldLink R_Mod 75 "PageFormsModel" "page" "I") (by decide +kernel)) (fun _ h9 => h9) rfl d_Mod_putUpTo_56 ?_
            refine lv_iconst (v := 1) hx hb d_Mod_putUpTo_59 (by decide) ?_
            refine lv_iadd hx hb d_Mod_putUpTo_60 ?_
            have a60 : (pgm1 + 1).toInt = (P0 + 1) := xi_add eP (show (1 : Int32).toInt = 1 by decide) (by omega) (by omega)
            refine lv_topi (fun v61 ev61 => ?_)
            have fv61 : v61.toInt = (P0 + 1) := by rw [ev61]; exact a60
            refine va_put (D := (dC, dI)) (ci := 5) (v := .int v61) (ty := .int) (C := R_Mod) (T := F_Mod) (N := 23) hx hb hts hw_Mod t_Mod t_Mod_ok n_Mod hown hK hP hD hS 0 rfl rfl 18 (by decide) (hts (.fieldLink R_Mod 75 "PageFormsModel" "page" "I") (by decide +kernel)) (fun _ h9 => h9) rfl (by decide +kernel) rfl rfl (Nat.le_of_ble_eq_true rfl) d_Mod_putUpTo_61 (fun H locs hP hD hS => ?_)
            have hP : va_P (dC, dI) classes [(oM, .inr (5, [.int thr, .ref aTx, .int siz, .ref aBg, .ref aEn, .ref aLe, .ref aMa, .ref aFi, .int lnm, .int rsm, .ref aHe, .int bxs, .int wdt, .int hgh, .ref aCa, .ref aTo, .int byn, .ref aTu, .int v61, .int v30, .int stn, .int lnx, .int lny])), (aHe, .inl (cI, 60, .inl hei))] H := hP
            have hD : va_D A [(oM, .inr (5, [.int thr, .ref aTx, .int siz, .ref aBg, .ref aEn, .ref aLe, .ref aMa, .ref aFi, .int lnm, .int rsm, .ref aHe, .int bxs, .int wdt, .int hgh, .ref aCa, .ref aTo, .int byn, .ref aTu, .int v61, .int v30, .int stn, .int lnx, .int lny])), (aHe, .inl (cI, 60, .inl hei))] := hD
            refine lv_aload_n hx hb d_Mod_putUpTo_64 rfl (lv_at hl 0 rfl) ?_
            refine lv_iconst (v := 0) hx hb d_Mod_putUpTo_65 (by decide) ?_
            refine va_put (D := (dC, dI)) (ci := 5) (v := .int 0) (ty := .int) (C := R_Mod) (T := F_Mod) (N := 23) hx hb hts hw_Mod t_Mod t_Mod_ok n_Mod hown hK hP hD hS 0 rfl rfl 19 (by decide) (hts (.fieldLink R_Mod 78 "PageFormsModel" "top" "I") (by decide +kernel)) (fun _ h9 => h9) rfl (by decide +kernel) rfl rfl (Nat.le_of_ble_eq_true rfl) d_Mod_putUpTo_66 (fun H locs hP hD hS => ?_)
            have hP : va_P (dC, dI) classes [(oM, .inr (5, [.int thr, .ref aTx, .int siz, .ref aBg, .ref aEn, .ref aLe, .ref aMa, .ref aFi, .int lnm, .int rsm, .ref aHe, .int bxs, .int wdt, .int hgh, .ref aCa, .ref aTo, .int byn, .ref aTu, .int v61, .int 0, .int stn, .int lnx, .int lny])), (aHe, .inl (cI, 60, .inl hei))] H := hP
            have hD : va_D A [(oM, .inr (5, [.int thr, .ref aTx, .int siz, .ref aBg, .ref aEn, .ref aLe, .ref aMa, .ref aFi, .int lnm, .int rsm, .ref aHe, .int bxs, .int wdt, .int hgh, .ref aCa, .ref aTo, .int byn, .ref aTu, .int v61, .int 0, .int stn, .int lnx, .int lny])), (aHe, .inl (cI, 60, .inl hei))] := hD
            refine lv_aload_n hx hb d_Mod_putUpTo_69 rfl (lv_at hl 0 rfl) ?_
            refine va_get (D := (dC, dI)) (ci := 5) (v := .int 0) (C := R_Mod) (T := F_Mod) (N := 23) hx hb hts hw_Mod hown hK hP 0 rfl rfl 19 (by decide) (hts (.fieldLink R_Mod 78 "PageFormsModel" "top" "I") (by decide +kernel)) (fun _ h9 => h9) rfl d_Mod_putUpTo_70 ?_
            refine lv_aload_n hx hb d_Mod_putUpTo_73 rfl (lv_at hl 0 rfl) ?_
            refine va_get (D := (dC, dI)) (ci := 5) (v := .ref aHe) (C := R_Mod) (T := F_Mod) (N := 23) hx hb hts hw_Mod hown hK hP 0 rfl rfl 10 (by decide) (hts (.fieldLink R_Mod 28 "PageFormsModel" "height" "[I") (by decide +kernel)) (fun _ h9 => h9) rfl d_Mod_putUpTo_74 ?_
            refine lv_iload hx hb d_Mod_putUpTo_77 (lv_at hl 6 rfl) ?_
            refine xa_iald hx hb hK hP 1 0 rfl rfl e6 k (by omega) (by omega) d_Mod_putUpTo_79 ?_
            refine lv_iadd hx hb d_Mod_putUpTo_80 ?_
            have a80 : (0 + (hei k)).toInt = (0 + (hei k).toInt) := xi_add (show (0 : Int32).toInt = 0 by decide) (rfl) (by omega) (by omega)
            refine lv_topi (fun v81 ev81 => ?_)
            have fv81 : v81.toInt = (0 + (hei k).toInt) := by rw [ev81]; exact a80
            refine lv_istore (lv' := [(4, .int v81), (0, .ref oM), (1, .int p1), (2, .int p2), (3, .int p3), (5, .int x5), (6, .int x6)]) hx hb d_Mod_putUpTo_81 hl (by decide) rfl (fun ls hl => ?_)
            refine lv_aload_n hx hb d_Mod_putUpTo_83 rfl (lv_at hl 1 rfl) ?_
            refine va_get (D := (dC, dI)) (ci := 5) (v := .ref aHe) (C := R_Mod) (T := F_Mod) (N := 23) hx hb hts hw_Mod hown hK hP 0 rfl rfl 10 (by decide) (hts (.fieldLink R_Mod 28 "PageFormsModel" "height" "[I") (by decide +kernel)) (fun _ h9 => h9) rfl d_Mod_putUpTo_84 ?_
            refine lv_iload hx hb d_Mod_putUpTo_87 (lv_at hl 6 rfl) ?_
            refine xa_iald hx hb hK hP 1 0 rfl rfl e6 k (by omega) (by omega) d_Mod_putUpTo_89 ?_
            refine lv_iload_n hx hb d_Mod_putUpTo_90 rfl (lv_at hl 3 rfl) ?_
            refine xi_icmp_le (tgt := 98) hx hb (rfl) (rfl) d_Mod_putUpTo_91 (by decide) (fun c91 => ?_) (fun c91 => ?_)
            · refine lv_iconst (v := 0) hx hb d_Mod_putUpTo_98 (by decide) ?_
              refine lv_istore (lv' := [(5, .int 0), (4, .int v81), (0, .ref oM), (1, .int p1), (2, .int p2), (3, .int p3), (6, .int x6)]) hx hb d_Mod_putUpTo_99 hl (by decide) rfl (fun ls hl => ?_)
              obtain ⟨v101, ev101⟩ : ∃ y : Int32, y = (x6 + 1) := ⟨_, rfl⟩
              have fv101 : v101.toInt = ((k : Int) + 1) := by rw [ev101]; exact xi_add e6 (show (1 : Int32).toInt = 1 by decide) (by omega) (by omega)
              refine lv_iinc (v := v101) (lv' := [(6, .int v101), (5, .int 0), (4, .int v81), (0, .ref oM), (1, .int p1), (2, .int p2), (3, .int p3)]) hx hb d_Mod_putUpTo_101 hl (k := 6) rfl (by rw [ev101]; rfl) (by decide) rfl (fun ls hl => ?_)
              refine lv_goto (tgt := 19) hx hb d_Mod_putUpTo_104 (by decide) ?_
              exact ih19 (k + 1) (P0 + 1) 0 ((hei k).toInt) v81 0 v101 v61 0 (by omega) (by omega) (bq_new hst (by omega)) (by omega) (by omega) (by omega) (by decide) (Or.inr ⟨by decide, by omega⟩) _ _ hP hD hS ls (lv_sub hl [3, 4, 5, 6, 2, 1, 0] rfl)
            · refine lv_iconst (v := 1) hx hb d_Mod_putUpTo_94 (by decide) ?_
              refine lv_goto (tgt := 99) hx hb d_Mod_putUpTo_95 (by decide) ?_
              refine lv_istore (lv' := [(5, .int 1), (4, .int v81), (0, .ref oM), (1, .int p1), (2, .int p2), (3, .int p3), (6, .int x6)]) hx hb d_Mod_putUpTo_99 hl (by decide) rfl (fun ls hl => ?_)
              obtain ⟨v101, ev101⟩ : ∃ y : Int32, y = (x6 + 1) := ⟨_, rfl⟩
              have fv101 : v101.toInt = ((k : Int) + 1) := by rw [ev101]; exact xi_add e6 (show (1 : Int32).toInt = 1 by decide) (by omega) (by omega)
              refine lv_iinc (v := v101) (lv' := [(6, .int v101), (5, .int 1), (4, .int v81), (0, .ref oM), (1, .int p1), (2, .int p2), (3, .int p3)]) hx hb d_Mod_putUpTo_101 hl (k := 6) rfl (by rw [ev101]; rfl) (by decide) rfl (fun ls hl => ?_)
              refine lv_goto (tgt := 19) hx hb d_Mod_putUpTo_104 (by decide) ?_
              exact ih19 (k + 1) (P0 + 1) 0 ((hei k).toInt) v81 1 v101 v61 0 (by omega) (by omega) (bq_new hst (by omega)) (by omega) (by omega) (by omega) (by decide) (Or.inl ⟨by decide, Or.inr (by omega)⟩) _ _ hP hD hS ls (lv_sub hl [3, 4, 5, 6, 2, 1, 0] rfl)
  refine lv_aload_n hx hb d_Mod_putUpTo_0 rfl (lv_at hl 0 rfl) ?_
  refine lv_iconst (v := (-1)) hx hb d_Mod_putUpTo_1 (by decide) ?_
  refine va_put (D := (dC, dI)) (ci := 5) (v := .int (-1)) (ty := .int) (C := R_Mod) (T := F_Mod) (N := 23) hx hb hts hw_Mod t_Mod t_Mod_ok n_Mod hown hK hP hD hS 0 rfl rfl 18 (by decide) (hts (.fieldLink R_Mod 75 "PageFormsModel" "page" "I") (by decide +kernel)) (fun _ h9 => h9) rfl (by decide +kernel) rfl rfl (Nat.le_of_ble_eq_true rfl) d_Mod_putUpTo_2 (fun H locs hP hD hS => ?_)
  have hP : va_P (dC, dI) classes [(oM, .inr (5, [.int thr, .ref aTx, .int siz, .ref aBg, .ref aEn, .ref aLe, .ref aMa, .ref aFi, .int lnm, .int rsm, .ref aHe, .int bxs, .int wdt, .int hgh, .ref aCa, .ref aTo, .int byn, .ref aTu, .int (-1), .int tpm, .int stn, .int lnx, .int lny])), (aHe, .inl (cI, 60, .inl hei))] H := hP
  have hD : va_D A [(oM, .inr (5, [.int thr, .ref aTx, .int siz, .ref aBg, .ref aEn, .ref aLe, .ref aMa, .ref aFi, .int lnm, .int rsm, .ref aHe, .int bxs, .int wdt, .int hgh, .ref aCa, .ref aTo, .int byn, .ref aTu, .int (-1), .int tpm, .int stn, .int lnx, .int lny])), (aHe, .inl (cI, 60, .inl hei))] := hD
  refine lv_aload_n hx hb d_Mod_putUpTo_5 rfl (lv_at hl 0 rfl) ?_
  refine lv_iconst (v := 0) hx hb d_Mod_putUpTo_6 (by decide) ?_
  refine va_put (D := (dC, dI)) (ci := 5) (v := .int 0) (ty := .int) (C := R_Mod) (T := F_Mod) (N := 23) hx hb hts hw_Mod t_Mod t_Mod_ok n_Mod hown hK hP hD hS 0 rfl rfl 19 (by decide) (hts (.fieldLink R_Mod 78 "PageFormsModel" "top" "I") (by decide +kernel)) (fun _ h9 => h9) rfl (by decide +kernel) rfl rfl (Nat.le_of_ble_eq_true rfl) d_Mod_putUpTo_7 (fun H locs hP hD hS => ?_)
  have hP : va_P (dC, dI) classes [(oM, .inr (5, [.int thr, .ref aTx, .int siz, .ref aBg, .ref aEn, .ref aLe, .ref aMa, .ref aFi, .int lnm, .int rsm, .ref aHe, .int bxs, .int wdt, .int hgh, .ref aCa, .ref aTo, .int byn, .ref aTu, .int (-1), .int 0, .int stn, .int lnx, .int lny])), (aHe, .inl (cI, 60, .inl hei))] H := hP
  have hD : va_D A [(oM, .inr (5, [.int thr, .ref aTx, .int siz, .ref aBg, .ref aEn, .ref aLe, .ref aMa, .ref aFi, .int lnm, .int rsm, .ref aHe, .int bxs, .int wdt, .int hgh, .ref aCa, .ref aTo, .int byn, .ref aTu, .int (-1), .int 0, .int stn, .int lnx, .int lny])), (aHe, .inl (cI, 60, .inl hei))] := hD
  refine lv_iconst (v := 0) hx hb d_Mod_putUpTo_10 (by decide) ?_
  refine lv_istore (lv' := [(4, .int 0), (0, .ref oM), (1, .int p1), (2, .int p2), (3, .int p3)]) hx hb d_Mod_putUpTo_11 hl (by decide) rfl (fun ls hl => ?_)
  refine lv_iconst (v := 1) hx hb d_Mod_putUpTo_13 (by decide) ?_
  refine lv_istore (lv' := [(5, .int 1), (4, .int 0), (0, .ref oM), (1, .int p1), (2, .int p2), (3, .int p3)]) hx hb d_Mod_putUpTo_14 hl (by decide) rfl (fun ls hl => ?_)
  refine lv_iconst (v := 0) hx hb d_Mod_putUpTo_16 (by decide) ?_
  refine lv_istore (lv' := [(6, .int 0), (5, .int 1), (4, .int 0), (0, .ref oM), (1, .int p1), (2, .int p2), (3, .int p3)]) hx hb d_Mod_putUpTo_17 hl (by decide) rfl (fun ls hl => ?_)
  exact loop19 (nN + 1) 0 (-1) 0 0 0 1 0 (-1) 0 (by omega) (by omega) rfl (by decide) (by decide) (by decide) (by decide) (Or.inl ⟨by decide, Or.inl rfl⟩) _ _ hP hD hS ls (lv_sub hl [3, 4, 5, 6, 2, 1, 0] rfl)

set_option maxHeartbeats 4000000 in
set_option maxRecDepth 100000 in
theorem k_Mod_pages (l : Launch) (dC : Nat → ClassId) (dI : Nat → Nat → Nat) (cI cZ : ClassId) (oM : Nat) (aHe : Nat) (thr : Int32) (aTx : Nat) (siz : Int32) (aBg : Nat) (aEn : Nat) (aLe : Nat) (aMa : Nat) (aFi : Nat) (lnm : Int32) (rsm : Int32) (bxs : Int32) (wdt : Int32) (hgh : Int32) (aCa : Nat) (aTo : Nat) (byn : Int32) (aTu : Nat) (pgm : Int32) (tpm : Int32) (stn : Int32) (lnx : Int32) (lny : Int32) (hei : Nat → Int32) (sz : Nat) (p1 : Int32) (p2 : Int32) (hI : bq_I bxs hei) : Met l y_Mod_pages w_Mod_pages ({ frames := 2, cells := 0, slots := 0, locals := 43 }) (va_Pc [.ref oM, .int p1, .int p2] (fun U => U.heap.size = sz ∧ va_P (dC, dI) classes [(oM, .inr (5, [.int thr, .ref aTx, .int siz, .ref aBg, .ref aEn, .ref aLe, .ref aMa, .ref aFi, .int lnm, .int rsm, .ref aHe, .int bxs, .int wdt, .int hgh, .ref aCa, .ref aTo, .int byn, .ref aTu, .int pgm, .int tpm, .int stn, .int lnx, .int lny])), (aHe, .inl (cI, 60, .inl hei))] U.heap ∧ va_K (dC, dI) classes [(cI, .int), (cZ, .boolean)] U ∧ va_D (fun _ => True) [(oM, .inr (5, [.int thr, .ref aTx, .int siz, .ref aBg, .ref aEn, .ref aLe, .ref aMa, .ref aFi, .int lnm, .int rsm, .ref aHe, .int bxs, .int wdt, .int hgh, .ref aCa, .ref aTo, .int byn, .ref aTu, .int pgm, .int tpm, .int stn, .int lnx, .int lny])), (aHe, .inl (cI, 60, .inl hei))])) (va_Qi (fun (r : Int32) (u : Int32 × Int32 × Int32) => bq_pages bxs hei p1 p2 r) (fun (u : Int32 × Int32 × Int32) (t : State) => va_P (dC, dI) classes [(oM, .inr (5, [.int u.1, .ref aTx, .int siz, .ref aBg, .ref aEn, .ref aLe, .ref aMa, .ref aFi, .int lnm, .int rsm, .ref aHe, .int bxs, .int wdt, .int hgh, .ref aCa, .ref aTo, .int byn, .ref aTu, .int u.2.1, .int u.2.2, .int stn, .int lnx, .int lny])), (aHe, .inl (cI, 60, .inl hei))] t.heap ∧ va_K (dC, dI) classes [(cI, .int), (cZ, .boolean)] t ∧ va_D (va_A [(oM, .inr (5, [.int thr, .ref aTx, .int siz, .ref aBg, .ref aEn, .ref aLe, .ref aMa, .ref aFi, .int lnm, .int rsm, .ref aHe, .int bxs, .int wdt, .int hgh, .ref aCa, .ref aTo, .int byn, .ref aTu, .int pgm, .int tpm, .int stn, .int lnx, .int lny])), (aHe, .inl (cI, 60, .inl hei))] sz) [(oM, .inr (5, [.int u.1, .ref aTx, .int siz, .ref aBg, .ref aEn, .ref aLe, .ref aMa, .ref aFi, .int lnm, .int rsm, .ref aHe, .int bxs, .int wdt, .int hgh, .ref aCa, .ref aTo, .int byn, .ref aTu, .int u.2.1, .int u.2.2, .int stn, .int lnx, .int lny])), (aHe, .inl (cI, 60, .inl hei))]) (va_A [(oM, .inr (5, [.int thr, .ref aTx, .int siz, .ref aBg, .ref aEn, .ref aLe, .ref aMa, .ref aFi, .int lnm, .int rsm, .ref aHe, .int bxs, .int wdt, .int hgh, .ref aCa, .ref aTo, .int byn, .ref aTu, .int pgm, .int tpm, .int stn, .int lnx, .int lny])), (aHe, .inl (cI, 60, .inl hei))] sz)) 0 0 (va_A [(oM, .inr (5, [.int thr, .ref aTx, .int siz, .ref aBg, .ref aEn, .ref aLe, .ref aMa, .ref aFi, .int lnm, .int rsm, .ref aHe, .int bxs, .int wdt, .int hgh, .ref aCa, .ref aTo, .int byn, .ref aTu, .int pgm, .int tpm, .int stn, .int lnx, .int lny])), (aHe, .inl (cI, 60, .inl hei))] sz) := by
  refine Met.ofW (cc := b_Mod_pages) (maxL := 3) (ret := (some .int)) (by decide) rfl ?_
  intro p e s m args below meth c s₁ B hml hv
  obtain ⟨rfl, hsz, hP, hK, hD0⟩ := hv
  have hx := B.exec
  have hb := B.bytes
  have hr := B.returns
  have hts := atoms_spec (ws := w_Mod_pages) B.pre
  have hown : s.vm.findClass R_Mod = some m.cls := findClass_of_methodNamed B.named
  have hlocks := B.notSynchronized
  have hw_Mod : ∀ w ∈ w_Mod, w ∈ w_Mod_pages := by decide +kernel
  subst hsz
  have hD := hD0.self (sz := s.heap.size)
  generalize hAe : va_A [(oM, .inr (5, [.int thr, .ref aTx, .int siz, .ref aBg, .ref aEn, .ref aLe, .ref aMa, .ref aFi, .int lnm, .int rsm, .ref aHe, .int bxs, .int wdt, .int hgh, .ref aCa, .ref aTo, .int byn, .ref aTu, .int pgm, .int tpm, .int stn, .int lnx, .int lny])), (aHe, .inl (cI, 60, .inl hei))] s.heap.size = A at hD ⊢
  have hA : ∀ q : Nat, s.heap.size ≤ q → A q := fun q h => by rw [← hAe]; exact Or.inr h
  have hS : va_S A s.heap s.heap [] := va_S.rf
  have hP : va_P (dC, dI) classes [(oM, .inr (5, [.int thr, .ref aTx, .int siz, .ref aBg, .ref aEn, .ref aLe, .ref aMa, .ref aFi, .int lnm, .int rsm, .ref aHe, .int bxs, .int wdt, .int hgh, .ref aCa, .ref aTo, .int byn, .ref aTu, .int pgm, .int tpm, .int stn, .int lnx, .int lny])), (aHe, .inl (cI, 60, .inl hei))] s.heap := hP
  have hl := lv_entry ([.ref oM, .int p1, .int p2]) (n := 3) (Nat.le_of_ble_eq_true rfl)
  rw [lg_entry_eq]
  generalize (lg_sl ([.ref oM, .int p1, .int p2]) ++ List.replicate (3 - (lg_sl ([.ref oM, .int p1, .int p2])).length) Slot.unset).toArray = ls at hl ⊢
  have hl : lv_has ls 3 [(0, .ref oM), (1, .int p1), (2, .int p2)] := hl
  obtain ⟨nB, hnB, hn60, hh⟩ := hI
  refine lv_aload_n hx hb d_Mod_pages_0 rfl (lv_at hl 0 rfl) ?_
  refine lv_iconst (v := 0) hx hb d_Mod_pages_1 (by decide) ?_
  refine va_put (D := (dC, dI)) (ci := 5) (v := .int 0) (ty := .int) (C := R_Mod) (T := F_Mod) (N := 23) hx hb hts hw_Mod t_Mod t_Mod_ok n_Mod hown hK hP hD hS 0 rfl rfl 0 (by decide) (hts (.fieldLink R_Mod 48 "PageFormsModel" "thrown" "I") (by decide +kernel)) (fun _ h9 => h9) rfl (by decide +kernel) rfl rfl (Nat.le_of_ble_eq_true rfl) d_Mod_pages_2 (fun H locs hP hD hS => ?_)
  have hP : va_P (dC, dI) classes [(oM, .inr (5, [.int 0, .ref aTx, .int siz, .ref aBg, .ref aEn, .ref aLe, .ref aMa, .ref aFi, .int lnm, .int rsm, .ref aHe, .int bxs, .int wdt, .int hgh, .ref aCa, .ref aTo, .int byn, .ref aTu, .int pgm, .int tpm, .int stn, .int lnx, .int lny])), (aHe, .inl (cI, 60, .inl hei))] H := hP
  have hD : va_D A [(oM, .inr (5, [.int 0, .ref aTx, .int siz, .ref aBg, .ref aEn, .ref aLe, .ref aMa, .ref aFi, .int lnm, .int rsm, .ref aHe, .int bxs, .int wdt, .int hgh, .ref aCa, .ref aTo, .int byn, .ref aTu, .int pgm, .int tpm, .int stn, .int lnx, .int lny])), (aHe, .inl (cI, 60, .inl hei))] := hD
  refine lv_iload_n hx hb d_Mod_pages_5 rfl (lv_at hl 1 rfl) ?_
  refine lv_iload_n hx hb d_Mod_pages_6 rfl (lv_at hl 2 rfl) ?_
  have hPc := hP.sub (ws' := []) [] rfl
  have hDc := hD.sub (ws' := []) [] (by decide) rfl
  have hFc := va_free (wc := []) hD hS hA [] rfl
  refine va_calli (va_runS (As := [.int p1, .int p2]) (rest := []) ⟨hx, hb, hml, hown, hts⟩ (k_Mod_isPage l dC dI cI cZ H.size p1 p2) (cwS 2 hts g_Mod_pages_Mod_isPage rfl rfl rfl (by decide +kernel) ⟨Nat.le_of_ble_eq_true rfl, Nat.le_of_ble_eq_true rfl⟩) ⟨fun a U g mk q => by obtain ⟨q0, q1, qP, qK, qD⟩ := q; exact ⟨q0, q1, qP, va_K.moved (u := U) (U := U.calling g mk a) (Vm.Alike.refl U.vm) qK, qD⟩, fun U hU hW => ⟨rfl, by rw [hU], by rw [hU]; exact hPc, va_K.moved hW.alike hK, hDc.weaken (fun _ _ _ _ => trivial)⟩⟩ rfl rfl hl.1 rfl (lv_room (Nat.le_of_ble_eq_true rfl)) d_Mod_pages_7 ⟨Nat.le_of_ble_eq_true rfl, Nat.le_of_ble_eq_true rfl⟩) hS (fun q _ h => hFc q h) hFc (fun r7 u t H1 locs ht hvm hw hB hz1 hk1 hS => ?_)
  have w7 : (r7.toInt = 1 ∧ bq_ok p1.toInt p2.toInt) ∨ (r7.toInt = 0 ∧ ¬ bq_ok p1.toInt p2.toInt) := hw
  obtain ⟨hP1, hK1, hD1⟩ := hB
  rw [ht] at hP1
  obtain ⟨hP, hD⟩ := va_join (wr := [(oM, .inr (5, [.int 0, .ref aTx, .int siz, .ref aBg, .ref aEn, .ref aLe, .ref aMa, .ref aFi, .int lnm, .int rsm, .ref aHe, .int bxs, .int wdt, .int hgh, .ref aCa, .ref aTo, .int byn, .ref aTu, .int pgm, .int tpm, .int stn, .int lnx, .int lny])), (aHe, .inl (cI, 60, .inl hei))]) (w1 := []) hP hD [] [0, 1] rfl rfl (by decide) (by decide) hk1 hFc hP1 hD1
  generalize H1 = H at hP hS ⊢
  have hP : va_P (dC, dI) classes [(oM, .inr (5, [.int 0, .ref aTx, .int siz, .ref aBg, .ref aEn, .ref aLe, .ref aMa, .ref aFi, .int lnm, .int rsm, .ref aHe, .int bxs, .int wdt, .int hgh, .ref aCa, .ref aTo, .int byn, .ref aTu, .int pgm, .int tpm, .int stn, .int lnx, .int lny])), (aHe, .inl (cI, 60, .inl hei))] H := hP
  have hD : va_D A [(oM, .inr (5, [.int 0, .ref aTx, .int siz, .ref aBg, .ref aEn, .ref aLe, .ref aMa, .ref aFi, .int lnm, .int rsm, .ref aHe, .int bxs, .int wdt, .int hgh, .ref aCa, .ref aTo, .int byn, .ref aTu, .int pgm, .int tpm, .int stn, .int lnx, .int lny])), (aHe, .inl (cI, 60, .inl hei))] := hD
  refine xi_if_ne (tgt := 15) hx hb (rfl) d_Mod_pages_10 (by decide) (fun c10 => ?_) (fun c10 => ?_)
  · have hok : bq_ok p1.toInt p2.toInt := by rcases w7 with z | z; exact z.2; omega
    have hok1 := hok
    unfold bq_ok at hok1
    refine lv_aload_n hx hb d_Mod_pages_15 rfl (lv_at hl 0 rfl) ?_
    refine lv_aload_n hx hb d_Mod_pages_16 rfl (lv_at hl 0 rfl) ?_
    refine va_get (D := (dC, dI)) (ci := 5) (v := .int bxs) (C := R_Mod) (T := F_Mod) (N := 23) hx hb hts hw_Mod hown hK hP 0 rfl rfl 11 (by decide) (hts (.fieldLink R_Mod 72 "PageFormsModel" "boxes" "I") (by decide +kernel)) (fun _ h9 => h9) rfl d_Mod_pages_17 ?_
    refine lv_iconst (v := 1) hx hb d_Mod_pages_20 (by decide) ?_
    refine lv_isub hx hb d_Mod_pages_21 ?_
    have a21 : (bxs - 1).toInt = ((nB : Int) - 1) := xi_sub hnB (show (1 : Int32).toInt = 1 by decide) (by omega) (by omega)
    refine lv_iload_n hx hb d_Mod_pages_22 rfl (lv_at hl 1 rfl) ?_
    refine lv_iload_n hx hb d_Mod_pages_23 rfl (lv_at hl 2 rfl) ?_
    have hPc := hP.sub (ws' := [(oM, .inr (5, [.int 0, .ref aTx, .int siz, .ref aBg, .ref aEn, .ref aLe, .ref aMa, .ref aFi, .int lnm, .int rsm, .ref aHe, .int bxs, .int wdt, .int hgh, .ref aCa, .ref aTo, .int byn, .ref aTu, .int pgm, .int tpm, .int stn, .int lnx, .int lny])), (aHe, .inl (cI, 60, .inl hei))]) [0, 1] rfl
    have hDc := hD.sub (ws' := [(oM, .inr (5, [.int 0, .ref aTx, .int siz, .ref aBg, .ref aEn, .ref aLe, .ref aMa, .ref aFi, .int lnm, .int rsm, .ref aHe, .int bxs, .int wdt, .int hgh, .ref aCa, .ref aTo, .int byn, .ref aTu, .int pgm, .int tpm, .int stn, .int lnx, .int lny])), (aHe, .inl (cI, 60, .inl hei))]) [0, 1] (by decide) rfl
    have hFc := va_free (wc := [(oM, .inr (5, [.int 0, .ref aTx, .int siz, .ref aBg, .ref aEn, .ref aLe, .ref aMa, .ref aFi, .int lnm, .int rsm, .ref aHe, .int bxs, .int wdt, .int hgh, .ref aCa, .ref aTo, .int byn, .ref aTu, .int pgm, .int tpm, .int stn, .int lnx, .int lny])), (aHe, .inl (cI, 60, .inl hei))]) hD hS hA [0, 1] rfl
    refine va_callv (va_runV (As := [.int (bxs - 1), .int p1, .int p2]) (rest := []) ⟨hx, hb, hml, hown, hts⟩ (k_Mod_putUpTo l dC dI cI cZ oM aHe 0 aTx siz aBg aEn aLe aMa aFi lnm rsm bxs wdt hgh aCa aTo byn aTu pgm tpm stn lnx lny hei H.size (bxs - 1) p1 p2 nB (by omega) hn60 hh (by omega) (by omega)) (cwV 3 hts g_Mod_pages_Mod_putUpTo rfl rfl rfl (by decide +kernel) ⟨Nat.le_of_ble_eq_true rfl, Nat.le_of_ble_eq_true rfl⟩) ⟨fun a U g mk q => by obtain ⟨q0, q1, qP, qK, qD⟩ := q; exact ⟨q0, q1, qP, va_K.moved (u := U) (U := U.calling g mk a) (Vm.Alike.refl U.vm) qK, qD⟩, va_recv hK hPc (ci := 5) (q0 := 0) rfl rfl, fun U hU hW => ⟨rfl, by rw [hU], by rw [hU]; exact hPc, va_K.moved hW.alike hK, hDc.weaken (fun _ _ _ _ => trivial)⟩⟩ rfl rfl hl.1 rfl (lv_room (Nat.le_of_ble_eq_true rfl)) d_Mod_pages_24 ⟨Nat.le_of_ble_eq_true rfl, Nat.le_of_ble_eq_true rfl⟩) hS (fun q _ h => hFc q h) hFc (fun u t H1 locs ht hvm hw hB hz1 hk1 hS => ?_)
    obtain ⟨pgm_24, tpm_24⟩ := u
    have w24 : pgm_24.toInt = (bq hei p1.toInt p2.toInt 0 nB).1 ∧ tpm_24.toInt = (bq hei p1.toInt p2.toInt 0 nB).2.1 := hw
    obtain ⟨hP1, hK1, hD1⟩ := hB
    rw [ht] at hP1
    obtain ⟨hP, hD⟩ := va_join (wr := []) (w1 := [(oM, .inr (5, [.int 0, .ref aTx, .int siz, .ref aBg, .ref aEn, .ref aLe, .ref aMa, .ref aFi, .int lnm, .int rsm, .ref aHe, .int bxs, .int wdt, .int hgh, .ref aCa, .ref aTo, .int byn, .ref aTu, .int pgm_24, .int tpm_24, .int stn, .int lnx, .int lny])), (aHe, .inl (cI, 60, .inl hei))]) hP hD [0, 1] [] rfl rfl (by decide) (by decide) hk1 hFc hP1 hD1
    generalize H1 = H at hP hS ⊢
    have hP : va_P (dC, dI) classes [(oM, .inr (5, [.int 0, .ref aTx, .int siz, .ref aBg, .ref aEn, .ref aLe, .ref aMa, .ref aFi, .int lnm, .int rsm, .ref aHe, .int bxs, .int wdt, .int hgh, .ref aCa, .ref aTo, .int byn, .ref aTu, .int pgm_24, .int tpm_24, .int stn, .int lnx, .int lny])), (aHe, .inl (cI, 60, .inl hei))] H := hP
    have hD : va_D A [(oM, .inr (5, [.int 0, .ref aTx, .int siz, .ref aBg, .ref aEn, .ref aLe, .ref aMa, .ref aFi, .int lnm, .int rsm, .ref aHe, .int bxs, .int wdt, .int hgh, .ref aCa, .ref aTo, .int byn, .ref aTu, .int pgm_24, .int tpm_24, .int stn, .int lnx, .int lny])), (aHe, .inl (cI, 60, .inl hei))] := hD
    have hbd := bq_bnd (t0 := 0) (h := hei) (ht := p1.toInt) (g := p2.toInt) (by omega) nB _ _ _ rfl hh (by omega)
    refine lv_aload_n hx hb d_Mod_pages_27 rfl (lv_at hl 0 rfl) ?_
    refine va_get (D := (dC, dI)) (ci := 5) (v := .int pgm_24) (C := R_Mod) (T := F_Mod) (N := 23) hx hb hts hw_Mod hown hK hP 0 rfl rfl 18 (by decide) (hts (.fieldLink R_Mod 75 "PageFormsModel" "page" "I") (by decide +kernel)) (fun _ h9 => h9) rfl d_Mod_pages_28 ?_
    refine lv_iconst (v := 1) hx hb d_Mod_pages_31 (by decide) ?_
    refine lv_iadd hx hb d_Mod_pages_32 ?_
    have a32 : (pgm_24 + 1).toInt = (pgm_24.toInt + 1) := xi_add (rfl) (show (1 : Int32).toInt = 1 by decide) (by rw [w24.1]; omega) (by rw [w24.1]; omega)
    exact W.iret (v := (pgm_24 + 1)) hx hb hr (fun t ht hW => ⟨⟨(pgm_24 + 1), (0, pgm_24, tpm_24), rfl, (show bq_pages bxs hei p1 p2 (pgm_24 + 1) from (Or.inl ⟨hok, by rw [a32, w24.1, hnB]; rfl⟩)), by rw [ht]; exact hP, va_K.moved hW.alike hK, hD⟩, hS.F ht⟩) hS.2.2 d_Mod_pages_33
  · refine lv_iconst (v := (-1)) hx hb d_Mod_pages_13 (by decide) ?_
    have hno : ¬ bq_ok p1.toInt p2.toInt := by rcases w7 with z | z; omega; exact z.2
    exact W.iret (v := (-1)) hx hb hr (fun t ht hW => ⟨⟨(-1), (0, pgm, tpm), rfl, (show bq_pages bxs hei p1 p2 ((-1) : Int32) from (Or.inr ⟨hno, by decide⟩)), by rw [ht]; exact hP, va_K.moved hW.alike hK, hD⟩, hS.F ht⟩) hS.2.2 d_Mod_pages_14

set_option maxHeartbeats 4000000 in
set_option maxRecDepth 100000 in
theorem k_Mod_put (l : Launch) (dC : Nat → ClassId) (dI : Nat → Nat → Nat) (cI cZ : ClassId) (oM : Nat) (aHe : Nat) (thr : Int32) (aTx : Nat) (siz : Int32) (aBg : Nat) (aEn : Nat) (aLe : Nat) (aMa : Nat) (aFi : Nat) (lnm : Int32) (rsm : Int32) (bxs : Int32) (wdt : Int32) (hgh : Int32) (aCa : Nat) (aTo : Nat) (byn : Int32) (aTu : Nat) (pgm : Int32) (tpm : Int32) (stn : Int32) (lnx : Int32) (lny : Int32) (hei : Nat → Int32) (sz : Nat) (p1 : Int32) (p2 : Int32) (p3 : Int32) (p4 : Int32) (hI : bq_I bxs hei) : Met l y_Mod_put w_Mod_put ({ frames := 2, cells := 0, slots := 0, locals := 43 }) (va_Pc [.ref oM, .int p1, .int p2, .int p3, .int p4] (fun U => U.heap.size = sz ∧ va_P (dC, dI) classes [(oM, .inr (5, [.int thr, .ref aTx, .int siz, .ref aBg, .ref aEn, .ref aLe, .ref aMa, .ref aFi, .int lnm, .int rsm, .ref aHe, .int bxs, .int wdt, .int hgh, .ref aCa, .ref aTo, .int byn, .ref aTu, .int pgm, .int tpm, .int stn, .int lnx, .int lny])), (aHe, .inl (cI, 60, .inl hei))] U.heap ∧ va_K (dC, dI) classes [(cI, .int), (cZ, .boolean)] U ∧ va_D (fun _ => True) [(oM, .inr (5, [.int thr, .ref aTx, .int siz, .ref aBg, .ref aEn, .ref aLe, .ref aMa, .ref aFi, .int lnm, .int rsm, .ref aHe, .int bxs, .int wdt, .int hgh, .ref aCa, .ref aTo, .int byn, .ref aTu, .int pgm, .int tpm, .int stn, .int lnx, .int lny])), (aHe, .inl (cI, 60, .inl hei))])) (va_Qi (fun (r : Int32) (u : Int32 × Int32 × Int32) => bq_put bxs hei p1 p2 p3 p4 r) (fun (u : Int32 × Int32 × Int32) (t : State) => va_P (dC, dI) classes [(oM, .inr (5, [.int u.1, .ref aTx, .int siz, .ref aBg, .ref aEn, .ref aLe, .ref aMa, .ref aFi, .int lnm, .int rsm, .ref aHe, .int bxs, .int wdt, .int hgh, .ref aCa, .ref aTo, .int byn, .ref aTu, .int u.2.1, .int u.2.2, .int stn, .int lnx, .int lny])), (aHe, .inl (cI, 60, .inl hei))] t.heap ∧ va_K (dC, dI) classes [(cI, .int), (cZ, .boolean)] t ∧ va_D (va_A [(oM, .inr (5, [.int thr, .ref aTx, .int siz, .ref aBg, .ref aEn, .ref aLe, .ref aMa, .ref aFi, .int lnm, .int rsm, .ref aHe, .int bxs, .int wdt, .int hgh, .ref aCa, .ref aTo, .int byn, .ref aTu, .int pgm, .int tpm, .int stn, .int lnx, .int lny])), (aHe, .inl (cI, 60, .inl hei))] sz) [(oM, .inr (5, [.int u.1, .ref aTx, .int siz, .ref aBg, .ref aEn, .ref aLe, .ref aMa, .ref aFi, .int lnm, .int rsm, .ref aHe, .int bxs, .int wdt, .int hgh, .ref aCa, .ref aTo, .int byn, .ref aTu, .int u.2.1, .int u.2.2, .int stn, .int lnx, .int lny])), (aHe, .inl (cI, 60, .inl hei))]) (va_A [(oM, .inr (5, [.int thr, .ref aTx, .int siz, .ref aBg, .ref aEn, .ref aLe, .ref aMa, .ref aFi, .int lnm, .int rsm, .ref aHe, .int bxs, .int wdt, .int hgh, .ref aCa, .ref aTo, .int byn, .ref aTu, .int pgm, .int tpm, .int stn, .int lnx, .int lny])), (aHe, .inl (cI, 60, .inl hei))] sz)) 0 0 (va_A [(oM, .inr (5, [.int thr, .ref aTx, .int siz, .ref aBg, .ref aEn, .ref aLe, .ref aMa, .ref aFi, .int lnm, .int rsm, .ref aHe, .int bxs, .int wdt, .int hgh, .ref aCa, .ref aTo, .int byn, .ref aTu, .int pgm, .int tpm, .int stn, .int lnx, .int lny])), (aHe, .inl (cI, 60, .inl hei))] sz) := by
  refine Met.ofW (cc := b_Mod_put) (maxL := 5) (ret := (some .int)) (by decide) rfl ?_
  intro p e s m args below meth c s₁ B hml hv
  obtain ⟨rfl, hsz, hP, hK, hD0⟩ := hv
  have hx := B.exec
  have hb := B.bytes
  have hr := B.returns
  have hts := atoms_spec (ws := w_Mod_put) B.pre
  have hown : s.vm.findClass R_Mod = some m.cls := findClass_of_methodNamed B.named
  have hlocks := B.notSynchronized
  have hw_Mod : ∀ w ∈ w_Mod, w ∈ w_Mod_put := by decide +kernel
  subst hsz
  have hD := hD0.self (sz := s.heap.size)
  generalize hAe : va_A [(oM, .inr (5, [.int thr, .ref aTx, .int siz, .ref aBg, .ref aEn, .ref aLe, .ref aMa, .ref aFi, .int lnm, .int rsm, .ref aHe, .int bxs, .int wdt, .int hgh, .ref aCa, .ref aTo, .int byn, .ref aTu, .int pgm, .int tpm, .int stn, .int lnx, .int lny])), (aHe, .inl (cI, 60, .inl hei))] s.heap.size = A at hD ⊢
  have hA : ∀ q : Nat, s.heap.size ≤ q → A q := fun q h => by rw [← hAe]; exact Or.inr h
  have hS : va_S A s.heap s.heap [] := va_S.rf
  have hP : va_P (dC, dI) classes [(oM, .inr (5, [.int thr, .ref aTx, .int siz, .ref aBg, .ref aEn, .ref aLe, .ref aMa, .ref aFi, .int lnm, .int rsm, .ref aHe, .int bxs, .int wdt, .int hgh, .ref aCa, .ref aTo, .int byn, .ref aTu, .int pgm, .int tpm, .int stn, .int lnx, .int lny])), (aHe, .inl (cI, 60, .inl hei))] s.heap := hP
  have hl := lv_entry ([.ref oM, .int p1, .int p2, .int p3, .int p4]) (n := 5) (Nat.le_of_ble_eq_true rfl)
  rw [lg_entry_eq]
  generalize (lg_sl ([.ref oM, .int p1, .int p2, .int p3, .int p4]) ++ List.replicate (5 - (lg_sl ([.ref oM, .int p1, .int p2, .int p3, .int p4])).length) Slot.unset).toArray = ls at hl ⊢
  have hl : lv_has ls 5 [(0, .ref oM), (1, .int p1), (2, .int p2), (3, .int p3), (4, .int p4)] := hl
  obtain ⟨nB, hnB, hn60, hh⟩ := hI
  refine lv_aload_n hx hb d_Mod_put_0 rfl (lv_at hl 0 rfl) ?_
  refine lv_iconst (v := 0) hx hb d_Mod_put_1 (by decide) ?_
  refine va_put (D := (dC, dI)) (ci := 5) (v := .int 0) (ty := .int) (C := R_Mod) (T := F_Mod) (N := 23) hx hb hts hw_Mod t_Mod t_Mod_ok n_Mod hown hK hP hD hS 0 rfl rfl 0 (by decide) (hts (.fieldLink R_Mod 48 "PageFormsModel" "thrown" "I") (by decide +kernel)) (fun _ h9 => h9) rfl (by decide +kernel) rfl rfl (Nat.le_of_ble_eq_true rfl) d_Mod_put_2 (fun H locs hP hD hS => ?_)
  have hP : va_P (dC, dI) classes [(oM, .inr (5, [.int 0, .ref aTx, .int siz, .ref aBg, .ref aEn, .ref aLe, .ref aMa, .ref aFi, .int lnm, .int rsm, .ref aHe, .int bxs, .int wdt, .int hgh, .ref aCa, .ref aTo, .int byn, .ref aTu, .int pgm, .int tpm, .int stn, .int lnx, .int lny])), (aHe, .inl (cI, 60, .inl hei))] H := hP
  have hD : va_D A [(oM, .inr (5, [.int 0, .ref aTx, .int siz, .ref aBg, .ref aEn, .ref aLe, .ref aMa, .ref aFi, .int lnm, .int rsm, .ref aHe, .int bxs, .int wdt, .int hgh, .ref aCa, .ref aTo, .int byn, .ref aTu, .int pgm, .int tpm, .int stn, .int lnx, .int lny])), (aHe, .inl (cI, 60, .inl hei))] := hD
  refine lv_iload_n hx hb d_Mod_put_5 rfl (lv_at hl 2 rfl) ?_
  refine lv_iload_n hx hb d_Mod_put_6 rfl (lv_at hl 3 rfl) ?_
  have hPc := hP.sub (ws' := []) [] rfl
  have hDc := hD.sub (ws' := []) [] (by decide) rfl
  have hFc := va_free (wc := []) hD hS hA [] rfl
  refine va_calli (va_runS (As := [.int p2, .int p3]) (rest := []) ⟨hx, hb, hml, hown, hts⟩ (k_Mod_isPage l dC dI cI cZ H.size p2 p3) (cwS 2 hts g_Mod_put_Mod_isPage rfl rfl rfl (by decide +kernel) ⟨Nat.le_of_ble_eq_true rfl, Nat.le_of_ble_eq_true rfl⟩) ⟨fun a U g mk q => by obtain ⟨q0, q1, qP, qK, qD⟩ := q; exact ⟨q0, q1, qP, va_K.moved (u := U) (U := U.calling g mk a) (Vm.Alike.refl U.vm) qK, qD⟩, fun U hU hW => ⟨rfl, by rw [hU], by rw [hU]; exact hPc, va_K.moved hW.alike hK, hDc.weaken (fun _ _ _ _ => trivial)⟩⟩ rfl rfl hl.1 rfl (lv_room (Nat.le_of_ble_eq_true rfl)) d_Mod_put_7 ⟨Nat.le_of_ble_eq_true rfl, Nat.le_of_ble_eq_true rfl⟩) hS (fun q _ h => hFc q h) hFc (fun r7 u t H1 locs ht hvm hw hB hz1 hk1 hS => ?_)
  have w7 : (r7.toInt = 1 ∧ bq_ok p2.toInt p3.toInt) ∨ (r7.toInt = 0 ∧ ¬ bq_ok p2.toInt p3.toInt) := hw
  obtain ⟨hP1, hK1, hD1⟩ := hB
  rw [ht] at hP1
  obtain ⟨hP, hD⟩ := va_join (wr := [(oM, .inr (5, [.int 0, .ref aTx, .int siz, .ref aBg, .ref aEn, .ref aLe, .ref aMa, .ref aFi, .int lnm, .int rsm, .ref aHe, .int bxs, .int wdt, .int hgh, .ref aCa, .ref aTo, .int byn, .ref aTu, .int pgm, .int tpm, .int stn, .int lnx, .int lny])), (aHe, .inl (cI, 60, .inl hei))]) (w1 := []) hP hD [] [0, 1] rfl rfl (by decide) (by decide) hk1 hFc hP1 hD1
  generalize H1 = H at hP hS ⊢
  have hP : va_P (dC, dI) classes [(oM, .inr (5, [.int 0, .ref aTx, .int siz, .ref aBg, .ref aEn, .ref aLe, .ref aMa, .ref aFi, .int lnm, .int rsm, .ref aHe, .int bxs, .int wdt, .int hgh, .ref aCa, .ref aTo, .int byn, .ref aTu, .int pgm, .int tpm, .int stn, .int lnx, .int lny])), (aHe, .inl (cI, 60, .inl hei))] H := hP
  have hD : va_D A [(oM, .inr (5, [.int 0, .ref aTx, .int siz, .ref aBg, .ref aEn, .ref aLe, .ref aMa, .ref aFi, .int lnm, .int rsm, .ref aHe, .int bxs, .int wdt, .int hgh, .ref aCa, .ref aTo, .int byn, .ref aTu, .int pgm, .int tpm, .int stn, .int lnx, .int lny])), (aHe, .inl (cI, 60, .inl hei))] := hD
  refine xi_if_eq (tgt := 37) hx hb (rfl) d_Mod_put_10 (by decide) (fun c10 => ?_) (fun c10 => ?_)
  · refine lv_iconst (v := (-1)) hx hb d_Mod_put_37 (by decide) ?_
    have hno : ¬ bq_ok p2.toInt p3.toInt := by rcases w7 with z | z; omega; exact z.2
    exact W.iret (v := (-1)) hx hb hr (fun t ht hW => ⟨⟨(-1), (0, pgm, tpm), rfl, (show bq_put bxs hei p1 p2 p3 p4 ((-1) : Int32) from (Or.inr ⟨fun z => hno z.1, by decide⟩)), by rw [ht]; exact hP, va_K.moved hW.alike hK, hD⟩, hS.F ht⟩) hS.2.2 d_Mod_put_38
  · refine lv_iload_n hx hb d_Mod_put_13 rfl (lv_at hl 1 rfl) ?_
    refine lv_iconst (v := 0) hx hb d_Mod_put_14 (by decide) ?_
    refine lv_aload_n hx hb d_Mod_put_15 rfl (lv_at hl 0 rfl) ?_
    refine va_get (D := (dC, dI)) (ci := 5) (v := .int bxs) (C := R_Mod) (T := F_Mod) (N := 23) hx hb hts hw_Mod hown hK hP 0 rfl rfl 11 (by decide) (hts (.fieldLink R_Mod 72 "PageFormsModel" "boxes" "I") (by decide +kernel)) (fun _ h9 => h9) rfl d_Mod_put_16 ?_
    refine lv_iconst (v := 1) hx hb d_Mod_put_19 (by decide) ?_
    refine lv_isub hx hb d_Mod_put_20 ?_
    have a20 : (bxs - 1).toInt = ((nB : Int) - 1) := xi_sub hnB (show (1 : Int32).toInt = 1 by decide) (by omega) (by omega)
    have hPc := hP.sub (ws' := []) [] rfl
    have hDc := hD.sub (ws' := []) [] (by decide) rfl
    have hFc := va_free (wc := []) hD hS hA [] rfl
    refine va_calli (va_runS (As := [.int p1, .int 0, .int (bxs - 1)]) (rest := []) ⟨hx, hb, hml, hown, hts⟩ (k_Mod_within l dC dI cI cZ H.size p1 0 (bxs - 1)) (cwS 3 hts g_Mod_put_Mod_within rfl rfl rfl (by decide +kernel) ⟨Nat.le_of_ble_eq_true rfl, Nat.le_of_ble_eq_true rfl⟩) ⟨fun a U g mk q => by obtain ⟨q0, q1, qP, qK, qD⟩ := q; exact ⟨q0, q1, qP, va_K.moved (u := U) (U := U.calling g mk a) (Vm.Alike.refl U.vm) qK, qD⟩, fun U hU hW => ⟨rfl, by rw [hU], by rw [hU]; exact hPc, va_K.moved hW.alike hK, hDc.weaken (fun _ _ _ _ => trivial)⟩⟩ rfl rfl hl.1 rfl (lv_room (Nat.le_of_ble_eq_true rfl)) d_Mod_put_21 ⟨Nat.le_of_ble_eq_true rfl, Nat.le_of_ble_eq_true rfl⟩) hS (fun q _ h => hFc q h) hFc (fun r21 u t H1 locs ht hvm hw hB hz1 hk1 hS => ?_)
    have w21 : (r21.toInt = 1 ∧ 0 ≤ p1.toInt ∧ p1.toInt ≤ (bxs - 1).toInt) ∨ (r21.toInt = 0 ∧ (p1.toInt < 0 ∨ (bxs - 1).toInt < p1.toInt)) := hw
    obtain ⟨hP1, hK1, hD1⟩ := hB
    rw [ht] at hP1
    obtain ⟨hP, hD⟩ := va_join (wr := [(oM, .inr (5, [.int 0, .ref aTx, .int siz, .ref aBg, .ref aEn, .ref aLe, .ref aMa, .ref aFi, .int lnm, .int rsm, .ref aHe, .int bxs, .int wdt, .int hgh, .ref aCa, .ref aTo, .int byn, .ref aTu, .int pgm, .int tpm, .int stn, .int lnx, .int lny])), (aHe, .inl (cI, 60, .inl hei))]) (w1 := []) hP hD [] [0, 1] rfl rfl (by decide) (by decide) hk1 hFc hP1 hD1
    generalize H1 = H at hP hS ⊢
    have hP : va_P (dC, dI) classes [(oM, .inr (5, [.int 0, .ref aTx, .int siz, .ref aBg, .ref aEn, .ref aLe, .ref aMa, .ref aFi, .int lnm, .int rsm, .ref aHe, .int bxs, .int wdt, .int hgh, .ref aCa, .ref aTo, .int byn, .ref aTu, .int pgm, .int tpm, .int stn, .int lnx, .int lny])), (aHe, .inl (cI, 60, .inl hei))] H := hP
    have hD : va_D A [(oM, .inr (5, [.int 0, .ref aTx, .int siz, .ref aBg, .ref aEn, .ref aLe, .ref aMa, .ref aFi, .int lnm, .int rsm, .ref aHe, .int bxs, .int wdt, .int hgh, .ref aCa, .ref aTo, .int byn, .ref aTu, .int pgm, .int tpm, .int stn, .int lnx, .int lny])), (aHe, .inl (cI, 60, .inl hei))] := hD
    rw [a20] at w21
    refine xi_if_eq (tgt := 37) hx hb (rfl) d_Mod_put_24 (by decide) (fun c24 => ?_) (fun c24 => ?_)
    · refine lv_iconst (v := (-1)) hx hb d_Mod_put_37 (by decide) ?_
      exact W.iret (v := (-1)) hx hb hr (fun t ht hW => ⟨⟨(-1), (0, pgm, tpm), rfl, (show bq_put bxs hei p1 p2 p3 p4 ((-1) : Int32) from (Or.inr ⟨fun z => by have z1 := z.2.1; have z2 := z.2.2.1; omega, by decide⟩)), by rw [ht]; exact hP, va_K.moved hW.alike hK, hD⟩, hS.F ht⟩) hS.2.2 d_Mod_put_38
    · refine lv_iload hx hb d_Mod_put_27 (lv_at hl 4 rfl) ?_
      refine lv_iconst (v := 0) hx hb d_Mod_put_29 (by decide) ?_
      refine lv_iconst (v := 1) hx hb d_Mod_put_30 (by decide) ?_
      have hPc := hP.sub (ws' := []) [] rfl
      have hDc := hD.sub (ws' := []) [] (by decide) rfl
      have hFc := va_free (wc := []) hD hS hA [] rfl
      refine va_calli (va_runS (As := [.int p4, .int 0, .int 1]) (rest := []) ⟨hx, hb, hml, hown, hts⟩ (k_Mod_within l dC dI cI cZ H.size p4 0 1) (cwS 3 hts g_Mod_put_Mod_within rfl rfl rfl (by decide +kernel) ⟨Nat.le_of_ble_eq_true rfl, Nat.le_of_ble_eq_true rfl⟩) ⟨fun a U g mk q => by obtain ⟨q0, q1, qP, qK, qD⟩ := q; exact ⟨q0, q1, qP, va_K.moved (u := U) (U := U.calling g mk a) (Vm.Alike.refl U.vm) qK, qD⟩, fun U hU hW => ⟨rfl, by rw [hU], by rw [hU]; exact hPc, va_K.moved hW.alike hK, hDc.weaken (fun _ _ _ _ => trivial)⟩⟩ rfl rfl hl.1 rfl (lv_room (Nat.le_of_ble_eq_true rfl)) d_Mod_put_31 ⟨Nat.le_of_ble_eq_true rfl, Nat.le_of_ble_eq_true rfl⟩) hS (fun q _ h => hFc q h) hFc (fun r31 u t H1 locs ht hvm hw hB hz1 hk1 hS => ?_)
      have w31 : (r31.toInt = 1 ∧ 0 ≤ p4.toInt ∧ p4.toInt ≤ 1) ∨ (r31.toInt = 0 ∧ (p4.toInt < 0 ∨ 1 < p4.toInt)) := hw
      obtain ⟨hP1, hK1, hD1⟩ := hB
      rw [ht] at hP1
      obtain ⟨hP, hD⟩ := va_join (wr := [(oM, .inr (5, [.int 0, .ref aTx, .int siz, .ref aBg, .ref aEn, .ref aLe, .ref aMa, .ref aFi, .int lnm, .int rsm, .ref aHe, .int bxs, .int wdt, .int hgh, .ref aCa, .ref aTo, .int byn, .ref aTu, .int pgm, .int tpm, .int stn, .int lnx, .int lny])), (aHe, .inl (cI, 60, .inl hei))]) (w1 := []) hP hD [] [0, 1] rfl rfl (by decide) (by decide) hk1 hFc hP1 hD1
      generalize H1 = H at hP hS ⊢
      have hP : va_P (dC, dI) classes [(oM, .inr (5, [.int 0, .ref aTx, .int siz, .ref aBg, .ref aEn, .ref aLe, .ref aMa, .ref aFi, .int lnm, .int rsm, .ref aHe, .int bxs, .int wdt, .int hgh, .ref aCa, .ref aTo, .int byn, .ref aTu, .int pgm, .int tpm, .int stn, .int lnx, .int lny])), (aHe, .inl (cI, 60, .inl hei))] H := hP
      have hD : va_D A [(oM, .inr (5, [.int 0, .ref aTx, .int siz, .ref aBg, .ref aEn, .ref aLe, .ref aMa, .ref aFi, .int lnm, .int rsm, .ref aHe, .int bxs, .int wdt, .int hgh, .ref aCa, .ref aTo, .int byn, .ref aTu, .int pgm, .int tpm, .int stn, .int lnx, .int lny])), (aHe, .inl (cI, 60, .inl hei))] := hD
      refine xi_if_ne (tgt := 39) hx hb (rfl) d_Mod_put_34 (by decide) (fun c34 => ?_) (fun c34 => ?_)
      · have hok : bq_ok p2.toInt p3.toInt := by rcases w7 with z | z; exact z.2; omega
        have hok1 := hok
        unfold bq_ok at hok1
        obtain ⟨b, hb0⟩ : ∃ b : Nat, p1.toInt = (b : Int) := ⟨p1.toInt.toNat, by omega⟩
        refine lv_aload_n hx hb d_Mod_put_39 rfl (lv_at hl 0 rfl) ?_
        refine lv_iload_n hx hb d_Mod_put_40 rfl (lv_at hl 1 rfl) ?_
        refine lv_iload_n hx hb d_Mod_put_41 rfl (lv_at hl 2 rfl) ?_
        refine lv_iload_n hx hb d_Mod_put_42 rfl (lv_at hl 3 rfl) ?_
        have hPc := hP.sub (ws' := [(oM, .inr (5, [.int 0, .ref aTx, .int siz, .ref aBg, .ref aEn, .ref aLe, .ref aMa, .ref aFi, .int lnm, .int rsm, .ref aHe, .int bxs, .int wdt, .int hgh, .ref aCa, .ref aTo, .int byn, .ref aTu, .int pgm, .int tpm, .int stn, .int lnx, .int lny])), (aHe, .inl (cI, 60, .inl hei))]) [0, 1] rfl
        have hDc := hD.sub (ws' := [(oM, .inr (5, [.int 0, .ref aTx, .int siz, .ref aBg, .ref aEn, .ref aLe, .ref aMa, .ref aFi, .int lnm, .int rsm, .ref aHe, .int bxs, .int wdt, .int hgh, .ref aCa, .ref aTo, .int byn, .ref aTu, .int pgm, .int tpm, .int stn, .int lnx, .int lny])), (aHe, .inl (cI, 60, .inl hei))]) [0, 1] (by decide) rfl
        have hFc := va_free (wc := [(oM, .inr (5, [.int 0, .ref aTx, .int siz, .ref aBg, .ref aEn, .ref aLe, .ref aMa, .ref aFi, .int lnm, .int rsm, .ref aHe, .int bxs, .int wdt, .int hgh, .ref aCa, .ref aTo, .int byn, .ref aTu, .int pgm, .int tpm, .int stn, .int lnx, .int lny])), (aHe, .inl (cI, 60, .inl hei))]) hD hS hA [0, 1] rfl
        refine va_callv (va_runV (As := [.int p1, .int p2, .int p3]) (rest := []) ⟨hx, hb, hml, hown, hts⟩ (k_Mod_putUpTo l dC dI cI cZ oM aHe 0 aTx siz aBg aEn aLe aMa aFi lnm rsm bxs wdt hgh aCa aTo byn aTu pgm tpm stn lnx lny hei H.size p1 p2 p3 (b + 1) (by omega) (by omega) (fun j hj => hh j (by omega)) (by omega) (by omega)) (cwV 3 hts g_Mod_put_Mod_putUpTo rfl rfl rfl (by decide +kernel) ⟨Nat.le_of_ble_eq_true rfl, Nat.le_of_ble_eq_true rfl⟩) ⟨fun a U g mk q => by obtain ⟨q0, q1, qP, qK, qD⟩ := q; exact ⟨q0, q1, qP, va_K.moved (u := U) (U := U.calling g mk a) (Vm.Alike.refl U.vm) qK, qD⟩, va_recv hK hPc (ci := 5) (q0 := 0) rfl rfl, fun U hU hW => ⟨rfl, by rw [hU], by rw [hU]; exact hPc, va_K.moved hW.alike hK, hDc.weaken (fun _ _ _ _ => trivial)⟩⟩ rfl rfl hl.1 rfl (lv_room (Nat.le_of_ble_eq_true rfl)) d_Mod_put_43 ⟨Nat.le_of_ble_eq_true rfl, Nat.le_of_ble_eq_true rfl⟩) hS (fun q _ h => hFc q h) hFc (fun u t H1 locs ht hvm hw hB hz1 hk1 hS => ?_)
        obtain ⟨pgm_43, tpm_43⟩ := u
        have w43 : pgm_43.toInt = (bq hei p2.toInt p3.toInt 0 (b + 1)).1 ∧ tpm_43.toInt = (bq hei p2.toInt p3.toInt 0 (b + 1)).2.1 := hw
        obtain ⟨hP1, hK1, hD1⟩ := hB
        rw [ht] at hP1
        obtain ⟨hP, hD⟩ := va_join (wr := []) (w1 := [(oM, .inr (5, [.int 0, .ref aTx, .int siz, .ref aBg, .ref aEn, .ref aLe, .ref aMa, .ref aFi, .int lnm, .int rsm, .ref aHe, .int bxs, .int wdt, .int hgh, .ref aCa, .ref aTo, .int byn, .ref aTu, .int pgm_43, .int tpm_43, .int stn, .int lnx, .int lny])), (aHe, .inl (cI, 60, .inl hei))]) hP hD [0, 1] [] rfl rfl (by decide) (by decide) hk1 hFc hP1 hD1
        generalize H1 = H at hP hS ⊢
        have hP : va_P (dC, dI) classes [(oM, .inr (5, [.int 0, .ref aTx, .int siz, .ref aBg, .ref aEn, .ref aLe, .ref aMa, .ref aFi, .int lnm, .int rsm, .ref aHe, .int bxs, .int wdt, .int hgh, .ref aCa, .ref aTo, .int byn, .ref aTu, .int pgm_43, .int tpm_43, .int stn, .int lnx, .int lny])), (aHe, .inl (cI, 60, .inl hei))] H := hP
        have hD : va_D A [(oM, .inr (5, [.int 0, .ref aTx, .int siz, .ref aBg, .ref aEn, .ref aLe, .ref aMa, .ref aFi, .int lnm, .int rsm, .ref aHe, .int bxs, .int wdt, .int hgh, .ref aCa, .ref aTo, .int byn, .ref aTu, .int pgm_43, .int tpm_43, .int stn, .int lnx, .int lny])), (aHe, .inl (cI, 60, .inl hei))] := hD
        refine lv_iload hx hb d_Mod_put_46 (lv_at hl 4 rfl) ?_
        refine xi_if_ne (tgt := 58) hx hb (rfl) d_Mod_put_48 (by decide) (fun c48 => ?_) (fun c48 => ?_)
        · refine lv_aload_n hx hb d_Mod_put_58 rfl (lv_at hl 0 rfl) ?_
          refine va_get (D := (dC, dI)) (ci := 5) (v := .int tpm_43) (C := R_Mod) (T := F_Mod) (N := 23) hx hb hts hw_Mod hown hK hP 0 rfl rfl 19 (by decide) (hts (.fieldLink R_Mod 78 "PageFormsModel" "top" "I") (by decide +kernel)) (fun _ h9 => h9) rfl d_Mod_put_59 ?_
          exact W.iret (v := tpm_43) hx hb hr (fun t ht hW => ⟨⟨tpm_43, (0, pgm_43, tpm_43), rfl, (show bq_put bxs hei p1 p2 p3 p4 tpm_43 from (Or.inl ⟨hok, by omega, by omega, Or.inr ⟨by omega, by rw [w43.2, hb0]; rfl⟩⟩)), by rw [ht]; exact hP, va_K.moved hW.alike hK, hD⟩, hS.F ht⟩) hS.2.2 d_Mod_put_62
        · refine lv_aload_n hx hb d_Mod_put_51 rfl (lv_at hl 0 rfl) ?_
          refine va_get (D := (dC, dI)) (ci := 5) (v := .int pgm_43) (C := R_Mod) (T := F_Mod) (N := 23) hx hb hts hw_Mod hown hK hP 0 rfl rfl 18 (by decide) (hts (.fieldLink R_Mod 75 "PageFormsModel" "page" "I") (by decide +kernel)) (fun _ h9 => h9) rfl d_Mod_put_52 ?_
          refine lv_goto (tgt := 62) hx hb d_Mod_put_55 (by decide) ?_
          exact W.iret (v := pgm_43) hx hb hr (fun t ht hW => ⟨⟨pgm_43, (0, pgm_43, tpm_43), rfl, (show bq_put bxs hei p1 p2 p3 p4 pgm_43 from (Or.inl ⟨hok, by omega, by omega, Or.inl ⟨by omega, by rw [w43.1, hb0]; rfl⟩⟩)), by rw [ht]; exact hP, va_K.moved hW.alike hK, hD⟩, hS.F ht⟩) hS.2.2 d_Mod_put_62
      · refine lv_iconst (v := (-1)) hx hb d_Mod_put_37 (by decide) ?_
        exact W.iret (v := (-1)) hx hb hr (fun t ht hW => ⟨⟨(-1), (0, pgm, tpm), rfl, (show bq_put bxs hei p1 p2 p3 p4 ((-1) : Int32) from (Or.inr ⟨fun z => by have z1 := z.2.2.2; omega, by decide⟩)), by rw [ht]; exact hP, va_K.moved hW.alike hK, hD⟩, hS.F ht⟩) hS.2.2 d_Mod_put_38
