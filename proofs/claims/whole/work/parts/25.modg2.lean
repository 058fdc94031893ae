set_option maxHeartbeats 4000000 in
set_option maxRecDepth 100000 in
theorem k_Mod_findLineOf (l : Launch) (dC : Nat → ClassId) (dI : Nat → Nat → Nat) (cI cZ : ClassId) (oM : Nat) (aCa : Nat) (thr : Int32) (aTx : Nat) (siz : Int32) (aBg : Nat) (aEn : Nat) (aLe : Nat) (aMa : Nat) (aFi : Nat) (lnm : Int32) (rsm : Int32) (aHe : Nat) (bxs : Int32) (wdt : Int32) (hgh : Int32) (aTo : Nat) (byn : Int32) (aTu : Nat) (pgm : Int32) (tpm : Int32) (stn : Int32) (lnx : Int32) (lny : Int32) (cgs : Nat → Int32) (sz : Nat) (p1 : Int32) (wN : Nat) (hN : Nat) (ew : wdt.toInt = (wN : Int)) (eh : hgh.toInt = (hN : Int)) (hw1 : 1 ≤ wN ∧ wN ≤ 8) (hh1 : 1 ≤ hN ∧ hN ≤ 8) : Met l y_Mod_findLineOf w_Mod_findLineOf ({ frames := 2, cells := 0, slots := 0, locals := 46 }) (va_Pc [.ref oM, .int p1] (fun U => U.heap.size = sz ∧ va_P (dC, dI) classes [(oM, .inr (5, [.int thr, .ref aTx, .int siz, .ref aBg, .ref aEn, .ref aLe, .ref aMa, .ref aFi, .int lnm, .int rsm, .ref aHe, .int bxs, .int wdt, .int hgh, .ref aCa, .ref aTo, .int byn, .ref aTu, .int pgm, .int tpm, .int stn, .int lnx, .int lny])), (aCa, .inl (cI, 64, .inl cgs))] U.heap ∧ va_K (dC, dI) classes [(cI, .int), (cZ, .boolean)] U ∧ va_D (fun _ => True) [(oM, .inr (5, [.int thr, .ref aTx, .int siz, .ref aBg, .ref aEn, .ref aLe, .ref aMa, .ref aFi, .int lnm, .int rsm, .ref aHe, .int bxs, .int wdt, .int hgh, .ref aCa, .ref aTo, .int byn, .ref aTu, .int pgm, .int tpm, .int stn, .int lnx, .int lny])), (aCa, .inl (cI, 64, .inl cgs))])) (va_Qi (fun (r : Int32) (u : Int32 × Int32 × Int32) => r.toInt = ((gm_all wN hN cgs).length : Int) ∧ gm_K p1 u.1 u.2.1 u.2.2 (gm_all wN hN cgs)) (fun (u : Int32 × Int32 × Int32) (t : State) => va_P (dC, dI) classes [(oM, .inr (5, [.int thr, .ref aTx, .int siz, .ref aBg, .ref aEn, .ref aLe, .ref aMa, .ref aFi, .int lnm, .int rsm, .ref aHe, .int bxs, .int wdt, .int hgh, .ref aCa, .ref aTo, .int byn, .ref aTu, .int pgm, .int tpm, .int u.1, .int u.2.1, .int u.2.2])), (aCa, .inl (cI, 64, .inl cgs))] t.heap ∧ va_K (dC, dI) classes [(cI, .int), (cZ, .boolean)] t ∧ va_D (va_A [(oM, .inr (5, [.int thr, .ref aTx, .int siz, .ref aBg, .ref aEn, .ref aLe, .ref aMa, .ref aFi, .int lnm, .int rsm, .ref aHe, .int bxs, .int wdt, .int hgh, .ref aCa, .ref aTo, .int byn, .ref aTu, .int pgm, .int tpm, .int stn, .int lnx, .int lny])), (aCa, .inl (cI, 64, .inl cgs))] sz) [(oM, .inr (5, [.int thr, .ref aTx, .int siz, .ref aBg, .ref aEn, .ref aLe, .ref aMa, .ref aFi, .int lnm, .int rsm, .ref aHe, .int bxs, .int wdt, .int hgh, .ref aCa, .ref aTo, .int byn, .ref aTu, .int pgm, .int tpm, .int u.1, .int u.2.1, .int u.2.2])), (aCa, .inl (cI, 64, .inl cgs))]) (va_A [(oM, .inr (5, [.int thr, .ref aTx, .int siz, .ref aBg, .ref aEn, .ref aLe, .ref aMa, .ref aFi, .int lnm, .int rsm, .ref aHe, .int bxs, .int wdt, .int hgh, .ref aCa, .ref aTo, .int byn, .ref aTu, .int pgm, .int tpm, .int stn, .int lnx, .int lny])), (aCa, .inl (cI, 64, .inl cgs))] sz)) 0 0 (va_A [(oM, .inr (5, [.int thr, .ref aTx, .int siz, .ref aBg, .ref aEn, .ref aLe, .ref aMa, .ref aFi, .int lnm, .int rsm, .ref aHe, .int bxs, .int wdt, .int hgh, .ref aCa, .ref aTo, .int byn, .ref aTu, .int pgm, .int tpm, .int stn, .int lnx, .int lny])), (aCa, .inl (cI, 64, .inl cgs))] sz) := by
  refine Met.ofW (cc := b_Mod_findLineOf) (maxL := 5) (ret := (some .int)) (by decide) rfl ?_
  intro p e s m args below meth c s₁ B hml hv
  obtain ⟨rfl, hsz, hP, hK, hD0⟩ := hv
  have hx := B.exec
  have hb := B.bytes
  have hr := B.returns
  have hts := atoms_spec (ws := w_Mod_findLineOf) B.pre
  have hown : s.vm.findClass R_Mod = some m.cls := findClass_of_methodNamed B.named
  have hlocks := B.notSynchronized
  have hw_Mod : ∀ w ∈ w_Mod, w ∈ w_Mod_findLineOf := by decide +kernel
  subst hsz
  have hD := hD0.self (sz := s.heap.size)
  generalize hAe : va_A [(oM, .inr (5, [.int thr, .ref aTx, .int siz, .ref aBg, .ref aEn, .ref aLe, .ref aMa, .ref aFi, .int lnm, .int rsm, .ref aHe, .int bxs, .int wdt, .int hgh, .ref aCa, .ref aTo, .int byn, .ref aTu, .int pgm, .int tpm, .int stn, .int lnx, .int lny])), (aCa, .inl (cI, 64, .inl cgs))] s.heap.size = A at hD ⊢
  have hA : ∀ q : Nat, s.heap.size ≤ q → A q := fun q h => by rw [← hAe]; exact Or.inr h
  have hS : va_S A s.heap s.heap [] := va_S.rf
  have hP : va_P (dC, dI) classes [(oM, .inr (5, [.int thr, .ref aTx, .int siz, .ref aBg, .ref aEn, .ref aLe, .ref aMa, .ref aFi, .int lnm, .int rsm, .ref aHe, .int bxs, .int wdt, .int hgh, .ref aCa, .ref aTo, .int byn, .ref aTu, .int pgm, .int tpm, .int stn, .int lnx, .int lny])), (aCa, .inl (cI, 64, .inl cgs))] s.heap := hP
  have hl := lv_entry ([.ref oM, .int p1]) (n := 5) (Nat.le_of_ble_eq_true rfl)
  rw [lg_entry_eq]
  generalize (lg_sl ([.ref oM, .int p1]) ++ List.replicate (5 - (lg_sl ([.ref oM, .int p1])).length) Slot.unset).toArray = ls at hl ⊢
  have hl : lv_has ls 5 [(0, .ref oM), (1, .int p1)] := hl
  have loop65 : ∀ (n65 : Nat) (k : Nat) (x2o : Int32) (x3 : Int32) (stn0 : Int32) (lnx0 : Int32) (lny0 : Int32), (wN + 1 - k < n65) → (k ≤ wN + 1) → (x3.toInt = (k : Int)) → (x2o.toInt = ((gm_cat (gm_rowa wN hN cgs) (hN + 1) ++ gm_cat (gm_rows wN hN cgs) k).length : Int)) → (gm_K p1 stn0 lnx0 lny0 (gm_cat (gm_rowa wN hN cgs) (hN + 1) ++ gm_cat (gm_rows wN hN cgs) k)) → ∀ (H : Heap) (locs : List Loc), va_P (dC, dI) classes [(oM, .inr (5, [.int thr, .ref aTx, .int siz, .ref aBg, .ref aEn, .ref aLe, .ref aMa, .ref aFi, .int lnm, .int rsm, .ref aHe, .int bxs, .int wdt, .int hgh, .ref aCa, .ref aTo, .int byn, .ref aTu, .int pgm, .int tpm, .int stn0, .int lnx0, .int lny0])), (aCa, .inl (cI, 64, .inl cgs))] H → va_D A [(oM, .inr (5, [.int thr, .ref aTx, .int siz, .ref aBg, .ref aEn, .ref aLe, .ref aMa, .ref aFi, .int lnm, .int rsm, .ref aHe, .int bxs, .int wdt, .int hgh, .ref aCa, .ref aTo, .int byn, .ref aTu, .int pgm, .int tpm, .int stn0, .int lnx0, .int lny0])), (aCa, .inl (cI, 64, .inl cgs))] → va_S A s.heap H locs → ∀ (ls : Array Slot), lv_has ls 5 [(0, .ref oM), (1, .int p1), (2, .int x2o), (3, .int x3)] → W p l e (headSpec w_Mod_findLineOf ({ frames := 2, cells := 0, slots := 0, locals := 46 })).room s m ([.ref oM, .int p1] : List Value).toArray below meth c H locs 0 0 (MQ below (va_Qi (fun (r : Int32) (u : Int32 × Int32 × Int32) => r.toInt = ((gm_all wN hN cgs).length : Int) ∧ gm_K p1 u.1 u.2.1 u.2.2 (gm_all wN hN cgs)) (fun (u : Int32 × Int32 × Int32) (t : State) => va_P (dC, dI) classes [(oM, .inr (5, [.int thr, .ref aTx, .int siz, .ref aBg, .ref aEn, .ref aLe, .ref aMa, .ref aFi, .int lnm, .int rsm, .ref aHe, .int bxs, .int wdt, .int hgh, .ref aCa, .ref aTo, .int byn, .ref aTu, .int pgm, .int tpm, .int u.1, .int u.2.1, .int u.2.2])), (aCa, .inl (cI, 64, .inl cgs))] t.heap ∧ va_K (dC, dI) classes [(cI, .int), (cZ, .boolean)] t ∧ va_D (A) [(oM, .inr (5, [.int thr, .ref aTx, .int siz, .ref aBg, .ref aEn, .ref aLe, .ref aMa, .ref aFi, .int lnm, .int rsm, .ref aHe, .int bxs, .int wdt, .int hgh, .ref aCa, .ref aTo, .int byn, .ref aTu, .int pgm, .int tpm, .int u.1, .int u.2.1, .int u.2.2])), (aCa, .inl (cI, 64, .inl cgs))]) (A)) ([.ref oM, .int p1] : List Value).toArray s 0 0 A) (F0 m 65 ls []) := by
    intro n65
    induction n65 with
    | zero => intro k x2o x3 stn0 lnx0 lny0 hmz65; omega
    | succ n65 ih65 =>
      intro k x2o x3 stn0 lnx0 lny0 hmz65 hk e3 e2o hKo H locs hP hD hS ls hl
      have hcl := gm_cat_len (f := gm_rowa wN hN cgs) (gm_rowa_len hw1.2) (hN + 1)
      have hcl2 := gm_cat_len (f := gm_rows wN hN cgs) (gm_rows_len hh1.2) k
      have hcl3 : (gm_cat (gm_rowa wN hN cgs) (hN + 1) ++ gm_cat (gm_rows wN hN cgs) k).length ≤ 1000 := by rw [List.length_append]; omega
      refine lv_iload_n hx hb d_Mod_findLineOf_65 rfl (lv_at hl 3 rfl) ?_
      refine lv_aload_n hx hb d_Mod_findLineOf_66 rfl (lv_at hl 0 rfl) ?_
      refine va_get (D := (dC, dI)) (ci := 5) (v := .int wdt) (C := R_Mod) (T := F_Mod) (N := 23) hx hb hts hw_Mod hown hK hP 0 rfl rfl 12 (by decide) (hts (.fieldLink R_Mod 31 "PageFormsModel" "width" "I") (by decide +kernel)) (fun _ h9 => h9) rfl d_Mod_findLineOf_67 ?_
      refine xi_icmp_gt (tgt := 124) hx hb e3 ew d_Mod_findLineOf_70 (by decide) (fun c70 => ?_) (fun c70 => ?_)
      · refine lv_iload_n hx hb d_Mod_findLineOf_124 rfl (lv_at hl 2 rfl) ?_
        have hkN : k = wN + 1 := by omega
        rw [hkN] at e2o hKo
        exact W.iret (v := x2o) hx hb hr (fun t ht hW => ⟨⟨x2o, (stn0, lnx0, lny0), rfl, (show x2o.toInt = ((gm_all wN hN cgs).length : Int) ∧ gm_K p1 stn0 lnx0 lny0 (gm_all wN hN cgs) from ⟨e2o, hKo⟩), by rw [ht]; exact hP, va_K.moved hW.alike hK, hD⟩, hS.F ht⟩) hS.2.2 d_Mod_findLineOf_125
      · refine lv_iconst (v := 0) hx hb d_Mod_findLineOf_73 (by decide) ?_
        refine lv_istore (lv' := [(4, .int 0), (0, .ref oM), (1, .int p1), (2, .int x2o), (3, .int x3)]) hx hb d_Mod_findLineOf_74 hl (by decide) rfl (fun ls hl => ?_)
        have loop76 : ∀ (n76 : Nat) (t_ : Nat) (G : List gm_L) (x2 : Int32) (x4 : Int32) (stn1 : Int32) (lnx1 : Int32) (lny1 : Int32), (hN - t_ < n76) → (t_ ≤ hN) → (G = gm_cat (gm_rowa wN hN cgs) (hN + 1) ++ gm_cat (gm_rows wN hN cgs) k ++ (gd_bl (gd_s wN hN cgs k) t_).map (gm_s k)) → (x2.toInt = (G.length : Int)) → (x4.toInt = (t_ : Int)) → (gm_K p1 stn1 lnx1 lny1 G) → ∀ (H : Heap) (locs : List Loc), va_P (dC, dI) classes [(oM, .inr (5, [.int thr, .ref aTx, .int siz, .ref aBg, .ref aEn, .ref aLe, .ref aMa, .ref aFi, .int lnm, .int rsm, .ref aHe, .int bxs, .int wdt, .int hgh, .ref aCa, .ref aTo, .int byn, .ref aTu, .int pgm, .int tpm, .int stn1, .int lnx1, .int lny1])), (aCa, .inl (cI, 64, .inl cgs))] H → va_D A [(oM, .inr (5, [.int thr, .ref aTx, .int siz, .ref aBg, .ref aEn, .ref aLe, .ref aMa, .ref aFi, .int lnm, .int rsm, .ref aHe, .int bxs, .int wdt, .int hgh, .ref aCa, .ref aTo, .int byn, .ref aTu, .int pgm, .int tpm, .int stn1, .int lnx1, .int lny1])), (aCa, .inl (cI, 64, .inl cgs))] → va_S A s.heap H locs → ∀ (ls : Array Slot), lv_has ls 5 [(0, .ref oM), (1, .int p1), (2, .int x2), (3, .int x3), (4, .int x4)] → W p l e (headSpec w_Mod_findLineOf ({ frames := 2, cells := 0, slots := 0, locals := 46 })).room s m ([.ref oM, .int p1] : List Value).toArray below meth c H locs 0 0 (MQ below (va_Qi (fun (r : Int32) (u : Int32 × Int32 × Int32) => r.toInt = ((gm_all wN hN cgs).length : Int) ∧ gm_K p1 u.1 u.2.1 u.2.2 (gm_all wN hN cgs)) (fun (u : Int32 × Int32 × Int32) (t : State) => va_P (dC, dI) classes [(oM, .inr (5, [.int thr, .ref aTx, .int siz, .ref aBg, .ref aEn, .ref aLe, .ref aMa, .ref aFi, .int lnm, .int rsm, .ref aHe, .int bxs, .int wdt, .int hgh, .ref aCa, .ref aTo, .int byn, .ref aTu, .int pgm, .int tpm, .int u.1, .int u.2.1, .int u.2.2])), (aCa, .inl (cI, 64, .inl cgs))] t.heap ∧ va_K (dC, dI) classes [(cI, .int), (cZ, .boolean)] t ∧ va_D (A) [(oM, .inr (5, [.int thr, .ref aTx, .int siz, .ref aBg, .ref aEn, .ref aLe, .ref aMa, .ref aFi, .int lnm, .int rsm, .ref aHe, .int bxs, .int wdt, .int hgh, .ref aCa, .ref aTo, .int byn, .ref aTu, .int pgm, .int tpm, .int u.1, .int u.2.1, .int u.2.2])), (aCa, .inl (cI, 64, .inl cgs))]) (A)) ([.ref oM, .int p1] : List Value).toArray s 0 0 A) (F0 m 76 ls []) := by
          intro n76
          induction n76 with
          | zero => intro t_ G x2 x4 stn1 lnx1 lny1 hmz76; omega
          | succ n76 ih76 =>
            intro t_ G x2 x4 stn1 lnx1 lny1 hmz76 ht0 hG e2 e4 hKK H locs hP hD hS ls hl
            have hbl0 := gd_bl_len (gd_s wN hN cgs k) t_
            have hGl : G.length ≤ 1000 + t_ := by rw [hG, List.length_append, List.length_map]; omega
            refine lv_iload hx hb d_Mod_findLineOf_76 (lv_at hl 4 rfl) ?_
            refine lv_aload_n hx hb d_Mod_findLineOf_78 rfl (lv_at hl 0 rfl) ?_
            refine va_get (D := (dC, dI)) (ci := 5) (v := .int hgh) (C := R_Mod) (T := F_Mod) (N := 23) hx hb hts hw_Mod hown hK hP 0 rfl rfl 13 (by decide) (hts (.fieldLink R_Mod 35 "PageFormsModel" "high" "I") (by decide +kernel)) (fun _ h9 => h9) rfl d_Mod_findLineOf_79 ?_
            refine xi_icmp_ge (tgt := 118) hx hb e4 eh d_Mod_findLineOf_82 (by decide) (fun c82 => ?_) (fun c82 => ?_)
            · obtain ⟨v118, ev118⟩ : ∃ y : Int32, y = (x3 + 1) := ⟨_, rfl⟩
              have fv118 : v118.toInt = ((k : Int) + 1) := by rw [ev118]; exact xi_add e3 (show (1 : Int32).toInt = 1 by decide) (by omega) (by omega)
              refine lv_iinc (v := v118) (lv' := [(3, .int v118), (0, .ref oM), (1, .int p1), (2, .int x2), (4, .int x4)]) hx hb d_Mod_findLineOf_118 hl (k := 3) rfl (by rw [ev118]; rfl) (by decide) rfl (fun ls hl => ?_)
              refine lv_goto (tgt := 65) hx hb d_Mod_findLineOf_121 (by decide) ?_
              have htN : t_ = hN := by omega
              rw [htN] at hG
              exact ih65 (k + 1) x2 v118 stn1 lnx1 lny1 (by omega) (by omega) (by omega) (by rw [show gm_cat (gm_rows wN hN cgs) (k + 1) = gm_cat (gm_rows wN hN cgs) k ++ gm_rows wN hN cgs k from rfl, ← List.append_assoc]; rw [hG] at e2; exact e2) (by rw [show gm_cat (gm_rows wN hN cgs) (k + 1) = gm_cat (gm_rows wN hN cgs) k ++ gm_rows wN hN cgs k from rfl, ← List.append_assoc]; rw [hG] at hKK; exact hKK) _ _ hP hD hS ls (lv_sub hl [1, 2, 3, 0] rfl)
            · refine lv_aload_n hx hb d_Mod_findLineOf_85 rfl (lv_at hl 0 rfl) ?_
              refine lv_iconst (v := 1) hx hb d_Mod_findLineOf_86 (by decide) ?_
              refine lv_iload_n hx hb d_Mod_findLineOf_87 rfl (lv_at hl 3 rfl) ?_
              refine lv_iload hx hb d_Mod_findLineOf_88 (lv_at hl 4 rfl) ?_
              have hPc := hP.sub (ws' := [(oM, .inr (5, [.int thr, .ref aTx, .int siz, .ref aBg, .ref aEn, .ref aLe, .ref aMa, .ref aFi, .int lnm, .int rsm, .ref aHe, .int bxs, .int wdt, .int hgh, .ref aCa, .ref aTo, .int byn, .ref aTu, .int pgm, .int tpm, .int stn1, .int lnx1, .int lny1])), (aCa, .inl (cI, 64, .inl cgs))]) [0, 1] rfl
              have hDc := hD.sub (ws' := [(oM, .inr (5, [.int thr, .ref aTx, .int siz, .ref aBg, .ref aEn, .ref aLe, .ref aMa, .ref aFi, .int lnm, .int rsm, .ref aHe, .int bxs, .int wdt, .int hgh, .ref aCa, .ref aTo, .int byn, .ref aTu, .int pgm, .int tpm, .int stn1, .int lnx1, .int lny1])), (aCa, .inl (cI, 64, .inl cgs))]) [0, 1] (by decide) rfl
              have hFc := va_free (wc := [(oM, .inr (5, [.int thr, .ref aTx, .int siz, .ref aBg, .ref aEn, .ref aLe, .ref aMa, .ref aFi, .int lnm, .int rsm, .ref aHe, .int bxs, .int wdt, .int hgh, .ref aCa, .ref aTo, .int byn, .ref aTu, .int pgm, .int tpm, .int stn1, .int lnx1, .int lny1])), (aCa, .inl (cI, 64, .inl cgs))]) hD hS hA [0, 1] rfl
              refine va_calli (va_runV (As := [.int 1, .int x3, .int x4]) (rest := []) ⟨hx, hb, hml, hown, hts⟩ (k_Mod_begins_s l dC dI cI cZ oM aCa thr aTx siz aBg aEn aLe aMa aFi lnm rsm aHe bxs wdt hgh aTo byn aTu pgm tpm stn1 lnx1 lny1 cgs H.size x3 x4 wN hN k t_ ew eh hw1 hh1 e3 e4 (by omega) (by omega)) (cwV 3 hts g_Mod_findLineOf_Mod_begins rfl rfl rfl (by decide +kernel) ⟨Nat.le_of_ble_eq_true rfl, Nat.le_of_ble_eq_true rfl⟩) ⟨fun a U g mk q => by obtain ⟨q0, q1, qP, qK, qD⟩ := q; exact ⟨q0, q1, qP, va_K.moved (u := U) (U := U.calling g mk a) (Vm.Alike.refl U.vm) qK, qD⟩, va_recv hK hPc (ci := 5) (q0 := 0) rfl rfl, fun U hU hW => ⟨rfl, by rw [hU], by rw [hU]; exact hPc, va_K.moved hW.alike hK, hDc.weaken (fun _ _ _ _ => trivial)⟩⟩ rfl rfl hl.1 rfl (lv_room (Nat.le_of_ble_eq_true rfl)) d_Mod_findLineOf_90 ⟨Nat.le_of_ble_eq_true rfl, Nat.le_of_ble_eq_true rfl⟩) hS (fun q _ h => hFc q h) hFc (fun r90 u t H1 locs ht hvm hw hB hz1 hk1 hS => ?_)
              have w90 : (r90.toInt = 1 ∧ gd_beg (gd_s wN hN cgs k) t_ = true) ∨ (r90.toInt = 0 ∧ gd_beg (gd_s wN hN cgs k) t_ = false) := hw
              obtain ⟨hP1, hK1, hD1⟩ := hB
              rw [ht] at hP1
              obtain ⟨hP, hD⟩ := va_join (wr := []) (w1 := [(oM, .inr (5, [.int thr, .ref aTx, .int siz, .ref aBg, .ref aEn, .ref aLe, .ref aMa, .ref aFi, .int lnm, .int rsm, .ref aHe, .int bxs, .int wdt, .int hgh, .ref aCa, .ref aTo, .int byn, .ref aTu, .int pgm, .int tpm, .int stn1, .int lnx1, .int lny1])), (aCa, .inl (cI, 64, .inl cgs))]) hP hD [0, 1] [] rfl rfl (by decide) (by decide) hk1 hFc hP1 hD1
              generalize H1 = H at hP hS ⊢
              have hP : va_P (dC, dI) classes [(oM, .inr (5, [.int thr, .ref aTx, .int siz, .ref aBg, .ref aEn, .ref aLe, .ref aMa, .ref aFi, .int lnm, .int rsm, .ref aHe, .int bxs, .int wdt, .int hgh, .ref aCa, .ref aTo, .int byn, .ref aTu, .int pgm, .int tpm, .int stn1, .int lnx1, .int lny1])), (aCa, .inl (cI, 64, .inl cgs))] H := hP
              have hD : va_D A [(oM, .inr (5, [.int thr, .ref aTx, .int siz, .ref aBg, .ref aEn, .ref aLe, .ref aMa, .ref aFi, .int lnm, .int rsm, .ref aHe, .int bxs, .int wdt, .int hgh, .ref aCa, .ref aTo, .int byn, .ref aTu, .int pgm, .int tpm, .int stn1, .int lnx1, .int lny1])), (aCa, .inl (cI, 64, .inl cgs))] := hD
              refine xi_if_eq (tgt := 112) hx hb (rfl) d_Mod_findLineOf_93 (by decide) (fun c93 => ?_) (fun c93 => ?_)
              · obtain ⟨v112, ev112⟩ : ∃ y : Int32, y = (x4 + 1) := ⟨_, rfl⟩
                have fv112 : v112.toInt = ((t_ : Int) + 1) := by rw [ev112]; exact xi_add e4 (show (1 : Int32).toInt = 1 by decide) (by omega) (by omega)
                refine lv_iinc (v := v112) (lv' := [(4, .int v112), (0, .ref oM), (1, .int p1), (2, .int x2), (3, .int x3)]) hx hb d_Mod_findLineOf_112 hl (k := 4) rfl (by rw [ev112]; rfl) (by decide) rfl (fun ls hl => ?_)
                refine lv_goto (tgt := 76) hx hb d_Mod_findLineOf_115 (by decide) ?_
                have hbg : gd_beg (gd_s wN hN cgs k) t_ = false := by rcases w90 with z | z; omega; exact z.2
                have hbl := gd_bl_n hbg
                exact ih76 (t_ + 1) G x2 v112 stn1 lnx1 lny1 (by omega) (by omega) (by rw [hbl, hG]) (by omega) (by omega) hKK _ _ hP hD hS ls (lv_sub hl [1, 2, 3, 4, 0] rfl)
              · refine lv_iload_n hx hb d_Mod_findLineOf_96 rfl (lv_at hl 2 rfl) ?_
                refine lv_iload_n hx hb d_Mod_findLineOf_97 rfl (lv_at hl 1 rfl) ?_
                refine xi_icmp_ne (tgt := 109) hx hb e2 (rfl) d_Mod_findLineOf_98 (by decide) (fun c98 => ?_) (fun c98 => ?_)
                · obtain ⟨v109, ev109⟩ : ∃ y : Int32, y = (x2 + 1) := ⟨_, rfl⟩
                  have fv109 : v109.toInt = ((G.length : Int) + 1) := by rw [ev109]; exact xi_add e2 (show (1 : Int32).toInt = 1 by decide) (by omega) (by omega)
                  refine lv_iinc (v := v109) (lv' := [(2, .int v109), (0, .ref oM), (1, .int p1), (3, .int x3), (4, .int x4)]) hx hb d_Mod_findLineOf_109 hl (k := 2) rfl (by rw [ev109]; rfl) (by decide) rfl (fun ls hl => ?_)
                  obtain ⟨v112, ev112⟩ : ∃ y : Int32, y = (x4 + 1) := ⟨_, rfl⟩
                  have fv112 : v112.toInt = ((t_ : Int) + 1) := by rw [ev112]; exact xi_add e4 (show (1 : Int32).toInt = 1 by decide) (by omega) (by omega)
                  refine lv_iinc (v := v112) (lv' := [(4, .int v112), (2, .int v109), (0, .ref oM), (1, .int p1), (3, .int x3)]) hx hb d_Mod_findLineOf_112 hl (k := 4) rfl (by rw [ev112]; rfl) (by decide) rfl (fun ls hl => ?_)
                  refine lv_goto (tgt := 76) hx hb d_Mod_findLineOf_115 (by decide) ?_
                  have hbg : gd_beg (gd_s wN hN cgs k) t_ = true := by rcases w90 with z | z; exact z.2; omega
                  have hbl := gd_bl_y hbg
                  exact ih76 (t_ + 1) (G ++ [gm_s k t_]) v109 v112 stn1 lnx1 lny1 (by omega) (by omega) (by rw [hbl, hG, List.map_append, ← List.append_assoc]; rfl) (by rw [List.length_append, List.length_singleton]; omega) (by omega) (gm_K_skip hKK (by omega)) _ _ hP hD hS ls (lv_sub hl [2, 3, 1, 4, 0] rfl)
                · refine lv_aload_n hx hb d_Mod_findLineOf_101 rfl (lv_at hl 0 rfl) ?_
                  refine lv_iconst (v := 1) hx hb d_Mod_findLineOf_102 (by decide) ?_
                  refine lv_iload_n hx hb d_Mod_findLineOf_103 rfl (lv_at hl 3 rfl) ?_
                  refine lv_iload hx hb d_Mod_findLineOf_104 (lv_at hl 4 rfl) ?_
                  have hPc := hP.sub (ws' := [(oM, .inr (5, [.int thr, .ref aTx, .int siz, .ref aBg, .ref aEn, .ref aLe, .ref aMa, .ref aFi, .int lnm, .int rsm, .ref aHe, .int bxs, .int wdt, .int hgh, .ref aCa, .ref aTo, .int byn, .ref aTu, .int pgm, .int tpm, .int stn1, .int lnx1, .int lny1]))]) [0] rfl
                  have hDc := hD.sub (ws' := [(oM, .inr (5, [.int thr, .ref aTx, .int siz, .ref aBg, .ref aEn, .ref aLe, .ref aMa, .ref aFi, .int lnm, .int rsm, .ref aHe, .int bxs, .int wdt, .int hgh, .ref aCa, .ref aTo, .int byn, .ref aTu, .int pgm, .int tpm, .int stn1, .int lnx1, .int lny1]))]) [0] (by decide) rfl
                  have hFc := va_free (wc := [(oM, .inr (5, [.int thr, .ref aTx, .int siz, .ref aBg, .ref aEn, .ref aLe, .ref aMa, .ref aFi, .int lnm, .int rsm, .ref aHe, .int bxs, .int wdt, .int hgh, .ref aCa, .ref aTo, .int byn, .ref aTu, .int pgm, .int tpm, .int stn1, .int lnx1, .int lny1]))]) hD hS hA [0] rfl
                  refine va_callv (va_runV (As := [.int 1, .int x3, .int x4]) (rest := []) ⟨hx, hb, hml, hown, hts⟩ (k_Mod_keep_s l dC dI cI cZ oM thr aTx siz aBg aEn aLe aMa aFi lnm rsm aHe bxs wdt hgh aCa aTo byn aTu pgm tpm stn1 lnx1 lny1 H.size x3 x4) (cwV 3 hts g_Mod_findLineOf_Mod_keep rfl rfl rfl (by decide +kernel) ⟨Nat.le_of_ble_eq_true rfl, Nat.le_of_ble_eq_true rfl⟩) ⟨fun a U g mk q => by obtain ⟨q0, q1, qP, qK, qD⟩ := q; exact ⟨q0, q1, qP, va_K.moved (u := U) (U := U.calling g mk a) (Vm.Alike.refl U.vm) qK, qD⟩, va_recv hK hPc (ci := 5) (q0 := 0) rfl rfl, fun U hU hW => ⟨rfl, by rw [hU], by rw [hU]; exact hPc, va_K.moved hW.alike hK, hDc.weaken (fun _ _ _ _ => trivial)⟩⟩ rfl rfl hl.1 rfl (lv_room (Nat.le_of_ble_eq_true rfl)) d_Mod_findLineOf_106 ⟨Nat.le_of_ble_eq_true rfl, Nat.le_of_ble_eq_true rfl⟩) hS (fun q _ h => hFc q h) hFc (fun u t H1 locs ht hvm hw hB hz1 hk1 hS => ?_)
                  obtain ⟨stn_106, lnx_106, lny_106⟩ := u
                  have w106 : stn_106.toInt = 1 ∧ lnx_106 = x3 ∧ lny_106 = x4 := hw
                  obtain ⟨hP1, hK1, hD1⟩ := hB
                  rw [ht] at hP1
                  obtain ⟨hP, hD⟩ := va_join (wr := [(aCa, .inl (cI, 64, .inl cgs))]) (w1 := [(oM, .inr (5, [.int thr, .ref aTx, .int siz, .ref aBg, .ref aEn, .ref aLe, .ref aMa, .ref aFi, .int lnm, .int rsm, .ref aHe, .int bxs, .int wdt, .int hgh, .ref aCa, .ref aTo, .int byn, .ref aTu, .int pgm, .int tpm, .int stn_106, .int lnx_106, .int lny_106]))]) hP hD [0] [1] rfl rfl (by decide) (by decide) hk1 hFc hP1 hD1
                  generalize H1 = H at hP hS ⊢
                  have hP := hP.sub (ws' := [(oM, .inr (5, [.int thr, .ref aTx, .int siz, .ref aBg, .ref aEn, .ref aLe, .ref aMa, .ref aFi, .int lnm, .int rsm, .ref aHe, .int bxs, .int wdt, .int hgh, .ref aCa, .ref aTo, .int byn, .ref aTu, .int pgm, .int tpm, .int stn_106, .int lnx_106, .int lny_106])), (aCa, .inl (cI, 64, .inl cgs))]) [1, 0] rfl
                  have hD := hD.sub (ws' := [(oM, .inr (5, [.int thr, .ref aTx, .int siz, .ref aBg, .ref aEn, .ref aLe, .ref aMa, .ref aFi, .int lnm, .int rsm, .ref aHe, .int bxs, .int wdt, .int hgh, .ref aCa, .ref aTo, .int byn, .ref aTu, .int pgm, .int tpm, .int stn_106, .int lnx_106, .int lny_106])), (aCa, .inl (cI, 64, .inl cgs))]) [1, 0] (by decide) rfl
                  have hP : va_P (dC, dI) classes [(oM, .inr (5, [.int thr, .ref aTx, .int siz, .ref aBg, .ref aEn, .ref aLe, .ref aMa, .ref aFi, .int lnm, .int rsm, .ref aHe, .int bxs, .int wdt, .int hgh, .ref aCa, .ref aTo, .int byn, .ref aTu, .int pgm, .int tpm, .int stn_106, .int lnx_106, .int lny_106])), (aCa, .inl (cI, 64, .inl cgs))] H := hP
                  have hD : va_D A [(oM, .inr (5, [.int thr, .ref aTx, .int siz, .ref aBg, .ref aEn, .ref aLe, .ref aMa, .ref aFi, .int lnm, .int rsm, .ref aHe, .int bxs, .int wdt, .int hgh, .ref aCa, .ref aTo, .int byn, .ref aTu, .int pgm, .int tpm, .int stn_106, .int lnx_106, .int lny_106])), (aCa, .inl (cI, 64, .inl cgs))] := hD
                  obtain ⟨v109, ev109⟩ : ∃ y : Int32, y = (x2 + 1) := ⟨_, rfl⟩
                  have fv109 : v109.toInt = ((G.length : Int) + 1) := by rw [ev109]; exact xi_add e2 (show (1 : Int32).toInt = 1 by decide) (by omega) (by omega)
                  refine lv_iinc (v := v109) (lv' := [(2, .int v109), (0, .ref oM), (1, .int p1), (3, .int x3), (4, .int x4)]) hx hb d_Mod_findLineOf_109 hl (k := 2) rfl (by rw [ev109]; rfl) (by decide) rfl (fun ls hl => ?_)
                  obtain ⟨v112, ev112⟩ : ∃ y : Int32, y = (x4 + 1) := ⟨_, rfl⟩
                  have fv112 : v112.toInt = ((t_ : Int) + 1) := by rw [ev112]; exact xi_add e4 (show (1 : Int32).toInt = 1 by decide) (by omega) (by omega)
                  refine lv_iinc (v := v112) (lv' := [(4, .int v112), (2, .int v109), (0, .ref oM), (1, .int p1), (3, .int x3)]) hx hb d_Mod_findLineOf_112 hl (k := 4) rfl (by rw [ev112]; rfl) (by decide) rfl (fun ls hl => ?_)
                  refine lv_goto (tgt := 76) hx hb d_Mod_findLineOf_115 (by decide) ?_
                  have hbg : gd_beg (gd_s wN hN cgs k) t_ = true := by rcases w90 with z | z; exact z.2; omega
                  have hbl := gd_bl_y hbg
                  have hput : gm_is stn_106 lnx_106 lny_106 (gm_s k t_) := ⟨w106.1, by rw [w106.2.1]; exact e3, by rw [w106.2.2]; exact e4⟩
                  exact ih76 (t_ + 1) (G ++ [gm_s k t_]) v109 v112 stn_106 lnx_106 lny_106 (by omega) (by omega) (by rw [hbl, hG, List.map_append, ← List.append_assoc]; rfl) (by rw [List.length_append, List.length_singleton]; omega) (by omega) (gm_K_put hput (by omega)) _ _ hP hD hS ls (lv_sub hl [2, 3, 1, 4, 0] rfl)
        exact loop76 (hN + 1) 0 (gm_cat (gm_rowa wN hN cgs) (hN + 1) ++ gm_cat (gm_rows wN hN cgs) k) x2o 0 stn0 lnx0 lny0 (by omega) (by omega) (by rw [show gd_bl (gd_s wN hN cgs k) 0 = [] from rfl, List.map_nil, List.append_nil]) e2o (by decide) hKo _ _ hP hD hS ls (lv_sub hl [1, 2, 3, 4, 0] rfl)
  have loop4 : ∀ (n4 : Nat) (k : Nat) (x2o : Int32) (x3 : Int32) (stn0 : Int32) (lnx0 : Int32) (lny0 : Int32), (hN + 1 - k < n4) → (k ≤ hN + 1) → (x3.toInt = (k : Int)) → (x2o.toInt = ((gm_cat (gm_rowa wN hN cgs) k).length : Int)) → (gm_K p1 stn0 lnx0 lny0 (gm_cat (gm_rowa wN hN cgs) k)) → ∀ (H : Heap) (locs : List Loc), va_P (dC, dI) classes [(oM, .inr (5, [.int thr, .ref aTx, .int siz, .ref aBg, .ref aEn, .ref aLe, .ref aMa, .ref aFi, .int lnm, .int rsm, .ref aHe, .int bxs, .int wdt, .int hgh, .ref aCa, .ref aTo, .int byn, .ref aTu, .int pgm, .int tpm, .int stn0, .int lnx0, .int lny0])), (aCa, .inl (cI, 64, .inl cgs))] H → va_D A [(oM, .inr (5, [.int thr, .ref aTx, .int siz, .ref aBg, .ref aEn, .ref aLe, .ref aMa, .ref aFi, .int lnm, .int rsm, .ref aHe, .int bxs, .int wdt, .int hgh, .ref aCa, .ref aTo, .int byn, .ref aTu, .int pgm, .int tpm, .int stn0, .int lnx0, .int lny0])), (aCa, .inl (cI, 64, .inl cgs))] → va_S A s.heap H locs → ∀ (ls : Array Slot), lv_has ls 5 [(0, .ref oM), (1, .int p1), (2, .int x2o), (3, .int x3)] → W p l e (headSpec w_Mod_findLineOf ({ frames := 2, cells := 0, slots := 0, locals := 46 })).room s m ([.ref oM, .int p1] : List Value).toArray below meth c H locs 0 0 (MQ below (va_Qi (fun (r : Int32) (u : Int32 × Int32 × Int32) => r.toInt = ((gm_all wN hN cgs).length : Int) ∧ gm_K p1 u.1 u.2.1 u.2.2 (gm_all wN hN cgs)) (fun (u : Int32 × Int32 × Int32) (t : State) => va_P (dC, dI) classes [(oM, .inr (5, [.int thr, .ref aTx, .int siz, .ref aBg, .ref aEn, .ref aLe, .ref aMa, .ref aFi, .int lnm, .int rsm, .ref aHe, .int bxs, .int wdt, .int hgh, .ref aCa, .ref aTo, .int byn, .ref aTu, .int pgm, .int tpm, .int u.1, .int u.2.1, .int u.2.2])), (aCa, .inl (cI, 64, .inl cgs))] t.heap ∧ va_K (dC, dI) classes [(cI, .int), (cZ, .boolean)] t ∧ va_D (A) [(oM, .inr (5, [.int thr, .ref aTx, .int siz, .ref aBg, .ref aEn, .ref aLe, .ref aMa, .ref aFi, .int lnm, .int rsm, .ref aHe, .int bxs, .int wdt, .int hgh, .ref aCa, .ref aTo, .int byn, .ref aTu, .int pgm, .int tpm, .int u.1, .int u.2.1, .int u.2.2])), (aCa, .inl (cI, 64, .inl cgs))]) (A)) ([.ref oM, .int p1] : List Value).toArray s 0 0 A) (F0 m 4 ls []) := by
    intro n4
    induction n4 with
    | zero => intro k x2o x3 stn0 lnx0 lny0 hmz4; omega
    | succ n4 ih4 =>
      intro k x2o x3 stn0 lnx0 lny0 hmz4 hk e3 e2o hKo H locs hP hD hS ls hl
      have hcl := gm_cat_len (f := gm_rowa wN hN cgs) (gm_rowa_len hw1.2) k
      refine lv_iload_n hx hb d_Mod_findLineOf_4 rfl (lv_at hl 3 rfl) ?_
      refine lv_aload_n hx hb d_Mod_findLineOf_5 rfl (lv_at hl 0 rfl) ?_
      refine va_get (D := (dC, dI)) (ci := 5) (v := .int hgh) (C := R_Mod) (T := F_Mod) (N := 23) hx hb hts hw_Mod hown hK hP 0 rfl rfl 13 (by decide) (hts (.fieldLink R_Mod 35 "PageFormsModel" "high" "I") (by decide +kernel)) (fun _ h9 => h9) rfl d_Mod_findLineOf_6 ?_
      refine xi_icmp_gt (tgt := 63) hx hb e3 eh d_Mod_findLineOf_9 (by decide) (fun c9 => ?_) (fun c9 => ?_)
      · refine lv_iconst (v := 0) hx hb d_Mod_findLineOf_63 (by decide) ?_
        refine lv_istore_n (lv' := [(3, .int 0), (0, .ref oM), (1, .int p1), (2, .int x2o)]) hx hb d_Mod_findLineOf_64 rfl hl (by decide) rfl (fun ls hl => ?_)
        have hkN : k = hN + 1 := by omega
        rw [hkN] at e2o hKo
        exact loop65 (wN + 2) 0 x2o 0 stn0 lnx0 lny0 (by omega) (by omega) (by decide) (by rw [show gm_cat (gm_rows wN hN cgs) 0 = [] from rfl, List.append_nil]; exact e2o) (by rw [show gm_cat (gm_rows wN hN cgs) 0 = [] from rfl, List.append_nil]; exact hKo) _ _ hP hD hS ls (lv_sub hl [1, 2, 3, 0] rfl)
      · refine lv_iconst (v := 0) hx hb d_Mod_findLineOf_12 (by decide) ?_
        refine lv_istore (lv' := [(4, .int 0), (0, .ref oM), (1, .int p1), (2, .int x2o), (3, .int x3)]) hx hb d_Mod_findLineOf_13 hl (by decide) rfl (fun ls hl => ?_)
        have loop15 : ∀ (n15 : Nat) (t_ : Nat) (G : List gm_L) (x2 : Int32) (x4 : Int32) (stn1 : Int32) (lnx1 : Int32) (lny1 : Int32), (wN - t_ < n15) → (t_ ≤ wN) → (G = gm_cat (gm_rowa wN hN cgs) k ++ (gd_bl (gd_a wN hN cgs k) t_).map (gm_a k)) → (x2.toInt = (G.length : Int)) → (x4.toInt = (t_ : Int)) → (gm_K p1 stn1 lnx1 lny1 G) → ∀ (H : Heap) (locs : List Loc), va_P (dC, dI) classes [(oM, .inr (5, [.int thr, .ref aTx, .int siz, .ref aBg, .ref aEn, .ref aLe, .ref aMa, .ref aFi, .int lnm, .int rsm, .ref aHe, .int bxs, .int wdt, .int hgh, .ref aCa, .ref aTo, .int byn, .ref aTu, .int pgm, .int tpm, .int stn1, .int lnx1, .int lny1])), (aCa, .inl (cI, 64, .inl cgs))] H → va_D A [(oM, .inr (5, [.int thr, .ref aTx, .int siz, .ref aBg, .ref aEn, .ref aLe, .ref aMa, .ref aFi, .int lnm, .int rsm, .ref aHe, .int bxs, .int wdt, .int hgh, .ref aCa, .ref aTo, .int byn, .ref aTu, .int pgm, .int tpm, .int stn1, .int lnx1, .int lny1])), (aCa, .inl (cI, 64, .inl cgs))] → va_S A s.heap H locs → ∀ (ls : Array Slot), lv_has ls 5 [(0, .ref oM), (1, .int p1), (2, .int x2), (3, .int x3), (4, .int x4)] → W p l e (headSpec w_Mod_findLineOf ({ frames := 2, cells := 0, slots := 0, locals := 46 })).room s m ([.ref oM, .int p1] : List Value).toArray below meth c H locs 0 0 (MQ below (va_Qi (fun (r : Int32) (u : Int32 × Int32 × Int32) => r.toInt = ((gm_all wN hN cgs).length : Int) ∧ gm_K p1 u.1 u.2.1 u.2.2 (gm_all wN hN cgs)) (fun (u : Int32 × Int32 × Int32) (t : State) => va_P (dC, dI) classes [(oM, .inr (5, [.int thr, .ref aTx, .int siz, .ref aBg, .ref aEn, .ref aLe, .ref aMa, .ref aFi, .int lnm, .int rsm, .ref aHe, .int bxs, .int wdt, .int hgh, .ref aCa, .ref aTo, .int byn, .ref aTu, .int pgm, .int tpm, .int u.1, .int u.2.1, .int u.2.2])), (aCa, .inl (cI, 64, .inl cgs))] t.heap ∧ va_K (dC, dI) classes [(cI, .int), (cZ, .boolean)] t ∧ va_D (A) [(oM, .inr (5, [.int thr, .ref aTx, .int siz, .ref aBg, .ref aEn, .ref aLe, .ref aMa, .ref aFi, .int lnm, .int rsm, .ref aHe, .int bxs, .int wdt, .int hgh, .ref aCa, .ref aTo, .int byn, .ref aTu, .int pgm, .int tpm, .int u.1, .int u.2.1, .int u.2.2])), (aCa, .inl (cI, 64, .inl cgs))]) (A)) ([.ref oM, .int p1] : List Value).toArray s 0 0 A) (F0 m 15 ls []) := by
          intro n15
          induction n15 with
          | zero => intro t_ G x2 x4 stn1 lnx1 lny1 hmz15; omega
          | succ n15 ih15 =>
            intro t_ G x2 x4 stn1 lnx1 lny1 hmz15 ht0 hG e2 e4 hKK H locs hP hD hS ls hl
            have hbl0 := gd_bl_len (gd_a wN hN cgs k) t_
            have hGl : G.length ≤ 1000 + t_ := by rw [hG, List.length_append, List.length_map]; omega
            refine lv_iload hx hb d_Mod_findLineOf_15 (lv_at hl 4 rfl) ?_
            refine lv_aload_n hx hb d_Mod_findLineOf_17 rfl (lv_at hl 0 rfl) ?_
            refine va_get (D := (dC, dI)) (ci := 5) (v := .int wdt) (C := R_Mod) (T := F_Mod) (N := 23) hx hb hts hw_Mod hown hK hP 0 rfl rfl 12 (by decide) (hts (.fieldLink R_Mod 31 "PageFormsModel" "width" "I") (by decide +kernel)) (fun _ h9 => h9) rfl d_Mod_findLineOf_18 ?_
            refine xi_icmp_ge (tgt := 57) hx hb e4 ew d_Mod_findLineOf_21 (by decide) (fun c21 => ?_) (fun c21 => ?_)
            · obtain ⟨v57, ev57⟩ : ∃ y : Int32, y = (x3 + 1) := ⟨_, rfl⟩
              have fv57 : v57.toInt = ((k : Int) + 1) := by rw [ev57]; exact xi_add e3 (show (1 : Int32).toInt = 1 by decide) (by omega) (by omega)
              refine lv_iinc (v := v57) (lv' := [(3, .int v57), (0, .ref oM), (1, .int p1), (2, .int x2), (4, .int x4)]) hx hb d_Mod_findLineOf_57 hl (k := 3) rfl (by rw [ev57]; rfl) (by decide) rfl (fun ls hl => ?_)
              refine lv_goto (tgt := 4) hx hb d_Mod_findLineOf_60 (by decide) ?_
              have htN : t_ = wN := by omega
              rw [htN] at hG
              exact ih4 (k + 1) x2 v57 stn1 lnx1 lny1 (by omega) (by omega) (by omega) (by rw [hG] at e2; exact e2) (by rw [hG] at hKK; exact hKK) _ _ hP hD hS ls (lv_sub hl [1, 2, 3, 0] rfl)
            · refine lv_aload_n hx hb d_Mod_findLineOf_24 rfl (lv_at hl 0 rfl) ?_
              refine lv_iconst (v := 0) hx hb d_Mod_findLineOf_25 (by decide) ?_
              refine lv_iload hx hb d_Mod_findLineOf_26 (lv_at hl 4 rfl) ?_
              refine lv_iload_n hx hb d_Mod_findLineOf_28 rfl (lv_at hl 3 rfl) ?_
              have hPc := hP.sub (ws' := [(oM, .inr (5, [.int thr, .ref aTx, .int siz, .ref aBg, .ref aEn, .ref aLe, .ref aMa, .ref aFi, .int lnm, .int rsm, .ref aHe, .int bxs, .int wdt, .int hgh, .ref aCa, .ref aTo, .int byn, .ref aTu, .int pgm, .int tpm, .int stn1, .int lnx1, .int lny1])), (aCa, .inl (cI, 64, .inl cgs))]) [0, 1] rfl
              have hDc := hD.sub (ws' := [(oM, .inr (5, [.int thr, .ref aTx, .int siz, .ref aBg, .ref aEn, .ref aLe, .ref aMa, .ref aFi, .int lnm, .int rsm, .ref aHe, .int bxs, .int wdt, .int hgh, .ref aCa, .ref aTo, .int byn, .ref aTu, .int pgm, .int tpm, .int stn1, .int lnx1, .int lny1])), (aCa, .inl (cI, 64, .inl cgs))]) [0, 1] (by decide) rfl
              have hFc := va_free (wc := [(oM, .inr (5, [.int thr, .ref aTx, .int siz, .ref aBg, .ref aEn, .ref aLe, .ref aMa, .ref aFi, .int lnm, .int rsm, .ref aHe, .int bxs, .int wdt, .int hgh, .ref aCa, .ref aTo, .int byn, .ref aTu, .int pgm, .int tpm, .int stn1, .int lnx1, .int lny1])), (aCa, .inl (cI, 64, .inl cgs))]) hD hS hA [0, 1] rfl
              refine va_calli (va_runV (As := [.int 0, .int x4, .int x3]) (rest := []) ⟨hx, hb, hml, hown, hts⟩ (k_Mod_begins_a l dC dI cI cZ oM aCa thr aTx siz aBg aEn aLe aMa aFi lnm rsm aHe bxs wdt hgh aTo byn aTu pgm tpm stn1 lnx1 lny1 cgs H.size x4 x3 wN hN k t_ ew eh hw1 hh1 e3 e4 (by omega) (by omega)) (cwV 3 hts g_Mod_findLineOf_Mod_begins rfl rfl rfl (by decide +kernel) ⟨Nat.le_of_ble_eq_true rfl, Nat.le_of_ble_eq_true rfl⟩) ⟨fun a U g mk q => by obtain ⟨q0, q1, qP, qK, qD⟩ := q; exact ⟨q0, q1, qP, va_K.moved (u := U) (U := U.calling g mk a) (Vm.Alike.refl U.vm) qK, qD⟩, va_recv hK hPc (ci := 5) (q0 := 0) rfl rfl, fun U hU hW => ⟨rfl, by rw [hU], by rw [hU]; exact hPc, va_K.moved hW.alike hK, hDc.weaken (fun _ _ _ _ => trivial)⟩⟩ rfl rfl hl.1 rfl (lv_room (Nat.le_of_ble_eq_true rfl)) d_Mod_findLineOf_29 ⟨Nat.le_of_ble_eq_true rfl, Nat.le_of_ble_eq_true rfl⟩) hS (fun q _ h => hFc q h) hFc (fun r29 u t H1 locs ht hvm hw hB hz1 hk1 hS => ?_)
              have w29 : (r29.toInt = 1 ∧ gd_beg (gd_a wN hN cgs k) t_ = true) ∨ (r29.toInt = 0 ∧ gd_beg (gd_a wN hN cgs k) t_ = false) := hw
              obtain ⟨hP1, hK1, hD1⟩ := hB
              rw [ht] at hP1
              obtain ⟨hP, hD⟩ := va_join (wr := []) (w1 := [(oM, .inr (5, [.int thr, .ref aTx, .int siz, .ref aBg, .ref aEn, .ref aLe, .ref aMa, .ref aFi, .int lnm, .int rsm, .ref aHe, .int bxs, .int wdt, .int hgh, .ref aCa, .ref aTo, .int byn, .ref aTu, .int pgm, .int tpm, .int stn1, .int lnx1, .int lny1])), (aCa, .inl (cI, 64, .inl cgs))]) hP hD [0, 1] [] rfl rfl (by decide) (by decide) hk1 hFc hP1 hD1
              generalize H1 = H at hP hS ⊢
              have hP : va_P (dC, dI) classes [(oM, .inr (5, [.int thr, .ref aTx, .int siz, .ref aBg, .ref aEn, .ref aLe, .ref aMa, .ref aFi, .int lnm, .int rsm, .ref aHe, .int bxs, .int wdt, .int hgh, .ref aCa, .ref aTo, .int byn, .ref aTu, .int pgm, .int tpm, .int stn1, .int lnx1, .int lny1])), (aCa, .inl (cI, 64, .inl cgs))] H := hP
              have hD : va_D A [(oM, .inr (5, [.int thr, .ref aTx, .int siz, .ref aBg, .ref aEn, .ref aLe, .ref aMa, .ref aFi, .int lnm, .int rsm, .ref aHe, .int bxs, .int wdt, .int hgh, .ref aCa, .ref aTo, .int byn, .ref aTu, .int pgm, .int tpm, .int stn1, .int lnx1, .int lny1])), (aCa, .inl (cI, 64, .inl cgs))] := hD
              refine xi_if_eq (tgt := 51) hx hb (rfl) d_Mod_findLineOf_32 (by decide) (fun c32 => ?_) (fun c32 => ?_)
              · obtain ⟨v51, ev51⟩ : ∃ y : Int32, y = (x4 + 1) := ⟨_, rfl⟩
                have fv51 : v51.toInt = ((t_ : Int) + 1) := by rw [ev51]; exact xi_add e4 (show (1 : Int32).toInt = 1 by decide) (by omega) (by omega)
                refine lv_iinc (v := v51) (lv' := [(4, .int v51), (0, .ref oM), (1, .int p1), (2, .int x2), (3, .int x3)]) hx hb d_Mod_findLineOf_51 hl (k := 4) rfl (by rw [ev51]; rfl) (by decide) rfl (fun ls hl => ?_)
                refine lv_goto (tgt := 15) hx hb d_Mod_findLineOf_54 (by decide) ?_
                have hbg : gd_beg (gd_a wN hN cgs k) t_ = false := by rcases w29 with z | z; omega; exact z.2
                have hbl := gd_bl_n hbg
                exact ih15 (t_ + 1) G x2 v51 stn1 lnx1 lny1 (by omega) (by omega) (by rw [hbl, hG]) (by omega) (by omega) hKK _ _ hP hD hS ls (lv_sub hl [1, 2, 3, 4, 0] rfl)
              · refine lv_iload_n hx hb d_Mod_findLineOf_35 rfl (lv_at hl 2 rfl) ?_
                refine lv_iload_n hx hb d_Mod_findLineOf_36 rfl (lv_at hl 1 rfl) ?_
                refine xi_icmp_ne (tgt := 48) hx hb e2 (rfl) d_Mod_findLineOf_37 (by decide) (fun c37 => ?_) (fun c37 => ?_)
                · obtain ⟨v48, ev48⟩ : ∃ y : Int32, y = (x2 + 1) := ⟨_, rfl⟩
                  have fv48 : v48.toInt = ((G.length : Int) + 1) := by rw [ev48]; exact xi_add e2 (show (1 : Int32).toInt = 1 by decide) (by omega) (by omega)
                  refine lv_iinc (v := v48) (lv' := [(2, .int v48), (0, .ref oM), (1, .int p1), (3, .int x3), (4, .int x4)]) hx hb d_Mod_findLineOf_48 hl (k := 2) rfl (by rw [ev48]; rfl) (by decide) rfl (fun ls hl => ?_)
                  obtain ⟨v51, ev51⟩ : ∃ y : Int32, y = (x4 + 1) := ⟨_, rfl⟩
                  have fv51 : v51.toInt = ((t_ : Int) + 1) := by rw [ev51]; exact xi_add e4 (show (1 : Int32).toInt = 1 by decide) (by omega) (by omega)
                  refine lv_iinc (v := v51) (lv' := [(4, .int v51), (2, .int v48), (0, .ref oM), (1, .int p1), (3, .int x3)]) hx hb d_Mod_findLineOf_51 hl (k := 4) rfl (by rw [ev51]; rfl) (by decide) rfl (fun ls hl => ?_)
                  refine lv_goto (tgt := 15) hx hb d_Mod_findLineOf_54 (by decide) ?_
                  have hbg : gd_beg (gd_a wN hN cgs k) t_ = true := by rcases w29 with z | z; exact z.2; omega
                  have hbl := gd_bl_y hbg
                  exact ih15 (t_ + 1) (G ++ [gm_a k t_]) v48 v51 stn1 lnx1 lny1 (by omega) (by omega) (by rw [hbl, hG, List.map_append, ← List.append_assoc]; rfl) (by rw [List.length_append, List.length_singleton]; omega) (by omega) (gm_K_skip hKK (by omega)) _ _ hP hD hS ls (lv_sub hl [2, 3, 1, 4, 0] rfl)
                · refine lv_aload_n hx hb d_Mod_findLineOf_40 rfl (lv_at hl 0 rfl) ?_
                  refine lv_iconst (v := 0) hx hb d_Mod_findLineOf_41 (by decide) ?_
                  refine lv_iload hx hb d_Mod_findLineOf_42 (lv_at hl 4 rfl) ?_
                  refine lv_iload_n hx hb d_Mod_findLineOf_44 rfl (lv_at hl 3 rfl) ?_
                  have hPc := hP.sub (ws' := [(oM, .inr (5, [.int thr, .ref aTx, .int siz, .ref aBg, .ref aEn, .ref aLe, .ref aMa, .ref aFi, .int lnm, .int rsm, .ref aHe, .int bxs, .int wdt, .int hgh, .ref aCa, .ref aTo, .int byn, .ref aTu, .int pgm, .int tpm, .int stn1, .int lnx1, .int lny1]))]) [0] rfl
                  have hDc := hD.sub (ws' := [(oM, .inr (5, [.int thr, .ref aTx, .int siz, .ref aBg, .ref aEn, .ref aLe, .ref aMa, .ref aFi, .int lnm, .int rsm, .ref aHe, .int bxs, .int wdt, .int hgh, .ref aCa, .ref aTo, .int byn, .ref aTu, .int pgm, .int tpm, .int stn1, .int lnx1, .int lny1]))]) [0] (by decide) rfl
                  have hFc := va_free (wc := [(oM, .inr (5, [.int thr, .ref aTx, .int siz, .ref aBg, .ref aEn, .ref aLe, .ref aMa, .ref aFi, .int lnm, .int rsm, .ref aHe, .int bxs, .int wdt, .int hgh, .ref aCa, .ref aTo, .int byn, .ref aTu, .int pgm, .int tpm, .int stn1, .int lnx1, .int lny1]))]) hD hS hA [0] rfl
                  refine va_callv (va_runV (As := [.int 0, .int x4, .int x3]) (rest := []) ⟨hx, hb, hml, hown, hts⟩ (k_Mod_keep_a l dC dI cI cZ oM thr aTx siz aBg aEn aLe aMa aFi lnm rsm aHe bxs wdt hgh aCa aTo byn aTu pgm tpm stn1 lnx1 lny1 H.size x4 x3) (cwV 3 hts g_Mod_findLineOf_Mod_keep rfl rfl rfl (by decide +kernel) ⟨Nat.le_of_ble_eq_true rfl, Nat.le_of_ble_eq_true rfl⟩) ⟨fun a U g mk q => by obtain ⟨q0, q1, qP, qK, qD⟩ := q; exact ⟨q0, q1, qP, va_K.moved (u := U) (U := U.calling g mk a) (Vm.Alike.refl U.vm) qK, qD⟩, va_recv hK hPc (ci := 5) (q0 := 0) rfl rfl, fun U hU hW => ⟨rfl, by rw [hU], by rw [hU]; exact hPc, va_K.moved hW.alike hK, hDc.weaken (fun _ _ _ _ => trivial)⟩⟩ rfl rfl hl.1 rfl (lv_room (Nat.le_of_ble_eq_true rfl)) d_Mod_findLineOf_45 ⟨Nat.le_of_ble_eq_true rfl, Nat.le_of_ble_eq_true rfl⟩) hS (fun q _ h => hFc q h) hFc (fun u t H1 locs ht hvm hw hB hz1 hk1 hS => ?_)
                  obtain ⟨stn_45, lnx_45, lny_45⟩ := u
                  have w45 : stn_45.toInt = 0 ∧ lnx_45 = x4 ∧ lny_45 = x3 := hw
                  obtain ⟨hP1, hK1, hD1⟩ := hB
                  rw [ht] at hP1
                  obtain ⟨hP, hD⟩ := va_join (wr := [(aCa, .inl (cI, 64, .inl cgs))]) (w1 := [(oM, .inr (5, [.int thr, .ref aTx, .int siz, .ref aBg, .ref aEn, .ref aLe, .ref aMa, .ref aFi, .int lnm, .int rsm, .ref aHe, .int bxs, .int wdt, .int hgh, .ref aCa, .ref aTo, .int byn, .ref aTu, .int pgm, .int tpm, .int stn_45, .int lnx_45, .int lny_45]))]) hP hD [0] [1] rfl rfl (by decide) (by decide) hk1 hFc hP1 hD1
                  generalize H1 = H at hP hS ⊢
                  have hP := hP.sub (ws' := [(oM, .inr (5, [.int thr, .ref aTx, .int siz, .ref aBg, .ref aEn, .ref aLe, .ref aMa, .ref aFi, .int lnm, .int rsm, .ref aHe, .int bxs, .int wdt, .int hgh, .ref aCa, .ref aTo, .int byn, .ref aTu, .int pgm, .int tpm, .int stn_45, .int lnx_45, .int lny_45])), (aCa, .inl (cI, 64, .inl cgs))]) [1, 0] rfl
                  have hD := hD.sub (ws' := [(oM, .inr (5, [.int thr, .ref aTx, .int siz, .ref aBg, .ref aEn, .ref aLe, .ref aMa, .ref aFi, .int lnm, .int rsm, .ref aHe, .int bxs, .int wdt, .int hgh, .ref aCa, .ref aTo, .int byn, .ref aTu, .int pgm, .int tpm, .int stn_45, .int lnx_45, .int lny_45])), (aCa, .inl (cI, 64, .inl cgs))]) [1, 0] (by decide) rfl
                  have hP : va_P (dC, dI) classes [(oM, .inr (5, [.int thr, .ref aTx, .int siz, .ref aBg, .ref aEn, .ref aLe, .ref aMa, .ref aFi, .int lnm, .int rsm, .ref aHe, .int bxs, .int wdt, .int hgh, .ref aCa, .ref aTo, .int byn, .ref aTu, .int pgm, .int tpm, .int stn_45, .int lnx_45, .int lny_45])), (aCa, .inl (cI, 64, .inl cgs))] H := hP
                  have hD : va_D A [(oM, .inr (5, [.int thr, .ref aTx, .int siz, .ref aBg, .ref aEn, .ref aLe, .ref aMa, .ref aFi, .int lnm, .int rsm, .ref aHe, .int bxs, .int wdt, .int hgh, .ref aCa, .ref aTo, .int byn, .ref aTu, .int pgm, .int tpm, .int stn_45, .int lnx_45, .int lny_45])), (aCa, .inl (cI, 64, .inl cgs))] := hD
                  obtain ⟨v48, ev48⟩ : ∃ y : Int32, y = (x2 + 1) := ⟨_, rfl⟩
                  have fv48 : v48.toInt = ((G.length : Int) + 1) := by rw [ev48]; exact xi_add e2 (show (1 : Int32).toInt = 1 by decide) (by omega) (by omega)
                  refine lv_iinc (v := v48) (lv' := [(2, .int v48), (0, .ref oM), (1, .int p1), (3, .int x3), (4, .int x4)]) hx hb d_Mod_findLineOf_48 hl (k := 2) rfl (by rw [ev48]; rfl) (by decide) rfl (fun ls hl => ?_)
                  obtain ⟨v51, ev51⟩ : ∃ y : Int32, y = (x4 + 1) := ⟨_, rfl⟩
                  have fv51 : v51.toInt = ((t_ : Int) + 1) := by rw [ev51]; exact xi_add e4 (show (1 : Int32).toInt = 1 by decide) (by omega) (by omega)
                  refine lv_iinc (v := v51) (lv' := [(4, .int v51), (2, .int v48), (0, .ref oM), (1, .int p1), (3, .int x3)]) hx hb d_Mod_findLineOf_51 hl (k := 4) rfl (by rw [ev51]; rfl) (by decide) rfl (fun ls hl => ?_)
                  refine lv_goto (tgt := 15) hx hb d_Mod_findLineOf_54 (by decide) ?_
                  have hbg : gd_beg (gd_a wN hN cgs k) t_ = true := by rcases w29 with z | z; exact z.2; omega
                  have hbl := gd_bl_y hbg
                  have hput : gm_is stn_45 lnx_45 lny_45 (gm_a k t_) := ⟨w45.1, by rw [w45.2.1]; exact e4, by rw [w45.2.2]; exact e3⟩
                  exact ih15 (t_ + 1) (G ++ [gm_a k t_]) v48 v51 stn_45 lnx_45 lny_45 (by omega) (by omega) (by rw [hbl, hG, List.map_append, ← List.append_assoc]; rfl) (by rw [List.length_append, List.length_singleton]; omega) (by omega) (gm_K_put hput (by omega)) _ _ hP hD hS ls (lv_sub hl [2, 3, 1, 4, 0] rfl)
        exact loop15 (wN + 1) 0 (gm_cat (gm_rowa wN hN cgs) k) x2o 0 stn0 lnx0 lny0 (by omega) (by omega) (by rw [show gd_bl (gd_a wN hN cgs k) 0 = [] from rfl, List.map_nil, List.append_nil]) e2o (by decide) hKo _ _ hP hD hS ls (lv_sub hl [1, 2, 3, 4, 0] rfl)
  refine lv_iconst (v := 0) hx hb d_Mod_findLineOf_0 (by decide) ?_
  refine lv_istore_n (lv' := [(2, .int 0), (0, .ref oM), (1, .int p1)]) hx hb d_Mod_findLineOf_1 rfl hl (by decide) rfl (fun ls hl => ?_)
  refine lv_iconst (v := 0) hx hb d_Mod_findLineOf_2 (by decide) ?_
  refine lv_istore_n (lv' := [(3, .int 0), (2, .int 0), (0, .ref oM), (1, .int p1)]) hx hb d_Mod_findLineOf_3 rfl hl (by decide) rfl (fun ls hl => ?_)
  exact loop4 (hN + 2) 0 0 0 stn lnx lny (by omega) (by omega) (by decide) (show (0 : Int32).toInt = ((0 : Nat) : Int) by decide) gm_K_0 _ _ hP hD hS ls (lv_sub hl [2, 3, 1, 0] rfl)

set_option maxHeartbeats 4000000 in
set_option maxRecDepth 100000 in
theorem k_Mod_lines (l : Launch) (dC : Nat → ClassId) (dI : Nat → Nat → Nat) (cI cZ : ClassId) (oM : Nat) (aCa : Nat) (thr : Int32) (aTx : Nat) (siz : Int32) (aBg : Nat) (aEn : Nat) (aLe : Nat) (aMa : Nat) (aFi : Nat) (lnm : Int32) (rsm : Int32) (aHe : Nat) (bxs : Int32) (wdt : Int32) (hgh : Int32) (aTo : Nat) (byn : Int32) (aTu : Nat) (pgm : Int32) (tpm : Int32) (stn : Int32) (lnx : Int32) (lny : Int32) (cgs : Nat → Int32) (sz : Nat) (wN : Nat) (hN : Nat) (ew : wdt.toInt = (wN : Int)) (eh : hgh.toInt = (hN : Int)) (hw1 : 1 ≤ wN ∧ wN ≤ 8) (hh1 : 1 ≤ hN ∧ hN ≤ 8) : Met l y_Mod_lines w_Mod_lines ({ frames := 3, cells := 0, slots := 0, locals := 70 }) (va_Pc [.ref oM] (fun U => U.heap.size = sz ∧ va_P (dC, dI) classes [(oM, .inr (5, [.int thr, .ref aTx, .int siz, .ref aBg, .ref aEn, .ref aLe, .ref aMa, .ref aFi, .int lnm, .int rsm, .ref aHe, .int bxs, .int wdt, .int hgh, .ref aCa, .ref aTo, .int byn, .ref aTu, .int pgm, .int tpm, .int stn, .int lnx, .int lny])), (aCa, .inl (cI, 64, .inl cgs))] U.heap ∧ va_K (dC, dI) classes [(cI, .int), (cZ, .boolean)] U ∧ va_D (fun _ => True) [(oM, .inr (5, [.int thr, .ref aTx, .int siz, .ref aBg, .ref aEn, .ref aLe, .ref aMa, .ref aFi, .int lnm, .int rsm, .ref aHe, .int bxs, .int wdt, .int hgh, .ref aCa, .ref aTo, .int byn, .ref aTu, .int pgm, .int tpm, .int stn, .int lnx, .int lny])), (aCa, .inl (cI, 64, .inl cgs))])) (va_Qi (fun (r : Int32) (u : Int32 × Int32 × Int32 × Int32) => r.toInt = ((gm_all wN hN cgs).length : Int)) (fun (u : Int32 × Int32 × Int32 × Int32) (t : State) => va_P (dC, dI) classes [(oM, .inr (5, [.int u.1, .ref aTx, .int siz, .ref aBg, .ref aEn, .ref aLe, .ref aMa, .ref aFi, .int lnm, .int rsm, .ref aHe, .int bxs, .int wdt, .int hgh, .ref aCa, .ref aTo, .int byn, .ref aTu, .int pgm, .int tpm, .int u.2.1, .int u.2.2.1, .int u.2.2.2])), (aCa, .inl (cI, 64, .inl cgs))] t.heap ∧ va_K (dC, dI) classes [(cI, .int), (cZ, .boolean)] t ∧ va_D (va_A [(oM, .inr (5, [.int thr, .ref aTx, .int siz, .ref aBg, .ref aEn, .ref aLe, .ref aMa, .ref aFi, .int lnm, .int rsm, .ref aHe, .int bxs, .int wdt, .int hgh, .ref aCa, .ref aTo, .int byn, .ref aTu, .int pgm, .int tpm, .int stn, .int lnx, .int lny])), (aCa, .inl (cI, 64, .inl cgs))] sz) [(oM, .inr (5, [.int u.1, .ref aTx, .int siz, .ref aBg, .ref aEn, .ref aLe, .ref aMa, .ref aFi, .int lnm, .int rsm, .ref aHe, .int bxs, .int wdt, .int hgh, .ref aCa, .ref aTo, .int byn, .ref aTu, .int pgm, .int tpm, .int u.2.1, .int u.2.2.1, .int u.2.2.2])), (aCa, .inl (cI, 64, .inl cgs))]) (va_A [(oM, .inr (5, [.int thr, .ref aTx, .int siz, .ref aBg, .ref aEn, .ref aLe, .ref aMa, .ref aFi, .int lnm, .int rsm, .ref aHe, .int bxs, .int wdt, .int hgh, .ref aCa, .ref aTo, .int byn, .ref aTu, .int pgm, .int tpm, .int stn, .int lnx, .int lny])), (aCa, .inl (cI, 64, .inl cgs))] sz)) 0 0 (va_A [(oM, .inr (5, [.int thr, .ref aTx, .int siz, .ref aBg, .ref aEn, .ref aLe, .ref aMa, .ref aFi, .int lnm, .int rsm, .ref aHe, .int bxs, .int wdt, .int hgh, .ref aCa, .ref aTo, .int byn, .ref aTu, .int pgm, .int tpm, .int stn, .int lnx, .int lny])), (aCa, .inl (cI, 64, .inl cgs))] sz) := by
  refine Met.ofW (cc := b_Mod_lines) (maxL := 1) (ret := (some .int)) (by decide) rfl ?_
  intro p e s m args below meth c s₁ B hml hv
  obtain ⟨rfl, hsz, hP, hK, hD0⟩ := hv
  have hx := B.exec
  have hb := B.bytes
  have hr := B.returns
  have hts := atoms_spec (ws := w_Mod_lines) B.pre
  have hown : s.vm.findClass R_Mod = some m.cls := findClass_of_methodNamed B.named
  have hlocks := B.notSynchronized
  have hw_Mod : ∀ w ∈ w_Mod, w ∈ w_Mod_lines := by decide +kernel
  subst hsz
  have hD := hD0.self (sz := s.heap.size)
  generalize hAe : va_A [(oM, .inr (5, [.int thr, .ref aTx, .int siz, .ref aBg, .ref aEn, .ref aLe, .ref aMa, .ref aFi, .int lnm, .int rsm, .ref aHe, .int bxs, .int wdt, .int hgh, .ref aCa, .ref aTo, .int byn, .ref aTu, .int pgm, .int tpm, .int stn, .int lnx, .int lny])), (aCa, .inl (cI, 64, .inl cgs))] s.heap.size = A at hD ⊢
  have hA : ∀ q : Nat, s.heap.size ≤ q → A q := fun q h => by rw [← hAe]; exact Or.inr h
  have hS : va_S A s.heap s.heap [] := va_S.rf
  have hP : va_P (dC, dI) classes [(oM, .inr (5, [.int thr, .ref aTx, .int siz, .ref aBg, .ref aEn, .ref aLe, .ref aMa, .ref aFi, .int lnm, .int rsm, .ref aHe, .int bxs, .int wdt, .int hgh, .ref aCa, .ref aTo, .int byn, .ref aTu, .int pgm, .int tpm, .int stn, .int lnx, .int lny])), (aCa, .inl (cI, 64, .inl cgs))] s.heap := hP
  have hl := lv_entry ([.ref oM]) (n := 1) (Nat.le_of_ble_eq_true rfl)
  rw [lg_entry_eq]
  generalize (lg_sl ([.ref oM]) ++ List.replicate (1 - (lg_sl ([.ref oM])).length) Slot.unset).toArray = ls at hl ⊢
  have hl : lv_has ls 1 [(0, .ref oM)] := hl
  refine lv_aload_n hx hb d_Mod_lines_0 rfl (lv_at hl 0 rfl) ?_
  refine lv_iconst (v := 0) hx hb d_Mod_lines_1 (by decide) ?_
  refine va_put (D := (dC, dI)) (ci := 5) (v := .int 0) (ty := .int) (C := R_Mod) (T := F_Mod) (N := 23) hx hb hts hw_Mod t_Mod t_Mod_ok n_Mod hown hK hP hD hS 0 rfl rfl 0 (by decide) (hts (.fieldLink R_Mod 48 "PageFormsModel" "thrown" "I") (by decide +kernel)) (fun _ h9 => h9) rfl (by decide +kernel) rfl rfl (Nat.le_of_ble_eq_true rfl) d_Mod_lines_2 (fun H locs hP hD hS => ?_)
  have hP : va_P (dC, dI) classes [(oM, .inr (5, [.int 0, .ref aTx, .int siz, .ref aBg, .ref aEn, .ref aLe, .ref aMa, .ref aFi, .int lnm, .int rsm, .ref aHe, .int bxs, .int wdt, .int hgh, .ref aCa, .ref aTo, .int byn, .ref aTu, .int pgm, .int tpm, .int stn, .int lnx, .int lny])), (aCa, .inl (cI, 64, .inl cgs))] H := hP
  have hD : va_D A [(oM, .inr (5, [.int 0, .ref aTx, .int siz, .ref aBg, .ref aEn, .ref aLe, .ref aMa, .ref aFi, .int lnm, .int rsm, .ref aHe, .int bxs, .int wdt, .int hgh, .ref aCa, .ref aTo, .int byn, .ref aTu, .int pgm, .int tpm, .int stn, .int lnx, .int lny])), (aCa, .inl (cI, 64, .inl cgs))] := hD
  refine lv_aload_n hx hb d_Mod_lines_5 rfl (lv_at hl 0 rfl) ?_
  refine lv_iconst (v := (-1)) hx hb d_Mod_lines_6 (by decide) ?_
  have hPc := hP.sub (ws' := [(oM, .inr (5, [.int 0, .ref aTx, .int siz, .ref aBg, .ref aEn, .ref aLe, .ref aMa, .ref aFi, .int lnm, .int rsm, .ref aHe, .int bxs, .int wdt, .int hgh, .ref aCa, .ref aTo, .int byn, .ref aTu, .int pgm, .int tpm, .int stn, .int lnx, .int lny])), (aCa, .inl (cI, 64, .inl cgs))]) [0, 1] rfl
  have hDc := hD.sub (ws' := [(oM, .inr (5, [.int 0, .ref aTx, .int siz, .ref aBg, .ref aEn, .ref aLe, .ref aMa, .ref aFi, .int lnm, .int rsm, .ref aHe, .int bxs, .int wdt, .int hgh, .ref aCa, .ref aTo, .int byn, .ref aTu, .int pgm, .int tpm, .int stn, .int lnx, .int lny])), (aCa, .inl (cI, 64, .inl cgs))]) [0, 1] (by decide) rfl
  have hFc := va_free (wc := [(oM, .inr (5, [.int 0, .ref aTx, .int siz, .ref aBg, .ref aEn, .ref aLe, .ref aMa, .ref aFi, .int lnm, .int rsm, .ref aHe, .int bxs, .int wdt, .int hgh, .ref aCa, .ref aTo, .int byn, .ref aTu, .int pgm, .int tpm, .int stn, .int lnx, .int lny])), (aCa, .inl (cI, 64, .inl cgs))]) hD hS hA [0, 1] rfl
  refine va_calli (va_runV (As := [.int (-1)]) (rest := []) ⟨hx, hb, hml, hown, hts⟩ (k_Mod_findLineOf l dC dI cI cZ oM aCa 0 aTx siz aBg aEn aLe aMa aFi lnm rsm aHe bxs wdt hgh aTo byn aTu pgm tpm stn lnx lny cgs H.size (-1) wN hN ew eh hw1 hh1) (cwV 1 hts g_Mod_lines_Mod_findLineOf rfl rfl rfl (by decide +kernel) ⟨Nat.le_of_ble_eq_true rfl, Nat.le_of_ble_eq_true rfl⟩) ⟨fun a U g mk q => by obtain ⟨q0, q1, qP, qK, qD⟩ := q; exact ⟨q0, q1, qP, va_K.moved (u := U) (U := U.calling g mk a) (Vm.Alike.refl U.vm) qK, qD⟩, va_recv hK hPc (ci := 5) (q0 := 0) rfl rfl, fun U hU hW => ⟨rfl, by rw [hU], by rw [hU]; exact hPc, va_K.moved hW.alike hK, hDc.weaken (fun _ _ _ _ => trivial)⟩⟩ rfl rfl hl.1 rfl (lv_room (Nat.le_of_ble_eq_true rfl)) d_Mod_lines_7 ⟨Nat.le_of_ble_eq_true rfl, Nat.le_of_ble_eq_true rfl⟩) hS (fun q _ h => hFc q h) hFc (fun r7 u t H1 locs ht hvm hw hB hz1 hk1 hS => ?_)
  obtain ⟨stn_7, lnx_7, lny_7⟩ := u
  have w7 : r7.toInt = ((gm_all wN hN cgs).length : Int) ∧ gm_K (-1) stn_7 lnx_7 lny_7 (gm_all wN hN cgs) := hw
  obtain ⟨hP1, hK1, hD1⟩ := hB
  rw [ht] at hP1
  obtain ⟨hP, hD⟩ := va_join (wr := []) (w1 := [(oM, .inr (5, [.int 0, .ref aTx, .int siz, .ref aBg, .ref aEn, .ref aLe, .ref aMa, .ref aFi, .int lnm, .int rsm, .ref aHe, .int bxs, .int wdt, .int hgh, .ref aCa, .ref aTo, .int byn, .ref aTu, .int pgm, .int tpm, .int stn_7, .int lnx_7, .int lny_7])), (aCa, .inl (cI, 64, .inl cgs))]) hP hD [0, 1] [] rfl rfl (by decide) (by decide) hk1 hFc hP1 hD1
  generalize H1 = H at hP hS ⊢
  have hP : va_P (dC, dI) classes [(oM, .inr (5, [.int 0, .ref aTx, .int siz, .ref aBg, .ref aEn, .ref aLe, .ref aMa, .ref aFi, .int lnm, .int rsm, .ref aHe, .int bxs, .int wdt, .int hgh, .ref aCa, .ref aTo, .int byn, .ref aTu, .int pgm, .int tpm, .int stn_7, .int lnx_7, .int lny_7])), (aCa, .inl (cI, 64, .inl cgs))] H := hP
  have hD : va_D A [(oM, .inr (5, [.int 0, .ref aTx, .int siz, .ref aBg, .ref aEn, .ref aLe, .ref aMa, .ref aFi, .int lnm, .int rsm, .ref aHe, .int bxs, .int wdt, .int hgh, .ref aCa, .ref aTo, .int byn, .ref aTu, .int pgm, .int tpm, .int stn_7, .int lnx_7, .int lny_7])), (aCa, .inl (cI, 64, .inl cgs))] := hD
  exact W.iret (v := r7) hx hb hr (fun t ht hW => ⟨⟨r7, (0, stn_7, lnx_7, lny_7), rfl, (show r7.toInt = ((gm_all wN hN cgs).length : Int) from w7.1), by rw [ht]; exact hP, va_K.moved hW.alike hK, hD⟩, hS.F ht⟩) hS.2.2 d_Mod_lines_10
