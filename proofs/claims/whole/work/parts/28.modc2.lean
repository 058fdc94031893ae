set_option maxHeartbeats 4000000 in
set_option maxRecDepth 100000 in
theorem k_Mod_read (l : Launch) (dC : Nat → ClassId) (dI : Nat → Nat → Nat) (cI cZ : ClassId) (oM : Nat) (aTu : Nat) (thr : Int32) (aTx : Nat) (siz : Int32) (aBg : Nat) (aEn : Nat) (aLe : Nat) (aMa : Nat) (aFi : Nat) (lnm : Int32) (rsm : Int32) (aHe : Nat) (bxs : Int32) (wdt : Int32) (hgh : Int32) (aCa : Nat) (aTo : Nat) (byn : Int32) (pgm : Int32) (tpm : Int32) (stn : Int32) (lnx : Int32) (lny : Int32) (trn : Nat → Int32) (sz : Nat) (nC : Nat) (hc : byn.toInt = (nC : Int)) (hc12 : nC ≤ 12) (h01 : cm_01 trn) : Met l y_Mod_read w_Mod_read ({ frames := 0, cells := 0, slots := 0, locals := 0 }) (va_Pc [.ref oM] (fun U => U.heap.size = sz ∧ va_P (dC, dI) classes [(oM, .inr (5, [.int thr, .ref aTx, .int siz, .ref aBg, .ref aEn, .ref aLe, .ref aMa, .ref aFi, .int lnm, .int rsm, .ref aHe, .int bxs, .int wdt, .int hgh, .ref aCa, .ref aTo, .int byn, .ref aTu, .int pgm, .int tpm, .int stn, .int lnx, .int lny])), (aTu, .inl (cZ, 117, .inl trn))] U.heap ∧ va_K (dC, dI) classes [(cI, .int), (cZ, .boolean)] U ∧ va_D (fun _ => True) [(oM, .inr (5, [.int thr, .ref aTx, .int siz, .ref aBg, .ref aEn, .ref aLe, .ref aMa, .ref aFi, .int lnm, .int rsm, .ref aHe, .int bxs, .int wdt, .int hgh, .ref aCa, .ref aTo, .int byn, .ref aTu, .int pgm, .int tpm, .int stn, .int lnx, .int lny])), (aTu, .inl (cZ, 117, .inl trn))])) (va_Qi (fun (r : Int32) (u : Int32 × (Nat → Int32)) => cm_read nC trn r u.2) (fun (u : Int32 × (Nat → Int32)) (t : State) => va_P (dC, dI) classes [(oM, .inr (5, [.int u.1, .ref aTx, .int siz, .ref aBg, .ref aEn, .ref aLe, .ref aMa, .ref aFi, .int lnm, .int rsm, .ref aHe, .int bxs, .int wdt, .int hgh, .ref aCa, .ref aTo, .int byn, .ref aTu, .int pgm, .int tpm, .int stn, .int lnx, .int lny])), (aTu, .inl (cZ, 117, .inl u.2))] t.heap ∧ va_K (dC, dI) classes [(cI, .int), (cZ, .boolean)] t ∧ va_D (va_A [(oM, .inr (5, [.int thr, .ref aTx, .int siz, .ref aBg, .ref aEn, .ref aLe, .ref aMa, .ref aFi, .int lnm, .int rsm, .ref aHe, .int bxs, .int wdt, .int hgh, .ref aCa, .ref aTo, .int byn, .ref aTu, .int pgm, .int tpm, .int stn, .int lnx, .int lny])), (aTu, .inl (cZ, 117, .inl trn))] sz) [(oM, .inr (5, [.int u.1, .ref aTx, .int siz, .ref aBg, .ref aEn, .ref aLe, .ref aMa, .ref aFi, .int lnm, .int rsm, .ref aHe, .int bxs, .int wdt, .int hgh, .ref aCa, .ref aTo, .int byn, .ref aTu, .int pgm, .int tpm, .int stn, .int lnx, .int lny])), (aTu, .inl (cZ, 117, .inl u.2))]) (va_A [(oM, .inr (5, [.int thr, .ref aTx, .int siz, .ref aBg, .ref aEn, .ref aLe, .ref aMa, .ref aFi, .int lnm, .int rsm, .ref aHe, .int bxs, .int wdt, .int hgh, .ref aCa, .ref aTo, .int byn, .ref aTu, .int pgm, .int tpm, .int stn, .int lnx, .int lny])), (aTu, .inl (cZ, 117, .inl trn))] sz)) 0 0 (va_A [(oM, .inr (5, [.int thr, .ref aTx, .int siz, .ref aBg, .ref aEn, .ref aLe, .ref aMa, .ref aFi, .int lnm, .int rsm, .ref aHe, .int bxs, .int wdt, .int hgh, .ref aCa, .ref aTo, .int byn, .ref aTu, .int pgm, .int tpm, .int stn, .int lnx, .int lny])), (aTu, .inl (cZ, 117, .inl trn))] sz) := by
  refine Met.ofW (cc := b_Mod_read) (maxL := 8) (ret := (some .int)) (by decide) rfl ?_
  intro p e s m args below meth c s₁ B hml hv
  obtain ⟨rfl, hsz, hP, hK, hD0⟩ := hv
  have hx := B.exec
  have hb := B.bytes
  have hr := B.returns
  have hts := atoms_spec (ws := w_Mod_read) B.pre
  have hown : s.vm.findClass R_Mod = some m.cls := findClass_of_methodNamed B.named
  have hlocks := B.notSynchronized
  have hw_Mod : ∀ w ∈ w_Mod, w ∈ w_Mod_read := by decide +kernel
  subst hsz
  have hD := hD0.self (sz := s.heap.size)
  generalize hAe : va_A [(oM, .inr (5, [.int thr, .ref aTx, .int siz, .ref aBg, .ref aEn, .ref aLe, .ref aMa, .ref aFi, .int lnm, .int rsm, .ref aHe, .int bxs, .int wdt, .int hgh, .ref aCa, .ref aTo, .int byn, .ref aTu, .int pgm, .int tpm, .int stn, .int lnx, .int lny])), (aTu, .inl (cZ, 117, .inl trn))] s.heap.size = A at hD ⊢
  have hA : ∀ q : Nat, s.heap.size ≤ q → A q := fun q h => by rw [← hAe]; exact Or.inr h
  have hS : va_S A s.heap s.heap [] := va_S.rf
  have hP : va_P (dC, dI) classes [(oM, .inr (5, [.int thr, .ref aTx, .int siz, .ref aBg, .ref aEn, .ref aLe, .ref aMa, .ref aFi, .int lnm, .int rsm, .ref aHe, .int bxs, .int wdt, .int hgh, .ref aCa, .ref aTo, .int byn, .ref aTu, .int pgm, .int tpm, .int stn, .int lnx, .int lny])), (aTu, .inl (cZ, 117, .inl trn))] s.heap := hP
  have hl := lv_entry ([.ref oM]) (n := 8) (Nat.le_of_ble_eq_true rfl)
  rw [lg_entry_eq]
  generalize (lg_sl ([.ref oM]) ++ List.replicate (8 - (lg_sl ([.ref oM])).length) Slot.unset).toArray = ls at hl ⊢
  have hl : lv_has ls 8 [(0, .ref oM)] := hl
  refine lv_aload_n hx hb d_Mod_read_0 rfl (lv_at hl 0 rfl) ?_
  refine lv_iconst (v := 0) hx hb d_Mod_read_1 (by decide) ?_
  refine va_put (D := (dC, dI)) (ci := 5) (v := .int 0) (ty := .int) (C := R_Mod) (T := F_Mod) (N := 23) hx hb hts hw_Mod t_Mod t_Mod_ok n_Mod hown hK hP hD hS 0 rfl rfl 0 (by decide) (hts (.fieldLink R_Mod 48 "PageFormsModel" "thrown" "I") (by decide +kernel)) (fun _ h9 => h9) rfl (by decide +kernel) rfl rfl (Nat.le_of_ble_eq_true rfl) d_Mod_read_2 (fun H locs hP hD hS => ?_)
  have hP : va_P (dC, dI) classes [(oM, .inr (5, [.int 0, .ref aTx, .int siz, .ref aBg, .ref aEn, .ref aLe, .ref aMa, .ref aFi, .int lnm, .int rsm, .ref aHe, .int bxs, .int wdt, .int hgh, .ref aCa, .ref aTo, .int byn, .ref aTu, .int pgm, .int tpm, .int stn, .int lnx, .int lny])), (aTu, .inl (cZ, 117, .inl trn))] H := hP
  have hD : va_D A [(oM, .inr (5, [.int 0, .ref aTx, .int siz, .ref aBg, .ref aEn, .ref aLe, .ref aMa, .ref aFi, .int lnm, .int rsm, .ref aHe, .int bxs, .int wdt, .int hgh, .ref aCa, .ref aTo, .int byn, .ref aTu, .int pgm, .int tpm, .int stn, .int lnx, .int lny])), (aTu, .inl (cZ, 117, .inl trn))] := hD
  refine lv_aload_n hx hb d_Mod_read_5 rfl (lv_at hl 0 rfl) ?_
  refine va_get (D := (dC, dI)) (ci := 5) (v := .int byn) (C := R_Mod) (T := F_Mod) (N := 23) hx hb hts hw_Mod hown hK hP 0 rfl rfl 16 (by decide) (hts (.fieldLink R_Mod 113 "PageFormsModel" "bytes" "I") (by decide +kernel)) (fun _ h9 => h9) rfl d_Mod_read_6 ?_
  refine xi_if_ne (tgt := 14) hx hb hc d_Mod_read_9 (by decide) (fun c9 => ?_) (fun c9 => ?_)
  · refine lv_iconst (v := 0) hx hb d_Mod_read_14 (by decide) ?_
    refine lv_istore_n (lv' := [(1, .int 0), (0, .ref oM)]) hx hb d_Mod_read_15 rfl hl (by decide) rfl (fun ls hl => ?_)
    refine lv_iconst (v := 0) hx hb d_Mod_read_16 (by decide) ?_
    refine lv_istore_n (lv' := [(2, .int 0), (1, .int 0), (0, .ref oM)]) hx hb d_Mod_read_17 rfl hl (by decide) rfl (fun ls hl => ?_)
    refine lv_iconst (v := 0) hx hb d_Mod_read_18 (by decide) ?_
    refine lv_istore_n (lv' := [(3, .int 0), (2, .int 0), (1, .int 0), (0, .ref oM)]) hx hb d_Mod_read_19 rfl hl (by decide) rfl (fun ls hl => ?_)
    have loop20 : ∀ (n20 : Nat) (k : Nat) (x1 : Int32) (x2 : Int32) (x3 : Int32), (nC + 1 - k < n20) → (k ≤ nC + 1) → (x3.toInt = (k : Int)) → (x1.toInt = (cr_cnt (cm_rho trn) k : Int)) → (x2.toInt = (cr_lst (cm_rho trn) k : Int)) → ∀ (H : Heap) (locs : List Loc), va_P (dC, dI) classes [(oM, .inr (5, [.int 0, .ref aTx, .int siz, .ref aBg, .ref aEn, .ref aLe, .ref aMa, .ref aFi, .int lnm, .int rsm, .ref aHe, .int bxs, .int wdt, .int hgh, .ref aCa, .ref aTo, .int byn, .ref aTu, .int pgm, .int tpm, .int stn, .int lnx, .int lny])), (aTu, .inl (cZ, 117, .inl trn))] H → va_D A [(oM, .inr (5, [.int 0, .ref aTx, .int siz, .ref aBg, .ref aEn, .ref aLe, .ref aMa, .ref aFi, .int lnm, .int rsm, .ref aHe, .int bxs, .int wdt, .int hgh, .ref aCa, .ref aTo, .int byn, .ref aTu, .int pgm, .int tpm, .int stn, .int lnx, .int lny])), (aTu, .inl (cZ, 117, .inl trn))] → va_S A s.heap H locs → ∀ (ls : Array Slot), lv_has ls 8 [(0, .ref oM), (1, .int x1), (2, .int x2), (3, .int x3)] → W p l e (headSpec w_Mod_read ({ frames := 0, cells := 0, slots := 0, locals := 0 })).room s m ([.ref oM] : List Value).toArray below meth c H locs 0 0 (MQ below (va_Qi (fun (r : Int32) (u : Int32 × (Nat → Int32)) => cm_read nC trn r u.2) (fun (u : Int32 × (Nat → Int32)) (t : State) => va_P (dC, dI) classes [(oM, .inr (5, [.int u.1, .ref aTx, .int siz, .ref aBg, .ref aEn, .ref aLe, .ref aMa, .ref aFi, .int lnm, .int rsm, .ref aHe, .int bxs, .int wdt, .int hgh, .ref aCa, .ref aTo, .int byn, .ref aTu, .int pgm, .int tpm, .int stn, .int lnx, .int lny])), (aTu, .inl (cZ, 117, .inl u.2))] t.heap ∧ va_K (dC, dI) classes [(cI, .int), (cZ, .boolean)] t ∧ va_D (A) [(oM, .inr (5, [.int u.1, .ref aTx, .int siz, .ref aBg, .ref aEn, .ref aLe, .ref aMa, .ref aFi, .int lnm, .int rsm, .ref aHe, .int bxs, .int wdt, .int hgh, .ref aCa, .ref aTo, .int byn, .ref aTu, .int pgm, .int tpm, .int stn, .int lnx, .int lny])), (aTu, .inl (cZ, 117, .inl u.2))]) (A)) ([.ref oM] : List Value).toArray s 0 0 A) (F0 m 20 ls []) := by
      intro n20
      induction n20 with
      | zero => intro k x1 x2 x3 hmz20; omega
      | succ n20 ih20 =>
        intro k x1 x2 x3 hmz20 hk e3 e1 e2 H locs hP hD hS ls hl
        have hrl := cr_cnt_le (cm_rho trn) k
        refine lv_iload_n hx hb d_Mod_read_20 rfl (lv_at hl 3 rfl) ?_
        refine lv_aload_n hx hb d_Mod_read_21 rfl (lv_at hl 0 rfl) ?_
        refine va_get (D := (dC, dI)) (ci := 5) (v := .int byn) (C := R_Mod) (T := F_Mod) (N := 23) hx hb hts hw_Mod hown hK hP 0 rfl rfl 16 (by decide) (hts (.fieldLink R_Mod 113 "PageFormsModel" "bytes" "I") (by decide +kernel)) (fun _ h9 => h9) rfl d_Mod_read_22 ?_
        refine xi_icmp_gt (tgt := 84) hx hb e3 hc d_Mod_read_25 (by decide) (fun c25 => ?_) (fun c25 => ?_)
        · refine lv_iconst (v := 0) hx hb d_Mod_read_84 (by decide) ?_
          refine lv_istore_n (lv' := [(3, .int 0), (0, .ref oM), (1, .int x1), (2, .int x2)]) hx hb d_Mod_read_85 rfl hl (by decide) rfl (fun ls hl => ?_)
          refine lv_iconst (v := 0) hx hb d_Mod_read_86 (by decide) ?_
          refine lv_istore (lv' := [(4, .int 0), (3, .int 0), (0, .ref oM), (1, .int x1), (2, .int x2)]) hx hb d_Mod_read_87 hl (by decide) rfl (fun ls hl => ?_)
          refine lv_iconst (v := 0) hx hb d_Mod_read_89 (by decide) ?_
          refine lv_istore (lv' := [(5, .int 0), (4, .int 0), (3, .int 0), (0, .ref oM), (1, .int x1), (2, .int x2)]) hx hb d_Mod_read_90 hl (by decide) rfl (fun ls hl => ?_)
          have hkN : k = nC + 1 := by omega
          rw [hkN] at e1 e2
          have loop92 : ∀ (n92 : Nat) (k2 : Nat) (y3 : Int32) (y4 : Int32) (y5 : Int32), (9 - k2 < n92) → (k2 ≤ 9) → (y5.toInt = (k2 : Int)) → (y3.toInt = (cr_cnt (cm_kap trn nC) k2 : Int)) → (y4.toInt = (cr_lst (cm_kap trn nC) k2 : Int)) → ∀ (H : Heap) (locs : List Loc), va_P (dC, dI) classes [(oM, .inr (5, [.int 0, .ref aTx, .int siz, .ref aBg, .ref aEn, .ref aLe, .ref aMa, .ref aFi, .int lnm, .int rsm, .ref aHe, .int bxs, .int wdt, .int hgh, .ref aCa, .ref aTo, .int byn, .ref aTu, .int pgm, .int tpm, .int stn, .int lnx, .int lny])), (aTu, .inl (cZ, 117, .inl trn))] H → va_D A [(oM, .inr (5, [.int 0, .ref aTx, .int siz, .ref aBg, .ref aEn, .ref aLe, .ref aMa, .ref aFi, .int lnm, .int rsm, .ref aHe, .int bxs, .int wdt, .int hgh, .ref aCa, .ref aTo, .int byn, .ref aTu, .int pgm, .int tpm, .int stn, .int lnx, .int lny])), (aTu, .inl (cZ, 117, .inl trn))] → va_S A s.heap H locs → ∀ (ls : Array Slot), lv_has ls 8 [(0, .ref oM), (1, .int x1), (2, .int x2), (3, .int y3), (4, .int y4), (5, .int y5)] → W p l e (headSpec w_Mod_read ({ frames := 0, cells := 0, slots := 0, locals := 0 })).room s m ([.ref oM] : List Value).toArray below meth c H locs 0 0 (MQ below (va_Qi (fun (r : Int32) (u : Int32 × (Nat → Int32)) => cm_read nC trn r u.2) (fun (u : Int32 × (Nat → Int32)) (t : State) => va_P (dC, dI) classes [(oM, .inr (5, [.int u.1, .ref aTx, .int siz, .ref aBg, .ref aEn, .ref aLe, .ref aMa, .ref aFi, .int lnm, .int rsm, .ref aHe, .int bxs, .int wdt, .int hgh, .ref aCa, .ref aTo, .int byn, .ref aTu, .int pgm, .int tpm, .int stn, .int lnx, .int lny])), (aTu, .inl (cZ, 117, .inl u.2))] t.heap ∧ va_K (dC, dI) classes [(cI, .int), (cZ, .boolean)] t ∧ va_D (A) [(oM, .inr (5, [.int u.1, .ref aTx, .int siz, .ref aBg, .ref aEn, .ref aLe, .ref aMa, .ref aFi, .int lnm, .int rsm, .ref aHe, .int bxs, .int wdt, .int hgh, .ref aCa, .ref aTo, .int byn, .ref aTu, .int pgm, .int tpm, .int stn, .int lnx, .int lny])), (aTu, .inl (cZ, 117, .inl u.2))]) (A)) ([.ref oM] : List Value).toArray s 0 0 A) (F0 m 92 ls []) := by
            intro n92
            induction n92 with
            | zero => intro k2 y3 y4 y5 hmz92; omega
            | succ n92 ih92 =>
              intro k2 y3 y4 y5 hmz92 hk2 f5 f3 f4 H locs hP hD hS ls hl
              have hkl := cr_cnt_le (cm_kap trn nC) k2
              refine lv_iload hx hb d_Mod_read_92 (lv_at hl 5 rfl) ?_
              refine lv_bipush (v := 9) hx hb d_Mod_read_94 (by decide) ?_
              refine xi_icmp_ge (tgt := 160) hx hb f5 (show (9 : Int32).toInt = 9 by decide) d_Mod_read_96 (by decide) (fun c96 => ?_) (fun c96 => ?_)
              · have hk9 : k2 = 9 := by omega
                rw [hk9] at f3 f4
                have hll := cr_lst_lt (cm_rho trn) (nC + 1) (by omega)
                have hll2 := cr_lst_lt (cm_kap trn nC) 9 (by omega)
                refine lv_iload_n hx hb d_Mod_read_160 rfl (lv_at hl 1 rfl) ?_
                refine xi_if_ne (tgt := 170) hx hb e1 d_Mod_read_161 (by decide) (fun c161 => ?_) (fun c161 => ?_)
                · refine lv_iload_n hx hb d_Mod_read_170 rfl (lv_at hl 1 rfl) ?_
                  refine lv_iconst (v := 1) hx hb d_Mod_read_171 (by decide) ?_
                  refine xi_icmp_ne (tgt := 180) hx hb e1 (show (1 : Int32).toInt = 1 by decide) d_Mod_read_172 (by decide) (fun c172 => ?_) (fun c172 => ?_)
                  · refine lv_iconst (v := (-1)) hx hb d_Mod_read_180 (by decide) ?_
                    exact W.iret (v := (-1)) hx hb hr (fun t ht hW => ⟨⟨(-1), (0, trn), rfl, (show cm_read nC trn ((-1) : Int32) trn from (Or.inr ⟨by omega, Or.inr (Or.inl ⟨by omega, by omega, by decide, rfl⟩)⟩)), by rw [ht]; exact hP, va_K.moved hW.alike hK, hD⟩, hS.F ht⟩) hS.2.2 d_Mod_read_181
                  · refine lv_iload_n hx hb d_Mod_read_175 rfl (lv_at hl 3 rfl) ?_
                    refine lv_iconst (v := 1) hx hb d_Mod_read_176 (by decide) ?_
                    refine xi_icmp_eq (tgt := 182) hx hb f3 (show (1 : Int32).toInt = 1 by decide) d_Mod_read_177 (by decide) (fun c177 => ?_) (fun c177 => ?_)
                    · obtain ⟨ri, hri⟩ : ∃ ri : Nat, ri = cr_lst (cm_rho trn) (nC + 1) := ⟨_, rfl⟩
                      obtain ⟨ci, hci⟩ : ∃ ci : Nat, ci = cr_lst (cm_kap trn nC) 9 := ⟨_, rfl⟩
                      have e2r : x2.toInt = (ri : Int) := by rw [hri]; exact e2
                      have f4r : y4.toInt = (ci : Int) := by rw [hci]; exact f4
                      refine lv_aload_n hx hb d_Mod_read_182 rfl (lv_at hl 0 rfl) ?_
                      refine va_get (D := (dC, dI)) (ci := 5) (v := .ref aTu) (C := R_Mod) (T := F_Mod) (N := 23) hx hb hts hw_Mod hown hK hP 0 rfl rfl 17 (by decide) (hts (.fieldLink R_Mod 44 "PageFormsModel" "turned" "[Z") (by decide +kernel)) (fun _ h9 => h9) rfl d_Mod_read_183 ?_
                      refine lv_bipush (v := 9) hx hb d_Mod_read_186 (by decide) ?_
                      refine lv_iload_n hx hb d_Mod_read_188 rfl (lv_at hl 2 rfl) ?_
                      refine lv_imul hx hb d_Mod_read_189 ?_
                      have a189 : (9 * x2).toInt = ((9 * ri : Nat) : Int) := xi_mulN (show (9 : Int32).toInt = 9 by decide) e2r (by omega)
                      refine lv_iload hx hb d_Mod_read_190 (lv_at hl 4 rfl) ?_
                      refine lv_iadd hx hb d_Mod_read_192 ?_
                      have a192 : ((9 * x2) + y4).toInt = (((9 * ri : Nat) : Int) + (ci : Int)) := xi_add a189 f4r (by omega) (by omega)
                      refine lv_aload_n hx hb d_Mod_read_193 rfl (lv_at hl 0 rfl) ?_
                      refine va_get (D := (dC, dI)) (ci := 5) (v := .ref aTu) (C := R_Mod) (T := F_Mod) (N := 23) hx hb hts hw_Mod hown hK hP 0 rfl rfl 17 (by decide) (hts (.fieldLink R_Mod 44 "PageFormsModel" "turned" "[Z") (by decide +kernel)) (fun _ h9 => h9) rfl d_Mod_read_194 ?_
                      refine lv_bipush (v := 9) hx hb d_Mod_read_197 (by decide) ?_
                      refine lv_iload_n hx hb d_Mod_read_199 rfl (lv_at hl 2 rfl) ?_
                      refine lv_imul hx hb d_Mod_read_200 ?_
                      refine lv_iload hx hb d_Mod_read_201 (lv_at hl 4 rfl) ?_
                      refine lv_iadd hx hb d_Mod_read_203 ?_
                      refine xa_zald hx hb hK hP 1 1 rfl rfl a192 (9 * ri + ci) (by omega) (by omega) d_Mod_read_204 ?_
                      have ht01 := h01 (9 * ri + ci) (by omega)
                      refine xi_if_ne (tgt := 212) hx hb (rfl) d_Mod_read_205 (by decide) (fun c205 => ?_) (fun c205 => ?_)
                      · refine lv_iconst (v := 0) hx hb d_Mod_read_212 (by decide) ?_
                        refine xa_zast hx hb hK hP hD hS 1 1 rfl rfl a192 (9 * ri + ci) (by omega) (by omega) rfl d_Mod_read_213 (fun H locs hP hD hS => ?_)
                        have hP : va_P (dC, dI) classes [(oM, .inr (5, [.int 0, .ref aTx, .int siz, .ref aBg, .ref aEn, .ref aLe, .ref aMa, .ref aFi, .int lnm, .int rsm, .ref aHe, .int bxs, .int wdt, .int hgh, .ref aCa, .ref aTo, .int byn, .ref aTu, .int pgm, .int tpm, .int stn, .int lnx, .int lny])), (aTu, .inl (cZ, 117, .inl (upd trn (9 * ri + ci) 0)))] H := hP
                        have hD : va_D A [(oM, .inr (5, [.int 0, .ref aTx, .int siz, .ref aBg, .ref aEn, .ref aLe, .ref aMa, .ref aFi, .int lnm, .int rsm, .ref aHe, .int bxs, .int wdt, .int hgh, .ref aCa, .ref aTo, .int byn, .ref aTu, .int pgm, .int tpm, .int stn, .int lnx, .int lny])), (aTu, .inl (cZ, 117, .inl (upd trn (9 * ri + ci) 0)))] := hD
                        refine lv_iconst (v := 1) hx hb d_Mod_read_214 (by decide) ?_
                        exact W.iret (v := 1) hx hb hr (fun t ht hW => ⟨⟨1, (0, (upd trn (9 * ri + ci) 0)), rfl, (show cm_read nC trn (1 : Int32) (upd trn (9 * ri + ci) 0) from (Or.inr ⟨by omega, Or.inr (Or.inr ⟨by omega, by omega, by decide, 0, by rw [hri, hci], by rw [← hri, ← hci]; rw [show (0 : Int32).toInt = 0 by decide]; omega⟩)⟩)), by rw [ht]; exact hP, va_K.moved hW.alike hK, hD⟩, hS.F ht⟩) hS.2.2 d_Mod_read_215
                      · refine lv_iconst (v := 1) hx hb d_Mod_read_208 (by decide) ?_
                        refine lv_goto (tgt := 213) hx hb d_Mod_read_209 (by decide) ?_
                        refine xa_zast hx hb hK hP hD hS 1 1 rfl rfl a192 (9 * ri + ci) (by omega) (by omega) rfl d_Mod_read_213 (fun H locs hP hD hS => ?_)
                        have hP : va_P (dC, dI) classes [(oM, .inr (5, [.int 0, .ref aTx, .int siz, .ref aBg, .ref aEn, .ref aLe, .ref aMa, .ref aFi, .int lnm, .int rsm, .ref aHe, .int bxs, .int wdt, .int hgh, .ref aCa, .ref aTo, .int byn, .ref aTu, .int pgm, .int tpm, .int stn, .int lnx, .int lny])), (aTu, .inl (cZ, 117, .inl (upd trn (9 * ri + ci) 1)))] H := hP
                        have hD : va_D A [(oM, .inr (5, [.int 0, .ref aTx, .int siz, .ref aBg, .ref aEn, .ref aLe, .ref aMa, .ref aFi, .int lnm, .int rsm, .ref aHe, .int bxs, .int wdt, .int hgh, .ref aCa, .ref aTo, .int byn, .ref aTu, .int pgm, .int tpm, .int stn, .int lnx, .int lny])), (aTu, .inl (cZ, 117, .inl (upd trn (9 * ri + ci) 1)))] := hD
                        refine lv_iconst (v := 1) hx hb d_Mod_read_214 (by decide) ?_
                        exact W.iret (v := 1) hx hb hr (fun t ht hW => ⟨⟨1, (0, (upd trn (9 * ri + ci) 1)), rfl, (show cm_read nC trn (1 : Int32) (upd trn (9 * ri + ci) 1) from (Or.inr ⟨by omega, Or.inr (Or.inr ⟨by omega, by omega, by decide, 1, by rw [hri, hci], by rw [← hri, ← hci]; rw [show (1 : Int32).toInt = 1 by decide]; omega⟩)⟩)), by rw [ht]; exact hP, va_K.moved hW.alike hK, hD⟩, hS.F ht⟩) hS.2.2 d_Mod_read_215
                    · refine lv_iconst (v := (-1)) hx hb d_Mod_read_180 (by decide) ?_
                      exact W.iret (v := (-1)) hx hb hr (fun t ht hW => ⟨⟨(-1), (0, trn), rfl, (show cm_read nC trn ((-1) : Int32) trn from (Or.inr ⟨by omega, Or.inr (Or.inl ⟨by omega, by omega, by decide, rfl⟩)⟩)), by rw [ht]; exact hP, va_K.moved hW.alike hK, hD⟩, hS.F ht⟩) hS.2.2 d_Mod_read_181
                · refine lv_iload_n hx hb d_Mod_read_164 rfl (lv_at hl 3 rfl) ?_
                  refine xi_if_ne (tgt := 170) hx hb f3 d_Mod_read_165 (by decide) (fun c165 => ?_) (fun c165 => ?_)
                  · refine lv_iload_n hx hb d_Mod_read_170 rfl (lv_at hl 1 rfl) ?_
                    refine lv_iconst (v := 1) hx hb d_Mod_read_171 (by decide) ?_
                    refine xi_icmp_ne (tgt := 180) hx hb e1 (show (1 : Int32).toInt = 1 by decide) d_Mod_read_172 (by decide) (fun c172 => ?_) (fun c172 => ?_)
                    · refine lv_iconst (v := (-1)) hx hb d_Mod_read_180 (by decide) ?_
                      exact W.iret (v := (-1)) hx hb hr (fun t ht hW => ⟨⟨(-1), (0, trn), rfl, (show cm_read nC trn ((-1) : Int32) trn from (Or.inr ⟨by omega, Or.inr (Or.inl ⟨by omega, by omega, by decide, rfl⟩)⟩)), by rw [ht]; exact hP, va_K.moved hW.alike hK, hD⟩, hS.F ht⟩) hS.2.2 d_Mod_read_181
                    · refine lv_iload_n hx hb d_Mod_read_175 rfl (lv_at hl 3 rfl) ?_
                      refine lv_iconst (v := 1) hx hb d_Mod_read_176 (by decide) ?_
                      refine xi_icmp_eq (tgt := 182) hx hb f3 (show (1 : Int32).toInt = 1 by decide) d_Mod_read_177 (by decide) (fun c177 => ?_) (fun c177 => ?_)
                      · obtain ⟨ri, hri⟩ : ∃ ri : Nat, ri = cr_lst (cm_rho trn) (nC + 1) := ⟨_, rfl⟩
                        obtain ⟨ci, hci⟩ : ∃ ci : Nat, ci = cr_lst (cm_kap trn nC) 9 := ⟨_, rfl⟩
                        have e2r : x2.toInt = (ri : Int) := by rw [hri]; exact e2
                        have f4r : y4.toInt = (ci : Int) := by rw [hci]; exact f4
                        refine lv_aload_n hx hb d_Mod_read_182 rfl (lv_at hl 0 rfl) ?_
                        refine va_get (D := (dC, dI)) (ci := 5) (v := .ref aTu) (C := R_Mod) (T := F_Mod) (N := 23) hx hb hts hw_Mod hown hK hP 0 rfl rfl 17 (by decide) (hts (.fieldLink R_Mod 44 "PageFormsModel" "turned" "[Z") (by decide +kernel)) (fun _ h9 => h9) rfl d_Mod_read_183 ?_
                        refine lv_bipush (v := 9) hx hb d_Mod_read_186 (by decide) ?_
                        refine lv_iload_n hx hb d_Mod_read_188 rfl (lv_at hl 2 rfl) ?_
                        refine lv_imul hx hb d_Mod_read_189 ?_
                        have a189 : (9 * x2).toInt = ((9 * ri : Nat) : Int) := xi_mulN (show (9 : Int32).toInt = 9 by decide) e2r (by omega)
                        refine lv_iload hx hb d_Mod_read_190 (lv_at hl 4 rfl) ?_
                        refine lv_iadd hx hb d_Mod_read_192 ?_
                        have a192 : ((9 * x2) + y4).toInt = (((9 * ri : Nat) : Int) + (ci : Int)) := xi_add a189 f4r (by omega) (by omega)
                        refine lv_aload_n hx hb d_Mod_read_193 rfl (lv_at hl 0 rfl) ?_
                        refine va_get (D := (dC, dI)) (ci := 5) (v := .ref aTu) (C := R_Mod) (T := F_Mod) (N := 23) hx hb hts hw_Mod hown hK hP 0 rfl rfl 17 (by decide) (hts (.fieldLink R_Mod 44 "PageFormsModel" "turned" "[Z") (by decide +kernel)) (fun _ h9 => h9) rfl d_Mod_read_194 ?_
                        refine lv_bipush (v := 9) hx hb d_Mod_read_197 (by decide) ?_
                        refine lv_iload_n hx hb d_Mod_read_199 rfl (lv_at hl 2 rfl) ?_
                        refine lv_imul hx hb d_Mod_read_200 ?_
                        refine lv_iload hx hb d_Mod_read_201 (lv_at hl 4 rfl) ?_
                        refine lv_iadd hx hb d_Mod_read_203 ?_
                        refine xa_zald hx hb hK hP 1 1 rfl rfl a192 (9 * ri + ci) (by omega) (by omega) d_Mod_read_204 ?_
                        have ht01 := h01 (9 * ri + ci) (by omega)
                        refine xi_if_ne (tgt := 212) hx hb (rfl) d_Mod_read_205 (by decide) (fun c205 => ?_) (fun c205 => ?_)
                        · refine lv_iconst (v := 0) hx hb d_Mod_read_212 (by decide) ?_
                          refine xa_zast hx hb hK hP hD hS 1 1 rfl rfl a192 (9 * ri + ci) (by omega) (by omega) rfl d_Mod_read_213 (fun H locs hP hD hS => ?_)
                          have hP : va_P (dC, dI) classes [(oM, .inr (5, [.int 0, .ref aTx, .int siz, .ref aBg, .ref aEn, .ref aLe, .ref aMa, .ref aFi, .int lnm, .int rsm, .ref aHe, .int bxs, .int wdt, .int hgh, .ref aCa, .ref aTo, .int byn, .ref aTu, .int pgm, .int tpm, .int stn, .int lnx, .int lny])), (aTu, .inl (cZ, 117, .inl (upd trn (9 * ri + ci) 0)))] H := hP
                          have hD : va_D A [(oM, .inr (5, [.int 0, .ref aTx, .int siz, .ref aBg, .ref aEn, .ref aLe, .ref aMa, .ref aFi, .int lnm, .int rsm, .ref aHe, .int bxs, .int wdt, .int hgh, .ref aCa, .ref aTo, .int byn, .ref aTu, .int pgm, .int tpm, .int stn, .int lnx, .int lny])), (aTu, .inl (cZ, 117, .inl (upd trn (9 * ri + ci) 0)))] := hD
                          refine lv_iconst (v := 1) hx hb d_Mod_read_214 (by decide) ?_
                          exact W.iret (v := 1) hx hb hr (fun t ht hW => ⟨⟨1, (0, (upd trn (9 * ri + ci) 0)), rfl, (show cm_read nC trn (1 : Int32) (upd trn (9 * ri + ci) 0) from (Or.inr ⟨by omega, Or.inr (Or.inr ⟨by omega, by omega, by decide, 0, by rw [hri, hci], by rw [← hri, ← hci]; rw [show (0 : Int32).toInt = 0 by decide]; omega⟩)⟩)), by rw [ht]; exact hP, va_K.moved hW.alike hK, hD⟩, hS.F ht⟩) hS.2.2 d_Mod_read_215
                        · refine lv_iconst (v := 1) hx hb d_Mod_read_208 (by decide) ?_
                          refine lv_goto (tgt := 213) hx hb d_Mod_read_209 (by decide) ?_
                          refine xa_zast hx hb hK hP hD hS 1 1 rfl rfl a192 (9 * ri + ci) (by omega) (by omega) rfl d_Mod_read_213 (fun H locs hP hD hS => ?_)
                          have hP : va_P (dC, dI) classes [(oM, .inr (5, [.int 0, .ref aTx, .int siz, .ref aBg, .ref aEn, .ref aLe, .ref aMa, .ref aFi, .int lnm, .int rsm, .ref aHe, .int bxs, .int wdt, .int hgh, .ref aCa, .ref aTo, .int byn, .ref aTu, .int pgm, .int tpm, .int stn, .int lnx, .int lny])), (aTu, .inl (cZ, 117, .inl (upd trn (9 * ri + ci) 1)))] H := hP
                          have hD : va_D A [(oM, .inr (5, [.int 0, .ref aTx, .int siz, .ref aBg, .ref aEn, .ref aLe, .ref aMa, .ref aFi, .int lnm, .int rsm, .ref aHe, .int bxs, .int wdt, .int hgh, .ref aCa, .ref aTo, .int byn, .ref aTu, .int pgm, .int tpm, .int stn, .int lnx, .int lny])), (aTu, .inl (cZ, 117, .inl (upd trn (9 * ri + ci) 1)))] := hD
                          refine lv_iconst (v := 1) hx hb d_Mod_read_214 (by decide) ?_
                          exact W.iret (v := 1) hx hb hr (fun t ht hW => ⟨⟨1, (0, (upd trn (9 * ri + ci) 1)), rfl, (show cm_read nC trn (1 : Int32) (upd trn (9 * ri + ci) 1) from (Or.inr ⟨by omega, Or.inr (Or.inr ⟨by omega, by omega, by decide, 1, by rw [hri, hci], by rw [← hri, ← hci]; rw [show (1 : Int32).toInt = 1 by decide]; omega⟩)⟩)), by rw [ht]; exact hP, va_K.moved hW.alike hK, hD⟩, hS.F ht⟩) hS.2.2 d_Mod_read_215
                      · refine lv_iconst (v := (-1)) hx hb d_Mod_read_180 (by decide) ?_
                        exact W.iret (v := (-1)) hx hb hr (fun t ht hW => ⟨⟨(-1), (0, trn), rfl, (show cm_read nC trn ((-1) : Int32) trn from (Or.inr ⟨by omega, Or.inr (Or.inl ⟨by omega, by omega, by decide, rfl⟩)⟩)), by rw [ht]; exact hP, va_K.moved hW.alike hK, hD⟩, hS.F ht⟩) hS.2.2 d_Mod_read_181
                  · refine lv_iconst (v := 0) hx hb d_Mod_read_168 (by decide) ?_
                    exact W.iret (v := 0) hx hb hr (fun t ht hW => ⟨⟨0, (0, trn), rfl, (show cm_read nC trn (0 : Int32) trn from (Or.inr ⟨by omega, Or.inl ⟨by omega, by omega, by decide, rfl⟩⟩)), by rw [ht]; exact hP, va_K.moved hW.alike hK, hD⟩, hS.F ht⟩) hS.2.2 d_Mod_read_169
              · refine lv_iconst (v := 0) hx hb d_Mod_read_99 (by decide) ?_
                refine lv_istore (lv' := [(6, .int 0), (0, .ref oM), (1, .int x1), (2, .int x2), (3, .int y3), (4, .int y4), (5, .int y5)]) hx hb d_Mod_read_100 hl (by decide) rfl (fun ls hl => ?_)
                refine lv_iconst (v := 0) hx hb d_Mod_read_102 (by decide) ?_
                refine lv_istore (lv' := [(7, .int 0), (6, .int 0), (0, .ref oM), (1, .int x1), (2, .int x2), (3, .int y3), (4, .int y4), (5, .int y5)]) hx hb d_Mod_read_103 hl (by decide) rfl (fun ls hl => ?_)
                have loop105 : ∀ (n105 : Nat) (j2 : Nat) (y6 : Int32) (y7 : Int32), (nC + 1 - j2 < n105) → (j2 ≤ nC + 1) → (y7.toInt = (j2 : Int)) → (y6.toInt = (cr_cnt (fun y => cm_tr trn (9 * y + k2)) j2 : Int)) → ∀ (H : Heap) (locs : List Loc), va_P (dC, dI) classes [(oM, .inr (5, [.int 0, .ref aTx, .int siz, .ref aBg, .ref aEn, .ref aLe, .ref aMa, .ref aFi, .int lnm, .int rsm, .ref aHe, .int bxs, .int wdt, .int hgh, .ref aCa, .ref aTo, .int byn, .ref aTu, .int pgm, .int tpm, .int stn, .int lnx, .int lny])), (aTu, .inl (cZ, 117, .inl trn))] H → va_D A [(oM, .inr (5, [.int 0, .ref aTx, .int siz, .ref aBg, .ref aEn, .ref aLe, .ref aMa, .ref aFi, .int lnm, .int rsm, .ref aHe, .int bxs, .int wdt, .int hgh, .ref aCa, .ref aTo, .int byn, .ref aTu, .int pgm, .int tpm, .int stn, .int lnx, .int lny])), (aTu, .inl (cZ, 117, .inl trn))] → va_S A s.heap H locs → ∀ (ls : Array Slot), lv_has ls 8 [(0, .ref oM), (1, .int x1), (2, .int x2), (3, .int y3), (4, .int y4), (5, .int y5), (6, .int y6), (7, .int y7)] → W p l e (headSpec w_Mod_read ({ frames := 0, cells := 0, slots := 0, locals := 0 })).room s m ([.ref oM] : List Value).toArray below meth c H locs 0 0 (MQ below (va_Qi (fun (r : Int32) (u : Int32 × (Nat → Int32)) => cm_read nC trn r u.2) (fun (u : Int32 × (Nat → Int32)) (t : State) => va_P (dC, dI) classes [(oM, .inr (5, [.int u.1, .ref aTx, .int siz, .ref aBg, .ref aEn, .ref aLe, .ref aMa, .ref aFi, .int lnm, .int rsm, .ref aHe, .int bxs, .int wdt, .int hgh, .ref aCa, .ref aTo, .int byn, .ref aTu, .int pgm, .int tpm, .int stn, .int lnx, .int lny])), (aTu, .inl (cZ, 117, .inl u.2))] t.heap ∧ va_K (dC, dI) classes [(cI, .int), (cZ, .boolean)] t ∧ va_D (A) [(oM, .inr (5, [.int u.1, .ref aTx, .int siz, .ref aBg, .ref aEn, .ref aLe, .ref aMa, .ref aFi, .int lnm, .int rsm, .ref aHe, .int bxs, .int wdt, .int hgh, .ref aCa, .ref aTo, .int byn, .ref aTu, .int pgm, .int tpm, .int stn, .int lnx, .int lny])), (aTu, .inl (cZ, 117, .inl u.2))]) (A)) ([.ref oM] : List Value).toArray s 0 0 A) (F0 m 105 ls []) := by
                  intro n105
                  induction n105 with
                  | zero => intro j2 y6 y7 hmz105; omega
                  | succ n105 ih105 =>
                    intro j2 y6 y7 hmz105 hj2 f7 f6 H locs hP hD hS ls hl
                    have hkl2 := cr_cnt_le (fun y => cm_tr trn (9 * y + k2)) j2
                    refine lv_iload hx hb d_Mod_read_105 (lv_at hl 7 rfl) ?_
                    refine lv_aload_n hx hb d_Mod_read_107 rfl (lv_at hl 0 rfl) ?_
                    refine va_get (D := (dC, dI)) (ci := 5) (v := .int byn) (C := R_Mod) (T := F_Mod) (N := 23) hx hb hts hw_Mod hown hK hP 0 rfl rfl 16 (by decide) (hts (.fieldLink R_Mod 113 "PageFormsModel" "bytes" "I") (by decide +kernel)) (fun _ h9 => h9) rfl d_Mod_read_108 ?_
                    refine xi_icmp_gt (tgt := 139) hx hb f7 hc d_Mod_read_111 (by decide) (fun c111 => ?_) (fun c111 => ?_)
                    · refine lv_iload hx hb d_Mod_read_139 (lv_at hl 6 rfl) ?_
                      refine lv_iconst (v := 2) hx hb d_Mod_read_141 (by decide) ?_
                      refine lv_irem hx hb d_Mod_read_142 (by decide) ?_
                      have a142 : (y6 - y6 / 2 * 2).toInt = ((cr_cnt (fun y => cm_tr trn (9 * y + k2)) j2 : Int) % 2) := xi_rem f6 (show (2 : Int32).toInt = 2 by decide) (by omega) (by omega)
                      refine lv_iconst (v := 1) hx hb d_Mod_read_143 (by decide) ?_
                      refine xi_icmp_ne (tgt := 154) hx hb a142 (show (1 : Int32).toInt = 1 by decide) d_Mod_read_144 (by decide) (fun c144 => ?_) (fun c144 => ?_)
                      · obtain ⟨v154, ev154⟩ : ∃ y : Int32, y = (y5 + 1) := ⟨_, rfl⟩
                        have fv154 : v154.toInt = ((k2 : Int) + 1) := by rw [ev154]; exact xi_add f5 (show (1 : Int32).toInt = 1 by decide) (by omega) (by omega)
                        refine lv_iinc (v := v154) (lv' := [(5, .int v154), (0, .ref oM), (1, .int x1), (2, .int x2), (3, .int y3), (4, .int y4), (6, .int y6), (7, .int y7)]) hx hb d_Mod_read_154 hl (k := 5) rfl (by rw [ev154]; rfl) (by decide) rfl (fun ls hl => ?_)
                        refine lv_goto (tgt := 92) hx hb d_Mod_read_157 (by decide) ?_
                        have hkp : cm_kap trn nC k2 = false := by have hj9 : j2 = nC + 1 := (by omega); rw [hj9] at c144; exact decide_eq_false (by omega)
                        exact ih92 (k2 + 1) y3 y4 v154 (by omega) (by omega) (by omega) (by rw [cr_cnt_n hkp]; exact f3) (by rw [cr_lst_n hkp]; exact f4) _ _ hP hD hS ls (lv_sub hl [1, 2, 3, 4, 5, 0] rfl)
                      · obtain ⟨v147, ev147⟩ : ∃ y : Int32, y = (y3 + 1) := ⟨_, rfl⟩
                        have fv147 : v147.toInt = ((cr_cnt (cm_kap trn nC) k2 : Int) + 1) := by rw [ev147]; exact xi_add f3 (show (1 : Int32).toInt = 1 by decide) (by omega) (by omega)
                        refine lv_iinc (v := v147) (lv' := [(3, .int v147), (0, .ref oM), (1, .int x1), (2, .int x2), (4, .int y4), (5, .int y5), (6, .int y6), (7, .int y7)]) hx hb d_Mod_read_147 hl (k := 3) rfl (by rw [ev147]; rfl) (by decide) rfl (fun ls hl => ?_)
                        refine lv_iload hx hb d_Mod_read_150 (lv_at hl 5 rfl) ?_
                        refine lv_istore (lv' := [(4, .int y5), (3, .int v147), (0, .ref oM), (1, .int x1), (2, .int x2), (5, .int y5), (6, .int y6), (7, .int y7)]) hx hb d_Mod_read_152 hl (by decide) rfl (fun ls hl => ?_)
                        obtain ⟨v154, ev154⟩ : ∃ y : Int32, y = (y5 + 1) := ⟨_, rfl⟩
                        have fv154 : v154.toInt = ((k2 : Int) + 1) := by rw [ev154]; exact xi_add f5 (show (1 : Int32).toInt = 1 by decide) (by omega) (by omega)
                        refine lv_iinc (v := v154) (lv' := [(5, .int v154), (4, .int y5), (3, .int v147), (0, .ref oM), (1, .int x1), (2, .int x2), (6, .int y6), (7, .int y7)]) hx hb d_Mod_read_154 hl (k := 5) rfl (by rw [ev154]; rfl) (by decide) rfl (fun ls hl => ?_)
                        refine lv_goto (tgt := 92) hx hb d_Mod_read_157 (by decide) ?_
                        have hkp : cm_kap trn nC k2 = true := by have hj9 : j2 = nC + 1 := (by omega); rw [hj9] at c144; exact decide_eq_true (by omega)
                        exact ih92 (k2 + 1) v147 y5 v154 (by omega) (by omega) (by omega) (by rw [cr_cnt_y hkp]; omega) (by rw [cr_lst_y hkp]; exact f5) _ _ hP hD hS ls (lv_sub hl [3, 4, 5, 2, 1, 0] rfl)
                    · refine lv_aload_n hx hb d_Mod_read_114 rfl (lv_at hl 0 rfl) ?_
                      refine va_get (D := (dC, dI)) (ci := 5) (v := .ref aTu) (C := R_Mod) (T := F_Mod) (N := 23) hx hb hts hw_Mod hown hK hP 0 rfl rfl 17 (by decide) (hts (.fieldLink R_Mod 44 "PageFormsModel" "turned" "[Z") (by decide +kernel)) (fun _ h9 => h9) rfl d_Mod_read_115 ?_
                      refine lv_bipush (v := 9) hx hb d_Mod_read_118 (by decide) ?_
                      refine lv_iload hx hb d_Mod_read_120 (lv_at hl 7 rfl) ?_
                      refine lv_imul hx hb d_Mod_read_122 ?_
                      have a122 : (9 * y7).toInt = ((9 * j2 : Nat) : Int) := xi_mulN (show (9 : Int32).toInt = 9 by decide) f7 (by omega)
                      refine lv_iload hx hb d_Mod_read_123 (lv_at hl 5 rfl) ?_
                      refine lv_iadd hx hb d_Mod_read_125 ?_
                      have a125 : ((9 * y7) + y5).toInt = (((9 * j2 : Nat) : Int) + (k2 : Int)) := xi_add a122 f5 (by omega) (by omega)
                      refine xa_zald hx hb hK hP 1 1 rfl rfl a125 (9 * j2 + k2) (by omega) (by omega) d_Mod_read_126 ?_
                      refine xi_if_eq (tgt := 133) hx hb (rfl) d_Mod_read_127 (by decide) (fun c127 => ?_) (fun c127 => ?_)
                      · obtain ⟨v133, ev133⟩ : ∃ y : Int32, y = (y7 + 1) := ⟨_, rfl⟩
                        have fv133 : v133.toInt = ((j2 : Int) + 1) := by rw [ev133]; exact xi_add f7 (show (1 : Int32).toInt = 1 by decide) (by omega) (by omega)
                        refine lv_iinc (v := v133) (lv' := [(7, .int v133), (0, .ref oM), (1, .int x1), (2, .int x2), (3, .int y3), (4, .int y4), (5, .int y5), (6, .int y6)]) hx hb d_Mod_read_133 hl (k := 7) rfl (by rw [ev133]; rfl) (by decide) rfl (fun ls hl => ?_)
                        refine lv_goto (tgt := 105) hx hb d_Mod_read_136 (by decide) ?_
                        exact ih105 (j2 + 1) y6 v133 (by omega) (by omega) (by omega) (by rw [cr_cnt_n (f := (fun y => cm_tr trn (9 * y + k2))) (cm_tr_n c127)]; exact f6) _ _ hP hD hS ls (lv_sub hl [1, 2, 3, 4, 5, 6, 7, 0] rfl)
                      · obtain ⟨v130, ev130⟩ : ∃ y : Int32, y = (y6 + 1) := ⟨_, rfl⟩
                        have fv130 : v130.toInt = ((cr_cnt (fun y => cm_tr trn (9 * y + k2)) j2 : Int) + 1) := by rw [ev130]; exact xi_add f6 (show (1 : Int32).toInt = 1 by decide) (by omega) (by omega)
                        refine lv_iinc (v := v130) (lv' := [(6, .int v130), (0, .ref oM), (1, .int x1), (2, .int x2), (3, .int y3), (4, .int y4), (5, .int y5), (7, .int y7)]) hx hb d_Mod_read_130 hl (k := 6) rfl (by rw [ev130]; rfl) (by decide) rfl (fun ls hl => ?_)
                        obtain ⟨v133, ev133⟩ : ∃ y : Int32, y = (y7 + 1) := ⟨_, rfl⟩
                        have fv133 : v133.toInt = ((j2 : Int) + 1) := by rw [ev133]; exact xi_add f7 (show (1 : Int32).toInt = 1 by decide) (by omega) (by omega)
                        refine lv_iinc (v := v133) (lv' := [(7, .int v133), (6, .int v130), (0, .ref oM), (1, .int x1), (2, .int x2), (3, .int y3), (4, .int y4), (5, .int y5)]) hx hb d_Mod_read_133 hl (k := 7) rfl (by rw [ev133]; rfl) (by decide) rfl (fun ls hl => ?_)
                        refine lv_goto (tgt := 105) hx hb d_Mod_read_136 (by decide) ?_
                        exact ih105 (j2 + 1) v130 v133 (by omega) (by omega) (by omega) (by rw [cr_cnt_y (f := (fun y => cm_tr trn (9 * y + k2))) (cm_tr_y c127)]; omega) _ _ hP hD hS ls (lv_sub hl [2, 3, 4, 5, 6, 7, 1, 0] rfl)
                exact loop105 (nC + 2) 0 0 0 (by omega) (by omega) (by decide) (show (0 : Int32).toInt = ((0 : Nat) : Int) by decide) _ _ hP hD hS ls (lv_sub hl [2, 3, 4, 5, 6, 7, 1, 0] rfl)
          exact loop92 10 0 0 0 0 (by omega) (by omega) (by decide) (show (0 : Int32).toInt = ((0 : Nat) : Int) by decide) (show (0 : Int32).toInt = ((0 : Nat) : Int) by decide) _ _ hP hD hS ls (lv_sub hl [3, 4, 5, 2, 1, 0] rfl)
        · refine lv_iconst (v := 0) hx hb d_Mod_read_28 (by decide) ?_
          refine lv_istore (lv' := [(4, .int 0), (0, .ref oM), (1, .int x1), (2, .int x2), (3, .int x3)]) hx hb d_Mod_read_29 hl (by decide) rfl (fun ls hl => ?_)
          refine lv_iconst (v := 0) hx hb d_Mod_read_31 (by decide) ?_
          refine lv_istore (lv' := [(5, .int 0), (4, .int 0), (0, .ref oM), (1, .int x1), (2, .int x2), (3, .int x3)]) hx hb d_Mod_read_32 hl (by decide) rfl (fun ls hl => ?_)
          have loop34 : ∀ (n34 : Nat) (j : Nat) (x4 : Int32) (x5 : Int32), (9 - j < n34) → (j ≤ 9) → (x5.toInt = (j : Int)) → (x4.toInt = (cr_cnt (fun x => cm_tr trn (9 * k + x)) j : Int)) → ∀ (H : Heap) (locs : List Loc), va_P (dC, dI) classes [(oM, .inr (5, [.int 0, .ref aTx, .int siz, .ref aBg, .ref aEn, .ref aLe, .ref aMa, .ref aFi, .int lnm, .int rsm, .ref aHe, .int bxs, .int wdt, .int hgh, .ref aCa, .ref aTo, .int byn, .ref aTu, .int pgm, .int tpm, .int stn, .int lnx, .int lny])), (aTu, .inl (cZ, 117, .inl trn))] H → va_D A [(oM, .inr (5, [.int 0, .ref aTx, .int siz, .ref aBg, .ref aEn, .ref aLe, .ref aMa, .ref aFi, .int lnm, .int rsm, .ref aHe, .int bxs, .int wdt, .int hgh, .ref aCa, .ref aTo, .int byn, .ref aTu, .int pgm, .int tpm, .int stn, .int lnx, .int lny])), (aTu, .inl (cZ, 117, .inl trn))] → va_S A s.heap H locs → ∀ (ls : Array Slot), lv_has ls 8 [(0, .ref oM), (1, .int x1), (2, .int x2), (3, .int x3), (4, .int x4), (5, .int x5)] → W p l e (headSpec w_Mod_read ({ frames := 0, cells := 0, slots := 0, locals := 0 })).room s m ([.ref oM] : List Value).toArray below meth c H locs 0 0 (MQ below (va_Qi (fun (r : Int32) (u : Int32 × (Nat → Int32)) => cm_read nC trn r u.2) (fun (u : Int32 × (Nat → Int32)) (t : State) => va_P (dC, dI) classes [(oM, .inr (5, [.int u.1, .ref aTx, .int siz, .ref aBg, .ref aEn, .ref aLe, .ref aMa, .ref aFi, .int lnm, .int rsm, .ref aHe, .int bxs, .int wdt, .int hgh, .ref aCa, .ref aTo, .int byn, .ref aTu, .int pgm, .int tpm, .int stn, .int lnx, .int lny])), (aTu, .inl (cZ, 117, .inl u.2))] t.heap ∧ va_K (dC, dI) classes [(cI, .int), (cZ, .boolean)] t ∧ va_D (A) [(oM, .inr (5, [.int u.1, .ref aTx, .int siz, .ref aBg, .ref aEn, .ref aLe, .ref aMa, .ref aFi, .int lnm, .int rsm, .ref aHe, .int bxs, .int wdt, .int hgh, .ref aCa, .ref aTo, .int byn, .ref aTu, .int pgm, .int tpm, .int stn, .int lnx, .int lny])), (aTu, .inl (cZ, 117, .inl u.2))]) (A)) ([.ref oM] : List Value).toArray s 0 0 A) (F0 m 34 ls []) := by
            intro n34
            induction n34 with
            | zero => intro j x4 x5 hmz34; omega
            | succ n34 ih34 =>
              intro j x4 x5 hmz34 hj e5 e4 H locs hP hD hS ls hl
              have hrl2 := cr_cnt_le (fun x => cm_tr trn (9 * k + x)) j
              refine lv_iload hx hb d_Mod_read_34 (lv_at hl 5 rfl) ?_
              refine lv_bipush (v := 9) hx hb d_Mod_read_36 (by decide) ?_
              refine xi_icmp_ge (tgt := 65) hx hb e5 (show (9 : Int32).toInt = 9 by decide) d_Mod_read_38 (by decide) (fun c38 => ?_) (fun c38 => ?_)
              · refine lv_iload hx hb d_Mod_read_65 (lv_at hl 4 rfl) ?_
                refine lv_iconst (v := 2) hx hb d_Mod_read_67 (by decide) ?_
                refine lv_irem hx hb d_Mod_read_68 (by decide) ?_
                have a68 : (x4 - x4 / 2 * 2).toInt = ((cr_cnt (fun x => cm_tr trn (9 * k + x)) j : Int) % 2) := xi_rem e4 (show (2 : Int32).toInt = 2 by decide) (by omega) (by omega)
                refine lv_iconst (v := 1) hx hb d_Mod_read_69 (by decide) ?_
                refine xi_icmp_ne (tgt := 78) hx hb a68 (show (1 : Int32).toInt = 1 by decide) d_Mod_read_70 (by decide) (fun c70 => ?_) (fun c70 => ?_)
                · obtain ⟨v78, ev78⟩ : ∃ y : Int32, y = (x3 + 1) := ⟨_, rfl⟩
                  have fv78 : v78.toInt = ((k : Int) + 1) := by rw [ev78]; exact xi_add e3 (show (1 : Int32).toInt = 1 by decide) (by omega) (by omega)
                  refine lv_iinc (v := v78) (lv' := [(3, .int v78), (0, .ref oM), (1, .int x1), (2, .int x2), (4, .int x4), (5, .int x5)]) hx hb d_Mod_read_78 hl (k := 3) rfl (by rw [ev78]; rfl) (by decide) rfl (fun ls hl => ?_)
                  refine lv_goto (tgt := 20) hx hb d_Mod_read_81 (by decide) ?_
                  have hrh : cm_rho trn k = false := by have hj9 : j = 9 := (by omega); rw [hj9] at c70; exact decide_eq_false (by omega)
                  exact ih20 (k + 1) x1 x2 v78 (by omega) (by omega) (by omega) (by rw [cr_cnt_n hrh]; exact e1) (by rw [cr_lst_n hrh]; exact e2) _ _ hP hD hS ls (lv_sub hl [1, 2, 3, 0] rfl)
                · obtain ⟨v73, ev73⟩ : ∃ y : Int32, y = (x1 + 1) := ⟨_, rfl⟩
                  have fv73 : v73.toInt = ((cr_cnt (cm_rho trn) k : Int) + 1) := by rw [ev73]; exact xi_add e1 (show (1 : Int32).toInt = 1 by decide) (by omega) (by omega)
                  refine lv_iinc (v := v73) (lv' := [(1, .int v73), (0, .ref oM), (2, .int x2), (3, .int x3), (4, .int x4), (5, .int x5)]) hx hb d_Mod_read_73 hl (k := 1) rfl (by rw [ev73]; rfl) (by decide) rfl (fun ls hl => ?_)
                  refine lv_iload_n hx hb d_Mod_read_76 rfl (lv_at hl 3 rfl) ?_
                  refine lv_istore_n (lv' := [(2, .int x3), (1, .int v73), (0, .ref oM), (3, .int x3), (4, .int x4), (5, .int x5)]) hx hb d_Mod_read_77 rfl hl (by decide) rfl (fun ls hl => ?_)
                  obtain ⟨v78, ev78⟩ : ∃ y : Int32, y = (x3 + 1) := ⟨_, rfl⟩
                  have fv78 : v78.toInt = ((k : Int) + 1) := by rw [ev78]; exact xi_add e3 (show (1 : Int32).toInt = 1 by decide) (by omega) (by omega)
                  refine lv_iinc (v := v78) (lv' := [(3, .int v78), (2, .int x3), (1, .int v73), (0, .ref oM), (4, .int x4), (5, .int x5)]) hx hb d_Mod_read_78 hl (k := 3) rfl (by rw [ev78]; rfl) (by decide) rfl (fun ls hl => ?_)
                  refine lv_goto (tgt := 20) hx hb d_Mod_read_81 (by decide) ?_
                  have hrh : cm_rho trn k = true := by have hj9 : j = 9 := (by omega); rw [hj9] at c70; exact decide_eq_true (by omega)
                  exact ih20 (k + 1) v73 x3 v78 (by omega) (by omega) (by omega) (by rw [cr_cnt_y hrh]; omega) (by rw [cr_lst_y hrh]; exact e3) _ _ hP hD hS ls (lv_sub hl [3, 2, 1, 0] rfl)
              · refine lv_aload_n hx hb d_Mod_read_41 rfl (lv_at hl 0 rfl) ?_
                refine va_get (D := (dC, dI)) (ci := 5) (v := .ref aTu) (C := R_Mod) (T := F_Mod) (N := 23) hx hb hts hw_Mod hown hK hP 0 rfl rfl 17 (by decide) (hts (.fieldLink R_Mod 44 "PageFormsModel" "turned" "[Z") (by decide +kernel)) (fun _ h9 => h9) rfl d_Mod_read_42 ?_
                refine lv_bipush (v := 9) hx hb d_Mod_read_45 (by decide) ?_
                refine lv_iload_n hx hb d_Mod_read_47 rfl (lv_at hl 3 rfl) ?_
                refine lv_imul hx hb d_Mod_read_48 ?_
                have a48 : (9 * x3).toInt = ((9 * k : Nat) : Int) := xi_mulN (show (9 : Int32).toInt = 9 by decide) e3 (by omega)
                refine lv_iload hx hb d_Mod_read_49 (lv_at hl 5 rfl) ?_
                refine lv_iadd hx hb d_Mod_read_51 ?_
                have a51 : ((9 * x3) + x5).toInt = (((9 * k : Nat) : Int) + (j : Int)) := xi_add a48 e5 (by omega) (by omega)
                refine xa_zald hx hb hK hP 1 1 rfl rfl a51 (9 * k + j) (by omega) (by omega) d_Mod_read_52 ?_
                refine xi_if_eq (tgt := 59) hx hb (rfl) d_Mod_read_53 (by decide) (fun c53 => ?_) (fun c53 => ?_)
                · obtain ⟨v59, ev59⟩ : ∃ y : Int32, y = (x5 + 1) := ⟨_, rfl⟩
                  have fv59 : v59.toInt = ((j : Int) + 1) := by rw [ev59]; exact xi_add e5 (show (1 : Int32).toInt = 1 by decide) (by omega) (by omega)
                  refine lv_iinc (v := v59) (lv' := [(5, .int v59), (0, .ref oM), (1, .int x1), (2, .int x2), (3, .int x3), (4, .int x4)]) hx hb d_Mod_read_59 hl (k := 5) rfl (by rw [ev59]; rfl) (by decide) rfl (fun ls hl => ?_)
                  refine lv_goto (tgt := 34) hx hb d_Mod_read_62 (by decide) ?_
                  exact ih34 (j + 1) x4 v59 (by omega) (by omega) (by omega) (by rw [cr_cnt_n (f := (fun x => cm_tr trn (9 * k + x))) (cm_tr_n c53)]; exact e4) _ _ hP hD hS ls (lv_sub hl [1, 2, 3, 4, 5, 0] rfl)
                · obtain ⟨v56, ev56⟩ : ∃ y : Int32, y = (x4 + 1) := ⟨_, rfl⟩
                  have fv56 : v56.toInt = ((cr_cnt (fun x => cm_tr trn (9 * k + x)) j : Int) + 1) := by rw [ev56]; exact xi_add e4 (show (1 : Int32).toInt = 1 by decide) (by omega) (by omega)
                  refine lv_iinc (v := v56) (lv' := [(4, .int v56), (0, .ref oM), (1, .int x1), (2, .int x2), (3, .int x3), (5, .int x5)]) hx hb d_Mod_read_56 hl (k := 4) rfl (by rw [ev56]; rfl) (by decide) rfl (fun ls hl => ?_)
                  obtain ⟨v59, ev59⟩ : ∃ y : Int32, y = (x5 + 1) := ⟨_, rfl⟩
                  have fv59 : v59.toInt = ((j : Int) + 1) := by rw [ev59]; exact xi_add e5 (show (1 : Int32).toInt = 1 by decide) (by omega) (by omega)
                  refine lv_iinc (v := v59) (lv' := [(5, .int v59), (4, .int v56), (0, .ref oM), (1, .int x1), (2, .int x2), (3, .int x3)]) hx hb d_Mod_read_59 hl (k := 5) rfl (by rw [ev59]; rfl) (by decide) rfl (fun ls hl => ?_)
                  refine lv_goto (tgt := 34) hx hb d_Mod_read_62 (by decide) ?_
                  exact ih34 (j + 1) v56 v59 (by omega) (by omega) (by omega) (by rw [cr_cnt_y (f := (fun x => cm_tr trn (9 * k + x))) (cm_tr_y c53)]; omega) _ _ hP hD hS ls (lv_sub hl [2, 3, 4, 5, 1, 0] rfl)
          exact loop34 10 0 0 0 (by omega) (by omega) (by decide) (show (0 : Int32).toInt = ((0 : Nat) : Int) by decide) _ _ hP hD hS ls (lv_sub hl [2, 3, 4, 5, 1, 0] rfl)
    exact loop20 (nC + 2) 0 0 0 0 (by omega) (by omega) (by decide) (show (0 : Int32).toInt = ((0 : Nat) : Int) by decide) (show (0 : Int32).toInt = ((0 : Nat) : Int) by decide) _ _ hP hD hS ls (lv_sub hl [3, 2, 1, 0] rfl)
  · refine lv_iconst (v := (-1)) hx hb d_Mod_read_12 (by decide) ?_
    exact W.iret (v := (-1)) hx hb hr (fun t ht hW => ⟨⟨(-1), (0, trn), rfl, (show cm_read nC trn ((-1) : Int32) trn from (Or.inl ⟨by omega, by decide, rfl⟩)), by rw [ht]; exact hP, va_K.moved hW.alike hK, hD⟩, hS.F ht⟩) hS.2.2 d_Mod_read_13
