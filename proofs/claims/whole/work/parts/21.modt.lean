set_option maxHeartbeats 4000000 in
set_option maxRecDepth 100000 in
theorem k_Mod_init (l : Launch) (dC : Nat → ClassId) (dI : Nat → Nat → Nat) (cI cZ : ClassId) (oM : Nat) (sz : Nat) : Met l y_Mod_init w_Mod_init ({ frames := 1, cells := 10, slots := 960, locals := 12 }) (va_Pc [.ref oM] (fun U => U.heap.size = sz ∧ va_P (dC, dI) classes [(oM, .inr (5, [.int 0, .null, .int 0, .null, .null, .null, .null, .null, .int 0, .int 0, .null, .int 0, .int 0, .int 0, .null, .null, .int 0, .null, .int 0, .int 0, .int 0, .int 0, .int 0]))] U.heap ∧ va_K (dC, dI) classes [(cI, .int), (cZ, .boolean)] U ∧ va_D (fun _ => True) [(oM, .inr (5, [.int 0, .null, .int 0, .null, .null, .null, .null, .null, .int 0, .int 0, .null, .int 0, .int 0, .int 0, .null, .null, .int 0, .null, .int 0, .int 0, .int 0, .int 0, .int 0]))])) (va_Qv (fun (u : Unit) => True) (fun (u : Unit) (t : State) => ∃ (aTx : Nat), ∃ (aBg : Nat), ∃ (aEn : Nat), ∃ (aLe : Nat), ∃ (aMa : Nat), ∃ (aFi : Nat), ∃ (aHe : Nat), ∃ (aCa : Nat), ∃ (aTo : Nat), ∃ (aTu : Nat), va_P (dC, dI) classes [(oM, .inr (5, [.int 0, .ref aTx, .int 0, .ref aBg, .ref aEn, .ref aLe, .ref aMa, .ref aFi, .int 0, .int 0, .ref aHe, .int 0, .int 1, .int 1, .ref aCa, .ref aTo, .int 0, .ref aTu, .int 0, .int 0, .int 0, .int 0, .int 0])), (aTx, .inl (cI, 200, .inl (fun _ => 0))), (aBg, .inl (cI, 101, .inl (fun _ => 0))), (aEn, .inl (cI, 101, .inl (fun _ => 0))), (aLe, .inl (cI, 102, .inl (fun _ => 0))), (aMa, .inl (cI, 102, .inl (fun _ => 0))), (aFi, .inl (cI, 101, .inl (fun _ => 0))), (aHe, .inl (cI, 60, .inl (fun _ => 0))), (aCa, .inl (cI, 64, .inl (fun _ => 0))), (aTo, .inl (cI, 12, .inl (fun _ => 0))), (aTu, .inl (cZ, 117, .inl (fun _ => 0)))] t.heap ∧ va_K (dC, dI) classes [(cI, .int), (cZ, .boolean)] t ∧ va_D (va_A [(oM, .inr (5, [.int 0, .null, .int 0, .null, .null, .null, .null, .null, .int 0, .int 0, .null, .int 0, .int 0, .int 0, .null, .null, .int 0, .null, .int 0, .int 0, .int 0, .int 0, .int 0]))] sz) [(oM, .inr (5, [.int 0, .ref aTx, .int 0, .ref aBg, .ref aEn, .ref aLe, .ref aMa, .ref aFi, .int 0, .int 0, .ref aHe, .int 0, .int 1, .int 1, .ref aCa, .ref aTo, .int 0, .ref aTu, .int 0, .int 0, .int 0, .int 0, .int 0])), (aTx, .inl (cI, 200, .inl (fun _ => 0))), (aBg, .inl (cI, 101, .inl (fun _ => 0))), (aEn, .inl (cI, 101, .inl (fun _ => 0))), (aLe, .inl (cI, 102, .inl (fun _ => 0))), (aMa, .inl (cI, 102, .inl (fun _ => 0))), (aFi, .inl (cI, 101, .inl (fun _ => 0))), (aHe, .inl (cI, 60, .inl (fun _ => 0))), (aCa, .inl (cI, 64, .inl (fun _ => 0))), (aTo, .inl (cI, 12, .inl (fun _ => 0))), (aTu, .inl (cZ, 117, .inl (fun _ => 0)))]) (va_A [(oM, .inr (5, [.int 0, .null, .int 0, .null, .null, .null, .null, .null, .int 0, .int 0, .null, .int 0, .int 0, .int 0, .null, .null, .int 0, .null, .int 0, .int 0, .int 0, .int 0, .int 0]))] sz)) 10 960 (va_A [(oM, .inr (5, [.int 0, .null, .int 0, .null, .null, .null, .null, .null, .int 0, .int 0, .null, .int 0, .int 0, .int 0, .null, .null, .int 0, .null, .int 0, .int 0, .int 0, .int 0, .int 0]))] sz) := by
  refine Met.ofW (cc := b_Mod_init) (maxL := 1) (ret := none) (by decide) rfl ?_
  intro p e s m args below meth c s₁ B hml hv
  obtain ⟨rfl, hsz, hP, hK, hD0⟩ := hv
  have hx := B.exec
  have hb := B.bytes
  have hr := B.returns
  have hts := atoms_spec (ws := w_Mod_init) B.pre
  have hown : s.vm.findClass R_Mod = some m.cls := findClass_of_methodNamed B.named
  have hlocks := B.notSynchronized
  have hin : meth.name = "<init>" := (name_of_methodNamed B.named B.method).1
  have hw_Mod : ∀ w ∈ w_Mod, w ∈ w_Mod_init := by decide +kernel
  subst hsz
  have hD := hD0.self (sz := s.heap.size)
  generalize hAe : va_A [(oM, .inr (5, [.int 0, .null, .int 0, .null, .null, .null, .null, .null, .int 0, .int 0, .null, .int 0, .int 0, .int 0, .null, .null, .int 0, .null, .int 0, .int 0, .int 0, .int 0, .int 0]))] s.heap.size = A at hD ⊢
  have hA : ∀ q : Nat, s.heap.size ≤ q → A q := fun q h => by rw [← hAe]; exact Or.inr h
  have hS : va_S A s.heap s.heap [] := va_S.rf
  have hP : va_P (dC, dI) classes [(oM, .inr (5, [.int 0, .null, .int 0, .null, .null, .null, .null, .null, .int 0, .int 0, .null, .int 0, .int 0, .int 0, .null, .null, .int 0, .null, .int 0, .int 0, .int 0, .int 0, .int 0]))] s.heap := hP
  have hl := lv_entry ([.ref oM]) (n := 1) (Nat.le_of_ble_eq_true rfl)
  rw [lg_entry_eq]
  generalize (lg_sl ([.ref oM]) ++ List.replicate (1 - (lg_sl ([.ref oM])).length) Slot.unset).toArray = ls at hl ⊢
  have hl : lv_has ls 1 [(0, .ref oM)] := hl
  refine lv_aload_n hx hb d_Mod_init_0 rfl (lv_at hl 0 rfl) ?_
  refine W.objInit hx hb hown (hts (.methodLink R_Mod 1 objectInit) (by decide +kernel)) (hts (.instanceMethod objectInit) (by decide +kernel)) (hts (.code objectInit ⟨#[0xb1]⟩ 1 none) (by decide +kernel)) rfl (by rw [hml]; exact hl.1) rfl d_Mod_init_1 (Nat.le_of_ble_eq_true rfl) (Nat.le_of_ble_eq_true rfl) ?_
  refine W.eq (g2 := F0 m 4 ls []) rfl ?_
  refine lv_aload_n hx hb d_Mod_init_4 rfl (lv_at hl 0 rfl) ?_
  refine lv_sipush (v := 200) hx hb d_Mod_init_5 (by decide) ?_
  have hkc8 : 0 + 1 ≤ (headSpec w_Mod_init ({ frames := 1, cells := 10, slots := 960, locals := 12 })).room.cells := Nat.le_of_ble_eq_true rfl
  have hks8 : 0 + 200 ≤ (headSpec w_Mod_init ({ frames := 1, cells := 10, slots := 960, locals := 12 })).room.slots := Nat.le_of_ble_eq_true rfl
  refine va_newa (atype := .int) (ty := .int) (N' := 200) (a0 := (200, .inl (fun _ => 0))) hx hb (hts (.arrayClass .int) (by decide +kernel)) rfl hK hP hD hS hA (fun _ => vp_cell_i _ _ _) (by decide) (by decide) (by decide) hkc8 hks8 d_Mod_init_8 (fun q8 cN H hK hP hD hS => ?_)
  obtain rfl : cI = cN := (xi_same (i := 0) (j := 2) hK rfl rfl).symm
  have hK := hK.sub (tys' := [(cI, .int), (cZ, .boolean)]) [0, 1] rfl
  have hP : va_P (dC, dI) classes [(oM, .inr (5, [.int 0, .null, .int 0, .null, .null, .null, .null, .null, .int 0, .int 0, .null, .int 0, .int 0, .int 0, .null, .null, .int 0, .null, .int 0, .int 0, .int 0, .int 0, .int 0])), (q8, .inl (cI, 200, .inl (fun _ => 0)))] H := hP
  have hD : va_D A [(oM, .inr (5, [.int 0, .null, .int 0, .null, .null, .null, .null, .null, .int 0, .int 0, .null, .int 0, .int 0, .int 0, .null, .null, .int 0, .null, .int 0, .int 0, .int 0, .int 0, .int 0])), (q8, .inl (cI, 200, .inl (fun _ => 0)))] := hD
  refine W.widen (k := 1) (n := 200) (Nat.le_of_ble_eq_true rfl) (Nat.le_of_ble_eq_true rfl) ?_
  refine va_putF (D := (dC, dI)) (ci := 5) (v := .ref q8) (ty := (.array .int)) (C := R_Mod) (T := F_Mod) (N := 23) hx hb hts hw_Mod t_Mod t_Mod_ok n_Mod hown hK hP hD hS 0 rfl rfl 1 (by decide) (hts (.fieldLink R_Mod 7 "PageFormsModel" "text" "[I") (by decide +kernel)) (fun _ h9 => h9) rfl hin rfl (by decide +kernel) rfl rfl (Nat.le_of_ble_eq_true rfl) d_Mod_init_10 (fun H locs hP hD hS => ?_)
  have hP : va_P (dC, dI) classes [(oM, .inr (5, [.int 0, .ref q8, .int 0, .null, .null, .null, .null, .null, .int 0, .int 0, .null, .int 0, .int 0, .int 0, .null, .null, .int 0, .null, .int 0, .int 0, .int 0, .int 0, .int 0])), (q8, .inl (cI, 200, .inl (fun _ => 0)))] H := hP
  have hD : va_D A [(oM, .inr (5, [.int 0, .ref q8, .int 0, .null, .null, .null, .null, .null, .int 0, .int 0, .null, .int 0, .int 0, .int 0, .null, .null, .int 0, .null, .int 0, .int 0, .int 0, .int 0, .int 0])), (q8, .inl (cI, 200, .inl (fun _ => 0)))] := hD
  refine lv_aload_n hx hb d_Mod_init_13 rfl (lv_at hl 0 rfl) ?_
  refine lv_bipush (v := 101) hx hb d_Mod_init_14 (by decide) ?_
  have hkc16 : 1 + 1 ≤ (headSpec w_Mod_init ({ frames := 1, cells := 10, slots := 960, locals := 12 })).room.cells := Nat.le_of_ble_eq_true rfl
  have hks16 : 200 + 101 ≤ (headSpec w_Mod_init ({ frames := 1, cells := 10, slots := 960, locals := 12 })).room.slots := Nat.le_of_ble_eq_true rfl
  refine va_newa (atype := .int) (ty := .int) (N' := 101) (a0 := (101, .inl (fun _ => 0))) hx hb (hts (.arrayClass .int) (by decide +kernel)) rfl hK hP hD hS hA (fun _ => vp_cell_i _ _ _) (by decide) (by decide) (by decide) hkc16 hks16 d_Mod_init_16 (fun q16 cN H hK hP hD hS => ?_)
  obtain rfl : cI = cN := (xi_same (i := 0) (j := 2) hK rfl rfl).symm
  have hK := hK.sub (tys' := [(cI, .int), (cZ, .boolean)]) [0, 1] rfl
  have hP : va_P (dC, dI) classes [(oM, .inr (5, [.int 0, .ref q8, .int 0, .null, .null, .null, .null, .null, .int 0, .int 0, .null, .int 0, .int 0, .int 0, .null, .null, .int 0, .null, .int 0, .int 0, .int 0, .int 0, .int 0])), (q8, .inl (cI, 200, .inl (fun _ => 0))), (q16, .inl (cI, 101, .inl (fun _ => 0)))] H := hP
  have hD : va_D A [(oM, .inr (5, [.int 0, .ref q8, .int 0, .null, .null, .null, .null, .null, .int 0, .int 0, .null, .int 0, .int 0, .int 0, .null, .null, .int 0, .null, .int 0, .int 0, .int 0, .int 0, .int 0])), (q8, .inl (cI, 200, .inl (fun _ => 0))), (q16, .inl (cI, 101, .inl (fun _ => 0)))] := hD
  refine W.widen (k := 2) (n := 301) (Nat.le_of_ble_eq_true rfl) (Nat.le_of_ble_eq_true rfl) ?_
  refine va_putF (D := (dC, dI)) (ci := 5) (v := .ref q16) (ty := (.array .int)) (C := R_Mod) (T := F_Mod) (N := 23) hx hb hts hw_Mod t_Mod t_Mod_ok n_Mod hown hK hP hD hS 0 rfl rfl 3 (by decide) (hts (.fieldLink R_Mod 13 "PageFormsModel" "begin" "[I") (by decide +kernel)) (fun _ h9 => h9) rfl hin rfl (by decide +kernel) rfl rfl (Nat.le_of_ble_eq_true rfl) d_Mod_init_18 (fun H locs hP hD hS => ?_)
  have hP : va_P (dC, dI) classes [(oM, .inr (5, [.int 0, .ref q8, .int 0, .ref q16, .null, .null, .null, .null, .int 0, .int 0, .null, .int 0, .int 0, .int 0, .null, .null, .int 0, .null, .int 0, .int 0, .int 0, .int 0, .int 0])), (q8, .inl (cI, 200, .inl (fun _ => 0))), (q16, .inl (cI, 101, .inl (fun _ => 0)))] H := hP
  have hD : va_D A [(oM, .inr (5, [.int 0, .ref q8, .int 0, .ref q16, .null, .null, .null, .null, .int 0, .int 0, .null, .int 0, .int 0, .int 0, .null, .null, .int 0, .null, .int 0, .int 0, .int 0, .int 0, .int 0])), (q8, .inl (cI, 200, .inl (fun _ => 0))), (q16, .inl (cI, 101, .inl (fun _ => 0)))] := hD
  refine lv_aload_n hx hb d_Mod_init_21 rfl (lv_at hl 0 rfl) ?_
  refine lv_bipush (v := 101) hx hb d_Mod_init_22 (by decide) ?_
  have hkc24 : 2 + 1 ≤ (headSpec w_Mod_init ({ frames := 1, cells := 10, slots := 960, locals := 12 })).room.cells := Nat.le_of_ble_eq_true rfl
  have hks24 : 301 + 101 ≤ (headSpec w_Mod_init ({ frames := 1, cells := 10, slots := 960, locals := 12 })).room.slots := Nat.le_of_ble_eq_true rfl
  refine va_newa (atype := .int) (ty := .int) (N' := 101) (a0 := (101, .inl (fun _ => 0))) hx hb (hts (.arrayClass .int) (by decide +kernel)) rfl hK hP hD hS hA (fun _ => vp_cell_i _ _ _) (by decide) (by decide) (by decide) hkc24 hks24 d_Mod_init_24 (fun q24 cN H hK hP hD hS => ?_)
  obtain rfl : cI = cN := (xi_same (i := 0) (j := 2) hK rfl rfl).symm
  have hK := hK.sub (tys' := [(cI, .int), (cZ, .boolean)]) [0, 1] rfl
  have hP : va_P (dC, dI) classes [(oM, .inr (5, [.int 0, .ref q8, .int 0, .ref q16, .null, .null, .null, .null, .int 0, .int 0, .null, .int 0, .int 0, .int 0, .null, .null, .int 0, .null, .int 0, .int 0, .int 0, .int 0, .int 0])), (q8, .inl (cI, 200, .inl (fun _ => 0))), (q16, .inl (cI, 101, .inl (fun _ => 0))), (q24, .inl (cI, 101, .inl (fun _ => 0)))] H := hP
  have hD : va_D A [(oM, .inr (5, [.int 0, .ref q8, .int 0, .ref q16, .null, .null, .null, .null, .int 0, .int 0, .null, .int 0, .int 0, .int 0, .null, .null, .int 0, .null, .int 0, .int 0, .int 0, .int 0, .int 0])), (q8, .inl (cI, 200, .inl (fun _ => 0))), (q16, .inl (cI, 101, .inl (fun _ => 0))), (q24, .inl (cI, 101, .inl (fun _ => 0)))] := hD
  refine W.widen (k := 3) (n := 402) (Nat.le_of_ble_eq_true rfl) (Nat.le_of_ble_eq_true rfl) ?_
  refine va_putF (D := (dC, dI)) (ci := 5) (v := .ref q24) (ty := (.array .int)) (C := R_Mod) (T := F_Mod) (N := 23) hx hb hts hw_Mod t_Mod t_Mod_ok n_Mod hown hK hP hD hS 0 rfl rfl 4 (by decide) (hts (.fieldLink R_Mod 16 "PageFormsModel" "end" "[I") (by decide +kernel)) (fun _ h9 => h9) rfl hin rfl (by decide +kernel) rfl rfl (Nat.le_of_ble_eq_true rfl) d_Mod_init_26 (fun H locs hP hD hS => ?_)
  have hP : va_P (dC, dI) classes [(oM, .inr (5, [.int 0, .ref q8, .int 0, .ref q16, .ref q24, .null, .null, .null, .int 0, .int 0, .null, .int 0, .int 0, .int 0, .null, .null, .int 0, .null, .int 0, .int 0, .int 0, .int 0, .int 0])), (q8, .inl (cI, 200, .inl (fun _ => 0))), (q16, .inl (cI, 101, .inl (fun _ => 0))), (q24, .inl (cI, 101, .inl (fun _ => 0)))] H := hP
  have hD : va_D A [(oM, .inr (5, [.int 0, .ref q8, .int 0, .ref q16, .ref q24, .null, .null, .null, .int 0, .int 0, .null, .int 0, .int 0, .int 0, .null, .null, .int 0, .null, .int 0, .int 0, .int 0, .int 0, .int 0])), (q8, .inl (cI, 200, .inl (fun _ => 0))), (q16, .inl (cI, 101, .inl (fun _ => 0))), (q24, .inl (cI, 101, .inl (fun _ => 0)))] := hD
  refine lv_aload_n hx hb d_Mod_init_29 rfl (lv_at hl 0 rfl) ?_
  refine lv_bipush (v := 102) hx hb d_Mod_init_30 (by decide) ?_
  have hkc32 : 3 + 1 ≤ (headSpec w_Mod_init ({ frames := 1, cells := 10, slots := 960, locals := 12 })).room.cells := Nat.le_of_ble_eq_true rfl
  have hks32 : 402 + 102 ≤ (headSpec w_Mod_init ({ frames := 1, cells := 10, slots := 960, locals := 12 })).room.slots := Nat.le_of_ble_eq_true rfl
  refine va_newa (atype := .int) (ty := .int) (N' := 102) (a0 := (102, .inl (fun _ => 0))) hx hb (hts (.arrayClass .int) (by decide +kernel)) rfl hK hP hD hS hA (fun _ => vp_cell_i _ _ _) (by decide) (by decide) (by decide) hkc32 hks32 d_Mod_init_32 (fun q32 cN H hK hP hD hS => ?_)
  obtain rfl : cI = cN := (xi_same (i := 0) (j := 2) hK rfl rfl).symm
  have hK := hK.sub (tys' := [(cI, .int), (cZ, .boolean)]) [0, 1] rfl
  have hP : va_P (dC, dI) classes [(oM, .inr (5, [.int 0, .ref q8, .int 0, .ref q16, .ref q24, .null, .null, .null, .int 0, .int 0, .null, .int 0, .int 0, .int 0, .null, .null, .int 0, .null, .int 0, .int 0, .int 0, .int 0, .int 0])), (q8, .inl (cI, 200, .inl (fun _ => 0))), (q16, .inl (cI, 101, .inl (fun _ => 0))), (q24, .inl (cI, 101, .inl (fun _ => 0))), (q32, .inl (cI, 102, .inl (fun _ => 0)))] H := hP
  have hD : va_D A [(oM, .inr (5, [.int 0, .ref q8, .int 0, .ref q16, .ref q24, .null, .null, .null, .int 0, .int 0, .null, .int 0, .int 0, .int 0, .null, .null, .int 0, .null, .int 0, .int 0, .int 0, .int 0, .int 0])), (q8, .inl (cI, 200, .inl (fun _ => 0))), (q16, .inl (cI, 101, .inl (fun _ => 0))), (q24, .inl (cI, 101, .inl (fun _ => 0))), (q32, .inl (cI, 102, .inl (fun _ => 0)))] := hD
  refine W.widen (k := 4) (n := 504) (Nat.le_of_ble_eq_true rfl) (Nat.le_of_ble_eq_true rfl) ?_
  refine va_putF (D := (dC, dI)) (ci := 5) (v := .ref q32) (ty := (.array .int)) (C := R_Mod) (T := F_Mod) (N := 23) hx hb hts hw_Mod t_Mod t_Mod_ok n_Mod hown hK hP hD hS 0 rfl rfl 5 (by decide) (hts (.fieldLink R_Mod 19 "PageFormsModel" "least" "[I") (by decide +kernel)) (fun _ h9 => h9) rfl hin rfl (by decide +kernel) rfl rfl (Nat.le_of_ble_eq_true rfl) d_Mod_init_34 (fun H locs hP hD hS => ?_)
  have hP : va_P (dC, dI) classes [(oM, .inr (5, [.int 0, .ref q8, .int 0, .ref q16, .ref q24, .ref q32, .null, .null, .int 0, .int 0, .null, .int 0, .int 0, .int 0, .null, .null, .int 0, .null, .int 0, .int 0, .int 0, .int 0, .int 0])), (q8, .inl (cI, 200, .inl (fun _ => 0))), (q16, .inl (cI, 101, .inl (fun _ => 0))), (q24, .inl (cI, 101, .inl (fun _ => 0))), (q32, .inl (cI, 102, .inl (fun _ => 0)))] H := hP
  have hD : va_D A [(oM, .inr (5, [.int 0, .ref q8, .int 0, .ref q16, .ref q24, .ref q32, .null, .null, .int 0, .int 0, .null, .int 0, .int 0, .int 0, .null, .null, .int 0, .null, .int 0, .int 0, .int 0, .int 0, .int 0])), (q8, .inl (cI, 200, .inl (fun _ => 0))), (q16, .inl (cI, 101, .inl (fun _ => 0))), (q24, .inl (cI, 101, .inl (fun _ => 0))), (q32, .inl (cI, 102, .inl (fun _ => 0)))] := hD
  refine lv_aload_n hx hb d_Mod_init_37 rfl (lv_at hl 0 rfl) ?_
  refine lv_bipush (v := 102) hx hb d_Mod_init_38 (by decide) ?_
  have hkc40 : 4 + 1 ≤ (headSpec w_Mod_init ({ frames := 1, cells := 10, slots := 960, locals := 12 })).room.cells := Nat.le_of_ble_eq_true rfl
  have hks40 : 504 + 102 ≤ (headSpec w_Mod_init ({ frames := 1, cells := 10, slots := 960, locals := 12 })).room.slots := Nat.le_of_ble_eq_true rfl
  refine va_newa (atype := .int) (ty := .int) (N' := 102) (a0 := (102, .inl (fun _ => 0))) hx hb (hts (.arrayClass .int) (by decide +kernel)) rfl hK hP hD hS hA (fun _ => vp_cell_i _ _ _) (by decide) (by decide) (by decide) hkc40 hks40 d_Mod_init_40 (fun q40 cN H hK hP hD hS => ?_)
  obtain rfl : cI = cN := (xi_same (i := 0) (j := 2) hK rfl rfl).symm
  have hK := hK.sub (tys' := [(cI, .int), (cZ, .boolean)]) [0, 1] rfl
  have hP : va_P (dC, dI) classes [(oM, .inr (5, [.int 0, .ref q8, .int 0, .ref q16, .ref q24, .ref q32, .null, .null, .int 0, .int 0, .null, .int 0, .int 0, .int 0, .null, .null, .int 0, .null, .int 0, .int 0, .int 0, .int 0, .int 0])), (q8, .inl (cI, 200, .inl (fun _ => 0))), (q16, .inl (cI, 101, .inl (fun _ => 0))), (q24, .inl (cI, 101, .inl (fun _ => 0))), (q32, .inl (cI, 102, .inl (fun _ => 0))), (q40, .inl (cI, 102, .inl (fun _ => 0)))] H := hP
  have hD : va_D A [(oM, .inr (5, [.int 0, .ref q8, .int 0, .ref q16, .ref q24, .ref q32, .null, .null, .int 0, .int 0, .null, .int 0, .int 0, .int 0, .null, .null, .int 0, .null, .int 0, .int 0, .int 0, .int 0, .int 0])), (q8, .inl (cI, 200, .inl (fun _ => 0))), (q16, .inl (cI, 101, .inl (fun _ => 0))), (q24, .inl (cI, 101, .inl (fun _ => 0))), (q32, .inl (cI, 102, .inl (fun _ => 0))), (q40, .inl (cI, 102, .inl (fun _ => 0)))] := hD
  refine W.widen (k := 5) (n := 606) (Nat.le_of_ble_eq_true rfl) (Nat.le_of_ble_eq_true rfl) ?_
  refine va_putF (D := (dC, dI)) (ci := 5) (v := .ref q40) (ty := (.array .int)) (C := R_Mod) (T := F_Mod) (N := 23) hx hb hts hw_Mod t_Mod t_Mod_ok n_Mod hown hK hP hD hS 0 rfl rfl 6 (by decide) (hts (.fieldLink R_Mod 22 "PageFormsModel" "many" "[I") (by decide +kernel)) (fun _ h9 => h9) rfl hin rfl (by decide +kernel) rfl rfl (Nat.le_of_ble_eq_true rfl) d_Mod_init_42 (fun H locs hP hD hS => ?_)
  have hP : va_P (dC, dI) classes [(oM, .inr (5, [.int 0, .ref q8, .int 0, .ref q16, .ref q24, .ref q32, .ref q40, .null, .int 0, .int 0, .null, .int 0, .int 0, .int 0, .null, .null, .int 0, .null, .int 0, .int 0, .int 0, .int 0, .int 0])), (q8, .inl (cI, 200, .inl (fun _ => 0))), (q16, .inl (cI, 101, .inl (fun _ => 0))), (q24, .inl (cI, 101, .inl (fun _ => 0))), (q32, .inl (cI, 102, .inl (fun _ => 0))), (q40, .inl (cI, 102, .inl (fun _ => 0)))] H := hP
  have hD : va_D A [(oM, .inr (5, [.int 0, .ref q8, .int 0, .ref q16, .ref q24, .ref q32, .ref q40, .null, .int 0, .int 0, .null, .int 0, .int 0, .int 0, .null, .null, .int 0, .null, .int 0, .int 0, .int 0, .int 0, .int 0])), (q8, .inl (cI, 200, .inl (fun _ => 0))), (q16, .inl (cI, 101, .inl (fun _ => 0))), (q24, .inl (cI, 101, .inl (fun _ => 0))), (q32, .inl (cI, 102, .inl (fun _ => 0))), (q40, .inl (cI, 102, .inl (fun _ => 0)))] := hD
  refine lv_aload_n hx hb d_Mod_init_45 rfl (lv_at hl 0 rfl) ?_
  refine lv_bipush (v := 101) hx hb d_Mod_init_46 (by decide) ?_
  have hkc48 : 5 + 1 ≤ (headSpec w_Mod_init ({ frames := 1, cells := 10, slots := 960, locals := 12 })).room.cells := Nat.le_of_ble_eq_true rfl
  have hks48 : 606 + 101 ≤ (headSpec w_Mod_init ({ frames := 1, cells := 10, slots := 960, locals := 12 })).room.slots := Nat.le_of_ble_eq_true rfl
  refine va_newa (atype := .int) (ty := .int) (N' := 101) (a0 := (101, .inl (fun _ => 0))) hx hb (hts (.arrayClass .int) (by decide +kernel)) rfl hK hP hD hS hA (fun _ => vp_cell_i _ _ _) (by decide) (by decide) (by decide) hkc48 hks48 d_Mod_init_48 (fun q48 cN H hK hP hD hS => ?_)
  obtain rfl : cI = cN := (xi_same (i := 0) (j := 2) hK rfl rfl).symm
  have hK := hK.sub (tys' := [(cI, .int), (cZ, .boolean)]) [0, 1] rfl
  have hP : va_P (dC, dI) classes [(oM, .inr (5, [.int 0, .ref q8, .int 0, .ref q16, .ref q24, .ref q32, .ref q40, .null, .int 0, .int 0, .null, .int 0, .int 0, .int 0, .null, .null, .int 0, .null, .int 0, .int 0, .int 0, .int 0, .int 0])), (q8, .inl (cI, 200, .inl (fun _ => 0))), (q16, .inl (cI, 101, .inl (fun _ => 0))), (q24, .inl (cI, 101, .inl (fun _ => 0))), (q32, .inl (cI, 102, .inl (fun _ => 0))), (q40, .inl (cI, 102, .inl (fun _ => 0))), (q48, .inl (cI, 101, .inl (fun _ => 0)))] H := hP
  have hD : va_D A [(oM, .inr (5, [.int 0, .ref q8, .int 0, .ref q16, .ref q24, .ref q32, .ref q40, .null, .int 0, .int 0, .null, .int 0, .int 0, .int 0, .null, .null, .int 0, .null, .int 0, .int 0, .int 0, .int 0, .int 0])), (q8, .inl (cI, 200, .inl (fun _ => 0))), (q16, .inl (cI, 101, .inl (fun _ => 0))), (q24, .inl (cI, 101, .inl (fun _ => 0))), (q32, .inl (cI, 102, .inl (fun _ => 0))), (q40, .inl (cI, 102, .inl (fun _ => 0))), (q48, .inl (cI, 101, .inl (fun _ => 0)))] := hD
  refine W.widen (k := 6) (n := 707) (Nat.le_of_ble_eq_true rfl) (Nat.le_of_ble_eq_true rfl) ?_
  refine va_putF (D := (dC, dI)) (ci := 5) (v := .ref q48) (ty := (.array .int)) (C := R_Mod) (T := F_Mod) (N := 23) hx hb hts hw_Mod t_Mod t_Mod_ok n_Mod hown hK hP hD hS 0 rfl rfl 7 (by decide) (hts (.fieldLink R_Mod 25 "PageFormsModel" "first" "[I") (by decide +kernel)) (fun _ h9 => h9) rfl hin rfl (by decide +kernel) rfl rfl (Nat.le_of_ble_eq_true rfl) d_Mod_init_50 (fun H locs hP hD hS => ?_)
  have hP : va_P (dC, dI) classes [(oM, .inr (5, [.int 0, .ref q8, .int 0, .ref q16, .ref q24, .ref q32, .ref q40, .ref q48, .int 0, .int 0, .null, .int 0, .int 0, .int 0, .null, .null, .int 0, .null, .int 0, .int 0, .int 0, .int 0, .int 0])), (q8, .inl (cI, 200, .inl (fun _ => 0))), (q16, .inl (cI, 101, .inl (fun _ => 0))), (q24, .inl (cI, 101, .inl (fun _ => 0))), (q32, .inl (cI, 102, .inl (fun _ => 0))), (q40, .inl (cI, 102, .inl (fun _ => 0))), (q48, .inl (cI, 101, .inl (fun _ => 0)))] H := hP
  have hD : va_D A [(oM, .inr (5, [.int 0, .ref q8, .int 0, .ref q16, .ref q24, .ref q32, .ref q40, .ref q48, .int 0, .int 0, .null, .int 0, .int 0, .int 0, .null, .null, .int 0, .null, .int 0, .int 0, .int 0, .int 0, .int 0])), (q8, .inl (cI, 200, .inl (fun _ => 0))), (q16, .inl (cI, 101, .inl (fun _ => 0))), (q24, .inl (cI, 101, .inl (fun _ => 0))), (q32, .inl (cI, 102, .inl (fun _ => 0))), (q40, .inl (cI, 102, .inl (fun _ => 0))), (q48, .inl (cI, 101, .inl (fun _ => 0)))] := hD
  refine lv_aload_n hx hb d_Mod_init_53 rfl (lv_at hl 0 rfl) ?_
  refine lv_bipush (v := 60) hx hb d_Mod_init_54 (by decide) ?_
  have hkc56 : 6 + 1 ≤ (headSpec w_Mod_init ({ frames := 1, cells := 10, slots := 960, locals := 12 })).room.cells := Nat.le_of_ble_eq_true rfl
  have hks56 : 707 + 60 ≤ (headSpec w_Mod_init ({ frames := 1, cells := 10, slots := 960, locals := 12 })).room.slots := Nat.le_of_ble_eq_true rfl
  refine va_newa (atype := .int) (ty := .int) (N' := 60) (a0 := (60, .inl (fun _ => 0))) hx hb (hts (.arrayClass .int) (by decide +kernel)) rfl hK hP hD hS hA (fun _ => vp_cell_i _ _ _) (by decide) (by decide) (by decide) hkc56 hks56 d_Mod_init_56 (fun q56 cN H hK hP hD hS => ?_)
  obtain rfl : cI = cN := (xi_same (i := 0) (j := 2) hK rfl rfl).symm
  have hK := hK.sub (tys' := [(cI, .int), (cZ, .boolean)]) [0, 1] rfl
  have hP : va_P (dC, dI) classes [(oM, .inr (5, [.int 0, .ref q8, .int 0, .ref q16, .ref q24, .ref q32, .ref q40, .ref q48, .int 0, .int 0, .null, .int 0, .int 0, .int 0, .null, .null, .int 0, .null, .int 0, .int 0, .int 0, .int 0, .int 0])), (q8, .inl (cI, 200, .inl (fun _ => 0))), (q16, .inl (cI, 101, .inl (fun _ => 0))), (q24, .inl (cI, 101, .inl (fun _ => 0))), (q32, .inl (cI, 102, .inl (fun _ => 0))), (q40, .inl (cI, 102, .inl (fun _ => 0))), (q48, .inl (cI, 101, .inl (fun _ => 0))), (q56, .inl (cI, 60, .inl (fun _ => 0)))] H := hP
  have hD : va_D A [(oM, .inr (5, [.int 0, .ref q8, .int 0, .ref q16, .ref q24, .ref q32, .ref q40, .ref q48, .int 0, .int 0, .null, .int 0, .int 0, .int 0, .null, .null, .int 0, .null, .int 0, .int 0, .int 0, .int 0, .int 0])), (q8, .inl (cI, 200, .inl (fun _ => 0))), (q16, .inl (cI, 101, .inl (fun _ => 0))), (q24, .inl (cI, 101, .inl (fun _ => 0))), (q32, .inl (cI, 102, .inl (fun _ => 0))), (q40, .inl (cI, 102, .inl (fun _ => 0))), (q48, .inl (cI, 101, .inl (fun _ => 0))), (q56, .inl (cI, 60, .inl (fun _ => 0)))] := hD
  refine W.widen (k := 7) (n := 767) (Nat.le_of_ble_eq_true rfl) (Nat.le_of_ble_eq_true rfl) ?_
  refine va_putF (D := (dC, dI)) (ci := 5) (v := .ref q56) (ty := (.array .int)) (C := R_Mod) (T := F_Mod) (N := 23) hx hb hts hw_Mod t_Mod t_Mod_ok n_Mod hown hK hP hD hS 0 rfl rfl 10 (by decide) (hts (.fieldLink R_Mod 28 "PageFormsModel" "height" "[I") (by decide +kernel)) (fun _ h9 => h9) rfl hin rfl (by decide +kernel) rfl rfl (Nat.le_of_ble_eq_true rfl) d_Mod_init_58 (fun H locs hP hD hS => ?_)
  have hP : va_P (dC, dI) classes [(oM, .inr (5, [.int 0, .ref q8, .int 0, .ref q16, .ref q24, .ref q32, .ref q40, .ref q48, .int 0, .int 0, .ref q56, .int 0, .int 0, .int 0, .null, .null, .int 0, .null, .int 0, .int 0, .int 0, .int 0, .int 0])), (q8, .inl (cI, 200, .inl (fun _ => 0))), (q16, .inl (cI, 101, .inl (fun _ => 0))), (q24, .inl (cI, 101, .inl (fun _ => 0))), (q32, .inl (cI, 102, .inl (fun _ => 0))), (q40, .inl (cI, 102, .inl (fun _ => 0))), (q48, .inl (cI, 101, .inl (fun _ => 0))), (q56, .inl (cI, 60, .inl (fun _ => 0)))] H := hP
  have hD : va_D A [(oM, .inr (5, [.int 0, .ref q8, .int 0, .ref q16, .ref q24, .ref q32, .ref q40, .ref q48, .int 0, .int 0, .ref q56, .int 0, .int 0, .int 0, .null, .null, .int 0, .null, .int 0, .int 0, .int 0, .int 0, .int 0])), (q8, .inl (cI, 200, .inl (fun _ => 0))), (q16, .inl (cI, 101, .inl (fun _ => 0))), (q24, .inl (cI, 101, .inl (fun _ => 0))), (q32, .inl (cI, 102, .inl (fun _ => 0))), (q40, .inl (cI, 102, .inl (fun _ => 0))), (q48, .inl (cI, 101, .inl (fun _ => 0))), (q56, .inl (cI, 60, .inl (fun _ => 0)))] := hD
  refine lv_aload_n hx hb d_Mod_init_61 rfl (lv_at hl 0 rfl) ?_
  refine lv_iconst (v := 1) hx hb d_Mod_init_62 (by decide) ?_
  refine va_put (D := (dC, dI)) (ci := 5) (v := .int 1) (ty := .int) (C := R_Mod) (T := F_Mod) (N := 23) hx hb hts hw_Mod t_Mod t_Mod_ok n_Mod hown hK hP hD hS 0 rfl rfl 12 (by decide) (hts (.fieldLink R_Mod 31 "PageFormsModel" "width" "I") (by decide +kernel)) (fun _ h9 => h9) rfl (by decide +kernel) rfl rfl (Nat.le_of_ble_eq_true rfl) d_Mod_init_63 (fun H locs hP hD hS => ?_)
  have hP : va_P (dC, dI) classes [(oM, .inr (5, [.int 0, .ref q8, .int 0, .ref q16, .ref q24, .ref q32, .ref q40, .ref q48, .int 0, .int 0, .ref q56, .int 0, .int 1, .int 0, .null, .null, .int 0, .null, .int 0, .int 0, .int 0, .int 0, .int 0])), (q8, .inl (cI, 200, .inl (fun _ => 0))), (q16, .inl (cI, 101, .inl (fun _ => 0))), (q24, .inl (cI, 101, .inl (fun _ => 0))), (q32, .inl (cI, 102, .inl (fun _ => 0))), (q40, .inl (cI, 102, .inl (fun _ => 0))), (q48, .inl (cI, 101, .inl (fun _ => 0))), (q56, .inl (cI, 60, .inl (fun _ => 0)))] H := hP
  have hD : va_D A [(oM, .inr (5, [.int 0, .ref q8, .int 0, .ref q16, .ref q24, .ref q32, .ref q40, .ref q48, .int 0, .int 0, .ref q56, .int 0, .int 1, .int 0, .null, .null, .int 0, .null, .int 0, .int 0, .int 0, .int 0, .int 0])), (q8, .inl (cI, 200, .inl (fun _ => 0))), (q16, .inl (cI, 101, .inl (fun _ => 0))), (q24, .inl (cI, 101, .inl (fun _ => 0))), (q32, .inl (cI, 102, .inl (fun _ => 0))), (q40, .inl (cI, 102, .inl (fun _ => 0))), (q48, .inl (cI, 101, .inl (fun _ => 0))), (q56, .inl (cI, 60, .inl (fun _ => 0)))] := hD
  refine lv_aload_n hx hb d_Mod_init_66 rfl (lv_at hl 0 rfl) ?_
  refine lv_iconst (v := 1) hx hb d_Mod_init_67 (by decide) ?_
  refine va_put (D := (dC, dI)) (ci := 5) (v := .int 1) (ty := .int) (C := R_Mod) (T := F_Mod) (N := 23) hx hb hts hw_Mod t_Mod t_Mod_ok n_Mod hown hK hP hD hS 0 rfl rfl 13 (by decide) (hts (.fieldLink R_Mod 35 "PageFormsModel" "high" "I") (by decide +kernel)) (fun _ h9 => h9) rfl (by decide +kernel) rfl rfl (Nat.le_of_ble_eq_true rfl) d_Mod_init_68 (fun H locs hP hD hS => ?_)
  have hP : va_P (dC, dI) classes [(oM, .inr (5, [.int 0, .ref q8, .int 0, .ref q16, .ref q24, .ref q32, .ref q40, .ref q48, .int 0, .int 0, .ref q56, .int 0, .int 1, .int 1, .null, .null, .int 0, .null, .int 0, .int 0, .int 0, .int 0, .int 0])), (q8, .inl (cI, 200, .inl (fun _ => 0))), (q16, .inl (cI, 101, .inl (fun _ => 0))), (q24, .inl (cI, 101, .inl (fun _ => 0))), (q32, .inl (cI, 102, .inl (fun _ => 0))), (q40, .inl (cI, 102, .inl (fun _ => 0))), (q48, .inl (cI, 101, .inl (fun _ => 0))), (q56, .inl (cI, 60, .inl (fun _ => 0)))] H := hP
  have hD : va_D A [(oM, .inr (5, [.int 0, .ref q8, .int 0, .ref q16, .ref q24, .ref q32, .ref q40, .ref q48, .int 0, .int 0, .ref q56, .int 0, .int 1, .int 1, .null, .null, .int 0, .null, .int 0, .int 0, .int 0, .int 0, .int 0])), (q8, .inl (cI, 200, .inl (fun _ => 0))), (q16, .inl (cI, 101, .inl (fun _ => 0))), (q24, .inl (cI, 101, .inl (fun _ => 0))), (q32, .inl (cI, 102, .inl (fun _ => 0))), (q40, .inl (cI, 102, .inl (fun _ => 0))), (q48, .inl (cI, 101, .inl (fun _ => 0))), (q56, .inl (cI, 60, .inl (fun _ => 0)))] := hD
  refine lv_aload_n hx hb d_Mod_init_71 rfl (lv_at hl 0 rfl) ?_
  refine lv_bipush (v := 64) hx hb d_Mod_init_72 (by decide) ?_
  have hkc74 : 7 + 1 ≤ (headSpec w_Mod_init ({ frames := 1, cells := 10, slots := 960, locals := 12 })).room.cells := Nat.le_of_ble_eq_true rfl
  have hks74 : 767 + 64 ≤ (headSpec w_Mod_init ({ frames := 1, cells := 10, slots := 960, locals := 12 })).room.slots := Nat.le_of_ble_eq_true rfl
  refine va_newa (atype := .int) (ty := .int) (N' := 64) (a0 := (64, .inl (fun _ => 0))) hx hb (hts (.arrayClass .int) (by decide +kernel)) rfl hK hP hD hS hA (fun _ => vp_cell_i _ _ _) (by decide) (by decide) (by decide) hkc74 hks74 d_Mod_init_74 (fun q74 cN H hK hP hD hS => ?_)
  obtain rfl : cI = cN := (xi_same (i := 0) (j := 2) hK rfl rfl).symm
  have hK := hK.sub (tys' := [(cI, .int), (cZ, .boolean)]) [0, 1] rfl
  have hP : va_P (dC, dI) classes [(oM, .inr (5, [.int 0, .ref q8, .int 0, .ref q16, .ref q24, .ref q32, .ref q40, .ref q48, .int 0, .int 0, .ref q56, .int 0, .int 1, .int 1, .null, .null, .int 0, .null, .int 0, .int 0, .int 0, .int 0, .int 0])), (q8, .inl (cI, 200, .inl (fun _ => 0))), (q16, .inl (cI, 101, .inl (fun _ => 0))), (q24, .inl (cI, 101, .inl (fun _ => 0))), (q32, .inl (cI, 102, .inl (fun _ => 0))), (q40, .inl (cI, 102, .inl (fun _ => 0))), (q48, .inl (cI, 101, .inl (fun _ => 0))), (q56, .inl (cI, 60, .inl (fun _ => 0))), (q74, .inl (cI, 64, .inl (fun _ => 0)))] H := hP
  have hD : va_D A [(oM, .inr (5, [.int 0, .ref q8, .int 0, .ref q16, .ref q24, .ref q32, .ref q40, .ref q48, .int 0, .int 0, .ref q56, .int 0, .int 1, .int 1, .null, .null, .int 0, .null, .int 0, .int 0, .int 0, .int 0, .int 0])), (q8, .inl (cI, 200, .inl (fun _ => 0))), (q16, .inl (cI, 101, .inl (fun _ => 0))), (q24, .inl (cI, 101, .inl (fun _ => 0))), (q32, .inl (cI, 102, .inl (fun _ => 0))), (q40, .inl (cI, 102, .inl (fun _ => 0))), (q48, .inl (cI, 101, .inl (fun _ => 0))), (q56, .inl (cI, 60, .inl (fun _ => 0))), (q74, .inl (cI, 64, .inl (fun _ => 0)))] := hD
  refine W.widen (k := 8) (n := 831) (Nat.le_of_ble_eq_true rfl) (Nat.le_of_ble_eq_true rfl) ?_
  refine va_putF (D := (dC, dI)) (ci := 5) (v := .ref q74) (ty := (.array .int)) (C := R_Mod) (T := F_Mod) (N := 23) hx hb hts hw_Mod t_Mod t_Mod_ok n_Mod hown hK hP hD hS 0 rfl rfl 14 (by decide) (hts (.fieldLink R_Mod 38 "PageFormsModel" "cages" "[I") (by decide +kernel)) (fun _ h9 => h9) rfl hin rfl (by decide +kernel) rfl rfl (Nat.le_of_ble_eq_true rfl) d_Mod_init_76 (fun H locs hP hD hS => ?_)
  have hP : va_P (dC, dI) classes [(oM, .inr (5, [.int 0, .ref q8, .int 0, .ref q16, .ref q24, .ref q32, .ref q40, .ref q48, .int 0, .int 0, .ref q56, .int 0, .int 1, .int 1, .ref q74, .null, .int 0, .null, .int 0, .int 0, .int 0, .int 0, .int 0])), (q8, .inl (cI, 200, .inl (fun _ => 0))), (q16, .inl (cI, 101, .inl (fun _ => 0))), (q24, .inl (cI, 101, .inl (fun _ => 0))), (q32, .inl (cI, 102, .inl (fun _ => 0))), (q40, .inl (cI, 102, .inl (fun _ => 0))), (q48, .inl (cI, 101, .inl (fun _ => 0))), (q56, .inl (cI, 60, .inl (fun _ => 0))), (q74, .inl (cI, 64, .inl (fun _ => 0)))] H := hP
  have hD : va_D A [(oM, .inr (5, [.int 0, .ref q8, .int 0, .ref q16, .ref q24, .ref q32, .ref q40, .ref q48, .int 0, .int 0, .ref q56, .int 0, .int 1, .int 1, .ref q74, .null, .int 0, .null, .int 0, .int 0, .int 0, .int 0, .int 0])), (q8, .inl (cI, 200, .inl (fun _ => 0))), (q16, .inl (cI, 101, .inl (fun _ => 0))), (q24, .inl (cI, 101, .inl (fun _ => 0))), (q32, .inl (cI, 102, .inl (fun _ => 0))), (q40, .inl (cI, 102, .inl (fun _ => 0))), (q48, .inl (cI, 101, .inl (fun _ => 0))), (q56, .inl (cI, 60, .inl (fun _ => 0))), (q74, .inl (cI, 64, .inl (fun _ => 0)))] := hD
  refine lv_aload_n hx hb d_Mod_init_79 rfl (lv_at hl 0 rfl) ?_
  refine lv_bipush (v := 12) hx hb d_Mod_init_80 (by decide) ?_
  have hkc82 : 8 + 1 ≤ (headSpec w_Mod_init ({ frames := 1, cells := 10, slots := 960, locals := 12 })).room.cells := Nat.le_of_ble_eq_true rfl
  have hks82 : 831 + 12 ≤ (headSpec w_Mod_init ({ frames := 1, cells := 10, slots := 960, locals := 12 })).room.slots := Nat.le_of_ble_eq_true rfl
  refine va_newa (atype := .int) (ty := .int) (N' := 12) (a0 := (12, .inl (fun _ => 0))) hx hb (hts (.arrayClass .int) (by decide +kernel)) rfl hK hP hD hS hA (fun _ => vp_cell_i _ _ _) (by decide) (by decide) (by decide) hkc82 hks82 d_Mod_init_82 (fun q82 cN H hK hP hD hS => ?_)
  obtain rfl : cI = cN := (xi_same (i := 0) (j := 2) hK rfl rfl).symm
  have hK := hK.sub (tys' := [(cI, .int), (cZ, .boolean)]) [0, 1] rfl
  have hP : va_P (dC, dI) classes [(oM, .inr (5, [.int 0, .ref q8, .int 0, .ref q16, .ref q24, .ref q32, .ref q40, .ref q48, .int 0, .int 0, .ref q56, .int 0, .int 1, .int 1, .ref q74, .null, .int 0, .null, .int 0, .int 0, .int 0, .int 0, .int 0])), (q8, .inl (cI, 200, .inl (fun _ => 0))), (q16, .inl (cI, 101, .inl (fun _ => 0))), (q24, .inl (cI, 101, .inl (fun _ => 0))), (q32, .inl (cI, 102, .inl (fun _ => 0))), (q40, .inl (cI, 102, .inl (fun _ => 0))), (q48, .inl (cI, 101, .inl (fun _ => 0))), (q56, .inl (cI, 60, .inl (fun _ => 0))), (q74, .inl (cI, 64, .inl (fun _ => 0))), (q82, .inl (cI, 12, .inl (fun _ => 0)))] H := hP
  have hD : va_D A [(oM, .inr (5, [.int 0, .ref q8, .int 0, .ref q16, .ref q24, .ref q32, .ref q40, .ref q48, .int 0, .int 0, .ref q56, .int 0, .int 1, .int 1, .ref q74, .null, .int 0, .null, .int 0, .int 0, .int 0, .int 0, .int 0])), (q8, .inl (cI, 200, .inl (fun _ => 0))), (q16, .inl (cI, 101, .inl (fun _ => 0))), (q24, .inl (cI, 101, .inl (fun _ => 0))), (q32, .inl (cI, 102, .inl (fun _ => 0))), (q40, .inl (cI, 102, .inl (fun _ => 0))), (q48, .inl (cI, 101, .inl (fun _ => 0))), (q56, .inl (cI, 60, .inl (fun _ => 0))), (q74, .inl (cI, 64, .inl (fun _ => 0))), (q82, .inl (cI, 12, .inl (fun _ => 0)))] := hD
  refine W.widen (k := 9) (n := 843) (Nat.le_of_ble_eq_true rfl) (Nat.le_of_ble_eq_true rfl) ?_
  refine va_putF (D := (dC, dI)) (ci := 5) (v := .ref q82) (ty := (.array .int)) (C := R_Mod) (T := F_Mod) (N := 23) hx hb hts hw_Mod t_Mod t_Mod_ok n_Mod hown hK hP hD hS 0 rfl rfl 15 (by decide) (hts (.fieldLink R_Mod 41 "PageFormsModel" "told" "[I") (by decide +kernel)) (fun _ h9 => h9) rfl hin rfl (by decide +kernel) rfl rfl (Nat.le_of_ble_eq_true rfl) d_Mod_init_84 (fun H locs hP hD hS => ?_)
  have hP : va_P (dC, dI) classes [(oM, .inr (5, [.int 0, .ref q8, .int 0, .ref q16, .ref q24, .ref q32, .ref q40, .ref q48, .int 0, .int 0, .ref q56, .int 0, .int 1, .int 1, .ref q74, .ref q82, .int 0, .null, .int 0, .int 0, .int 0, .int 0, .int 0])), (q8, .inl (cI, 200, .inl (fun _ => 0))), (q16, .inl (cI, 101, .inl (fun _ => 0))), (q24, .inl (cI, 101, .inl (fun _ => 0))), (q32, .inl (cI, 102, .inl (fun _ => 0))), (q40, .inl (cI, 102, .inl (fun _ => 0))), (q48, .inl (cI, 101, .inl (fun _ => 0))), (q56, .inl (cI, 60, .inl (fun _ => 0))), (q74, .inl (cI, 64, .inl (fun _ => 0))), (q82, .inl (cI, 12, .inl (fun _ => 0)))] H := hP
  have hD : va_D A [(oM, .inr (5, [.int 0, .ref q8, .int 0, .ref q16, .ref q24, .ref q32, .ref q40, .ref q48, .int 0, .int 0, .ref q56, .int 0, .int 1, .int 1, .ref q74, .ref q82, .int 0, .null, .int 0, .int 0, .int 0, .int 0, .int 0])), (q8, .inl (cI, 200, .inl (fun _ => 0))), (q16, .inl (cI, 101, .inl (fun _ => 0))), (q24, .inl (cI, 101, .inl (fun _ => 0))), (q32, .inl (cI, 102, .inl (fun _ => 0))), (q40, .inl (cI, 102, .inl (fun _ => 0))), (q48, .inl (cI, 101, .inl (fun _ => 0))), (q56, .inl (cI, 60, .inl (fun _ => 0))), (q74, .inl (cI, 64, .inl (fun _ => 0))), (q82, .inl (cI, 12, .inl (fun _ => 0)))] := hD
  refine lv_aload_n hx hb d_Mod_init_87 rfl (lv_at hl 0 rfl) ?_
  refine lv_bipush (v := 117) hx hb d_Mod_init_88 (by decide) ?_
  have hkc90 : 9 + 1 ≤ (headSpec w_Mod_init ({ frames := 1, cells := 10, slots := 960, locals := 12 })).room.cells := Nat.le_of_ble_eq_true rfl
  have hks90 : 843 + 117 ≤ (headSpec w_Mod_init ({ frames := 1, cells := 10, slots := 960, locals := 12 })).room.slots := Nat.le_of_ble_eq_true rfl
  refine va_newa (atype := .boolean) (ty := .boolean) (N' := 117) (a0 := (117, .inl (fun _ => 0))) hx hb (hts (.arrayClass .boolean) (by decide +kernel)) rfl hK hP hD hS hA (fun _ => vp_cell_i _ _ _) (by decide) (by decide) (by decide) hkc90 hks90 d_Mod_init_90 (fun q90 cN H hK hP hD hS => ?_)
  obtain rfl : cZ = cN := (xi_samez (i := 1) (j := 2) hK rfl rfl).symm
  have hK := hK.sub (tys' := [(cI, .int), (cZ, .boolean)]) [0, 1] rfl
  have hP : va_P (dC, dI) classes [(oM, .inr (5, [.int 0, .ref q8, .int 0, .ref q16, .ref q24, .ref q32, .ref q40, .ref q48, .int 0, .int 0, .ref q56, .int 0, .int 1, .int 1, .ref q74, .ref q82, .int 0, .null, .int 0, .int 0, .int 0, .int 0, .int 0])), (q8, .inl (cI, 200, .inl (fun _ => 0))), (q16, .inl (cI, 101, .inl (fun _ => 0))), (q24, .inl (cI, 101, .inl (fun _ => 0))), (q32, .inl (cI, 102, .inl (fun _ => 0))), (q40, .inl (cI, 102, .inl (fun _ => 0))), (q48, .inl (cI, 101, .inl (fun _ => 0))), (q56, .inl (cI, 60, .inl (fun _ => 0))), (q74, .inl (cI, 64, .inl (fun _ => 0))), (q82, .inl (cI, 12, .inl (fun _ => 0))), (q90, .inl (cZ, 117, .inl (fun _ => 0)))] H := hP
  have hD : va_D A [(oM, .inr (5, [.int 0, .ref q8, .int 0, .ref q16, .ref q24, .ref q32, .ref q40, .ref q48, .int 0, .int 0, .ref q56, .int 0, .int 1, .int 1, .ref q74, .ref q82, .int 0, .null, .int 0, .int 0, .int 0, .int 0, .int 0])), (q8, .inl (cI, 200, .inl (fun _ => 0))), (q16, .inl (cI, 101, .inl (fun _ => 0))), (q24, .inl (cI, 101, .inl (fun _ => 0))), (q32, .inl (cI, 102, .inl (fun _ => 0))), (q40, .inl (cI, 102, .inl (fun _ => 0))), (q48, .inl (cI, 101, .inl (fun _ => 0))), (q56, .inl (cI, 60, .inl (fun _ => 0))), (q74, .inl (cI, 64, .inl (fun _ => 0))), (q82, .inl (cI, 12, .inl (fun _ => 0))), (q90, .inl (cZ, 117, .inl (fun _ => 0)))] := hD
  refine W.widen (k := 10) (n := 960) (Nat.le_of_ble_eq_true rfl) (Nat.le_of_ble_eq_true rfl) ?_
  refine va_putF (D := (dC, dI)) (ci := 5) (v := .ref q90) (ty := (.array .boolean)) (C := R_Mod) (T := F_Mod) (N := 23) hx hb hts hw_Mod t_Mod t_Mod_ok n_Mod hown hK hP hD hS 0 rfl rfl 17 (by decide) (hts (.fieldLink R_Mod 44 "PageFormsModel" "turned" "[Z") (by decide +kernel)) (fun _ h9 => h9) rfl hin rfl (by decide +kernel) rfl rfl (Nat.le_of_ble_eq_true rfl) d_Mod_init_92 (fun H locs hP hD hS => ?_)
  have hP : va_P (dC, dI) classes [(oM, .inr (5, [.int 0, .ref q8, .int 0, .ref q16, .ref q24, .ref q32, .ref q40, .ref q48, .int 0, .int 0, .ref q56, .int 0, .int 1, .int 1, .ref q74, .ref q82, .int 0, .ref q90, .int 0, .int 0, .int 0, .int 0, .int 0])), (q8, .inl (cI, 200, .inl (fun _ => 0))), (q16, .inl (cI, 101, .inl (fun _ => 0))), (q24, .inl (cI, 101, .inl (fun _ => 0))), (q32, .inl (cI, 102, .inl (fun _ => 0))), (q40, .inl (cI, 102, .inl (fun _ => 0))), (q48, .inl (cI, 101, .inl (fun _ => 0))), (q56, .inl (cI, 60, .inl (fun _ => 0))), (q74, .inl (cI, 64, .inl (fun _ => 0))), (q82, .inl (cI, 12, .inl (fun _ => 0))), (q90, .inl (cZ, 117, .inl (fun _ => 0)))] H := hP
  have hD : va_D A [(oM, .inr (5, [.int 0, .ref q8, .int 0, .ref q16, .ref q24, .ref q32, .ref q40, .ref q48, .int 0, .int 0, .ref q56, .int 0, .int 1, .int 1, .ref q74, .ref q82, .int 0, .ref q90, .int 0, .int 0, .int 0, .int 0, .int 0])), (q8, .inl (cI, 200, .inl (fun _ => 0))), (q16, .inl (cI, 101, .inl (fun _ => 0))), (q24, .inl (cI, 101, .inl (fun _ => 0))), (q32, .inl (cI, 102, .inl (fun _ => 0))), (q40, .inl (cI, 102, .inl (fun _ => 0))), (q48, .inl (cI, 101, .inl (fun _ => 0))), (q56, .inl (cI, 60, .inl (fun _ => 0))), (q74, .inl (cI, 64, .inl (fun _ => 0))), (q82, .inl (cI, 12, .inl (fun _ => 0))), (q90, .inl (cZ, 117, .inl (fun _ => 0)))] := hD
  refine W.widen (k := 10) (n := 960) (Nat.le_of_ble_eq_true rfl) (Nat.le_of_ble_eq_true rfl) ?_
  exact W.vret hx hb hr (fun t ht hW => ⟨⟨(), rfl, (show True from trivial), q8, q16, q24, q32, q40, q48, q56, q74, q82, q90, by rw [ht]; exact hP, va_K.moved hW.alike hK, hD⟩, hS.F ht⟩) hS.2.2 d_Mod_init_95

set_option maxHeartbeats 4000000 in
set_option maxRecDepth 100000 in
theorem k_Mod_within (l : Launch) (dC : Nat → ClassId) (dI : Nat → Nat → Nat) (cI cZ : ClassId) (sz : Nat) (p0 : Int32) (p1 : Int32) (p2 : Int32) : Met l y_Mod_within w_Mod_within ({ frames := 0, cells := 0, slots := 0, locals := 0 }) (va_Pc [.int p0, .int p1, .int p2] (fun U => U.heap.size = sz ∧ va_P (dC, dI) classes [] U.heap ∧ va_K (dC, dI) classes [(cI, .int), (cZ, .boolean)] U ∧ va_D (fun _ => True) [])) (va_Qi (fun (r : Int32) (u : Unit) => (r.toInt = 1 ∧ p1.toInt ≤ p0.toInt ∧ p0.toInt ≤ p2.toInt) ∨ (r.toInt = 0 ∧ (p0.toInt < p1.toInt ∨ p2.toInt < p0.toInt))) (fun (u : Unit) (t : State) => va_P (dC, dI) classes [] t.heap ∧ va_K (dC, dI) classes [(cI, .int), (cZ, .boolean)] t ∧ va_D (va_A [] sz) []) (va_A [] sz)) 0 0 (va_A [] sz) := by
  refine Met.ofW (cc := b_Mod_within) (maxL := 3) (ret := (some .boolean)) (by decide) rfl ?_
  intro p e s m args below meth c s₁ B hml hv
  obtain ⟨rfl, hsz, hP, hK, hD0⟩ := hv
  have hx := B.exec
  have hb := B.bytes
  have hr := B.returns
  have hts := atoms_spec (ws := w_Mod_within) B.pre
  have hown : s.vm.findClass R_Mod = some m.cls := findClass_of_methodNamed B.named
  have hlocks := B.notSynchronized
  subst hsz
  have hD := hD0.self (sz := s.heap.size)
  generalize hAe : va_A [] s.heap.size = A at hD ⊢
  have hA : ∀ q : Nat, s.heap.size ≤ q → A q := fun q h => by rw [← hAe]; exact Or.inr h
  have hS : va_S A s.heap s.heap [] := va_S.rf
  have hP : va_P (dC, dI) classes [] s.heap := hP
  have hl := lv_entry ([.int p0, .int p1, .int p2]) (n := 3) (Nat.le_of_ble_eq_true rfl)
  rw [lg_entry_eq]
  generalize (lg_sl ([.int p0, .int p1, .int p2]) ++ List.replicate (3 - (lg_sl ([.int p0, .int p1, .int p2])).length) Slot.unset).toArray = ls at hl ⊢
  have hl : lv_has ls 3 [(0, .int p0), (1, .int p1), (2, .int p2)] := hl
  refine lv_iload_n hx hb d_Mod_within_0 rfl (lv_at hl 0 rfl) ?_
  refine lv_iload_n hx hb d_Mod_within_1 rfl (lv_at hl 1 rfl) ?_
  refine xi_icmp_lt (tgt := 14) hx hb (rfl) (rfl) d_Mod_within_2 (by decide) (fun c2 => ?_) (fun c2 => ?_)
  · refine lv_iconst (v := 0) hx hb d_Mod_within_14 (by decide) ?_
    exact W.zret (v := 0) hx hb hr rfl (fun t ht hW => ⟨⟨0, (), rfl, (show (0 = 1 ∧ p1.toInt ≤ p0.toInt ∧ p0.toInt ≤ p2.toInt) ∨ (0 = 0 ∧ (p0.toInt < p1.toInt ∨ p2.toInt < p0.toInt)) from (by first | exact Or.inl ⟨by decide, by omega, by omega⟩ | exact Or.inr ⟨by decide, by omega⟩)), by rw [ht]; exact hP, va_K.moved hW.alike hK, hD⟩, hS.F ht⟩) hS.2.2 d_Mod_within_15
  · refine lv_iload_n hx hb d_Mod_within_5 rfl (lv_at hl 0 rfl) ?_
    refine lv_iload_n hx hb d_Mod_within_6 rfl (lv_at hl 2 rfl) ?_
    refine xi_icmp_gt (tgt := 14) hx hb (rfl) (rfl) d_Mod_within_7 (by decide) (fun c7 => ?_) (fun c7 => ?_)
    · refine lv_iconst (v := 0) hx hb d_Mod_within_14 (by decide) ?_
      exact W.zret (v := 0) hx hb hr rfl (fun t ht hW => ⟨⟨0, (), rfl, (show (0 = 1 ∧ p1.toInt ≤ p0.toInt ∧ p0.toInt ≤ p2.toInt) ∨ (0 = 0 ∧ (p0.toInt < p1.toInt ∨ p2.toInt < p0.toInt)) from (by first | exact Or.inl ⟨by decide, by omega, by omega⟩ | exact Or.inr ⟨by decide, by omega⟩)), by rw [ht]; exact hP, va_K.moved hW.alike hK, hD⟩, hS.F ht⟩) hS.2.2 d_Mod_within_15
    · refine lv_iconst (v := 1) hx hb d_Mod_within_10 (by decide) ?_
      refine lv_goto (tgt := 15) hx hb d_Mod_within_11 (by decide) ?_
      exact W.zret (v := 1) hx hb hr rfl (fun t ht hW => ⟨⟨1, (), rfl, (show (1 = 1 ∧ p1.toInt ≤ p0.toInt ∧ p0.toInt ≤ p2.toInt) ∨ (1 = 0 ∧ (p0.toInt < p1.toInt ∨ p2.toInt < p0.toInt)) from (by first | exact Or.inl ⟨by decide, by omega, by omega⟩ | exact Or.inr ⟨by decide, by omega⟩)), by rw [ht]; exact hP, va_K.moved hW.alike hK, hD⟩, hS.F ht⟩) hS.2.2 d_Mod_within_15

set_option maxHeartbeats 4000000 in
set_option maxRecDepth 100000 in
theorem k_Mod_unit (l : Launch) (dC : Nat → ClassId) (dI : Nat → Nat → Nat) (cI cZ : ClassId) (oM : Nat) (aTx : Nat) (thr : Int32) (siz : Int32) (aBg : Nat) (aEn : Nat) (aLe : Nat) (aMa : Nat) (aFi : Nat) (lnm : Int32) (rsm : Int32) (aHe : Nat) (bxs : Int32) (wdt : Int32) (hgh : Int32) (aCa : Nat) (aTo : Nat) (byn : Int32) (aTu : Nat) (pgm : Int32) (tpm : Int32) (stn : Int32) (lnx : Int32) (lny : Int32) (txt : Nat → Int32) (sz : Nat) (p1 : Int32) (n : Nat) (hn : siz.toInt = (n : Int)) (hn2 : n ≤ 200) : Met l y_Mod_unit w_Mod_unit ({ frames := 1, cells := 0, slots := 0, locals := 22 }) (va_Pc [.ref oM, .int p1] (fun U => U.heap.size = sz ∧ va_P (dC, dI) classes [(oM, .inr (5, [.int thr, .ref aTx, .int siz, .ref aBg, .ref aEn, .ref aLe, .ref aMa, .ref aFi, .int lnm, .int rsm, .ref aHe, .int bxs, .int wdt, .int hgh, .ref aCa, .ref aTo, .int byn, .ref aTu, .int pgm, .int tpm, .int stn, .int lnx, .int lny])), (aTx, .inl (cI, 200, .inl txt))] U.heap ∧ va_K (dC, dI) classes [(cI, .int), (cZ, .boolean)] U ∧ va_D (fun _ => True) [(oM, .inr (5, [.int thr, .ref aTx, .int siz, .ref aBg, .ref aEn, .ref aLe, .ref aMa, .ref aFi, .int lnm, .int rsm, .ref aHe, .int bxs, .int wdt, .int hgh, .ref aCa, .ref aTo, .int byn, .ref aTu, .int pgm, .int tpm, .int stn, .int lnx, .int lny])), (aTx, .inl (cI, 200, .inl txt))])) (va_Qi (fun (r : Int32) (u : Int32 × Int32 × (Nat → Int32)) => mt_unit siz txt p1 r u.2.1 u.2.2) (fun (u : Int32 × Int32 × (Nat → Int32)) (t : State) => va_P (dC, dI) classes [(oM, .inr (5, [.int u.1, .ref aTx, .int u.2.1, .ref aBg, .ref aEn, .ref aLe, .ref aMa, .ref aFi, .int lnm, .int rsm, .ref aHe, .int bxs, .int wdt, .int hgh, .ref aCa, .ref aTo, .int byn, .ref aTu, .int pgm, .int tpm, .int stn, .int lnx, .int lny])), (aTx, .inl (cI, 200, .inl u.2.2))] t.heap ∧ va_K (dC, dI) classes [(cI, .int), (cZ, .boolean)] t ∧ va_D (va_A [(oM, .inr (5, [.int thr, .ref aTx, .int siz, .ref aBg, .ref aEn, .ref aLe, .ref aMa, .ref aFi, .int lnm, .int rsm, .ref aHe, .int bxs, .int wdt, .int hgh, .ref aCa, .ref aTo, .int byn, .ref aTu, .int pgm, .int tpm, .int stn, .int lnx, .int lny])), (aTx, .inl (cI, 200, .inl txt))] sz) [(oM, .inr (5, [.int u.1, .ref aTx, .int u.2.1, .ref aBg, .ref aEn, .ref aLe, .ref aMa, .ref aFi, .int lnm, .int rsm, .ref aHe, .int bxs, .int wdt, .int hgh, .ref aCa, .ref aTo, .int byn, .ref aTu, .int pgm, .int tpm, .int stn, .int lnx, .int lny])), (aTx, .inl (cI, 200, .inl u.2.2))]) (va_A [(oM, .inr (5, [.int thr, .ref aTx, .int siz, .ref aBg, .ref aEn, .ref aLe, .ref aMa, .ref aFi, .int lnm, .int rsm, .ref aHe, .int bxs, .int wdt, .int hgh, .ref aCa, .ref aTo, .int byn, .ref aTu, .int pgm, .int tpm, .int stn, .int lnx, .int lny])), (aTx, .inl (cI, 200, .inl txt))] sz)) 0 0 (va_A [(oM, .inr (5, [.int thr, .ref aTx, .int siz, .ref aBg, .ref aEn, .ref aLe, .ref aMa, .ref aFi, .int lnm, .int rsm, .ref aHe, .int bxs, .int wdt, .int hgh, .ref aCa, .ref aTo, .int byn, .ref aTu, .int pgm, .int tpm, .int stn, .int lnx, .int lny])), (aTx, .inl (cI, 200, .inl txt))] sz) := by
  refine Met.ofW (cc := b_Mod_unit) (maxL := 2) (ret := (some .boolean)) (by decide) rfl ?_
  intro p e s m args below meth c s₁ B hml hv
  obtain ⟨rfl, hsz, hP, hK, hD0⟩ := hv
  have hx := B.exec
  have hb := B.bytes
  have hr := B.returns
  have hts := atoms_spec (ws := w_Mod_unit) B.pre
  have hown : s.vm.findClass R_Mod = some m.cls := findClass_of_methodNamed B.named
  have hlocks := B.notSynchronized
  have hw_Mod : ∀ w ∈ w_Mod, w ∈ w_Mod_unit := by decide +kernel
  subst hsz
  have hD := hD0.self (sz := s.heap.size)
  generalize hAe : va_A [(oM, .inr (5, [.int thr, .ref aTx, .int siz, .ref aBg, .ref aEn, .ref aLe, .ref aMa, .ref aFi, .int lnm, .int rsm, .ref aHe, .int bxs, .int wdt, .int hgh, .ref aCa, .ref aTo, .int byn, .ref aTu, .int pgm, .int tpm, .int stn, .int lnx, .int lny])), (aTx, .inl (cI, 200, .inl txt))] s.heap.size = A at hD ⊢
  have hA : ∀ q : Nat, s.heap.size ≤ q → A q := fun q h => by rw [← hAe]; exact Or.inr h
  have hS : va_S A s.heap s.heap [] := va_S.rf
  have hP : va_P (dC, dI) classes [(oM, .inr (5, [.int thr, .ref aTx, .int siz, .ref aBg, .ref aEn, .ref aLe, .ref aMa, .ref aFi, .int lnm, .int rsm, .ref aHe, .int bxs, .int wdt, .int hgh, .ref aCa, .ref aTo, .int byn, .ref aTu, .int pgm, .int tpm, .int stn, .int lnx, .int lny])), (aTx, .inl (cI, 200, .inl txt))] s.heap := hP
  have hl := lv_entry ([.ref oM, .int p1]) (n := 2) (Nat.le_of_ble_eq_true rfl)
  rw [lg_entry_eq]
  generalize (lg_sl ([.ref oM, .int p1]) ++ List.replicate (2 - (lg_sl ([.ref oM, .int p1])).length) Slot.unset).toArray = ls at hl ⊢
  have hl : lv_has ls 2 [(0, .ref oM), (1, .int p1)] := hl
  refine lv_aload_n hx hb d_Mod_unit_0 rfl (lv_at hl 0 rfl) ?_
  refine lv_iconst (v := 0) hx hb d_Mod_unit_1 (by decide) ?_
  refine va_put (D := (dC, dI)) (ci := 5) (v := .int 0) (ty := .int) (C := R_Mod) (T := F_Mod) (N := 23) hx hb hts hw_Mod t_Mod t_Mod_ok n_Mod hown hK hP hD hS 0 rfl rfl 0 (by decide) (hts (.fieldLink R_Mod 48 "PageFormsModel" "thrown" "I") (by decide +kernel)) (fun _ h9 => h9) rfl (by decide +kernel) rfl rfl (Nat.le_of_ble_eq_true rfl) d_Mod_unit_2 (fun H locs hP hD hS => ?_)
  have hP : va_P (dC, dI) classes [(oM, .inr (5, [.int 0, .ref aTx, .int siz, .ref aBg, .ref aEn, .ref aLe, .ref aMa, .ref aFi, .int lnm, .int rsm, .ref aHe, .int bxs, .int wdt, .int hgh, .ref aCa, .ref aTo, .int byn, .ref aTu, .int pgm, .int tpm, .int stn, .int lnx, .int lny])), (aTx, .inl (cI, 200, .inl txt))] H := hP
  have hD : va_D A [(oM, .inr (5, [.int 0, .ref aTx, .int siz, .ref aBg, .ref aEn, .ref aLe, .ref aMa, .ref aFi, .int lnm, .int rsm, .ref aHe, .int bxs, .int wdt, .int hgh, .ref aCa, .ref aTo, .int byn, .ref aTu, .int pgm, .int tpm, .int stn, .int lnx, .int lny])), (aTx, .inl (cI, 200, .inl txt))] := hD
  refine lv_iload_n hx hb d_Mod_unit_5 rfl (lv_at hl 1 rfl) ?_
  refine lv_bipush (v := 32) hx hb d_Mod_unit_6 (by decide) ?_
  refine lv_bipush (v := 126) hx hb d_Mod_unit_8 (by decide) ?_
  have hPc := hP.sub (ws' := []) [] rfl
  have hDc := hD.sub (ws' := []) [] (by decide) rfl
  have hFc := va_free (wc := []) hD hS hA [] rfl
  refine va_calli (va_runS (As := [.int p1, .int 32, .int 126]) (rest := []) ⟨hx, hb, hml, hown, hts⟩ (k_Mod_within l dC dI cI cZ H.size p1 32 126) (cwS 3 hts g_Mod_unit_Mod_within rfl rfl rfl (by decide +kernel) ⟨Nat.le_of_ble_eq_true rfl, Nat.le_of_ble_eq_true rfl⟩) ⟨fun a U g mk q => by obtain ⟨q0, q1, qP, qK, qD⟩ := q; exact ⟨q0, q1, qP, va_K.moved (u := U) (U := U.calling g mk a) (Vm.Alike.refl U.vm) qK, qD⟩, fun U hU hW => ⟨rfl, by rw [hU], by rw [hU]; exact hPc, va_K.moved hW.alike hK, hDc.weaken (fun _ _ _ _ => trivial)⟩⟩ rfl rfl hl.1 rfl (lv_room (Nat.le_of_ble_eq_true rfl)) d_Mod_unit_10 ⟨Nat.le_of_ble_eq_true rfl, Nat.le_of_ble_eq_true rfl⟩) hS (fun q _ h => hFc q h) hFc (fun r10 u t H1 locs ht hvm hw hB hz1 hk1 hS => ?_)
  have w10 : (r10.toInt = 1 ∧ 32 ≤ p1.toInt ∧ p1.toInt ≤ 126) ∨ (r10.toInt = 0 ∧ (p1.toInt < 32 ∨ 126 < p1.toInt)) := hw
  obtain ⟨hP1, hK1, hD1⟩ := hB
  rw [ht] at hP1
  obtain ⟨hP, hD⟩ := va_join (wr := [(oM, .inr (5, [.int 0, .ref aTx, .int siz, .ref aBg, .ref aEn, .ref aLe, .ref aMa, .ref aFi, .int lnm, .int rsm, .ref aHe, .int bxs, .int wdt, .int hgh, .ref aCa, .ref aTo, .int byn, .ref aTu, .int pgm, .int tpm, .int stn, .int lnx, .int lny])), (aTx, .inl (cI, 200, .inl txt))]) (w1 := []) hP hD [] [0, 1] rfl rfl (by decide) (by decide) hk1 hFc hP1 hD1
  generalize H1 = H at hP hS ⊢
  have hP : va_P (dC, dI) classes [(oM, .inr (5, [.int 0, .ref aTx, .int siz, .ref aBg, .ref aEn, .ref aLe, .ref aMa, .ref aFi, .int lnm, .int rsm, .ref aHe, .int bxs, .int wdt, .int hgh, .ref aCa, .ref aTo, .int byn, .ref aTu, .int pgm, .int tpm, .int stn, .int lnx, .int lny])), (aTx, .inl (cI, 200, .inl txt))] H := hP
  have hD : va_D A [(oM, .inr (5, [.int 0, .ref aTx, .int siz, .ref aBg, .ref aEn, .ref aLe, .ref aMa, .ref aFi, .int lnm, .int rsm, .ref aHe, .int bxs, .int wdt, .int hgh, .ref aCa, .ref aTo, .int byn, .ref aTu, .int pgm, .int tpm, .int stn, .int lnx, .int lny])), (aTx, .inl (cI, 200, .inl txt))] := hD
  refine xi_if_eq (tgt := 26) hx hb (rfl) d_Mod_unit_13 (by decide) (fun c13 => ?_) (fun c13 => ?_)
  · refine lv_iconst (v := 0) hx hb d_Mod_unit_26 (by decide) ?_
    exact W.zret (v := 0) hx hb hr rfl (fun t ht hW => ⟨⟨0, (0, siz, txt), rfl, (show mt_unit siz txt p1 (0 : Int32) siz txt from (Or.inr ⟨by omega, by decide, rfl, rfl⟩)), by rw [ht]; exact hP, va_K.moved hW.alike hK, hD⟩, hS.F ht⟩) hS.2.2 d_Mod_unit_27
  · refine lv_aload_n hx hb d_Mod_unit_16 rfl (lv_at hl 0 rfl) ?_
    refine va_get (D := (dC, dI)) (ci := 5) (v := .int siz) (C := R_Mod) (T := F_Mod) (N := 23) hx hb hts hw_Mod hown hK hP 0 rfl rfl 2 (by decide) (hts (.fieldLink R_Mod 55 "PageFormsModel" "size" "I") (by decide +kernel)) (fun _ h9 => h9) rfl d_Mod_unit_17 ?_
    refine lv_sipush (v := 200) hx hb d_Mod_unit_20 (by decide) ?_
    refine xi_icmp_ne (tgt := 28) hx hb hn (show (200 : Int32).toInt = 200 by decide) d_Mod_unit_23 (by decide) (fun c23 => ?_) (fun c23 => ?_)
    · refine lv_aload_n hx hb d_Mod_unit_28 rfl (lv_at hl 0 rfl) ?_
      refine va_get (D := (dC, dI)) (ci := 5) (v := .ref aTx) (C := R_Mod) (T := F_Mod) (N := 23) hx hb hts hw_Mod hown hK hP 0 rfl rfl 1 (by decide) (hts (.fieldLink R_Mod 7 "PageFormsModel" "text" "[I") (by decide +kernel)) (fun _ h9 => h9) rfl d_Mod_unit_29 ?_
      refine lv_aload_n hx hb d_Mod_unit_32 rfl (lv_at hl 0 rfl) ?_
      refine va_get (D := (dC, dI)) (ci := 5) (v := .int siz) (C := R_Mod) (T := F_Mod) (N := 23) hx hb hts hw_Mod hown hK hP 0 rfl rfl 2 (by decide) (hts (.fieldLink R_Mod 55 "PageFormsModel" "size" "I") (by decide +kernel)) (fun _ h9 => h9) rfl d_Mod_unit_33 ?_
      refine lv_iload_n hx hb d_Mod_unit_36 rfl (lv_at hl 1 rfl) ?_
      refine xa_iast hx hb hK hP hD hS 1 0 rfl rfl hn n (by omega) (by omega) d_Mod_unit_37 (fun H locs hP hD hS => ?_)
      have hP : va_P (dC, dI) classes [(oM, .inr (5, [.int 0, .ref aTx, .int siz, .ref aBg, .ref aEn, .ref aLe, .ref aMa, .ref aFi, .int lnm, .int rsm, .ref aHe, .int bxs, .int wdt, .int hgh, .ref aCa, .ref aTo, .int byn, .ref aTu, .int pgm, .int tpm, .int stn, .int lnx, .int lny])), (aTx, .inl (cI, 200, .inl (upd txt n p1)))] H := hP
      have hD : va_D A [(oM, .inr (5, [.int 0, .ref aTx, .int siz, .ref aBg, .ref aEn, .ref aLe, .ref aMa, .ref aFi, .int lnm, .int rsm, .ref aHe, .int bxs, .int wdt, .int hgh, .ref aCa, .ref aTo, .int byn, .ref aTu, .int pgm, .int tpm, .int stn, .int lnx, .int lny])), (aTx, .inl (cI, 200, .inl (upd txt n p1)))] := hD
      refine lv_aload_n hx hb d_Mod_unit_38 rfl (lv_at hl 0 rfl) ?_
      refine lv_dup hx hb d_Mod_unit_39 rfl ?_
      refine va_get (D := (dC, dI)) (ci := 5) (v := .int siz) (C := R_Mod) (T := F_Mod) (N := 23) hx hb hts hw_Mod hown hK hP 0 rfl rfl 2 (by decide) (hts (.fieldLink R_Mod 55 "PageFormsModel" "size" "I") (by decide +kernel)) (fun _ h9 => h9) rfl d_Mod_unit_40 ?_
      refine lv_iconst (v := 1) hx hb d_Mod_unit_43 (by decide) ?_
      refine lv_iadd hx hb d_Mod_unit_44 ?_
      have a44 : (siz + 1).toInt = ((n : Int) + 1) := xi_add hn (show (1 : Int32).toInt = 1 by decide) (by omega) (by omega)
      refine lv_topi (fun v45 ev45 => ?_)
      have fv45 : v45.toInt = ((n : Int) + 1) := by rw [ev45]; exact a44
      refine va_put (D := (dC, dI)) (ci := 5) (v := .int v45) (ty := .int) (C := R_Mod) (T := F_Mod) (N := 23) hx hb hts hw_Mod t_Mod t_Mod_ok n_Mod hown hK hP hD hS 0 rfl rfl 2 (by decide) (hts (.fieldLink R_Mod 55 "PageFormsModel" "size" "I") (by decide +kernel)) (fun _ h9 => h9) rfl (by decide +kernel) rfl rfl (Nat.le_of_ble_eq_true rfl) d_Mod_unit_45 (fun H locs hP hD hS => ?_)
      have hP : va_P (dC, dI) classes [(oM, .inr (5, [.int 0, .ref aTx, .int v45, .ref aBg, .ref aEn, .ref aLe, .ref aMa, .ref aFi, .int lnm, .int rsm, .ref aHe, .int bxs, .int wdt, .int hgh, .ref aCa, .ref aTo, .int byn, .ref aTu, .int pgm, .int tpm, .int stn, .int lnx, .int lny])), (aTx, .inl (cI, 200, .inl (upd txt n p1)))] H := hP
      have hD : va_D A [(oM, .inr (5, [.int 0, .ref aTx, .int v45, .ref aBg, .ref aEn, .ref aLe, .ref aMa, .ref aFi, .int lnm, .int rsm, .ref aHe, .int bxs, .int wdt, .int hgh, .ref aCa, .ref aTo, .int byn, .ref aTu, .int pgm, .int tpm, .int stn, .int lnx, .int lny])), (aTx, .inl (cI, 200, .inl (upd txt n p1)))] := hD
      refine lv_iconst (v := 1) hx hb d_Mod_unit_48 (by decide) ?_
      exact W.zret (v := 1) hx hb hr rfl (fun t ht hW => ⟨⟨1, (0, v45, (upd txt n p1)), rfl, (show mt_unit siz txt p1 (1 : Int32) v45 (upd txt n p1) from (Or.inl ⟨by omega, by omega, by omega, by decide, by omega, by rw [hn]; rfl⟩)), by rw [ht]; exact hP, va_K.moved hW.alike hK, hD⟩, hS.F ht⟩) hS.2.2 d_Mod_unit_49
    · refine lv_iconst (v := 0) hx hb d_Mod_unit_26 (by decide) ?_
      exact W.zret (v := 0) hx hb hr rfl (fun t ht hW => ⟨⟨0, (0, siz, txt), rfl, (show mt_unit siz txt p1 (0 : Int32) siz txt from (Or.inr ⟨by omega, by decide, rfl, rfl⟩)), by rw [ht]; exact hP, va_K.moved hW.alike hK, hD⟩, hS.F ht⟩) hS.2.2 d_Mod_unit_27

set_option maxHeartbeats 4000000 in
set_option maxRecDepth 100000 in
theorem k_Mod_rest (l : Launch) (dC : Nat → ClassId) (dI : Nat → Nat → Nat) (cI cZ : ClassId) (oM : Nat) (thr : Int32) (aTx : Nat) (siz : Int32) (aBg : Nat) (aEn : Nat) (aLe : Nat) (aMa : Nat) (aFi : Nat) (lnm : Int32) (rsm : Int32) (aHe : Nat) (bxs : Int32) (wdt : Int32) (hgh : Int32) (aCa : Nat) (aTo : Nat) (byn : Int32) (aTu : Nat) (pgm : Int32) (tpm : Int32) (stn : Int32) (lnx : Int32) (lny : Int32) (sz : Nat) : Met l y_Mod_rest w_Mod_rest ({ frames := 0, cells := 0, slots := 0, locals := 0 }) (va_Pc [.ref oM] (fun U => U.heap.size = sz ∧ va_P (dC, dI) classes [(oM, .inr (5, [.int thr, .ref aTx, .int siz, .ref aBg, .ref aEn, .ref aLe, .ref aMa, .ref aFi, .int lnm, .int rsm, .ref aHe, .int bxs, .int wdt, .int hgh, .ref aCa, .ref aTo, .int byn, .ref aTu, .int pgm, .int tpm, .int stn, .int lnx, .int lny]))] U.heap ∧ va_K (dC, dI) classes [(cI, .int), (cZ, .boolean)] U ∧ va_D (fun _ => True) [(oM, .inr (5, [.int thr, .ref aTx, .int siz, .ref aBg, .ref aEn, .ref aLe, .ref aMa, .ref aFi, .int lnm, .int rsm, .ref aHe, .int bxs, .int wdt, .int hgh, .ref aCa, .ref aTo, .int byn, .ref aTu, .int pgm, .int tpm, .int stn, .int lnx, .int lny]))])) (va_Qi (fun (r : Int32) (u : Int32) => r = rsm) (fun (u : Int32) (t : State) => va_P (dC, dI) classes [(oM, .inr (5, [.int u, .ref aTx, .int siz, .ref aBg, .ref aEn, .ref aLe, .ref aMa, .ref aFi, .int lnm, .int rsm, .ref aHe, .int bxs, .int wdt, .int hgh, .ref aCa, .ref aTo, .int byn, .ref aTu, .int pgm, .int tpm, .int stn, .int lnx, .int lny]))] t.heap ∧ va_K (dC, dI) classes [(cI, .int), (cZ, .boolean)] t ∧ va_D (va_A [(oM, .inr (5, [.int thr, .ref aTx, .int siz, .ref aBg, .ref aEn, .ref aLe, .ref aMa, .ref aFi, .int lnm, .int rsm, .ref aHe, .int bxs, .int wdt, .int hgh, .ref aCa, .ref aTo, .int byn, .ref aTu, .int pgm, .int tpm, .int stn, .int lnx, .int lny]))] sz) [(oM, .inr (5, [.int u, .ref aTx, .int siz, .ref aBg, .ref aEn, .ref aLe, .ref aMa, .ref aFi, .int lnm, .int rsm, .ref aHe, .int bxs, .int wdt, .int hgh, .ref aCa, .ref aTo, .int byn, .ref aTu, .int pgm, .int tpm, .int stn, .int lnx, .int lny]))]) (va_A [(oM, .inr (5, [.int thr, .ref aTx, .int siz, .ref aBg, .ref aEn, .ref aLe, .ref aMa, .ref aFi, .int lnm, .int rsm, .ref aHe, .int bxs, .int wdt, .int hgh, .ref aCa, .ref aTo, .int byn, .ref aTu, .int pgm, .int tpm, .int stn, .int lnx, .int lny]))] sz)) 0 0 (va_A [(oM, .inr (5, [.int thr, .ref aTx, .int siz, .ref aBg, .ref aEn, .ref aLe, .ref aMa, .ref aFi, .int lnm, .int rsm, .ref aHe, .int bxs, .int wdt, .int hgh, .ref aCa, .ref aTo, .int byn, .ref aTu, .int pgm, .int tpm, .int stn, .int lnx, .int lny]))] sz) := by
  refine Met.ofW (cc := b_Mod_rest) (maxL := 1) (ret := (some .int)) (by decide) rfl ?_
  intro p e s m args below meth c s₁ B hml hv
  obtain ⟨rfl, hsz, hP, hK, hD0⟩ := hv
  have hx := B.exec
  have hb := B.bytes
  have hr := B.returns
  have hts := atoms_spec (ws := w_Mod_rest) B.pre
  have hown : s.vm.findClass R_Mod = some m.cls := findClass_of_methodNamed B.named
  have hlocks := B.notSynchronized
  have hw_Mod : ∀ w ∈ w_Mod, w ∈ w_Mod_rest := by decide +kernel
  subst hsz
  have hD := hD0.self (sz := s.heap.size)
  generalize hAe : va_A [(oM, .inr (5, [.int thr, .ref aTx, .int siz, .ref aBg, .ref aEn, .ref aLe, .ref aMa, .ref aFi, .int lnm, .int rsm, .ref aHe, .int bxs, .int wdt, .int hgh, .ref aCa, .ref aTo, .int byn, .ref aTu, .int pgm, .int tpm, .int stn, .int lnx, .int lny]))] s.heap.size = A at hD ⊢
  have hA : ∀ q : Nat, s.heap.size ≤ q → A q := fun q h => by rw [← hAe]; exact Or.inr h
  have hS : va_S A s.heap s.heap [] := va_S.rf
  have hP : va_P (dC, dI) classes [(oM, .inr (5, [.int thr, .ref aTx, .int siz, .ref aBg, .ref aEn, .ref aLe, .ref aMa, .ref aFi, .int lnm, .int rsm, .ref aHe, .int bxs, .int wdt, .int hgh, .ref aCa, .ref aTo, .int byn, .ref aTu, .int pgm, .int tpm, .int stn, .int lnx, .int lny]))] s.heap := hP
  have hl := lv_entry ([.ref oM]) (n := 1) (Nat.le_of_ble_eq_true rfl)
  rw [lg_entry_eq]
  generalize (lg_sl ([.ref oM]) ++ List.replicate (1 - (lg_sl ([.ref oM])).length) Slot.unset).toArray = ls at hl ⊢
  have hl : lv_has ls 1 [(0, .ref oM)] := hl
  refine lv_aload_n hx hb d_Mod_rest_0 rfl (lv_at hl 0 rfl) ?_
  refine lv_iconst (v := 0) hx hb d_Mod_rest_1 (by decide) ?_
  refine va_put (D := (dC, dI)) (ci := 5) (v := .int 0) (ty := .int) (C := R_Mod) (T := F_Mod) (N := 23) hx hb hts hw_Mod t_Mod t_Mod_ok n_Mod hown hK hP hD hS 0 rfl rfl 0 (by decide) (hts (.fieldLink R_Mod 48 "PageFormsModel" "thrown" "I") (by decide +kernel)) (fun _ h9 => h9) rfl (by decide +kernel) rfl rfl (Nat.le_of_ble_eq_true rfl) d_Mod_rest_2 (fun H locs hP hD hS => ?_)
  have hP : va_P (dC, dI) classes [(oM, .inr (5, [.int 0, .ref aTx, .int siz, .ref aBg, .ref aEn, .ref aLe, .ref aMa, .ref aFi, .int lnm, .int rsm, .ref aHe, .int bxs, .int wdt, .int hgh, .ref aCa, .ref aTo, .int byn, .ref aTu, .int pgm, .int tpm, .int stn, .int lnx, .int lny]))] H := hP
  have hD : va_D A [(oM, .inr (5, [.int 0, .ref aTx, .int siz, .ref aBg, .ref aEn, .ref aLe, .ref aMa, .ref aFi, .int lnm, .int rsm, .ref aHe, .int bxs, .int wdt, .int hgh, .ref aCa, .ref aTo, .int byn, .ref aTu, .int pgm, .int tpm, .int stn, .int lnx, .int lny]))] := hD
  refine lv_aload_n hx hb d_Mod_rest_5 rfl (lv_at hl 0 rfl) ?_
  refine va_get (D := (dC, dI)) (ci := 5) (v := .int rsm) (C := R_Mod) (T := F_Mod) (N := 23) hx hb hts hw_Mod hown hK hP 0 rfl rfl 9 (by decide) (hts (.fieldLink R_Mod 65 "PageFormsModel" "restSum" "I") (by decide +kernel)) (fun _ h9 => h9) rfl d_Mod_rest_6 ?_
  exact W.iret (v := rsm) hx hb hr (fun t ht hW => ⟨⟨rsm, 0, rfl, (show rsm = rsm from rfl), by rw [ht]; exact hP, va_K.moved hW.alike hK, hD⟩, hS.F ht⟩) hS.2.2 d_Mod_rest_9

set_option maxHeartbeats 4000000 in
set_option maxRecDepth 100000 in
theorem k_Mod_clear (l : Launch) (dC : Nat → ClassId) (dI : Nat → Nat → Nat) (cI cZ : ClassId) (oM : Nat) (thr : Int32) (aTx : Nat) (siz : Int32) (aBg : Nat) (aEn : Nat) (aLe : Nat) (aMa : Nat) (aFi : Nat) (lnm : Int32) (rsm : Int32) (aHe : Nat) (bxs : Int32) (wdt : Int32) (hgh : Int32) (aCa : Nat) (aTo : Nat) (byn : Int32) (aTu : Nat) (pgm : Int32) (tpm : Int32) (stn : Int32) (lnx : Int32) (lny : Int32) (sz : Nat) : Met l y_Mod_clear w_Mod_clear ({ frames := 0, cells := 0, slots := 0, locals := 0 }) (va_Pc [.ref oM] (fun U => U.heap.size = sz ∧ va_P (dC, dI) classes [(oM, .inr (5, [.int thr, .ref aTx, .int siz, .ref aBg, .ref aEn, .ref aLe, .ref aMa, .ref aFi, .int lnm, .int rsm, .ref aHe, .int bxs, .int wdt, .int hgh, .ref aCa, .ref aTo, .int byn, .ref aTu, .int pgm, .int tpm, .int stn, .int lnx, .int lny]))] U.heap ∧ va_K (dC, dI) classes [(cI, .int), (cZ, .boolean)] U ∧ va_D (fun _ => True) [(oM, .inr (5, [.int thr, .ref aTx, .int siz, .ref aBg, .ref aEn, .ref aLe, .ref aMa, .ref aFi, .int lnm, .int rsm, .ref aHe, .int bxs, .int wdt, .int hgh, .ref aCa, .ref aTo, .int byn, .ref aTu, .int pgm, .int tpm, .int stn, .int lnx, .int lny]))])) (va_Qv (fun (u : Int32 × Int32 × Int32 × Int32) => u.2.1.toInt = 0 ∧ u.2.2.1.toInt = 0 ∧ u.2.2.2.toInt = 0) (fun (u : Int32 × Int32 × Int32 × Int32) (t : State) => va_P (dC, dI) classes [(oM, .inr (5, [.int u.1, .ref aTx, .int u.2.1, .ref aBg, .ref aEn, .ref aLe, .ref aMa, .ref aFi, .int u.2.2.1, .int u.2.2.2, .ref aHe, .int bxs, .int wdt, .int hgh, .ref aCa, .ref aTo, .int byn, .ref aTu, .int pgm, .int tpm, .int stn, .int lnx, .int lny]))] t.heap ∧ va_K (dC, dI) classes [(cI, .int), (cZ, .boolean)] t ∧ va_D (va_A [(oM, .inr (5, [.int thr, .ref aTx, .int siz, .ref aBg, .ref aEn, .ref aLe, .ref aMa, .ref aFi, .int lnm, .int rsm, .ref aHe, .int bxs, .int wdt, .int hgh, .ref aCa, .ref aTo, .int byn, .ref aTu, .int pgm, .int tpm, .int stn, .int lnx, .int lny]))] sz) [(oM, .inr (5, [.int u.1, .ref aTx, .int u.2.1, .ref aBg, .ref aEn, .ref aLe, .ref aMa, .ref aFi, .int u.2.2.1, .int u.2.2.2, .ref aHe, .int bxs, .int wdt, .int hgh, .ref aCa, .ref aTo, .int byn, .ref aTu, .int pgm, .int tpm, .int stn, .int lnx, .int lny]))]) (va_A [(oM, .inr (5, [.int thr, .ref aTx, .int siz, .ref aBg, .ref aEn, .ref aLe, .ref aMa, .ref aFi, .int lnm, .int rsm, .ref aHe, .int bxs, .int wdt, .int hgh, .ref aCa, .ref aTo, .int byn, .ref aTu, .int pgm, .int tpm, .int stn, .int lnx, .int lny]))] sz)) 0 0 (va_A [(oM, .inr (5, [.int thr, .ref aTx, .int siz, .ref aBg, .ref aEn, .ref aLe, .ref aMa, .ref aFi, .int lnm, .int rsm, .ref aHe, .int bxs, .int wdt, .int hgh, .ref aCa, .ref aTo, .int byn, .ref aTu, .int pgm, .int tpm, .int stn, .int lnx, .int lny]))] sz) := by
  refine Met.ofW (cc := b_Mod_clear) (maxL := 1) (ret := none) (by decide) rfl ?_
  intro p e s m args below meth c s₁ B hml hv
  obtain ⟨rfl, hsz, hP, hK, hD0⟩ := hv
  have hx := B.exec
  have hb := B.bytes
  have hr := B.returns
  have hts := atoms_spec (ws := w_Mod_clear) B.pre
  have hown : s.vm.findClass R_Mod = some m.cls := findClass_of_methodNamed B.named
  have hlocks := B.notSynchronized
  have hw_Mod : ∀ w ∈ w_Mod, w ∈ w_Mod_clear := by decide +kernel
  subst hsz
  have hD := hD0.self (sz := s.heap.size)
  generalize hAe : va_A [(oM, .inr (5, [.int thr, .ref aTx, .int siz, .ref aBg, .ref aEn, .ref aLe, .ref aMa, .ref aFi, .int lnm, .int rsm, .ref aHe, .int bxs, .int wdt, .int hgh, .ref aCa, .ref aTo, .int byn, .ref aTu, .int pgm, .int tpm, .int stn, .int lnx, .int lny]))] s.heap.size = A at hD ⊢
  have hA : ∀ q : Nat, s.heap.size ≤ q → A q := fun q h => by rw [← hAe]; exact Or.inr h
  have hS : va_S A s.heap s.heap [] := va_S.rf
  have hP : va_P (dC, dI) classes [(oM, .inr (5, [.int thr, .ref aTx, .int siz, .ref aBg, .ref aEn, .ref aLe, .ref aMa, .ref aFi, .int lnm, .int rsm, .ref aHe, .int bxs, .int wdt, .int hgh, .ref aCa, .ref aTo, .int byn, .ref aTu, .int pgm, .int tpm, .int stn, .int lnx, .int lny]))] s.heap := hP
  have hl := lv_entry ([.ref oM]) (n := 1) (Nat.le_of_ble_eq_true rfl)
  rw [lg_entry_eq]
  generalize (lg_sl ([.ref oM]) ++ List.replicate (1 - (lg_sl ([.ref oM])).length) Slot.unset).toArray = ls at hl ⊢
  have hl : lv_has ls 1 [(0, .ref oM)] := hl
  refine lv_aload_n hx hb d_Mod_clear_0 rfl (lv_at hl 0 rfl) ?_
  refine lv_iconst (v := 0) hx hb d_Mod_clear_1 (by decide) ?_
  refine va_put (D := (dC, dI)) (ci := 5) (v := .int 0) (ty := .int) (C := R_Mod) (T := F_Mod) (N := 23) hx hb hts hw_Mod t_Mod t_Mod_ok n_Mod hown hK hP hD hS 0 rfl rfl 0 (by decide) (hts (.fieldLink R_Mod 48 "PageFormsModel" "thrown" "I") (by decide +kernel)) (fun _ h9 => h9) rfl (by decide +kernel) rfl rfl (Nat.le_of_ble_eq_true rfl) d_Mod_clear_2 (fun H locs hP hD hS => ?_)
  have hP : va_P (dC, dI) classes [(oM, .inr (5, [.int 0, .ref aTx, .int siz, .ref aBg, .ref aEn, .ref aLe, .ref aMa, .ref aFi, .int lnm, .int rsm, .ref aHe, .int bxs, .int wdt, .int hgh, .ref aCa, .ref aTo, .int byn, .ref aTu, .int pgm, .int tpm, .int stn, .int lnx, .int lny]))] H := hP
  have hD : va_D A [(oM, .inr (5, [.int 0, .ref aTx, .int siz, .ref aBg, .ref aEn, .ref aLe, .ref aMa, .ref aFi, .int lnm, .int rsm, .ref aHe, .int bxs, .int wdt, .int hgh, .ref aCa, .ref aTo, .int byn, .ref aTu, .int pgm, .int tpm, .int stn, .int lnx, .int lny]))] := hD
  refine lv_aload_n hx hb d_Mod_clear_5 rfl (lv_at hl 0 rfl) ?_
  refine lv_iconst (v := 0) hx hb d_Mod_clear_6 (by decide) ?_
  refine va_put (D := (dC, dI)) (ci := 5) (v := .int 0) (ty := .int) (C := R_Mod) (T := F_Mod) (N := 23) hx hb hts hw_Mod t_Mod t_Mod_ok n_Mod hown hK hP hD hS 0 rfl rfl 2 (by decide) (hts (.fieldLink R_Mod 55 "PageFormsModel" "size" "I") (by decide +kernel)) (fun _ h9 => h9) rfl (by decide +kernel) rfl rfl (Nat.le_of_ble_eq_true rfl) d_Mod_clear_7 (fun H locs hP hD hS => ?_)
  have hP : va_P (dC, dI) classes [(oM, .inr (5, [.int 0, .ref aTx, .int 0, .ref aBg, .ref aEn, .ref aLe, .ref aMa, .ref aFi, .int lnm, .int rsm, .ref aHe, .int bxs, .int wdt, .int hgh, .ref aCa, .ref aTo, .int byn, .ref aTu, .int pgm, .int tpm, .int stn, .int lnx, .int lny]))] H := hP
  have hD : va_D A [(oM, .inr (5, [.int 0, .ref aTx, .int 0, .ref aBg, .ref aEn, .ref aLe, .ref aMa, .ref aFi, .int lnm, .int rsm, .ref aHe, .int bxs, .int wdt, .int hgh, .ref aCa, .ref aTo, .int byn, .ref aTu, .int pgm, .int tpm, .int stn, .int lnx, .int lny]))] := hD
  refine lv_aload_n hx hb d_Mod_clear_10 rfl (lv_at hl 0 rfl) ?_
  refine lv_iconst (v := 0) hx hb d_Mod_clear_11 (by decide) ?_
  refine va_put (D := (dC, dI)) (ci := 5) (v := .int 0) (ty := .int) (C := R_Mod) (T := F_Mod) (N := 23) hx hb hts hw_Mod t_Mod t_Mod_ok n_Mod hown hK hP hD hS 0 rfl rfl 8 (by decide) (hts (.fieldLink R_Mod 62 "PageFormsModel" "linesMany" "I") (by decide +kernel)) (fun _ h9 => h9) rfl (by decide +kernel) rfl rfl (Nat.le_of_ble_eq_true rfl) d_Mod_clear_12 (fun H locs hP hD hS => ?_)
  have hP : va_P (dC, dI) classes [(oM, .inr (5, [.int 0, .ref aTx, .int 0, .ref aBg, .ref aEn, .ref aLe, .ref aMa, .ref aFi, .int 0, .int rsm, .ref aHe, .int bxs, .int wdt, .int hgh, .ref aCa, .ref aTo, .int byn, .ref aTu, .int pgm, .int tpm, .int stn, .int lnx, .int lny]))] H := hP
  have hD : va_D A [(oM, .inr (5, [.int 0, .ref aTx, .int 0, .ref aBg, .ref aEn, .ref aLe, .ref aMa, .ref aFi, .int 0, .int rsm, .ref aHe, .int bxs, .int wdt, .int hgh, .ref aCa, .ref aTo, .int byn, .ref aTu, .int pgm, .int tpm, .int stn, .int lnx, .int lny]))] := hD
  refine lv_aload_n hx hb d_Mod_clear_15 rfl (lv_at hl 0 rfl) ?_
  refine lv_iconst (v := 0) hx hb d_Mod_clear_16 (by decide) ?_
  refine va_put (D := (dC, dI)) (ci := 5) (v := .int 0) (ty := .int) (C := R_Mod) (T := F_Mod) (N := 23) hx hb hts hw_Mod t_Mod t_Mod_ok n_Mod hown hK hP hD hS 0 rfl rfl 9 (by decide) (hts (.fieldLink R_Mod 65 "PageFormsModel" "restSum" "I") (by decide +kernel)) (fun _ h9 => h9) rfl (by decide +kernel) rfl rfl (Nat.le_of_ble_eq_true rfl) d_Mod_clear_17 (fun H locs hP hD hS => ?_)
  have hP : va_P (dC, dI) classes [(oM, .inr (5, [.int 0, .ref aTx, .int 0, .ref aBg, .ref aEn, .ref aLe, .ref aMa, .ref aFi, .int 0, .int 0, .ref aHe, .int bxs, .int wdt, .int hgh, .ref aCa, .ref aTo, .int byn, .ref aTu, .int pgm, .int tpm, .int stn, .int lnx, .int lny]))] H := hP
  have hD : va_D A [(oM, .inr (5, [.int 0, .ref aTx, .int 0, .ref aBg, .ref aEn, .ref aLe, .ref aMa, .ref aFi, .int 0, .int 0, .ref aHe, .int bxs, .int wdt, .int hgh, .ref aCa, .ref aTo, .int byn, .ref aTu, .int pgm, .int tpm, .int stn, .int lnx, .int lny]))] := hD
  exact W.vret hx hb hr (fun t ht hW => ⟨⟨(0, 0, 0, 0), rfl, (show 0 = 0 ∧ 0 = 0 ∧ 0 = 0 from ⟨by decide, by decide, by decide⟩), by rw [ht]; exact hP, va_K.moved hW.alike hK, hD⟩, hS.F ht⟩) hS.2.2 d_Mod_clear_20

set_option maxHeartbeats 4000000 in
set_option maxRecDepth 100000 in
theorem k_Mod_line (l : Launch) (dC : Nat → ClassId) (dI : Nat → Nat → Nat) (cI cZ : ClassId) (oM : Nat) (aFi : Nat) (thr : Int32) (aTx : Nat) (siz : Int32) (aBg : Nat) (aEn : Nat) (aLe : Nat) (aMa : Nat) (lnm : Int32) (rsm : Int32) (aHe : Nat) (bxs : Int32) (wdt : Int32) (hgh : Int32) (aCa : Nat) (aTo : Nat) (byn : Int32) (aTu : Nat) (pgm : Int32) (tpm : Int32) (stn : Int32) (lnx : Int32) (lny : Int32) (fst : Nat → Int32) (sz : Nat) (p1 : Int32) (q : Nat) (hq : lnm.toInt = (q : Int)) (hq1 : q ≤ 100) : Met l y_Mod_line w_Mod_line ({ frames := 1, cells := 0, slots := 0, locals := 22 }) (va_Pc [.ref oM, .int p1] (fun U => U.heap.size = sz ∧ va_P (dC, dI) classes [(oM, .inr (5, [.int thr, .ref aTx, .int siz, .ref aBg, .ref aEn, .ref aLe, .ref aMa, .ref aFi, .int lnm, .int rsm, .ref aHe, .int bxs, .int wdt, .int hgh, .ref aCa, .ref aTo, .int byn, .ref aTu, .int pgm, .int tpm, .int stn, .int lnx, .int lny])), (aFi, .inl (cI, 101, .inl fst))] U.heap ∧ va_K (dC, dI) classes [(cI, .int), (cZ, .boolean)] U ∧ va_D (fun _ => True) [(oM, .inr (5, [.int thr, .ref aTx, .int siz, .ref aBg, .ref aEn, .ref aLe, .ref aMa, .ref aFi, .int lnm, .int rsm, .ref aHe, .int bxs, .int wdt, .int hgh, .ref aCa, .ref aTo, .int byn, .ref aTu, .int pgm, .int tpm, .int stn, .int lnx, .int lny])), (aFi, .inl (cI, 101, .inl fst))])) (va_Qi (fun (r : Int32) (u : Int32) => (0 ≤ p1.toInt ∧ p1.toInt < (q : Int) ∧ r = fst p1.toInt.toNat) ∨ ((p1.toInt < 0 ∨ (q : Int) ≤ p1.toInt) ∧ r.toInt = -1)) (fun (u : Int32) (t : State) => va_P (dC, dI) classes [(oM, .inr (5, [.int u, .ref aTx, .int siz, .ref aBg, .ref aEn, .ref aLe, .ref aMa, .ref aFi, .int lnm, .int rsm, .ref aHe, .int bxs, .int wdt, .int hgh, .ref aCa, .ref aTo, .int byn, .ref aTu, .int pgm, .int tpm, .int stn, .int lnx, .int lny])), (aFi, .inl (cI, 101, .inl fst))] t.heap ∧ va_K (dC, dI) classes [(cI, .int), (cZ, .boolean)] t ∧ va_D (va_A [(oM, .inr (5, [.int thr, .ref aTx, .int siz, .ref aBg, .ref aEn, .ref aLe, .ref aMa, .ref aFi, .int lnm, .int rsm, .ref aHe, .int bxs, .int wdt, .int hgh, .ref aCa, .ref aTo, .int byn, .ref aTu, .int pgm, .int tpm, .int stn, .int lnx, .int lny])), (aFi, .inl (cI, 101, .inl fst))] sz) [(oM, .inr (5, [.int u, .ref aTx, .int siz, .ref aBg, .ref aEn, .ref aLe, .ref aMa, .ref aFi, .int lnm, .int rsm, .ref aHe, .int bxs, .int wdt, .int hgh, .ref aCa, .ref aTo, .int byn, .ref aTu, .int pgm, .int tpm, .int stn, .int lnx, .int lny])), (aFi, .inl (cI, 101, .inl fst))]) (va_A [(oM, .inr (5, [.int thr, .ref aTx, .int siz, .ref aBg, .ref aEn, .ref aLe, .ref aMa, .ref aFi, .int lnm, .int rsm, .ref aHe, .int bxs, .int wdt, .int hgh, .ref aCa, .ref aTo, .int byn, .ref aTu, .int pgm, .int tpm, .int stn, .int lnx, .int lny])), (aFi, .inl (cI, 101, .inl fst))] sz)) 0 0 (va_A [(oM, .inr (5, [.int thr, .ref aTx, .int siz, .ref aBg, .ref aEn, .ref aLe, .ref aMa, .ref aFi, .int lnm, .int rsm, .ref aHe, .int bxs, .int wdt, .int hgh, .ref aCa, .ref aTo, .int byn, .ref aTu, .int pgm, .int tpm, .int stn, .int lnx, .int lny])), (aFi, .inl (cI, 101, .inl fst))] sz) := by
  refine Met.ofW (cc := b_Mod_line) (maxL := 2) (ret := (some .int)) (by decide) rfl ?_
  intro p e s m args below meth c s₁ B hml hv
  obtain ⟨rfl, hsz, hP, hK, hD0⟩ := hv
  have hx := B.exec
  have hb := B.bytes
  have hr := B.returns
  have hts := atoms_spec (ws := w_Mod_line) B.pre
  have hown : s.vm.findClass R_Mod = some m.cls := findClass_of_methodNamed B.named
  have hlocks := B.notSynchronized
  have hw_Mod : ∀ w ∈ w_Mod, w ∈ w_Mod_line := by decide +kernel
  subst hsz
  have hD := hD0.self (sz := s.heap.size)
  generalize hAe : va_A [(oM, .inr (5, [.int thr, .ref aTx, .int siz, .ref aBg, .ref aEn, .ref aLe, .ref aMa, .ref aFi, .int lnm, .int rsm, .ref aHe, .int bxs, .int wdt, .int hgh, .ref aCa, .ref aTo, .int byn, .ref aTu, .int pgm, .int tpm, .int stn, .int lnx, .int lny])), (aFi, .inl (cI, 101, .inl fst))] s.heap.size = A at hD ⊢
  have hA : ∀ q : Nat, s.heap.size ≤ q → A q := fun q h => by rw [← hAe]; exact Or.inr h
  have hS : va_S A s.heap s.heap [] := va_S.rf
  have hP : va_P (dC, dI) classes [(oM, .inr (5, [.int thr, .ref aTx, .int siz, .ref aBg, .ref aEn, .ref aLe, .ref aMa, .ref aFi, .int lnm, .int rsm, .ref aHe, .int bxs, .int wdt, .int hgh, .ref aCa, .ref aTo, .int byn, .ref aTu, .int pgm, .int tpm, .int stn, .int lnx, .int lny])), (aFi, .inl (cI, 101, .inl fst))] s.heap := hP
  have hl := lv_entry ([.ref oM, .int p1]) (n := 2) (Nat.le_of_ble_eq_true rfl)
  rw [lg_entry_eq]
  generalize (lg_sl ([.ref oM, .int p1]) ++ List.replicate (2 - (lg_sl ([.ref oM, .int p1])).length) Slot.unset).toArray = ls at hl ⊢
  have hl : lv_has ls 2 [(0, .ref oM), (1, .int p1)] := hl
  refine lv_aload_n hx hb d_Mod_line_0 rfl (lv_at hl 0 rfl) ?_
  refine lv_iconst (v := 0) hx hb d_Mod_line_1 (by decide) ?_
  refine va_put (D := (dC, dI)) (ci := 5) (v := .int 0) (ty := .int) (C := R_Mod) (T := F_Mod) (N := 23) hx hb hts hw_Mod t_Mod t_Mod_ok n_Mod hown hK hP hD hS 0 rfl rfl 0 (by decide) (hts (.fieldLink R_Mod 48 "PageFormsModel" "thrown" "I") (by decide +kernel)) (fun _ h9 => h9) rfl (by decide +kernel) rfl rfl (Nat.le_of_ble_eq_true rfl) d_Mod_line_2 (fun H locs hP hD hS => ?_)
  have hP : va_P (dC, dI) classes [(oM, .inr (5, [.int 0, .ref aTx, .int siz, .ref aBg, .ref aEn, .ref aLe, .ref aMa, .ref aFi, .int lnm, .int rsm, .ref aHe, .int bxs, .int wdt, .int hgh, .ref aCa, .ref aTo, .int byn, .ref aTu, .int pgm, .int tpm, .int stn, .int lnx, .int lny])), (aFi, .inl (cI, 101, .inl fst))] H := hP
  have hD : va_D A [(oM, .inr (5, [.int 0, .ref aTx, .int siz, .ref aBg, .ref aEn, .ref aLe, .ref aMa, .ref aFi, .int lnm, .int rsm, .ref aHe, .int bxs, .int wdt, .int hgh, .ref aCa, .ref aTo, .int byn, .ref aTu, .int pgm, .int tpm, .int stn, .int lnx, .int lny])), (aFi, .inl (cI, 101, .inl fst))] := hD
  refine lv_iload_n hx hb d_Mod_line_5 rfl (lv_at hl 1 rfl) ?_
  refine lv_iconst (v := 0) hx hb d_Mod_line_6 (by decide) ?_
  refine lv_aload_n hx hb d_Mod_line_7 rfl (lv_at hl 0 rfl) ?_
  refine va_get (D := (dC, dI)) (ci := 5) (v := .int lnm) (C := R_Mod) (T := F_Mod) (N := 23) hx hb hts hw_Mod hown hK hP 0 rfl rfl 8 (by decide) (hts (.fieldLink R_Mod 62 "PageFormsModel" "linesMany" "I") (by decide +kernel)) (fun _ h9 => h9) rfl d_Mod_line_8 ?_
  refine lv_iconst (v := 1) hx hb d_Mod_line_11 (by decide) ?_
  refine lv_isub hx hb d_Mod_line_12 ?_
  have a12 : (lnm - 1).toInt = ((q : Int) - 1) := xi_sub hq (show (1 : Int32).toInt = 1 by decide) (by omega) (by omega)
  have hPc := hP.sub (ws' := []) [] rfl
  have hDc := hD.sub (ws' := []) [] (by decide) rfl
  have hFc := va_free (wc := []) hD hS hA [] rfl
  refine va_calli (va_runS (As := [.int p1, .int 0, .int (lnm - 1)]) (rest := []) ⟨hx, hb, hml, hown, hts⟩ (k_Mod_within l dC dI cI cZ H.size p1 0 (lnm - 1)) (cwS 3 hts g_Mod_line_Mod_within rfl rfl rfl (by decide +kernel) ⟨Nat.le_of_ble_eq_true rfl, Nat.le_of_ble_eq_true rfl⟩) ⟨fun a U g mk q => by obtain ⟨q0, q1, qP, qK, qD⟩ := q; exact ⟨q0, q1, qP, va_K.moved (u := U) (U := U.calling g mk a) (Vm.Alike.refl U.vm) qK, qD⟩, fun U hU hW => ⟨rfl, by rw [hU], by rw [hU]; exact hPc, va_K.moved hW.alike hK, hDc.weaken (fun _ _ _ _ => trivial)⟩⟩ rfl rfl hl.1 rfl (lv_room (Nat.le_of_ble_eq_true rfl)) d_Mod_line_13 ⟨Nat.le_of_ble_eq_true rfl, Nat.le_of_ble_eq_true rfl⟩) hS (fun q _ h => hFc q h) hFc (fun r13 u t H1 locs ht hvm hw hB hz1 hk1 hS => ?_)
  have w13 : (r13.toInt = 1 ∧ 0 ≤ p1.toInt ∧ p1.toInt ≤ (lnm - 1).toInt) ∨ (r13.toInt = 0 ∧ (p1.toInt < 0 ∨ (lnm - 1).toInt < p1.toInt)) := hw
  obtain ⟨hP1, hK1, hD1⟩ := hB
  rw [ht] at hP1
  obtain ⟨hP, hD⟩ := va_join (wr := [(oM, .inr (5, [.int 0, .ref aTx, .int siz, .ref aBg, .ref aEn, .ref aLe, .ref aMa, .ref aFi, .int lnm, .int rsm, .ref aHe, .int bxs, .int wdt, .int hgh, .ref aCa, .ref aTo, .int byn, .ref aTu, .int pgm, .int tpm, .int stn, .int lnx, .int lny])), (aFi, .inl (cI, 101, .inl fst))]) (w1 := []) hP hD [] [0, 1] rfl rfl (by decide) (by decide) hk1 hFc hP1 hD1
  generalize H1 = H at hP hS ⊢
  have hP : va_P (dC, dI) classes [(oM, .inr (5, [.int 0, .ref aTx, .int siz, .ref aBg, .ref aEn, .ref aLe, .ref aMa, .ref aFi, .int lnm, .int rsm, .ref aHe, .int bxs, .int wdt, .int hgh, .ref aCa, .ref aTo, .int byn, .ref aTu, .int pgm, .int tpm, .int stn, .int lnx, .int lny])), (aFi, .inl (cI, 101, .inl fst))] H := hP
  have hD : va_D A [(oM, .inr (5, [.int 0, .ref aTx, .int siz, .ref aBg, .ref aEn, .ref aLe, .ref aMa, .ref aFi, .int lnm, .int rsm, .ref aHe, .int bxs, .int wdt, .int hgh, .ref aCa, .ref aTo, .int byn, .ref aTu, .int pgm, .int tpm, .int stn, .int lnx, .int lny])), (aFi, .inl (cI, 101, .inl fst))] := hD
  rw [a12] at w13
  refine xi_if_eq (tgt := 28) hx hb (rfl) d_Mod_line_16 (by decide) (fun c16 => ?_) (fun c16 => ?_)
  · refine lv_iconst (v := (-1)) hx hb d_Mod_line_28 (by decide) ?_
    exact W.iret (v := (-1)) hx hb hr (fun t ht hW => ⟨⟨(-1), 0, rfl, (show (0 ≤ p1.toInt ∧ p1.toInt < (q : Int) ∧ ((-1) : Int32) = fst p1.toInt.toNat) ∨ ((p1.toInt < 0 ∨ (q : Int) ≤ p1.toInt) ∧ ((-1) : Int32).toInt = -1) from (Or.inr ⟨by omega, by decide⟩)), by rw [ht]; exact hP, va_K.moved hW.alike hK, hD⟩, hS.F ht⟩) hS.2.2 d_Mod_line_29
  · obtain ⟨y, hy⟩ : ∃ y : Nat, p1.toInt = (y : Int) := ⟨p1.toInt.toNat, by omega⟩
    refine lv_aload_n hx hb d_Mod_line_19 rfl (lv_at hl 0 rfl) ?_
    refine va_get (D := (dC, dI)) (ci := 5) (v := .ref aFi) (C := R_Mod) (T := F_Mod) (N := 23) hx hb hts hw_Mod hown hK hP 0 rfl rfl 7 (by decide) (hts (.fieldLink R_Mod 25 "PageFormsModel" "first" "[I") (by decide +kernel)) (fun _ h9 => h9) rfl d_Mod_line_20 ?_
    refine lv_iload_n hx hb d_Mod_line_23 rfl (lv_at hl 1 rfl) ?_
    refine xa_iald hx hb hK hP 1 0 rfl rfl hy y (by omega) (by omega) d_Mod_line_24 ?_
    refine lv_goto (tgt := 29) hx hb d_Mod_line_25 (by decide) ?_
    exact W.iret (v := (fst y)) hx hb hr (fun t ht hW => ⟨⟨(fst y), 0, rfl, (show (0 ≤ p1.toInt ∧ p1.toInt < (q : Int) ∧ (fst y) = fst p1.toInt.toNat) ∨ ((p1.toInt < 0 ∨ (q : Int) ≤ p1.toInt) ∧ (fst y).toInt = -1) from (Or.inl ⟨by omega, by omega, by rw [hy]; rfl⟩)), by rw [ht]; exact hP, va_K.moved hW.alike hK, hD⟩, hS.F ht⟩) hS.2.2 d_Mod_line_29

set_option maxHeartbeats 4000000 in
set_option maxRecDepth 100000 in
theorem k_Mod_cutWords (l : Launch) (dC : Nat → ClassId) (dI : Nat → Nat → Nat) (cI cZ : ClassId) (oM : Nat) (aTx : Nat) (aBg : Nat) (aEn : Nat) (thr : Int32) (siz : Int32) (aLe : Nat) (aMa : Nat) (aFi : Nat) (lnm : Int32) (rsm : Int32) (aHe : Nat) (bxs : Int32) (wdt : Int32) (hgh : Int32) (aCa : Nat) (aTo : Nat) (byn : Int32) (aTu : Nat) (pgm : Int32) (tpm : Int32) (stn : Int32) (lnx : Int32) (lny : Int32) (txt : Nat → Int32) (bgn : Nat → Int32) (enn : Nat → Int32) (sz : Nat) (n : Nat) (hn : siz.toInt = (n : Int)) (hn2 : n ≤ 200) : Met l y_Mod_cutWords w_Mod_cutWords ({ frames := 0, cells := 0, slots := 0, locals := 0 }) (va_Pc [.ref oM] (fun U => U.heap.size = sz ∧ va_P (dC, dI) classes [(oM, .inr (5, [.int thr, .ref aTx, .int siz, .ref aBg, .ref aEn, .ref aLe, .ref aMa, .ref aFi, .int lnm, .int rsm, .ref aHe, .int bxs, .int wdt, .int hgh, .ref aCa, .ref aTo, .int byn, .ref aTu, .int pgm, .int tpm, .int stn, .int lnx, .int lny])), (aTx, .inl (cI, 200, .inl txt)), (aBg, .inl (cI, 101, .inl bgn)), (aEn, .inl (cI, 101, .inl enn))] U.heap ∧ va_K (dC, dI) classes [(cI, .int), (cZ, .boolean)] U ∧ va_D (fun _ => True) [(oM, .inr (5, [.int thr, .ref aTx, .int siz, .ref aBg, .ref aEn, .ref aLe, .ref aMa, .ref aFi, .int lnm, .int rsm, .ref aHe, .int bxs, .int wdt, .int hgh, .ref aCa, .ref aTo, .int byn, .ref aTu, .int pgm, .int tpm, .int stn, .int lnx, .int lny])), (aTx, .inl (cI, 200, .inl txt)), (aBg, .inl (cI, 101, .inl bgn)), (aEn, .inl (cI, 101, .inl enn))])) (va_Qi (fun (r : Int32) (u : (Nat → Int32) × (Nat → Int32)) => r.toInt = ((ts txt n).1 : Int) ∧ ts_w u.1 u.2 (ts txt n).1 n (ts txt n).2.2) (fun (u : (Nat → Int32) × (Nat → Int32)) (t : State) => va_P (dC, dI) classes [(oM, .inr (5, [.int thr, .ref aTx, .int siz, .ref aBg, .ref aEn, .ref aLe, .ref aMa, .ref aFi, .int lnm, .int rsm, .ref aHe, .int bxs, .int wdt, .int hgh, .ref aCa, .ref aTo, .int byn, .ref aTu, .int pgm, .int tpm, .int stn, .int lnx, .int lny])), (aTx, .inl (cI, 200, .inl txt)), (aBg, .inl (cI, 101, .inl u.1)), (aEn, .inl (cI, 101, .inl u.2))] t.heap ∧ va_K (dC, dI) classes [(cI, .int), (cZ, .boolean)] t ∧ va_D (va_A [(oM, .inr (5, [.int thr, .ref aTx, .int siz, .ref aBg, .ref aEn, .ref aLe, .ref aMa, .ref aFi, .int lnm, .int rsm, .ref aHe, .int bxs, .int wdt, .int hgh, .ref aCa, .ref aTo, .int byn, .ref aTu, .int pgm, .int tpm, .int stn, .int lnx, .int lny])), (aTx, .inl (cI, 200, .inl txt)), (aBg, .inl (cI, 101, .inl bgn)), (aEn, .inl (cI, 101, .inl enn))] sz) [(oM, .inr (5, [.int thr, .ref aTx, .int siz, .ref aBg, .ref aEn, .ref aLe, .ref aMa, .ref aFi, .int lnm, .int rsm, .ref aHe, .int bxs, .int wdt, .int hgh, .ref aCa, .ref aTo, .int byn, .ref aTu, .int pgm, .int tpm, .int stn, .int lnx, .int lny])), (aTx, .inl (cI, 200, .inl txt)), (aBg, .inl (cI, 101, .inl u.1)), (aEn, .inl (cI, 101, .inl u.2))]) (va_A [(oM, .inr (5, [.int thr, .ref aTx, .int siz, .ref aBg, .ref aEn, .ref aLe, .ref aMa, .ref aFi, .int lnm, .int rsm, .ref aHe, .int bxs, .int wdt, .int hgh, .ref aCa, .ref aTo, .int byn, .ref aTu, .int pgm, .int tpm, .int stn, .int lnx, .int lny])), (aTx, .inl (cI, 200, .inl txt)), (aBg, .inl (cI, 101, .inl bgn)), (aEn, .inl (cI, 101, .inl enn))] sz)) 0 0 (va_A [(oM, .inr (5, [.int thr, .ref aTx, .int siz, .ref aBg, .ref aEn, .ref aLe, .ref aMa, .ref aFi, .int lnm, .int rsm, .ref aHe, .int bxs, .int wdt, .int hgh, .ref aCa, .ref aTo, .int byn, .ref aTu, .int pgm, .int tpm, .int stn, .int lnx, .int lny])), (aTx, .inl (cI, 200, .inl txt)), (aBg, .inl (cI, 101, .inl bgn)), (aEn, .inl (cI, 101, .inl enn))] sz) := by
  refine Met.ofW (cc := b_Mod_cutWords) (maxL := 3) (ret := (some .int)) (by decide) rfl ?_
  intro p e s m args below meth c s₁ B hml hv
  obtain ⟨rfl, hsz, hP, hK, hD0⟩ := hv
  have hx := B.exec
  have hb := B.bytes
  have hr := B.returns
  have hts := atoms_spec (ws := w_Mod_cutWords) B.pre
  have hown : s.vm.findClass R_Mod = some m.cls := findClass_of_methodNamed B.named
  have hlocks := B.notSynchronized
  have hw_Mod : ∀ w ∈ w_Mod, w ∈ w_Mod_cutWords := by decide +kernel
  subst hsz
  have hD := hD0.self (sz := s.heap.size)
  generalize hAe : va_A [(oM, .inr (5, [.int thr, .ref aTx, .int siz, .ref aBg, .ref aEn, .ref aLe, .ref aMa, .ref aFi, .int lnm, .int rsm, .ref aHe, .int bxs, .int wdt, .int hgh, .ref aCa, .ref aTo, .int byn, .ref aTu, .int pgm, .int tpm, .int stn, .int lnx, .int lny])), (aTx, .inl (cI, 200, .inl txt)), (aBg, .inl (cI, 101, .inl bgn)), (aEn, .inl (cI, 101, .inl enn))] s.heap.size = A at hD ⊢
  have hA : ∀ q : Nat, s.heap.size ≤ q → A q := fun q h => by rw [← hAe]; exact Or.inr h
  have hS : va_S A s.heap s.heap [] := va_S.rf
  have hP : va_P (dC, dI) classes [(oM, .inr (5, [.int thr, .ref aTx, .int siz, .ref aBg, .ref aEn, .ref aLe, .ref aMa, .ref aFi, .int lnm, .int rsm, .ref aHe, .int bxs, .int wdt, .int hgh, .ref aCa, .ref aTo, .int byn, .ref aTu, .int pgm, .int tpm, .int stn, .int lnx, .int lny])), (aTx, .inl (cI, 200, .inl txt)), (aBg, .inl (cI, 101, .inl bgn)), (aEn, .inl (cI, 101, .inl enn))] s.heap := hP
  have hl := lv_entry ([.ref oM]) (n := 3) (Nat.le_of_ble_eq_true rfl)
  rw [lg_entry_eq]
  generalize (lg_sl ([.ref oM]) ++ List.replicate (3 - (lg_sl ([.ref oM])).length) Slot.unset).toArray = ls at hl ⊢
  have hl : lv_has ls 3 [(0, .ref oM)] := hl
  have loop4 : ∀ (n4 : Nat) (k : Nat) (w : Nat) (x1 : Int32) (x2 : Int32) (bgn1 : Nat → Int32) (enn1 : Nat → Int32), (n - k < n4) → (k ≤ n) → (x1.toInt = (w : Int)) → (x2.toInt = (k : Int)) → (ts_out txt k n w) → (ts_w bgn1 enn1 w k (ts txt k).2.2) → ∀ (H : Heap) (locs : List Loc), va_P (dC, dI) classes [(oM, .inr (5, [.int thr, .ref aTx, .int siz, .ref aBg, .ref aEn, .ref aLe, .ref aMa, .ref aFi, .int lnm, .int rsm, .ref aHe, .int bxs, .int wdt, .int hgh, .ref aCa, .ref aTo, .int byn, .ref aTu, .int pgm, .int tpm, .int stn, .int lnx, .int lny])), (aTx, .inl (cI, 200, .inl txt)), (aBg, .inl (cI, 101, .inl bgn1)), (aEn, .inl (cI, 101, .inl enn1))] H → va_D A [(oM, .inr (5, [.int thr, .ref aTx, .int siz, .ref aBg, .ref aEn, .ref aLe, .ref aMa, .ref aFi, .int lnm, .int rsm, .ref aHe, .int bxs, .int wdt, .int hgh, .ref aCa, .ref aTo, .int byn, .ref aTu, .int pgm, .int tpm, .int stn, .int lnx, .int lny])), (aTx, .inl (cI, 200, .inl txt)), (aBg, .inl (cI, 101, .inl bgn1)), (aEn, .inl (cI, 101, .inl enn1))] → va_S A s.heap H locs → ∀ (ls : Array Slot), lv_has ls 3 [(0, .ref oM), (1, .int x1), (2, .int x2)] → W p l e (headSpec w_Mod_cutWords ({ frames := 0, cells := 0, slots := 0, locals := 0 })).room s m ([.ref oM] : List Value).toArray below meth c H locs 0 0 (MQ below (va_Qi (fun (r : Int32) (u : (Nat → Int32) × (Nat → Int32)) => r.toInt = ((ts txt n).1 : Int) ∧ ts_w u.1 u.2 (ts txt n).1 n (ts txt n).2.2) (fun (u : (Nat → Int32) × (Nat → Int32)) (t : State) => va_P (dC, dI) classes [(oM, .inr (5, [.int thr, .ref aTx, .int siz, .ref aBg, .ref aEn, .ref aLe, .ref aMa, .ref aFi, .int lnm, .int rsm, .ref aHe, .int bxs, .int wdt, .int hgh, .ref aCa, .ref aTo, .int byn, .ref aTu, .int pgm, .int tpm, .int stn, .int lnx, .int lny])), (aTx, .inl (cI, 200, .inl txt)), (aBg, .inl (cI, 101, .inl u.1)), (aEn, .inl (cI, 101, .inl u.2))] t.heap ∧ va_K (dC, dI) classes [(cI, .int), (cZ, .boolean)] t ∧ va_D (A) [(oM, .inr (5, [.int thr, .ref aTx, .int siz, .ref aBg, .ref aEn, .ref aLe, .ref aMa, .ref aFi, .int lnm, .int rsm, .ref aHe, .int bxs, .int wdt, .int hgh, .ref aCa, .ref aTo, .int byn, .ref aTu, .int pgm, .int tpm, .int stn, .int lnx, .int lny])), (aTx, .inl (cI, 200, .inl txt)), (aBg, .inl (cI, 101, .inl u.1)), (aEn, .inl (cI, 101, .inl u.2))]) (A)) ([.ref oM] : List Value).toArray s 0 0 A) (F0 m 4 ls []) := by
    intro n4
    induction n4 with
    | zero => intro k w x1 x2 bgn1 enn1 hmz4; omega
    | succ n4 ih4 =>
      intro k w x1 x2 bgn1 enn1 hmz4 hk e1 e2 ho hw H locs hP hD hS ls hl
      have hbn := ts_bnd txt k
      have hw1 := ho.1
      have hwb : 2 * w ≤ k + 1 := by cases hq : (ts txt k).2.1; have := hbn.2 hq; omega; have := hbn.1 hq; omega
      refine lv_iload_n hx hb d_Mod_cutWords_4 rfl (lv_at hl 2 rfl) ?_
      refine lv_aload_n hx hb d_Mod_cutWords_5 rfl (lv_at hl 0 rfl) ?_
      refine va_get (D := (dC, dI)) (ci := 5) (v := .int siz) (C := R_Mod) (T := F_Mod) (N := 23) hx hb hts hw_Mod hown hK hP 0 rfl rfl 2 (by decide) (hts (.fieldLink R_Mod 55 "PageFormsModel" "size" "I") (by decide +kernel)) (fun _ h9 => h9) rfl d_Mod_cutWords_6 ?_
      refine xi_icmp_ge (tgt := 74) hx hb e2 hn d_Mod_cutWords_9 (by decide) (fun c9 => ?_) (fun c9 => ?_)
      · refine lv_iload_n hx hb d_Mod_cutWords_74 rfl (lv_at hl 1 rfl) ?_
        have hkn : k = n := by omega
        rw [hkn] at hw1 hw
        exact W.iret (v := x1) hx hb hr (fun t ht hW => ⟨⟨x1, (bgn1, enn1), rfl, (show x1.toInt = ((ts txt n).1 : Int) ∧ ts_w bgn1 enn1 (ts txt n).1 n (ts txt n).2.2 from ⟨by rw [hw1]; exact e1, by rw [hw1]; exact hw⟩), by rw [ht]; exact hP, va_K.moved hW.alike hK, hD⟩, hS.F ht⟩) hS.2.2 d_Mod_cutWords_75
      · refine lv_aload_n hx hb d_Mod_cutWords_12 rfl (lv_at hl 0 rfl) ?_
        refine va_get (D := (dC, dI)) (ci := 5) (v := .ref aTx) (C := R_Mod) (T := F_Mod) (N := 23) hx hb hts hw_Mod hown hK hP 0 rfl rfl 1 (by decide) (hts (.fieldLink R_Mod 7 "PageFormsModel" "text" "[I") (by decide +kernel)) (fun _ h9 => h9) rfl d_Mod_cutWords_13 ?_
        refine lv_iload_n hx hb d_Mod_cutWords_16 rfl (lv_at hl 2 rfl) ?_
        refine xa_iald hx hb hK hP 1 0 rfl rfl e2 k (by omega) (by omega) d_Mod_cutWords_17 ?_
        refine lv_bipush (v := 32) hx hb d_Mod_cutWords_18 (by decide) ?_
        refine xi_icmp_ne (tgt := 29) hx hb (rfl) (show (32 : Int32).toInt = 32 by decide) d_Mod_cutWords_20 (by decide) (fun c20 => ?_) (fun c20 => ?_)
        · refine lv_aload_n hx hb d_Mod_cutWords_29 rfl (lv_at hl 0 rfl) ?_
          refine va_get (D := (dC, dI)) (ci := 5) (v := .ref aBg) (C := R_Mod) (T := F_Mod) (N := 23) hx hb hts hw_Mod hown hK hP 0 rfl rfl 3 (by decide) (hts (.fieldLink R_Mod 13 "PageFormsModel" "begin" "[I") (by decide +kernel)) (fun _ h9 => h9) rfl d_Mod_cutWords_30 ?_
          refine lv_iload_n hx hb d_Mod_cutWords_33 rfl (lv_at hl 1 rfl) ?_
          refine lv_iload_n hx hb d_Mod_cutWords_34 rfl (lv_at hl 2 rfl) ?_
          refine xa_iast hx hb hK hP hD hS 2 0 rfl rfl e1 w (by omega) (by omega) d_Mod_cutWords_35 (fun H locs hP hD hS => ?_)
          have hP : va_P (dC, dI) classes [(oM, .inr (5, [.int thr, .ref aTx, .int siz, .ref aBg, .ref aEn, .ref aLe, .ref aMa, .ref aFi, .int lnm, .int rsm, .ref aHe, .int bxs, .int wdt, .int hgh, .ref aCa, .ref aTo, .int byn, .ref aTu, .int pgm, .int tpm, .int stn, .int lnx, .int lny])), (aTx, .inl (cI, 200, .inl txt)), (aBg, .inl (cI, 101, .inl (upd bgn1 w x2))), (aEn, .inl (cI, 101, .inl enn1))] H := hP
          have hD : va_D A [(oM, .inr (5, [.int thr, .ref aTx, .int siz, .ref aBg, .ref aEn, .ref aLe, .ref aMa, .ref aFi, .int lnm, .int rsm, .ref aHe, .int bxs, .int wdt, .int hgh, .ref aCa, .ref aTo, .int byn, .ref aTu, .int pgm, .int tpm, .int stn, .int lnx, .int lny])), (aTx, .inl (cI, 200, .inl txt)), (aBg, .inl (cI, 101, .inl (upd bgn1 w x2))), (aEn, .inl (cI, 101, .inl enn1))] := hD
          have hnb : ¬ txt k = 32 := fun q => c20 (by rw [q]; decide)
          have hfl : (ts txt k).2.1 = false := by cases hq : (ts txt k).2.1; rfl; rcases ho.2 hq with z | z; omega; exact absurd z hnb
          have loop36 : ∀ (n36 : Nat) (k2 : Nat) (x22 : Int32), (n - k2 < n36) → (k ≤ k2 ∧ k2 ≤ n) → (x22.toInt = (k2 : Int)) → (ts_mid txt k k2 w (ts txt k).2.2) → ∀ (H : Heap) (locs : List Loc), va_P (dC, dI) classes [(oM, .inr (5, [.int thr, .ref aTx, .int siz, .ref aBg, .ref aEn, .ref aLe, .ref aMa, .ref aFi, .int lnm, .int rsm, .ref aHe, .int bxs, .int wdt, .int hgh, .ref aCa, .ref aTo, .int byn, .ref aTu, .int pgm, .int tpm, .int stn, .int lnx, .int lny])), (aTx, .inl (cI, 200, .inl txt)), (aBg, .inl (cI, 101, .inl (upd bgn1 w x2))), (aEn, .inl (cI, 101, .inl enn1))] H → va_D A [(oM, .inr (5, [.int thr, .ref aTx, .int siz, .ref aBg, .ref aEn, .ref aLe, .ref aMa, .ref aFi, .int lnm, .int rsm, .ref aHe, .int bxs, .int wdt, .int hgh, .ref aCa, .ref aTo, .int byn, .ref aTu, .int pgm, .int tpm, .int stn, .int lnx, .int lny])), (aTx, .inl (cI, 200, .inl txt)), (aBg, .inl (cI, 101, .inl (upd bgn1 w x2))), (aEn, .inl (cI, 101, .inl enn1))] → va_S A s.heap H locs → ∀ (ls : Array Slot), lv_has ls 3 [(0, .ref oM), (1, .int x1), (2, .int x22)] → W p l e (headSpec w_Mod_cutWords ({ frames := 0, cells := 0, slots := 0, locals := 0 })).room s m ([.ref oM] : List Value).toArray below meth c H locs 0 0 (MQ below (va_Qi (fun (r : Int32) (u : (Nat → Int32) × (Nat → Int32)) => r.toInt = ((ts txt n).1 : Int) ∧ ts_w u.1 u.2 (ts txt n).1 n (ts txt n).2.2) (fun (u : (Nat → Int32) × (Nat → Int32)) (t : State) => va_P (dC, dI) classes [(oM, .inr (5, [.int thr, .ref aTx, .int siz, .ref aBg, .ref aEn, .ref aLe, .ref aMa, .ref aFi, .int lnm, .int rsm, .ref aHe, .int bxs, .int wdt, .int hgh, .ref aCa, .ref aTo, .int byn, .ref aTu, .int pgm, .int tpm, .int stn, .int lnx, .int lny])), (aTx, .inl (cI, 200, .inl txt)), (aBg, .inl (cI, 101, .inl u.1)), (aEn, .inl (cI, 101, .inl u.2))] t.heap ∧ va_K (dC, dI) classes [(cI, .int), (cZ, .boolean)] t ∧ va_D (A) [(oM, .inr (5, [.int thr, .ref aTx, .int siz, .ref aBg, .ref aEn, .ref aLe, .ref aMa, .ref aFi, .int lnm, .int rsm, .ref aHe, .int bxs, .int wdt, .int hgh, .ref aCa, .ref aTo, .int byn, .ref aTu, .int pgm, .int tpm, .int stn, .int lnx, .int lny])), (aTx, .inl (cI, 200, .inl txt)), (aBg, .inl (cI, 101, .inl u.1)), (aEn, .inl (cI, 101, .inl u.2))]) (A)) ([.ref oM] : List Value).toArray s 0 0 A) (F0 m 36 ls []) := by
            intro n36
            induction n36 with
            | zero => intro k2 x22 hmz36; omega
            | succ n36 ih36 =>
              intro k2 x22 hmz36 hk2 e22 hmid H locs hP hD hS ls hl
              refine lv_iload_n hx hb d_Mod_cutWords_36 rfl (lv_at hl 2 rfl) ?_
              refine lv_aload_n hx hb d_Mod_cutWords_37 rfl (lv_at hl 0 rfl) ?_
              refine va_get (D := (dC, dI)) (ci := 5) (v := .int siz) (C := R_Mod) (T := F_Mod) (N := 23) hx hb hts hw_Mod hown hK hP 0 rfl rfl 2 (by decide) (hts (.fieldLink R_Mod 55 "PageFormsModel" "size" "I") (by decide +kernel)) (fun _ h9 => h9) rfl d_Mod_cutWords_38 ?_
              refine xi_icmp_ge (tgt := 61) hx hb e22 hn d_Mod_cutWords_41 (by decide) (fun c41 => ?_) (fun c41 => ?_)
              · refine lv_aload_n hx hb d_Mod_cutWords_61 rfl (lv_at hl 0 rfl) ?_
                refine va_get (D := (dC, dI)) (ci := 5) (v := .ref aEn) (C := R_Mod) (T := F_Mod) (N := 23) hx hb hts hw_Mod hown hK hP 0 rfl rfl 4 (by decide) (hts (.fieldLink R_Mod 16 "PageFormsModel" "end" "[I") (by decide +kernel)) (fun _ h9 => h9) rfl d_Mod_cutWords_62 ?_
                refine lv_iload_n hx hb d_Mod_cutWords_65 rfl (lv_at hl 1 rfl) ?_
                refine lv_iload_n hx hb d_Mod_cutWords_66 rfl (lv_at hl 2 rfl) ?_
                refine xa_iast hx hb hK hP hD hS 3 0 rfl rfl e1 w (by omega) (by omega) d_Mod_cutWords_67 (fun H locs hP hD hS => ?_)
                have hP : va_P (dC, dI) classes [(oM, .inr (5, [.int thr, .ref aTx, .int siz, .ref aBg, .ref aEn, .ref aLe, .ref aMa, .ref aFi, .int lnm, .int rsm, .ref aHe, .int bxs, .int wdt, .int hgh, .ref aCa, .ref aTo, .int byn, .ref aTu, .int pgm, .int tpm, .int stn, .int lnx, .int lny])), (aTx, .inl (cI, 200, .inl txt)), (aBg, .inl (cI, 101, .inl (upd bgn1 w x2))), (aEn, .inl (cI, 101, .inl (upd enn1 w x22)))] H := hP
                have hD : va_D A [(oM, .inr (5, [.int thr, .ref aTx, .int siz, .ref aBg, .ref aEn, .ref aLe, .ref aMa, .ref aFi, .int lnm, .int rsm, .ref aHe, .int bxs, .int wdt, .int hgh, .ref aCa, .ref aTo, .int byn, .ref aTu, .int pgm, .int tpm, .int stn, .int lnx, .int lny])), (aTx, .inl (cI, 200, .inl txt)), (aBg, .inl (cI, 101, .inl (upd bgn1 w x2))), (aEn, .inl (cI, 101, .inl (upd enn1 w x22)))] := hD
                obtain ⟨v68, ev68⟩ : ∃ y : Int32, y = (x1 + 1) := ⟨_, rfl⟩
                have fv68 : v68.toInt = ((w : Int) + 1) := by rw [ev68]; exact xi_add e1 (show (1 : Int32).toInt = 1 by decide) (by omega) (by omega)
                refine lv_iinc (v := v68) (lv' := [(1, .int v68), (0, .ref oM), (2, .int x22)]) hx hb d_Mod_cutWords_68 hl (k := 1) rfl (by rw [ev68]; rfl) (by decide) rfl (fun ls hl => ?_)
                refine lv_goto (tgt := 4) hx hb d_Mod_cutWords_71 (by decide) ?_
                have hlt : k < k2 := by omega
                have hfin := ts_end (sz := n) hmid hlt hw (x := x2) e2 e22 (Or.inl (by omega))
                exact ih4 k2 (w + 1) v68 x22 (upd bgn1 w x2) (upd enn1 w x22) (by omega) (by omega) (by omega) e22 hfin.1 hfin.2 _ _ hP hD hS ls (lv_sub hl [1, 0, 2] rfl)
              · refine lv_aload_n hx hb d_Mod_cutWords_44 rfl (lv_at hl 0 rfl) ?_
                refine va_get (D := (dC, dI)) (ci := 5) (v := .ref aTx) (C := R_Mod) (T := F_Mod) (N := 23) hx hb hts hw_Mod hown hK hP 0 rfl rfl 1 (by decide) (hts (.fieldLink R_Mod 7 "PageFormsModel" "text" "[I") (by decide +kernel)) (fun _ h9 => h9) rfl d_Mod_cutWords_45 ?_
                refine lv_iload_n hx hb d_Mod_cutWords_48 rfl (lv_at hl 2 rfl) ?_
                refine xa_iald hx hb hK hP 1 0 rfl rfl e22 k2 (by omega) (by omega) d_Mod_cutWords_49 ?_
                refine lv_bipush (v := 32) hx hb d_Mod_cutWords_50 (by decide) ?_
                refine xi_icmp_eq (tgt := 61) hx hb (rfl) (show (32 : Int32).toInt = 32 by decide) d_Mod_cutWords_52 (by decide) (fun c52 => ?_) (fun c52 => ?_)
                · refine lv_aload_n hx hb d_Mod_cutWords_61 rfl (lv_at hl 0 rfl) ?_
                  refine va_get (D := (dC, dI)) (ci := 5) (v := .ref aEn) (C := R_Mod) (T := F_Mod) (N := 23) hx hb hts hw_Mod hown hK hP 0 rfl rfl 4 (by decide) (hts (.fieldLink R_Mod 16 "PageFormsModel" "end" "[I") (by decide +kernel)) (fun _ h9 => h9) rfl d_Mod_cutWords_62 ?_
                  refine lv_iload_n hx hb d_Mod_cutWords_65 rfl (lv_at hl 1 rfl) ?_
                  refine lv_iload_n hx hb d_Mod_cutWords_66 rfl (lv_at hl 2 rfl) ?_
                  refine xa_iast hx hb hK hP hD hS 3 0 rfl rfl e1 w (by omega) (by omega) d_Mod_cutWords_67 (fun H locs hP hD hS => ?_)
                  have hP : va_P (dC, dI) classes [(oM, .inr (5, [.int thr, .ref aTx, .int siz, .ref aBg, .ref aEn, .ref aLe, .ref aMa, .ref aFi, .int lnm, .int rsm, .ref aHe, .int bxs, .int wdt, .int hgh, .ref aCa, .ref aTo, .int byn, .ref aTu, .int pgm, .int tpm, .int stn, .int lnx, .int lny])), (aTx, .inl (cI, 200, .inl txt)), (aBg, .inl (cI, 101, .inl (upd bgn1 w x2))), (aEn, .inl (cI, 101, .inl (upd enn1 w x22)))] H := hP
                  have hD : va_D A [(oM, .inr (5, [.int thr, .ref aTx, .int siz, .ref aBg, .ref aEn, .ref aLe, .ref aMa, .ref aFi, .int lnm, .int rsm, .ref aHe, .int bxs, .int wdt, .int hgh, .ref aCa, .ref aTo, .int byn, .ref aTu, .int pgm, .int tpm, .int stn, .int lnx, .int lny])), (aTx, .inl (cI, 200, .inl txt)), (aBg, .inl (cI, 101, .inl (upd bgn1 w x2))), (aEn, .inl (cI, 101, .inl (upd enn1 w x22)))] := hD
                  obtain ⟨v68, ev68⟩ : ∃ y : Int32, y = (x1 + 1) := ⟨_, rfl⟩
                  have fv68 : v68.toInt = ((w : Int) + 1) := by rw [ev68]; exact xi_add e1 (show (1 : Int32).toInt = 1 by decide) (by omega) (by omega)
                  refine lv_iinc (v := v68) (lv' := [(1, .int v68), (0, .ref oM), (2, .int x22)]) hx hb d_Mod_cutWords_68 hl (k := 1) rfl (by rw [ev68]; rfl) (by decide) rfl (fun ls hl => ?_)
                  refine lv_goto (tgt := 4) hx hb d_Mod_cutWords_71 (by decide) ?_
                  have hb2 : txt k2 = 32 := Int32.toInt_inj.mp c52
                  have hlt : k < k2 := by rcases Nat.lt_or_ge k k2 with z | z; exact z; exact absurd (by rw [show k = k2 by omega]; exact hb2) hnb
                  have hfin := ts_end (sz := n) hmid hlt hw (x := x2) e2 e22 (Or.inr hb2)
                  exact ih4 k2 (w + 1) v68 x22 (upd bgn1 w x2) (upd enn1 w x22) (by omega) (by omega) (by omega) e22 hfin.1 hfin.2 _ _ hP hD hS ls (lv_sub hl [1, 0, 2] rfl)
                · obtain ⟨v55, ev55⟩ : ∃ y : Int32, y = (x22 + 1) := ⟨_, rfl⟩
                  have fv55 : v55.toInt = ((k2 : Int) + 1) := by rw [ev55]; exact xi_add e22 (show (1 : Int32).toInt = 1 by decide) (by omega) (by omega)
                  refine lv_iinc (v := v55) (lv' := [(2, .int v55), (0, .ref oM), (1, .int x1)]) hx hb d_Mod_cutWords_55 hl (k := 2) rfl (by rw [ev55]; rfl) (by decide) rfl (fun ls hl => ?_)
                  refine lv_goto (tgt := 36) hx hb d_Mod_cutWords_58 (by decide) ?_
                  exact ih36 (k2 + 1) v55 (by omega) (by omega) (by omega) (ts_mid_s hmid (fun q => c52 (by rw [q]; decide))) _ _ hP hD hS ls (lv_sub hl [1, 2, 0] rfl)
          exact loop36 (n + 1) k x2 (by omega) ⟨Nat.le_refl _, by omega⟩ e2 (Or.inl ⟨rfl, hw1, hfl, rfl⟩) _ _ hP hD hS ls (lv_sub hl [0, 1, 2] rfl)
        · obtain ⟨v23, ev23⟩ : ∃ y : Int32, y = (x2 + 1) := ⟨_, rfl⟩
          have fv23 : v23.toInt = ((k : Int) + 1) := by rw [ev23]; exact xi_add e2 (show (1 : Int32).toInt = 1 by decide) (by omega) (by omega)
          refine lv_iinc (v := v23) (lv' := [(2, .int v23), (0, .ref oM), (1, .int x1)]) hx hb d_Mod_cutWords_23 hl (k := 2) rfl (by rw [ev23]; rfl) (by decide) rfl (fun ls hl => ?_)
          refine lv_goto (tgt := 4) hx hb d_Mod_cutWords_26 (by decide) ?_
          have hbl : txt k = 32 := Int32.toInt_inj.mp c20
          exact ih4 (k + 1) w x1 v23 bgn1 enn1 (by omega) (by omega) (by omega) (by omega) (by rw [ts_out, ts_bl hbl]; exact ⟨hw1, fun q => by cases q⟩) (by rw [ts_bl hbl]; exact ts_w_le hw (by omega)) _ _ hP hD hS ls (lv_sub hl [1, 2, 0] rfl)
  refine lv_iconst (v := 0) hx hb d_Mod_cutWords_0 (by decide) ?_
  refine lv_istore_n (lv' := [(1, .int 0), (0, .ref oM)]) hx hb d_Mod_cutWords_1 rfl hl (by decide) rfl (fun ls hl => ?_)
  refine lv_iconst (v := 0) hx hb d_Mod_cutWords_2 (by decide) ?_
  refine lv_istore_n (lv' := [(2, .int 0), (1, .int 0), (0, .ref oM)]) hx hb d_Mod_cutWords_3 rfl hl (by decide) rfl (fun ls hl => ?_)
  exact loop4 (n + 1) 0 0 0 0 bgn enn (by omega) (by omega) (by decide) (by decide) ⟨rfl, fun q => by cases q⟩ (fun j hj => by omega) _ _ hP hD hS ls (lv_sub hl [2, 1, 0] rfl)

set_option maxHeartbeats 4000000 in
set_option maxRecDepth 100000 in
theorem k_Mod_findLine (l : Launch) (dC : Nat → ClassId) (dI : Nat → Nat → Nat) (cI cZ : ClassId) (oM : Nat) (aBg : Nat) (aEn : Nat) (aLe : Nat) (aMa : Nat) (thr : Int32) (aTx : Nat) (siz : Int32) (aFi : Nat) (lnm : Int32) (rsm : Int32) (aHe : Nat) (bxs : Int32) (wdt : Int32) (hgh : Int32) (aCa : Nat) (aTo : Nat) (byn : Int32) (aTu : Nat) (pgm : Int32) (tpm : Int32) (stn : Int32) (lnx : Int32) (lny : Int32) (bgn : Nat → Int32) (enn : Nat → Int32) (lea : Nat → Int32) (man : Nat → Int32) (sz : Nat) (p1 : Int32) (p2 : Int32) (p3 : Int32) (w : Nat) (L : Nat → Nat) (v : Nat) (i : Nat) (C : Nat → Nat) (hw0 : p2.toInt = (w : Int)) (hw100 : w ≤ 100) (hL0 : ∀ j, j < w → 0 ≤ (bgn j).toInt ∧ (enn j).toInt ≤ 200 ∧ (enn j).toInt - (bgn j).toInt = (L j : Int) ∧ L j ≤ v) (e1 : p1.toInt = (i : Int)) (hi : i < w) (e3 : p3.toInt = (v : Int)) (hv : v ≤ 100) (hC : ∀ j, i < j → j ≤ w → (lea j).toInt = (C j : Int) ∧ C j ≤ 10000 * (w - j)) : Met l y_Mod_findLine w_Mod_findLine ({ frames := 0, cells := 0, slots := 0, locals := 0 }) (va_Pc [.ref oM, .int p1, .int p2, .int p3] (fun U => U.heap.size = sz ∧ va_P (dC, dI) classes [(oM, .inr (5, [.int thr, .ref aTx, .int siz, .ref aBg, .ref aEn, .ref aLe, .ref aMa, .ref aFi, .int lnm, .int rsm, .ref aHe, .int bxs, .int wdt, .int hgh, .ref aCa, .ref aTo, .int byn, .ref aTu, .int pgm, .int tpm, .int stn, .int lnx, .int lny])), (aBg, .inl (cI, 101, .inl bgn)), (aEn, .inl (cI, 101, .inl enn)), (aLe, .inl (cI, 102, .inl lea)), (aMa, .inl (cI, 102, .inl man))] U.heap ∧ va_K (dC, dI) classes [(cI, .int), (cZ, .boolean)] U ∧ va_D (fun _ => True) [(oM, .inr (5, [.int thr, .ref aTx, .int siz, .ref aBg, .ref aEn, .ref aLe, .ref aMa, .ref aFi, .int lnm, .int rsm, .ref aHe, .int bxs, .int wdt, .int hgh, .ref aCa, .ref aTo, .int byn, .ref aTu, .int pgm, .int tpm, .int stn, .int lnx, .int lny])), (aBg, .inl (cI, 101, .inl bgn)), (aEn, .inl (cI, 101, .inl enn)), (aLe, .inl (cI, 102, .inl lea)), (aMa, .inl (cI, 102, .inl man))])) (va_Qv (fun (u : (Nat → Int32) × (Nat → Int32)) => ∃ cb nb : Nat, (u.1 i).toInt = (cb : Int) ∧ (u.2 i).toInt = (nb : Int) - ((i : Nat) : Int) ∧ tx_bt L v C i w cb nb ∧ (∀ j, j ≠ i → u.1 j = lea j) ∧ (∀ j, j ≠ i → u.2 j = man j)) (fun (u : (Nat → Int32) × (Nat → Int32)) (t : State) => va_P (dC, dI) classes [(oM, .inr (5, [.int thr, .ref aTx, .int siz, .ref aBg, .ref aEn, .ref aLe, .ref aMa, .ref aFi, .int lnm, .int rsm, .ref aHe, .int bxs, .int wdt, .int hgh, .ref aCa, .ref aTo, .int byn, .ref aTu, .int pgm, .int tpm, .int stn, .int lnx, .int lny])), (aBg, .inl (cI, 101, .inl bgn)), (aEn, .inl (cI, 101, .inl enn)), (aLe, .inl (cI, 102, .inl u.1)), (aMa, .inl (cI, 102, .inl u.2))] t.heap ∧ va_K (dC, dI) classes [(cI, .int), (cZ, .boolean)] t ∧ va_D (va_A [(oM, .inr (5, [.int thr, .ref aTx, .int siz, .ref aBg, .ref aEn, .ref aLe, .ref aMa, .ref aFi, .int lnm, .int rsm, .ref aHe, .int bxs, .int wdt, .int hgh, .ref aCa, .ref aTo, .int byn, .ref aTu, .int pgm, .int tpm, .int stn, .int lnx, .int lny])), (aBg, .inl (cI, 101, .inl bgn)), (aEn, .inl (cI, 101, .inl enn)), (aLe, .inl (cI, 102, .inl lea)), (aMa, .inl (cI, 102, .inl man))] sz) [(oM, .inr (5, [.int thr, .ref aTx, .int siz, .ref aBg, .ref aEn, .ref aLe, .ref aMa, .ref aFi, .int lnm, .int rsm, .ref aHe, .int bxs, .int wdt, .int hgh, .ref aCa, .ref aTo, .int byn, .ref aTu, .int pgm, .int tpm, .int stn, .int lnx, .int lny])), (aBg, .inl (cI, 101, .inl bgn)), (aEn, .inl (cI, 101, .inl enn)), (aLe, .inl (cI, 102, .inl u.1)), (aMa, .inl (cI, 102, .inl u.2))]) (va_A [(oM, .inr (5, [.int thr, .ref aTx, .int siz, .ref aBg, .ref aEn, .ref aLe, .ref aMa, .ref aFi, .int lnm, .int rsm, .ref aHe, .int bxs, .int wdt, .int hgh, .ref aCa, .ref aTo, .int byn, .ref aTu, .int pgm, .int tpm, .int stn, .int lnx, .int lny])), (aBg, .inl (cI, 101, .inl bgn)), (aEn, .inl (cI, 101, .inl enn)), (aLe, .inl (cI, 102, .inl lea)), (aMa, .inl (cI, 102, .inl man))] sz)) 0 0 (va_A [(oM, .inr (5, [.int thr, .ref aTx, .int siz, .ref aBg, .ref aEn, .ref aLe, .ref aMa, .ref aFi, .int lnm, .int rsm, .ref aHe, .int bxs, .int wdt, .int hgh, .ref aCa, .ref aTo, .int byn, .ref aTu, .int pgm, .int tpm, .int stn, .int lnx, .int lny])), (aBg, .inl (cI, 101, .inl bgn)), (aEn, .inl (cI, 101, .inl enn)), (aLe, .inl (cI, 102, .inl lea)), (aMa, .inl (cI, 102, .inl man))] sz) := by
  refine Met.ofW (cc := b_Mod_findLine) (maxL := 8) (ret := none) (by decide) rfl ?_
  intro p e s m args below meth c s₁ B hml hv
  obtain ⟨rfl, hsz, hP, hK, hD0⟩ := hv
  have hx := B.exec
  have hb := B.bytes
  have hr := B.returns
  have hts := atoms_spec (ws := w_Mod_findLine) B.pre
  have hown : s.vm.findClass R_Mod = some m.cls := findClass_of_methodNamed B.named
  have hlocks := B.notSynchronized
  have hw_Mod : ∀ w ∈ w_Mod, w ∈ w_Mod_findLine := by decide +kernel
  subst hsz
  have hD := hD0.self (sz := s.heap.size)
  generalize hAe : va_A [(oM, .inr (5, [.int thr, .ref aTx, .int siz, .ref aBg, .ref aEn, .ref aLe, .ref aMa, .ref aFi, .int lnm, .int rsm, .ref aHe, .int bxs, .int wdt, .int hgh, .ref aCa, .ref aTo, .int byn, .ref aTu, .int pgm, .int tpm, .int stn, .int lnx, .int lny])), (aBg, .inl (cI, 101, .inl bgn)), (aEn, .inl (cI, 101, .inl enn)), (aLe, .inl (cI, 102, .inl lea)), (aMa, .inl (cI, 102, .inl man))] s.heap.size = A at hD ⊢
  have hA : ∀ q : Nat, s.heap.size ≤ q → A q := fun q h => by rw [← hAe]; exact Or.inr h
  have hS : va_S A s.heap s.heap [] := va_S.rf
  have hP : va_P (dC, dI) classes [(oM, .inr (5, [.int thr, .ref aTx, .int siz, .ref aBg, .ref aEn, .ref aLe, .ref aMa, .ref aFi, .int lnm, .int rsm, .ref aHe, .int bxs, .int wdt, .int hgh, .ref aCa, .ref aTo, .int byn, .ref aTu, .int pgm, .int tpm, .int stn, .int lnx, .int lny])), (aBg, .inl (cI, 101, .inl bgn)), (aEn, .inl (cI, 101, .inl enn)), (aLe, .inl (cI, 102, .inl lea)), (aMa, .inl (cI, 102, .inl man))] s.heap := hP
  have hl := lv_entry ([.ref oM, .int p1, .int p2, .int p3]) (n := 8) (Nat.le_of_ble_eq_true rfl)
  rw [lg_entry_eq]
  generalize (lg_sl ([.ref oM, .int p1, .int p2, .int p3]) ++ List.replicate (8 - (lg_sl ([.ref oM, .int p1, .int p2, .int p3])).length) Slot.unset).toArray = ls at hl ⊢
  have hl : lv_has ls 8 [(0, .ref oM), (1, .int p1), (2, .int p2), (3, .int p3)] := hl
  have hLi := (hL0 i hi).2.2
  have hr1 := tx_r1 hLi.2
  have loop13 : ∀ (n13 : Nat) (m_ : Nat) (cb : Nat) (nb : Nat) (x4 : Int32) (x5 : Int32) (lea1 : Nat → Int32) (man1 : Nat → Int32), (w - m_ < n13) → (i ≤ m_ ∧ m_ ≤ w) → (x5.toInt = (m_ : Int)) → (x4.toInt = (tx_S L m_ : Int) - (tx_S L i : Int) - 1) → (i < m_ → tx_fit L v i m_) → ((m_ = i ∧ (lea1 i).toInt = -1) ∨ (i < m_ ∧ (lea1 i).toInt = (cb : Int) ∧ (man1 i).toInt = (nb : Int) - (i : Int) ∧ tx_bt L v C i m_ cb nb)) → (∀ j, j ≠ i → lea1 j = lea j) → (∀ j, j ≠ i → man1 j = man j) → ∀ (H : Heap) (locs : List Loc), va_P (dC, dI) classes [(oM, .inr (5, [.int thr, .ref aTx, .int siz, .ref aBg, .ref aEn, .ref aLe, .ref aMa, .ref aFi, .int lnm, .int rsm, .ref aHe, .int bxs, .int wdt, .int hgh, .ref aCa, .ref aTo, .int byn, .ref aTu, .int pgm, .int tpm, .int stn, .int lnx, .int lny])), (aBg, .inl (cI, 101, .inl bgn)), (aEn, .inl (cI, 101, .inl enn)), (aLe, .inl (cI, 102, .inl lea1)), (aMa, .inl (cI, 102, .inl man1))] H → va_D A [(oM, .inr (5, [.int thr, .ref aTx, .int siz, .ref aBg, .ref aEn, .ref aLe, .ref aMa, .ref aFi, .int lnm, .int rsm, .ref aHe, .int bxs, .int wdt, .int hgh, .ref aCa, .ref aTo, .int byn, .ref aTu, .int pgm, .int tpm, .int stn, .int lnx, .int lny])), (aBg, .inl (cI, 101, .inl bgn)), (aEn, .inl (cI, 101, .inl enn)), (aLe, .inl (cI, 102, .inl lea1)), (aMa, .inl (cI, 102, .inl man1))] → va_S A s.heap H locs → ∀ (ls : Array Slot), lv_has ls 8 [(0, .ref oM), (1, .int p1), (2, .int p2), (3, .int p3), (4, .int x4), (5, .int x5)] → W p l e (headSpec w_Mod_findLine ({ frames := 0, cells := 0, slots := 0, locals := 0 })).room s m ([.ref oM, .int p1, .int p2, .int p3] : List Value).toArray below meth c H locs 0 0 (MQ below (va_Qv (fun (u : (Nat → Int32) × (Nat → Int32)) => ∃ cb nb : Nat, (u.1 i).toInt = (cb : Int) ∧ (u.2 i).toInt = (nb : Int) - ((i : Nat) : Int) ∧ tx_bt L v C i w cb nb ∧ (∀ j, j ≠ i → u.1 j = lea j) ∧ (∀ j, j ≠ i → u.2 j = man j)) (fun (u : (Nat → Int32) × (Nat → Int32)) (t : State) => va_P (dC, dI) classes [(oM, .inr (5, [.int thr, .ref aTx, .int siz, .ref aBg, .ref aEn, .ref aLe, .ref aMa, .ref aFi, .int lnm, .int rsm, .ref aHe, .int bxs, .int wdt, .int hgh, .ref aCa, .ref aTo, .int byn, .ref aTu, .int pgm, .int tpm, .int stn, .int lnx, .int lny])), (aBg, .inl (cI, 101, .inl bgn)), (aEn, .inl (cI, 101, .inl enn)), (aLe, .inl (cI, 102, .inl u.1)), (aMa, .inl (cI, 102, .inl u.2))] t.heap ∧ va_K (dC, dI) classes [(cI, .int), (cZ, .boolean)] t ∧ va_D (A) [(oM, .inr (5, [.int thr, .ref aTx, .int siz, .ref aBg, .ref aEn, .ref aLe, .ref aMa, .ref aFi, .int lnm, .int rsm, .ref aHe, .int bxs, .int wdt, .int hgh, .ref aCa, .ref aTo, .int byn, .ref aTu, .int pgm, .int tpm, .int stn, .int lnx, .int lny])), (aBg, .inl (cI, 101, .inl bgn)), (aEn, .inl (cI, 101, .inl enn)), (aLe, .inl (cI, 102, .inl u.1)), (aMa, .inl (cI, 102, .inl u.2))]) (A)) ([.ref oM, .int p1, .int p2, .int p3] : List Value).toArray s 0 0 A) (F0 m 13 ls []) := by
    intro n13
    induction n13 with
    | zero => intro m_ cb nb x4 x5 lea1 man1 hmz13; omega
    | succ n13 ih13 =>
      intro m_ cb nb x4 x5 lea1 man1 hmz13 hm1 e5 e4 hf hbest ho1 ho2 H locs hP hD hS ls hl
      have hmn := tx_S_mono L hm1.1
      have hff : tx_S L m_ ≤ tx_S L i + v + 1 := by rcases Nat.lt_or_ge i m_ with z | z; exact hf z; rw [show m_ = i by omega]; omega
      refine lv_iload hx hb d_Mod_findLine_13 (lv_at hl 5 rfl) ?_
      refine lv_iload_n hx hb d_Mod_findLine_15 rfl (lv_at hl 2 rfl) ?_
      refine xi_icmp_ge (tgt := 117) hx hb e5 hw0 d_Mod_findLine_16 (by decide) (fun c16 => ?_) (fun c16 => ?_)
      · obtain ⟨_, hz1, hz2, hz3⟩ : i < m_ ∧ (lea1 i).toInt = (cb : Int) ∧ (man1 i).toInt = (nb : Int) - (i : Int) ∧ tx_bt L v C i m_ cb nb := by rcases hbest with z | z; omega; exact z
        have hmw : m_ = w := by omega
        rw [hmw] at hz3
        exact W.vret hx hb hr (fun t ht hW => ⟨⟨(lea1, man1), rfl, (show ∃ cb nb : Nat, (lea1 i).toInt = (cb : Int) ∧ (man1 i).toInt = (nb : Int) - ((i : Nat) : Int) ∧ tx_bt L v C i w cb nb ∧ (∀ j, j ≠ i → lea1 j = lea j) ∧ (∀ j, j ≠ i → man1 j = man j) from ⟨cb, nb, hz1, hz2, hz3, ho1, ho2⟩), by rw [ht]; exact hP, va_K.moved hW.alike hK, hD⟩, hS.F ht⟩) hS.2.2 d_Mod_findLine_117
      · have hLm := hL0 m_ (by omega)
        have hSm : tx_S L (m_ + 1) = tx_S L m_ + L m_ + 1 := rfl
        refine lv_iload hx hb d_Mod_findLine_19 (lv_at hl 4 rfl) ?_
        refine lv_iconst (v := 1) hx hb d_Mod_findLine_21 (by decide) ?_
        refine lv_aload_n hx hb d_Mod_findLine_22 rfl (lv_at hl 0 rfl) ?_
        refine va_get (D := (dC, dI)) (ci := 5) (v := .ref aEn) (C := R_Mod) (T := F_Mod) (N := 23) hx hb hts hw_Mod hown hK hP 0 rfl rfl 4 (by decide) (hts (.fieldLink R_Mod 16 "PageFormsModel" "end" "[I") (by decide +kernel)) (fun _ h9 => h9) rfl d_Mod_findLine_23 ?_
        refine lv_iload hx hb d_Mod_findLine_26 (lv_at hl 5 rfl) ?_
        refine xa_iald hx hb hK hP 2 0 rfl rfl e5 m_ (by omega) (by omega) d_Mod_findLine_28 ?_
        refine lv_iadd hx hb d_Mod_findLine_29 ?_
        have a29 : (1 + (enn m_)).toInt = (1 + (enn m_).toInt) := xi_add (show (1 : Int32).toInt = 1 by decide) (rfl) (by omega) (by omega)
        refine lv_aload_n hx hb d_Mod_findLine_30 rfl (lv_at hl 0 rfl) ?_
        refine va_get (D := (dC, dI)) (ci := 5) (v := .ref aBg) (C := R_Mod) (T := F_Mod) (N := 23) hx hb hts hw_Mod hown hK hP 0 rfl rfl 3 (by decide) (hts (.fieldLink R_Mod 13 "PageFormsModel" "begin" "[I") (by decide +kernel)) (fun _ h9 => h9) rfl d_Mod_findLine_31 ?_
        refine lv_iload hx hb d_Mod_findLine_34 (lv_at hl 5 rfl) ?_
        refine xa_iald hx hb hK hP 1 0 rfl rfl e5 m_ (by omega) (by omega) d_Mod_findLine_36 ?_
        refine lv_isub hx hb d_Mod_findLine_37 ?_
        have a37 : ((1 + (enn m_)) - (bgn m_)).toInt = ((1 + (enn m_).toInt) - (bgn m_).toInt) := xi_sub a29 (rfl) (by omega) (by omega)
        refine lv_iadd hx hb d_Mod_findLine_38 ?_
        have a38 : (x4 + ((1 + (enn m_)) - (bgn m_))).toInt = (((tx_S L m_ : Int) - (tx_S L i : Int) - 1) + ((1 + (enn m_).toInt) - (bgn m_).toInt)) := xi_add e4 a37 (by omega) (by omega)
        have b38 : (x4 + ((1 + (enn m_)) - (bgn m_))).toInt = ((tx_S L (m_ + 1) : Int) - (tx_S L i : Int) - 1) := (by rw [a38]; omega)
        refine lv_topi (fun v39 ev39 => ?_)
        have fv39 : v39.toInt = ((tx_S L (m_ + 1) : Int) - (tx_S L i : Int) - 1) := by rw [ev39]; exact b38
        refine lv_istore (lv' := [(4, .int v39), (0, .ref oM), (1, .int p1), (2, .int p2), (3, .int p3), (5, .int x5)]) hx hb d_Mod_findLine_39 hl (by decide) rfl (fun ls hl => ?_)
        refine lv_iload_n hx hb d_Mod_findLine_41 rfl (lv_at hl 4 rfl) ?_
        refine lv_iload hx hb d_Mod_findLine_42 (lv_at hl 0 rfl) ?_
        refine lv_isub hx hb d_Mod_findLine_44 ?_
        have a44 : (p3 - v39).toInt = ((v : Int) - ((tx_S L (m_ + 1) : Int) - (tx_S L i : Int) - 1)) := xi_sub e3 fv39 (by omega) (by omega)
        refine lv_topi (fun v45 ev45 => ?_)
        have fv45 : v45.toInt = ((v : Int) - ((tx_S L (m_ + 1) : Int) - (tx_S L i : Int) - 1)) := by rw [ev45]; exact a44
        refine lv_istore (lv' := [(6, .int v45), (4, .int v39), (0, .ref oM), (1, .int p1), (2, .int p2), (3, .int p3), (5, .int x5)]) hx hb d_Mod_findLine_45 hl (by decide) rfl (fun ls hl => ?_)
        refine lv_iload hx hb d_Mod_findLine_47 (lv_at hl 0 rfl) ?_
        refine xi_if_ge (tgt := 53) hx hb fv45 d_Mod_findLine_49 (by decide) (fun c49 => ?_) (fun c49 => ?_)
        · have hfn : tx_fit L v i (m_ + 1) := by unfold tx_fit; omega
          have e6n : v45.toInt = ((tx_r L v i (m_ + 1) : Nat) : Int) := by rw [fv45]; unfold tx_r; omega
          have hsq2 := tx_sq (L := L) (v := v) (show i < m_ + 1 by omega) hv
          have hCm := hC (m_ + 1) (by omega) (by omega)
          refine lv_iload hx hb d_Mod_findLine_53 (lv_at hl 0 rfl) ?_
          refine lv_iload hx hb d_Mod_findLine_55 (lv_at hl 0 rfl) ?_
          refine lv_imul hx hb d_Mod_findLine_57 ?_
          have a57 : (v45 * v45).toInt = (((tx_r L v i (m_ + 1)) * (tx_r L v i (m_ + 1)) : Nat) : Int) := xi_mulN e6n e6n (by omega)
          refine lv_aload_n hx hb d_Mod_findLine_58 rfl (lv_at hl 2 rfl) ?_
          refine va_get (D := (dC, dI)) (ci := 5) (v := .ref aLe) (C := R_Mod) (T := F_Mod) (N := 23) hx hb hts hw_Mod hown hK hP 0 rfl rfl 5 (by decide) (hts (.fieldLink R_Mod 19 "PageFormsModel" "least" "[I") (by decide +kernel)) (fun _ h9 => h9) rfl d_Mod_findLine_59 ?_
          refine lv_iload hx hb d_Mod_findLine_62 (lv_at hl 6 rfl) ?_
          refine lv_iconst (v := 1) hx hb d_Mod_findLine_64 (by decide) ?_
          refine lv_iadd hx hb d_Mod_findLine_65 ?_
          have a65 : (x5 + 1).toInt = ((m_ : Int) + 1) := xi_add e5 (show (1 : Int32).toInt = 1 by decide) (by omega) (by omega)
          refine xa_iald hx hb hK hP 3 0 rfl rfl a65 (m_ + 1) (by omega) (by omega) d_Mod_findLine_66 ?_
          have b66 : (lea1 (m_ + 1)).toInt = (C (m_ + 1) : Int) := (by rw [ho1 _ (by omega)]; exact hCm.1)
          refine lv_iadd hx hb d_Mod_findLine_67 ?_
          have a67 : ((v45 * v45) + (lea1 (m_ + 1))).toInt = ((((tx_r L v i (m_ + 1)) * (tx_r L v i (m_ + 1)) : Nat) : Int) + (C (m_ + 1) : Int)) := xi_add a57 b66 (by omega) (by omega)
          refine lv_topi (fun v68 ev68 => ?_)
          have fv68 : v68.toInt = ((((tx_r L v i (m_ + 1)) * (tx_r L v i (m_ + 1)) : Nat) : Int) + (C (m_ + 1) : Int)) := by rw [ev68]; exact a67
          refine lv_istore (lv' := [(7, .int v68), (6, .int v45), (4, .int v39), (0, .ref oM), (1, .int p1), (2, .int p2), (3, .int p3), (5, .int x5)]) hx hb d_Mod_findLine_68 hl (by decide) rfl (fun ls hl => ?_)
          refine lv_aload_n hx hb d_Mod_findLine_70 rfl (lv_at hl 3 rfl) ?_
          refine va_get (D := (dC, dI)) (ci := 5) (v := .ref aLe) (C := R_Mod) (T := F_Mod) (N := 23) hx hb hts hw_Mod hown hK hP 0 rfl rfl 5 (by decide) (hts (.fieldLink R_Mod 19 "PageFormsModel" "least" "[I") (by decide +kernel)) (fun _ h9 => h9) rfl d_Mod_findLine_71 ?_
          refine lv_iload_n hx hb d_Mod_findLine_74 rfl (lv_at hl 4 rfl) ?_
          refine xa_iald hx hb hK hP 3 0 rfl rfl e1 i (by omega) (by omega) d_Mod_findLine_75 ?_
          refine lv_iconst (v := (-1)) hx hb d_Mod_findLine_76 (by decide) ?_
          refine xi_icmp_eq (tgt := 91) hx hb (rfl) (show ((-1) : Int32).toInt = -1 by decide) d_Mod_findLine_77 (by decide) (fun c77 => ?_) (fun c77 => ?_)
          · refine lv_aload_n hx hb d_Mod_findLine_91 rfl (lv_at hl 3 rfl) ?_
            refine va_get (D := (dC, dI)) (ci := 5) (v := .ref aLe) (C := R_Mod) (T := F_Mod) (N := 23) hx hb hts hw_Mod hown hK hP 0 rfl rfl 5 (by decide) (hts (.fieldLink R_Mod 19 "PageFormsModel" "least" "[I") (by decide +kernel)) (fun _ h9 => h9) rfl d_Mod_findLine_92 ?_
            refine lv_iload_n hx hb d_Mod_findLine_95 rfl (lv_at hl 4 rfl) ?_
            refine lv_iload hx hb d_Mod_findLine_96 (lv_at hl 0 rfl) ?_
            refine xa_iast hx hb hK hP hD hS 3 0 rfl rfl e1 i (by omega) (by omega) d_Mod_findLine_98 (fun H locs hP hD hS => ?_)
            have hP : va_P (dC, dI) classes [(oM, .inr (5, [.int thr, .ref aTx, .int siz, .ref aBg, .ref aEn, .ref aLe, .ref aMa, .ref aFi, .int lnm, .int rsm, .ref aHe, .int bxs, .int wdt, .int hgh, .ref aCa, .ref aTo, .int byn, .ref aTu, .int pgm, .int tpm, .int stn, .int lnx, .int lny])), (aBg, .inl (cI, 101, .inl bgn)), (aEn, .inl (cI, 101, .inl enn)), (aLe, .inl (cI, 102, .inl (upd lea1 i v68))), (aMa, .inl (cI, 102, .inl man1))] H := hP
            have hD : va_D A [(oM, .inr (5, [.int thr, .ref aTx, .int siz, .ref aBg, .ref aEn, .ref aLe, .ref aMa, .ref aFi, .int lnm, .int rsm, .ref aHe, .int bxs, .int wdt, .int hgh, .ref aCa, .ref aTo, .int byn, .ref aTu, .int pgm, .int tpm, .int stn, .int lnx, .int lny])), (aBg, .inl (cI, 101, .inl bgn)), (aEn, .inl (cI, 101, .inl enn)), (aLe, .inl (cI, 102, .inl (upd lea1 i v68))), (aMa, .inl (cI, 102, .inl man1))] := hD
            refine lv_aload_n hx hb d_Mod_findLine_99 rfl (lv_at hl 3 rfl) ?_
            refine va_get (D := (dC, dI)) (ci := 5) (v := .ref aMa) (C := R_Mod) (T := F_Mod) (N := 23) hx hb hts hw_Mod hown hK hP 0 rfl rfl 6 (by decide) (hts (.fieldLink R_Mod 22 "PageFormsModel" "many" "[I") (by decide +kernel)) (fun _ h9 => h9) rfl d_Mod_findLine_100 ?_
            refine lv_iload_n hx hb d_Mod_findLine_103 rfl (lv_at hl 4 rfl) ?_
            refine lv_iload hx hb d_Mod_findLine_104 (lv_at hl 7 rfl) ?_
            refine lv_iconst (v := 1) hx hb d_Mod_findLine_106 (by decide) ?_
            refine lv_iadd hx hb d_Mod_findLine_107 ?_
            refine lv_iload_n hx hb d_Mod_findLine_108 rfl (lv_at hl 4 rfl) ?_
            refine lv_isub hx hb d_Mod_findLine_109 ?_
            have a109 : ((x5 + 1) - p1).toInt = (((m_ : Int) + 1) - (i : Int)) := xi_sub a65 e1 (by omega) (by omega)
            refine lv_topi (fun v110 ev110 => ?_)
            have fv110 : v110.toInt = (((m_ : Int) + 1) - (i : Int)) := by rw [ev110]; exact a109
            refine xa_iast hx hb hK hP hD hS 4 0 rfl rfl e1 i (by omega) (by omega) d_Mod_findLine_110 (fun H locs hP hD hS => ?_)
            have hP : va_P (dC, dI) classes [(oM, .inr (5, [.int thr, .ref aTx, .int siz, .ref aBg, .ref aEn, .ref aLe, .ref aMa, .ref aFi, .int lnm, .int rsm, .ref aHe, .int bxs, .int wdt, .int hgh, .ref aCa, .ref aTo, .int byn, .ref aTu, .int pgm, .int tpm, .int stn, .int lnx, .int lny])), (aBg, .inl (cI, 101, .inl bgn)), (aEn, .inl (cI, 101, .inl enn)), (aLe, .inl (cI, 102, .inl (upd lea1 i v68))), (aMa, .inl (cI, 102, .inl (upd man1 i v110)))] H := hP
            have hD : va_D A [(oM, .inr (5, [.int thr, .ref aTx, .int siz, .ref aBg, .ref aEn, .ref aLe, .ref aMa, .ref aFi, .int lnm, .int rsm, .ref aHe, .int bxs, .int wdt, .int hgh, .ref aCa, .ref aTo, .int byn, .ref aTu, .int pgm, .int tpm, .int stn, .int lnx, .int lny])), (aBg, .inl (cI, 101, .inl bgn)), (aEn, .inl (cI, 101, .inl enn)), (aLe, .inl (cI, 102, .inl (upd lea1 i v68))), (aMa, .inl (cI, 102, .inl (upd man1 i v110)))] := hD
            obtain ⟨v111, ev111⟩ : ∃ y : Int32, y = (x5 + 1) := ⟨_, rfl⟩
            have fv111 : v111.toInt = ((m_ : Int) + 1) := by rw [ev111]; exact xi_add e5 (show (1 : Int32).toInt = 1 by decide) (by omega) (by omega)
            refine lv_iinc (v := v111) (lv' := [(5, .int v111), (7, .int v68), (6, .int v45), (4, .int v39), (0, .ref oM), (1, .int p1), (2, .int p2), (3, .int p3)]) hx hb d_Mod_findLine_111 hl (k := 7) rfl (by rw [ev111]; rfl) (by decide) rfl (fun ls hl => ?_)
            refine lv_goto (tgt := 13) hx hb d_Mod_findLine_114 (by decide) ?_
            have hmi : m_ = i := by rcases hbest with z | z; exact z.1; omega
            exact ih13 (m_ + 1) (tx_r L v i (m_ + 1) * tx_r L v i (m_ + 1) + C (m_ + 1)) (m_ + 1) v39 v111 (upd lea1 i v68) (upd man1 i v110) (by omega) (by omega) (by omega) (by omega) (fun _ => hfn) (Or.inr ⟨by omega, by rw [xi_upd_s]; omega, by rw [xi_upd_s]; omega, (by rw [hmi]; exact tx_bt_0 hLi.2)⟩) (fun j hj => by rw [xi_upd_n hj]; exact ho1 j hj) (fun j hj => by rw [xi_upd_n hj]; exact ho2 j hj) _ _ hP hD hS ls (lv_sub hl [4, 5, 6, 7, 3, 0] rfl)
          · obtain ⟨hz0, hz1, hz2, hz3⟩ : i < m_ ∧ (lea1 i).toInt = (cb : Int) ∧ (man1 i).toInt = (nb : Int) - (i : Int) ∧ tx_bt L v C i m_ cb nb := by rcases hbest with z | z; exact absurd z.2 c77; exact z
            refine lv_iload hx hb d_Mod_findLine_80 (lv_at hl 0 rfl) ?_
            refine lv_aload_n hx hb d_Mod_findLine_82 rfl (lv_at hl 3 rfl) ?_
            refine va_get (D := (dC, dI)) (ci := 5) (v := .ref aLe) (C := R_Mod) (T := F_Mod) (N := 23) hx hb hts hw_Mod hown hK hP 0 rfl rfl 5 (by decide) (hts (.fieldLink R_Mod 19 "PageFormsModel" "least" "[I") (by decide +kernel)) (fun _ h9 => h9) rfl d_Mod_findLine_83 ?_
            refine lv_iload_n hx hb d_Mod_findLine_86 rfl (lv_at hl 4 rfl) ?_
            refine xa_iald hx hb hK hP 3 0 rfl rfl e1 i (by omega) (by omega) d_Mod_findLine_87 ?_
            have b87 : (lea1 i).toInt = (cb : Int) := hz1
            refine xi_icmp_gt (tgt := 111) hx hb fv68 b87 d_Mod_findLine_88 (by decide) (fun c88 => ?_) (fun c88 => ?_)
            · obtain ⟨v111, ev111⟩ : ∃ y : Int32, y = (x5 + 1) := ⟨_, rfl⟩
              have fv111 : v111.toInt = ((m_ : Int) + 1) := by rw [ev111]; exact xi_add e5 (show (1 : Int32).toInt = 1 by decide) (by omega) (by omega)
              refine lv_iinc (v := v111) (lv' := [(5, .int v111), (7, .int v68), (6, .int v45), (4, .int v39), (0, .ref oM), (1, .int p1), (2, .int p2), (3, .int p3)]) hx hb d_Mod_findLine_111 hl (k := 7) rfl (by rw [ev111]; rfl) (by decide) rfl (fun ls hl => ?_)
              refine lv_goto (tgt := 13) hx hb d_Mod_findLine_114 (by decide) ?_
              exact ih13 (m_ + 1) cb nb v39 v111 lea1 man1 (by omega) (by omega) (by omega) (by omega) (fun _ => hfn) (Or.inr ⟨by omega, hz1, hz2, tx_bt_keep hz3 (by omega)⟩) ho1 ho2 _ _ hP hD hS ls (lv_sub hl [4, 5, 6, 7, 3, 0] rfl)
            · refine lv_aload_n hx hb d_Mod_findLine_91 rfl (lv_at hl 3 rfl) ?_
              refine va_get (D := (dC, dI)) (ci := 5) (v := .ref aLe) (C := R_Mod) (T := F_Mod) (N := 23) hx hb hts hw_Mod hown hK hP 0 rfl rfl 5 (by decide) (hts (.fieldLink R_Mod 19 "PageFormsModel" "least" "[I") (by decide +kernel)) (fun _ h9 => h9) rfl d_Mod_findLine_92 ?_
              refine lv_iload_n hx hb d_Mod_findLine_95 rfl (lv_at hl 4 rfl) ?_
              refine lv_iload hx hb d_Mod_findLine_96 (lv_at hl 0 rfl) ?_
              refine xa_iast hx hb hK hP hD hS 3 0 rfl rfl e1 i (by omega) (by omega) d_Mod_findLine_98 (fun H locs hP hD hS => ?_)
              have hP : va_P (dC, dI) classes [(oM, .inr (5, [.int thr, .ref aTx, .int siz, .ref aBg, .ref aEn, .ref aLe, .ref aMa, .ref aFi, .int lnm, .int rsm, .ref aHe, .int bxs, .int wdt, .int hgh, .ref aCa, .ref aTo, .int byn, .ref aTu, .int pgm, .int tpm, .int stn, .int lnx, .int lny])), (aBg, .inl (cI, 101, .inl bgn)), (aEn, .inl (cI, 101, .inl enn)), (aLe, .inl (cI, 102, .inl (upd lea1 i v68))), (aMa, .inl (cI, 102, .inl man1))] H := hP
              have hD : va_D A [(oM, .inr (5, [.int thr, .ref aTx, .int siz, .ref aBg, .ref aEn, .ref aLe, .ref aMa, .ref aFi, .int lnm, .int rsm, .ref aHe, .int bxs, .int wdt, .int hgh, .ref aCa, .ref aTo, .int byn, .ref aTu, .int pgm, .int tpm, .int stn, .int lnx, .int lny])), (aBg, .inl (cI, 101, .inl bgn)), (aEn, .inl (cI, 101, .inl enn)), (aLe, .inl (cI, 102, .inl (upd lea1 i v68))), (aMa, .inl (cI, 102, .inl man1))] := hD
              refine lv_aload_n hx hb d_Mod_findLine_99 rfl (lv_at hl 3 rfl) ?_
              refine va_get (D := (dC, dI)) (ci := 5) (v := .ref aMa) (C := R_Mod) (T := F_Mod) (N := 23) hx hb hts hw_Mod hown hK hP 0 rfl rfl 6 (by decide) (hts (.fieldLink R_Mod 22 "PageFormsModel" "many" "[I") (by decide +kernel)) (fun _ h9 => h9) rfl d_Mod_findLine_100 ?_
              refine lv_iload_n hx hb d_Mod_findLine_103 rfl (lv_at hl 4 rfl) ?_
              refine lv_iload hx hb d_Mod_findLine_104 (lv_at hl 7 rfl) ?_
              refine lv_iconst (v := 1) hx hb d_Mod_findLine_106 (by decide) ?_
              refine lv_iadd hx hb d_Mod_findLine_107 ?_
              refine lv_iload_n hx hb d_Mod_findLine_108 rfl (lv_at hl 4 rfl) ?_
              refine lv_isub hx hb d_Mod_findLine_109 ?_
              have a109 : ((x5 + 1) - p1).toInt = (((m_ : Int) + 1) - (i : Int)) := xi_sub a65 e1 (by omega) (by omega)
              refine lv_topi (fun v110 ev110 => ?_)
              have fv110 : v110.toInt = (((m_ : Int) + 1) - (i : Int)) := by rw [ev110]; exact a109
              refine xa_iast hx hb hK hP hD hS 4 0 rfl rfl e1 i (by omega) (by omega) d_Mod_findLine_110 (fun H locs hP hD hS => ?_)
              have hP : va_P (dC, dI) classes [(oM, .inr (5, [.int thr, .ref aTx, .int siz, .ref aBg, .ref aEn, .ref aLe, .ref aMa, .ref aFi, .int lnm, .int rsm, .ref aHe, .int bxs, .int wdt, .int hgh, .ref aCa, .ref aTo, .int byn, .ref aTu, .int pgm, .int tpm, .int stn, .int lnx, .int lny])), (aBg, .inl (cI, 101, .inl bgn)), (aEn, .inl (cI, 101, .inl enn)), (aLe, .inl (cI, 102, .inl (upd lea1 i v68))), (aMa, .inl (cI, 102, .inl (upd man1 i v110)))] H := hP
              have hD : va_D A [(oM, .inr (5, [.int thr, .ref aTx, .int siz, .ref aBg, .ref aEn, .ref aLe, .ref aMa, .ref aFi, .int lnm, .int rsm, .ref aHe, .int bxs, .int wdt, .int hgh, .ref aCa, .ref aTo, .int byn, .ref aTu, .int pgm, .int tpm, .int stn, .int lnx, .int lny])), (aBg, .inl (cI, 101, .inl bgn)), (aEn, .inl (cI, 101, .inl enn)), (aLe, .inl (cI, 102, .inl (upd lea1 i v68))), (aMa, .inl (cI, 102, .inl (upd man1 i v110)))] := hD
              obtain ⟨v111, ev111⟩ : ∃ y : Int32, y = (x5 + 1) := ⟨_, rfl⟩
              have fv111 : v111.toInt = ((m_ : Int) + 1) := by rw [ev111]; exact xi_add e5 (show (1 : Int32).toInt = 1 by decide) (by omega) (by omega)
              refine lv_iinc (v := v111) (lv' := [(5, .int v111), (7, .int v68), (6, .int v45), (4, .int v39), (0, .ref oM), (1, .int p1), (2, .int p2), (3, .int p3)]) hx hb d_Mod_findLine_111 hl (k := 7) rfl (by rw [ev111]; rfl) (by decide) rfl (fun ls hl => ?_)
              refine lv_goto (tgt := 13) hx hb d_Mod_findLine_114 (by decide) ?_
              exact ih13 (m_ + 1) (tx_r L v i (m_ + 1) * tx_r L v i (m_ + 1) + C (m_ + 1)) (m_ + 1) v39 v111 (upd lea1 i v68) (upd man1 i v110) (by omega) (by omega) (by omega) (by omega) (fun _ => hfn) (Or.inr ⟨by omega, by rw [xi_upd_s]; omega, by rw [xi_upd_s]; omega, (tx_bt_take hz3 hfn (by omega))⟩) (fun j hj => by rw [xi_upd_n hj]; exact ho1 j hj) (fun j hj => by rw [xi_upd_n hj]; exact ho2 j hj) _ _ hP hD hS ls (lv_sub hl [4, 5, 6, 7, 3, 0] rfl)
        · have hmi : i < m_ := by rcases Nat.lt_or_ge i m_ with z | z; exact z; have hmz : m_ = i := (by omega); rw [hmz] at hSm c49; omega
          obtain ⟨_, hz1, hz2, hz3⟩ : i < m_ ∧ (lea1 i).toInt = (cb : Int) ∧ (man1 i).toInt = (nb : Int) - (i : Int) ∧ tx_bt L v C i m_ cb nb := by rcases hbest with z | z; omega; exact z
          exact W.vret hx hb hr (fun t ht hW => ⟨⟨(lea1, man1), rfl, (show ∃ cb nb : Nat, (lea1 i).toInt = (cb : Int) ∧ (man1 i).toInt = (nb : Int) - ((i : Nat) : Int) ∧ tx_bt L v C i w cb nb ∧ (∀ j, j ≠ i → lea1 j = lea j) ∧ (∀ j, j ≠ i → man1 j = man j) from ⟨cb, nb, hz1, hz2, tx_bt_stop hz3 hm1.2 (fun j hj => tx_far (by omega) hj), ho1, ho2⟩), by rw [ht]; exact hP, va_K.moved hW.alike hK, hD⟩, hS.F ht⟩) hS.2.2 d_Mod_findLine_52
  refine lv_aload_n hx hb d_Mod_findLine_0 rfl (lv_at hl 0 rfl) ?_
  refine va_get (D := (dC, dI)) (ci := 5) (v := .ref aLe) (C := R_Mod) (T := F_Mod) (N := 23) hx hb hts hw_Mod hown hK hP 0 rfl rfl 5 (by decide) (hts (.fieldLink R_Mod 19 "PageFormsModel" "least" "[I") (by decide +kernel)) (fun _ h9 => h9) rfl d_Mod_findLine_1 ?_
  refine lv_iload_n hx hb d_Mod_findLine_4 rfl (lv_at hl 1 rfl) ?_
  refine lv_iconst (v := (-1)) hx hb d_Mod_findLine_5 (by decide) ?_
  refine xa_iast hx hb hK hP hD hS 3 0 rfl rfl e1 i (by omega) (by omega) d_Mod_findLine_6 (fun H locs hP hD hS => ?_)
  have hP : va_P (dC, dI) classes [(oM, .inr (5, [.int thr, .ref aTx, .int siz, .ref aBg, .ref aEn, .ref aLe, .ref aMa, .ref aFi, .int lnm, .int rsm, .ref aHe, .int bxs, .int wdt, .int hgh, .ref aCa, .ref aTo, .int byn, .ref aTu, .int pgm, .int tpm, .int stn, .int lnx, .int lny])), (aBg, .inl (cI, 101, .inl bgn)), (aEn, .inl (cI, 101, .inl enn)), (aLe, .inl (cI, 102, .inl (upd lea i (-1)))), (aMa, .inl (cI, 102, .inl man))] H := hP
  have hD : va_D A [(oM, .inr (5, [.int thr, .ref aTx, .int siz, .ref aBg, .ref aEn, .ref aLe, .ref aMa, .ref aFi, .int lnm, .int rsm, .ref aHe, .int bxs, .int wdt, .int hgh, .ref aCa, .ref aTo, .int byn, .ref aTu, .int pgm, .int tpm, .int stn, .int lnx, .int lny])), (aBg, .inl (cI, 101, .inl bgn)), (aEn, .inl (cI, 101, .inl enn)), (aLe, .inl (cI, 102, .inl (upd lea i (-1)))), (aMa, .inl (cI, 102, .inl man))] := hD
  refine lv_iconst (v := (-1)) hx hb d_Mod_findLine_7 (by decide) ?_
  refine lv_istore (lv' := [(4, .int (-1)), (0, .ref oM), (1, .int p1), (2, .int p2), (3, .int p3)]) hx hb d_Mod_findLine_8 hl (by decide) rfl (fun ls hl => ?_)
  refine lv_iload_n hx hb d_Mod_findLine_10 rfl (lv_at hl 2 rfl) ?_
  refine lv_istore (lv' := [(5, .int p1), (4, .int (-1)), (0, .ref oM), (1, .int p1), (2, .int p2), (3, .int p3)]) hx hb d_Mod_findLine_11 hl (by decide) rfl (fun ls hl => ?_)
  exact loop13 (w + 1) i 0 0 (-1) p1 (upd lea i (-1)) man (by omega) ⟨Nat.le_refl _, by omega⟩ (by omega) (by rw [show ((-1 : Int32)).toInt = -1 by decide]; omega) (fun z => by omega) (Or.inl ⟨rfl, by rw [xi_upd_s]; decide⟩) (fun j hj => xi_upd_n hj) (fun j hj => rfl) _ _ hP hD hS ls (lv_sub hl [2, 3, 4, 5, 1, 0] rfl)
