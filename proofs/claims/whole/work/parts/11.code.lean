set_option maxHeartbeats 4000000 in
set_option maxRecDepth 100000 in
theorem k_bitCount (l : Launch) (dC : Nat → ClassId) (dI : Nat → Nat → Nat) (cI cZ : ClassId) (sz : Nat) (p0 : Int32) : Met l y_bitCount w_bitCount ({ frames := 0, cells := 0, slots := 0, locals := 0 }) (va_Pc [.int p0] (fun U => U.heap.size = sz ∧ va_P (dC, dI) classes [] U.heap ∧ va_K (dC, dI) classes [(cI, .int), (cZ, .boolean)] U ∧ va_D (fun _ => True) [])) (va_Qi (fun (r : Int32) (u : Unit) => r = cd_bc p0) (fun (u : Unit) (t : State) => va_P (dC, dI) classes [] t.heap ∧ va_K (dC, dI) classes [(cI, .int), (cZ, .boolean)] t ∧ va_D (va_A [] sz) []) (va_A [] sz)) 0 0 (va_A [] sz) := by
  refine Met.ofW (cc := b_bitCount) (maxL := 1) (ret := (some .int)) (by decide) rfl ?_
  intro p e s m args below meth c s₁ B hml hv
  obtain ⟨rfl, hsz, hP, hK, hD0⟩ := hv
  have hx := B.exec
  have hb := B.bytes
  have hr := B.returns
  have hts := atoms_spec (ws := w_bitCount) B.pre
  have hown : s.vm.findClass R_Int = some m.cls := findClass_of_methodNamed B.named
  have hlocks := B.notSynchronized
  subst hsz
  have hD := hD0.self (sz := s.heap.size)
  generalize hAe : va_A [] s.heap.size = A at hD ⊢
  have hA : ∀ q : Nat, s.heap.size ≤ q → A q := fun q h => by rw [← hAe]; exact Or.inr h
  have hS : va_S A s.heap s.heap [] := va_S.rf
  have hP : va_P (dC, dI) classes [] s.heap := hP
  have hl := lv_entry ([.int p0]) (n := 1) (Nat.le_of_ble_eq_true rfl)
  rw [lg_entry_eq]
  generalize (lg_sl ([.int p0]) ++ List.replicate (1 - (lg_sl ([.int p0])).length) Slot.unset).toArray = ls at hl ⊢
  have hl : lv_has ls 1 [(0, .int p0)] := hl
  refine lv_iload_n hx hb d_bitCount_0 rfl (lv_at hl 0 rfl) ?_
  refine lv_iload_n hx hb d_bitCount_1 rfl (lv_at hl 0 rfl) ?_
  refine lv_iconst (v := 1) hx hb d_bitCount_2 (by decide) ?_
  refine lv_iushr (v := (p0.toUInt32 >>> ((1 : Int32).toUInt32 &&& Int32.toUInt32 31)).toInt32) hx hb d_bitCount_3 rfl ?_
  refine lv_ldcw (v := 1431655765) hx hb hown (hts (.constant R_Int 265 1431655765) (by decide +kernel)) d_bitCount_4 ?_
  refine lv_iand hx hb d_bitCount_7 ?_
  refine lv_isub hx hb d_bitCount_8 ?_
  refine lv_topi (fun v9 ev9 => ?_)
  refine lv_istore_n (lv' := [(0, .int v9)]) hx hb d_bitCount_9 rfl hl (by decide) rfl (fun ls hl => ?_)
  refine lv_iload_n hx hb d_bitCount_10 rfl (lv_at hl 0 rfl) ?_
  refine lv_ldcw (v := 858993459) hx hb hown (hts (.constant R_Int 266 858993459) (by decide +kernel)) d_bitCount_11 ?_
  refine lv_iand hx hb d_bitCount_14 ?_
  refine lv_iload_n hx hb d_bitCount_15 rfl (lv_at hl 0 rfl) ?_
  refine lv_iconst (v := 2) hx hb d_bitCount_16 (by decide) ?_
  refine lv_iushr (v := (v9.toUInt32 >>> ((2 : Int32).toUInt32 &&& Int32.toUInt32 31)).toInt32) hx hb d_bitCount_17 rfl ?_
  refine lv_ldcw (v := 858993459) hx hb hown (hts (.constant R_Int 266 858993459) (by decide +kernel)) d_bitCount_18 ?_
  refine lv_iand hx hb d_bitCount_21 ?_
  refine lv_iadd hx hb d_bitCount_22 ?_
  refine lv_topi (fun v23 ev23 => ?_)
  refine lv_istore_n (lv' := [(0, .int v23)]) hx hb d_bitCount_23 rfl hl (by decide) rfl (fun ls hl => ?_)
  refine lv_iload_n hx hb d_bitCount_24 rfl (lv_at hl 0 rfl) ?_
  refine lv_iload_n hx hb d_bitCount_25 rfl (lv_at hl 0 rfl) ?_
  refine lv_iconst (v := 4) hx hb d_bitCount_26 (by decide) ?_
  refine lv_iushr (v := (v23.toUInt32 >>> ((4 : Int32).toUInt32 &&& Int32.toUInt32 31)).toInt32) hx hb d_bitCount_27 rfl ?_
  refine lv_iadd hx hb d_bitCount_28 ?_
  refine lv_ldcw (v := 252645135) hx hb hown (hts (.constant R_Int 267 252645135) (by decide +kernel)) d_bitCount_29 ?_
  refine lv_iand hx hb d_bitCount_32 ?_
  refine lv_topi (fun v33 ev33 => ?_)
  refine lv_istore_n (lv' := [(0, .int v33)]) hx hb d_bitCount_33 rfl hl (by decide) rfl (fun ls hl => ?_)
  refine lv_iload_n hx hb d_bitCount_34 rfl (lv_at hl 0 rfl) ?_
  refine lv_iload_n hx hb d_bitCount_35 rfl (lv_at hl 0 rfl) ?_
  refine lv_bipush (v := 8) hx hb d_bitCount_36 (by decide) ?_
  refine lv_iushr (v := (v33.toUInt32 >>> ((8 : Int32).toUInt32 &&& Int32.toUInt32 31)).toInt32) hx hb d_bitCount_38 rfl ?_
  refine lv_iadd hx hb d_bitCount_39 ?_
  refine lv_topi (fun v40 ev40 => ?_)
  refine lv_istore_n (lv' := [(0, .int v40)]) hx hb d_bitCount_40 rfl hl (by decide) rfl (fun ls hl => ?_)
  refine lv_iload_n hx hb d_bitCount_41 rfl (lv_at hl 0 rfl) ?_
  refine lv_iload_n hx hb d_bitCount_42 rfl (lv_at hl 0 rfl) ?_
  refine lv_bipush (v := 16) hx hb d_bitCount_43 (by decide) ?_
  refine lv_iushr (v := (v40.toUInt32 >>> ((16 : Int32).toUInt32 &&& Int32.toUInt32 31)).toInt32) hx hb d_bitCount_45 rfl ?_
  refine lv_iadd hx hb d_bitCount_46 ?_
  refine lv_topi (fun v47 ev47 => ?_)
  refine lv_istore_n (lv' := [(0, .int v47)]) hx hb d_bitCount_47 rfl hl (by decide) rfl (fun ls hl => ?_)
  refine lv_iload_n hx hb d_bitCount_48 rfl (lv_at hl 0 rfl) ?_
  refine lv_bipush (v := 63) hx hb d_bitCount_49 (by decide) ?_
  refine lv_iand hx hb d_bitCount_51 ?_
  exact W.iret (v := (v47 &&& 63)) hx hb hr (fun t ht hW => ⟨⟨(v47 &&& 63), (), rfl, (show (v47 &&& 63) = cd_bc p0 from (by rw [ev47, ev40, ev33, ev23, ev9]; rfl)), by rw [ht]; exact hP, va_K.moved hW.alike hK, hD⟩, hS.F ht⟩) hS.2.2 d_bitCount_52

set_option maxHeartbeats 4000000 in
set_option maxRecDepth 100000 in
theorem k_Code_init (l : Launch) (dC : Nat → ClassId) (dI : Nat → Nat → Nat) (cI cZ : ClassId) (oC : Nat) (sz : Nat) : Met l y_Code_init w_Code_init ({ frames := 1, cells := 2, slots := 25, locals := 12 }) (va_Pc [.ref oC] (fun U => U.heap.size = sz ∧ va_P (dC, dI) classes [(oC, .inr (1, [.int 0, .null, .null]))] U.heap ∧ va_K (dC, dI) classes [(cI, .int), (cZ, .boolean)] U ∧ va_D (fun _ => True) [(oC, .inr (1, [.int 0, .null, .null]))])) (va_Qv (fun (u : Unit) => True) (fun (u : Unit) (t : State) => ∃ (aY : Nat), ∃ (aZ : Nat), va_P (dC, dI) classes [(oC, .inr (1, [.int 0, .ref aY, .ref aZ])), (aY, .inl (cI, 12, .inl (fun _ => 0))), (aZ, .inl (cI, 13, .inl (fun _ => 0)))] t.heap ∧ va_K (dC, dI) classes [(cI, .int), (cZ, .boolean)] t ∧ va_D (va_A [(oC, .inr (1, [.int 0, .null, .null]))] sz) [(oC, .inr (1, [.int 0, .ref aY, .ref aZ])), (aY, .inl (cI, 12, .inl (fun _ => 0))), (aZ, .inl (cI, 13, .inl (fun _ => 0)))]) (va_A [(oC, .inr (1, [.int 0, .null, .null]))] sz)) 2 25 (va_A [(oC, .inr (1, [.int 0, .null, .null]))] sz) := by
  refine Met.ofW (cc := b_Code_init) (maxL := 1) (ret := none) (by decide) rfl ?_
  intro p e s m args below meth c s₁ B hml hv
  obtain ⟨rfl, hsz, hP, hK, hD0⟩ := hv
  have hx := B.exec
  have hb := B.bytes
  have hr := B.returns
  have hts := atoms_spec (ws := w_Code_init) B.pre
  have hown : s.vm.findClass R_Code = some m.cls := findClass_of_methodNamed B.named
  have hlocks := B.notSynchronized
  have hin : meth.name = "<init>" := (name_of_methodNamed B.named B.method).1
  have hw_Code : ∀ w ∈ w_Code, w ∈ w_Code_init := by decide +kernel
  subst hsz
  have hD := hD0.self (sz := s.heap.size)
  generalize hAe : va_A [(oC, .inr (1, [.int 0, .null, .null]))] s.heap.size = A at hD ⊢
  have hA : ∀ q : Nat, s.heap.size ≤ q → A q := fun q h => by rw [← hAe]; exact Or.inr h
  have hS : va_S A s.heap s.heap [] := va_S.rf
  have hP : va_P (dC, dI) classes [(oC, .inr (1, [.int 0, .null, .null]))] s.heap := hP
  have hl := lv_entry ([.ref oC]) (n := 1) (Nat.le_of_ble_eq_true rfl)
  rw [lg_entry_eq]
  generalize (lg_sl ([.ref oC]) ++ List.replicate (1 - (lg_sl ([.ref oC])).length) Slot.unset).toArray = ls at hl ⊢
  have hl : lv_has ls 1 [(0, .ref oC)] := hl
  refine lv_aload_n hx hb d_Code_init_0 rfl (lv_at hl 0 rfl) ?_
  refine W.objInit hx hb hown (hts (.methodLink R_Code 3 objectInit) (by decide +kernel)) (hts (.instanceMethod objectInit) (by decide +kernel)) (hts (.code objectInit ⟨#[0xb1]⟩ 1 none) (by decide +kernel)) rfl (by rw [hml]; exact hl.1) rfl d_Code_init_1 (Nat.le_of_ble_eq_true rfl) (Nat.le_of_ble_eq_true rfl) ?_
  refine W.eq (g2 := F0 m 4 ls []) rfl ?_
  refine lv_aload_n hx hb d_Code_init_4 rfl (lv_at hl 0 rfl) ?_
  refine lv_iconst (v := 0) hx hb d_Code_init_5 (by decide) ?_
  refine va_put (D := (dC, dI)) (ci := 1) (v := .int 0) (ty := .int) (C := R_Code) (T := F_Code) (N := 3) hx hb hts hw_Code t_Code t_Code_ok n_Code hown hK hP hD hS 0 rfl rfl 0 (by decide) (hts (.fieldLink R_Code 9 "PageForms$Code" "count" "I") (by decide +kernel)) (fun _ h9 => h9) rfl (by decide +kernel) rfl rfl (Nat.le_of_ble_eq_true rfl) d_Code_init_6 (fun H locs hP hD hS => ?_)
  have hP : va_P (dC, dI) classes [(oC, .inr (1, [.int 0, .null, .null]))] H := hP
  have hD : va_D A [(oC, .inr (1, [.int 0, .null, .null]))] := hD
  refine lv_aload_n hx hb d_Code_init_9 rfl (lv_at hl 0 rfl) ?_
  refine lv_bipush (v := 12) hx hb d_Code_init_10 (by decide) ?_
  have hkc12 : 0 + 1 ≤ (headSpec w_Code_init ({ frames := 1, cells := 2, slots := 25, locals := 12 })).room.cells := Nat.le_of_ble_eq_true rfl
  have hks12 : 0 + 12 ≤ (headSpec w_Code_init ({ frames := 1, cells := 2, slots := 25, locals := 12 })).room.slots := Nat.le_of_ble_eq_true rfl
  refine va_newa (atype := .int) (ty := .int) (N' := 12) (a0 := (12, .inl (fun _ => 0))) hx hb (hts (.arrayClass .int) (by decide +kernel)) rfl hK hP hD hS hA (fun _ => vp_cell_i _ _ _) (by decide) (by decide) (by decide) hkc12 hks12 d_Code_init_12 (fun q12 cN H hK hP hD hS => ?_)
  obtain rfl : cI = cN := (xi_same (i := 0) (j := 2) hK rfl rfl).symm
  have hK := hK.sub (tys' := [(cI, .int), (cZ, .boolean)]) [0, 1] rfl
  have hP : va_P (dC, dI) classes [(oC, .inr (1, [.int 0, .null, .null])), (q12, .inl (cI, 12, .inl (fun _ => 0)))] H := hP
  have hD : va_D A [(oC, .inr (1, [.int 0, .null, .null])), (q12, .inl (cI, 12, .inl (fun _ => 0)))] := hD
  refine W.widen (k := 1) (n := 12) (Nat.le_of_ble_eq_true rfl) (Nat.le_of_ble_eq_true rfl) ?_
  refine va_putF (D := (dC, dI)) (ci := 1) (v := .ref q12) (ty := (.array .int)) (C := R_Code) (T := F_Code) (N := 3) hx hb hts hw_Code t_Code t_Code_ok n_Code hown hK hP hD hS 0 rfl rfl 1 (by decide) (hts (.fieldLink R_Code 15 "PageForms$Code" "bytes" "[I") (by decide +kernel)) (fun _ h9 => h9) rfl hin rfl (by decide +kernel) rfl rfl (Nat.le_of_ble_eq_true rfl) d_Code_init_14 (fun H locs hP hD hS => ?_)
  have hP : va_P (dC, dI) classes [(oC, .inr (1, [.int 0, .ref q12, .null])), (q12, .inl (cI, 12, .inl (fun _ => 0)))] H := hP
  have hD : va_D A [(oC, .inr (1, [.int 0, .ref q12, .null])), (q12, .inl (cI, 12, .inl (fun _ => 0)))] := hD
  refine lv_aload_n hx hb d_Code_init_17 rfl (lv_at hl 0 rfl) ?_
  refine lv_bipush (v := 13) hx hb d_Code_init_18 (by decide) ?_
  have hkc20 : 1 + 1 ≤ (headSpec w_Code_init ({ frames := 1, cells := 2, slots := 25, locals := 12 })).room.cells := Nat.le_of_ble_eq_true rfl
  have hks20 : 12 + 13 ≤ (headSpec w_Code_init ({ frames := 1, cells := 2, slots := 25, locals := 12 })).room.slots := Nat.le_of_ble_eq_true rfl
  refine va_newa (atype := .int) (ty := .int) (N' := 13) (a0 := (13, .inl (fun _ => 0))) hx hb (hts (.arrayClass .int) (by decide +kernel)) rfl hK hP hD hS hA (fun _ => vp_cell_i _ _ _) (by decide) (by decide) (by decide) hkc20 hks20 d_Code_init_20 (fun q20 cN H hK hP hD hS => ?_)
  obtain rfl : cI = cN := (xi_same (i := 0) (j := 2) hK rfl rfl).symm
  have hK := hK.sub (tys' := [(cI, .int), (cZ, .boolean)]) [0, 1] rfl
  have hP : va_P (dC, dI) classes [(oC, .inr (1, [.int 0, .ref q12, .null])), (q12, .inl (cI, 12, .inl (fun _ => 0))), (q20, .inl (cI, 13, .inl (fun _ => 0)))] H := hP
  have hD : va_D A [(oC, .inr (1, [.int 0, .ref q12, .null])), (q12, .inl (cI, 12, .inl (fun _ => 0))), (q20, .inl (cI, 13, .inl (fun _ => 0)))] := hD
  refine W.widen (k := 2) (n := 25) (Nat.le_of_ble_eq_true rfl) (Nat.le_of_ble_eq_true rfl) ?_
  refine va_putF (D := (dC, dI)) (ci := 1) (v := .ref q20) (ty := (.array .int)) (C := R_Code) (T := F_Code) (N := 3) hx hb hts hw_Code t_Code t_Code_ok n_Code hown hK hP hD hS 0 rfl rfl 2 (by decide) (hts (.fieldLink R_Code 19 "PageForms$Code" "bits" "[I") (by decide +kernel)) (fun _ h9 => h9) rfl hin rfl (by decide +kernel) rfl rfl (Nat.le_of_ble_eq_true rfl) d_Code_init_22 (fun H locs hP hD hS => ?_)
  have hP : va_P (dC, dI) classes [(oC, .inr (1, [.int 0, .ref q12, .ref q20])), (q12, .inl (cI, 12, .inl (fun _ => 0))), (q20, .inl (cI, 13, .inl (fun _ => 0)))] H := hP
  have hD : va_D A [(oC, .inr (1, [.int 0, .ref q12, .ref q20])), (q12, .inl (cI, 12, .inl (fun _ => 0))), (q20, .inl (cI, 13, .inl (fun _ => 0)))] := hD
  refine W.widen (k := 2) (n := 25) (Nat.le_of_ble_eq_true rfl) (Nat.le_of_ble_eq_true rfl) ?_
  exact W.vret hx hb hr (fun t ht hW => ⟨⟨(), rfl, (show True from trivial), q12, q20, by rw [ht]; exact hP, va_K.moved hW.alike hK, hD⟩, hS.F ht⟩) hS.2.2 d_Code_init_25

set_option maxHeartbeats 4000000 in
set_option maxRecDepth 100000 in
theorem k_Code_isOdd (l : Launch) (dC : Nat → ClassId) (dI : Nat → Nat → Nat) (cI cZ : ClassId) (sz : Nat) (p0 : Int32) : Met l y_Code_isOdd w_Code_isOdd ({ frames := 1, cells := 0, slots := 0, locals := 20 }) (va_Pc [.int p0] (fun U => U.heap.size = sz ∧ va_P (dC, dI) classes [] U.heap ∧ va_K (dC, dI) classes [(cI, .int), (cZ, .boolean)] U ∧ va_D (fun _ => True) [])) (va_Qi (fun (r : Int32) (u : Unit) => (r.toInt = 1 ∧ cd_odd p0 = true) ∨ (r.toInt = 0 ∧ cd_odd p0 = false)) (fun (u : Unit) (t : State) => va_P (dC, dI) classes [] t.heap ∧ va_K (dC, dI) classes [(cI, .int), (cZ, .boolean)] t ∧ va_D (va_A [] sz) []) (va_A [] sz)) 0 0 (va_A [] sz) := by
  refine Met.ofW (cc := b_Code_isOdd) (maxL := 1) (ret := (some .boolean)) (by decide) rfl ?_
  intro p e s m args below meth c s₁ B hml hv
  obtain ⟨rfl, hsz, hP, hK, hD0⟩ := hv
  have hx := B.exec
  have hb := B.bytes
  have hr := B.returns
  have hts := atoms_spec (ws := w_Code_isOdd) B.pre
  have hown : s.vm.findClass R_Code = some m.cls := findClass_of_methodNamed B.named
  have hlocks := B.notSynchronized
  subst hsz
  have hD := hD0.self (sz := s.heap.size)
  generalize hAe : va_A [] s.heap.size = A at hD ⊢
  have hA : ∀ q : Nat, s.heap.size ≤ q → A q := fun q h => by rw [← hAe]; exact Or.inr h
  have hS : va_S A s.heap s.heap [] := va_S.rf
  have hP : va_P (dC, dI) classes [] s.heap := hP
  have hl := lv_entry ([.int p0]) (n := 1) (Nat.le_of_ble_eq_true rfl)
  rw [lg_entry_eq]
  generalize (lg_sl ([.int p0]) ++ List.replicate (1 - (lg_sl ([.int p0])).length) Slot.unset).toArray = ls at hl ⊢
  have hl : lv_has ls 1 [(0, .int p0)] := hl
  refine lv_iload_n hx hb d_Code_isOdd_0 rfl (lv_at hl 0 rfl) ?_
  have hPc := hP.sub (ws' := []) [] rfl
  have hDc := hD.sub (ws' := []) [] (by decide) rfl
  have hFc := va_free (wc := []) hD hS hA [] rfl
  refine va_calli (va_runS (As := [.int p0]) (rest := []) ⟨hx, hb, hml, hown, hts⟩ (k_bitCount l dC dI cI cZ s.heap.size p0) (va_cwS 1 hts g_Code_isOdd_bitCount rfl rfl rfl (by decide +kernel) ⟨Nat.le_of_ble_eq_true rfl, Nat.le_of_ble_eq_true rfl⟩) ⟨fun a U g mk q => by obtain ⟨q0, q1, qP, qK, qD⟩ := q; exact ⟨q0, q1, qP, va_K.moved (u := U) (U := U.calling g mk a) (Vm.Alike.refl U.vm) qK, qD⟩, fun U hU hW => ⟨rfl, by rw [hU], by rw [hU]; exact hPc, va_K.moved hW.alike hK, hDc.weaken (fun _ _ _ _ => trivial)⟩⟩ rfl rfl hl.1 rfl (lv_room (Nat.le_of_ble_eq_true rfl)) d_Code_isOdd_1 ⟨Nat.le_of_ble_eq_true rfl, Nat.le_of_ble_eq_true rfl⟩) hS (fun q _ h => hFc q h) hFc (fun r1 u t H1 locs ht hvm hw hB hz1 hk1 hS => ?_)
  have w1 : r1 = cd_bc p0 := hw
  obtain ⟨hP1, hK1, hD1⟩ := hB
  rw [ht] at hP1
  obtain ⟨hP, hD⟩ := va_join (wr := []) (w1 := []) hP hD [] [] rfl rfl (by decide) (by decide) hk1 hFc hP1 hD1
  generalize H1 = H at hP hS ⊢
  have hP : va_P (dC, dI) classes [] H := hP
  have hD : va_D A [] := hD
  obtain rfl := w1
  refine lv_iconst (v := 1) hx hb d_Code_isOdd_4 (by decide) ?_
  refine lv_iand hx hb d_Code_isOdd_5 ?_
  refine lv_iconst (v := 1) hx hb d_Code_isOdd_6 (by decide) ?_
  refine xi_icmp_ne (tgt := 14) hx hb (rfl) (show (1 : Int32).toInt = 1 by decide) d_Code_isOdd_7 (by decide) (fun c7 => ?_) (fun c7 => ?_)
  · refine lv_iconst (v := 0) hx hb d_Code_isOdd_14 (by decide) ?_
    exact W.zret (v := 0) hx hb hr rfl (fun t ht hW => ⟨⟨0, (), rfl, (show (0 = 1 ∧ cd_odd p0 = true) ∨ (0 = 0 ∧ cd_odd p0 = false) from (Or.inr ⟨by decide, decide_eq_false (fun q => c7 (by rw [show (cd_bc p0 &&& 1) = 1 from q]; decide))⟩)), by rw [ht]; exact hP, va_K.moved hW.alike hK, hD⟩, hS.F ht⟩) hS.2.2 d_Code_isOdd_15
  · refine lv_iconst (v := 1) hx hb d_Code_isOdd_10 (by decide) ?_
    refine lv_goto (tgt := 15) hx hb d_Code_isOdd_11 (by decide) ?_
    exact W.zret (v := 1) hx hb hr rfl (fun t ht hW => ⟨⟨1, (), rfl, (show (1 = 1 ∧ cd_odd p0 = true) ∨ (1 = 0 ∧ cd_odd p0 = false) from (Or.inl ⟨by decide, decide_eq_true (Int32.toInt_inj.mp c7)⟩)), by rw [ht]; exact hP, va_K.moved hW.alike hK, hD⟩, hS.F ht⟩) hS.2.2 d_Code_isOdd_15

set_option maxHeartbeats 4000000 in
set_option maxRecDepth 100000 in
theorem k_Code_empty (l : Launch) (dC : Nat → ClassId) (dI : Nat → Nat → Nat) (cI cZ : ClassId) (oC : Nat) (aY : Nat) (aZ : Nat) (cnt : Int32) (byt : Nat → Int32) (bit : Nat → Int32) (sz : Nat) (nC : Nat) (hc : cnt.toInt = (nC : Int)) (hc12 : nC ≤ 12) : Met l y_Code_empty w_Code_empty ({ frames := 0, cells := 0, slots := 0, locals := 0 }) (va_Pc [.ref oC] (fun U => U.heap.size = sz ∧ va_P (dC, dI) classes [(oC, .inr (1, [.int cnt, .ref aY, .ref aZ])), (aY, .inl (cI, 12, .inl byt)), (aZ, .inl (cI, 13, .inl bit))] U.heap ∧ va_K (dC, dI) classes [(cI, .int), (cZ, .boolean)] U ∧ va_D (fun _ => True) [(oC, .inr (1, [.int cnt, .ref aY, .ref aZ])), (aY, .inl (cI, 12, .inl byt)), (aZ, .inl (cI, 13, .inl bit))])) (va_Qv (fun (u : Int32) => u.toInt = 0) (fun (u : Int32) (t : State) => va_P (dC, dI) classes [(oC, .inr (1, [.int u, .ref aY, .ref aZ])), (aY, .inl (cI, 12, .inl byt)), (aZ, .inl (cI, 13, .inl bit))] t.heap ∧ va_K (dC, dI) classes [(cI, .int), (cZ, .boolean)] t ∧ va_D (va_A [(oC, .inr (1, [.int cnt, .ref aY, .ref aZ])), (aY, .inl (cI, 12, .inl byt)), (aZ, .inl (cI, 13, .inl bit))] sz) [(oC, .inr (1, [.int u, .ref aY, .ref aZ])), (aY, .inl (cI, 12, .inl byt)), (aZ, .inl (cI, 13, .inl bit))]) (va_A [(oC, .inr (1, [.int cnt, .ref aY, .ref aZ])), (aY, .inl (cI, 12, .inl byt)), (aZ, .inl (cI, 13, .inl bit))] sz)) 0 0 (va_A [(oC, .inr (1, [.int cnt, .ref aY, .ref aZ])), (aY, .inl (cI, 12, .inl byt)), (aZ, .inl (cI, 13, .inl bit))] sz) := by
  refine Met.ofW (cc := b_Code_empty) (maxL := 1) (ret := none) (by decide) rfl ?_
  intro p e s m args below meth c s₁ B hml hv
  obtain ⟨rfl, hsz, hP, hK, hD0⟩ := hv
  have hx := B.exec
  have hb := B.bytes
  have hr := B.returns
  have hts := atoms_spec (ws := w_Code_empty) B.pre
  have hown : s.vm.findClass R_Code = some m.cls := findClass_of_methodNamed B.named
  have hlocks := B.notSynchronized
  have hw_Code : ∀ w ∈ w_Code, w ∈ w_Code_empty := by decide +kernel
  subst hsz
  have hD := hD0.self (sz := s.heap.size)
  generalize hAe : va_A [(oC, .inr (1, [.int cnt, .ref aY, .ref aZ])), (aY, .inl (cI, 12, .inl byt)), (aZ, .inl (cI, 13, .inl bit))] s.heap.size = A at hD ⊢
  have hA : ∀ q : Nat, s.heap.size ≤ q → A q := fun q h => by rw [← hAe]; exact Or.inr h
  have hS : va_S A s.heap s.heap [] := va_S.rf
  have hP : va_P (dC, dI) classes [(oC, .inr (1, [.int cnt, .ref aY, .ref aZ])), (aY, .inl (cI, 12, .inl byt)), (aZ, .inl (cI, 13, .inl bit))] s.heap := hP
  have hl := lv_entry ([.ref oC]) (n := 1) (Nat.le_of_ble_eq_true rfl)
  rw [lg_entry_eq]
  generalize (lg_sl ([.ref oC]) ++ List.replicate (1 - (lg_sl ([.ref oC])).length) Slot.unset).toArray = ls at hl ⊢
  have hl : lv_has ls 1 [(0, .ref oC)] := hl
  refine lv_aload_n hx hb d_Code_empty_0 rfl (lv_at hl 0 rfl) ?_
  refine lv_iconst (v := 0) hx hb d_Code_empty_1 (by decide) ?_
  refine va_put (D := (dC, dI)) (ci := 1) (v := .int 0) (ty := .int) (C := R_Code) (T := F_Code) (N := 3) hx hb hts hw_Code t_Code t_Code_ok n_Code hown hK hP hD hS 0 rfl rfl 0 (by decide) (hts (.fieldLink R_Code 9 "PageForms$Code" "count" "I") (by decide +kernel)) (fun _ h9 => h9) rfl (by decide +kernel) rfl rfl (Nat.le_of_ble_eq_true rfl) d_Code_empty_2 (fun H locs hP hD hS => ?_)
  have hP : va_P (dC, dI) classes [(oC, .inr (1, [.int 0, .ref aY, .ref aZ])), (aY, .inl (cI, 12, .inl byt)), (aZ, .inl (cI, 13, .inl bit))] H := hP
  have hD : va_D A [(oC, .inr (1, [.int 0, .ref aY, .ref aZ])), (aY, .inl (cI, 12, .inl byt)), (aZ, .inl (cI, 13, .inl bit))] := hD
  exact W.vret hx hb hr (fun t ht hW => ⟨⟨0, rfl, (show 0 = 0 from (by decide)), by rw [ht]; exact hP, va_K.moved hW.alike hK, hD⟩, hS.F ht⟩) hS.2.2 d_Code_empty_5

set_option maxHeartbeats 4000000 in
set_option maxRecDepth 100000 in
theorem k_Code_countRows (l : Launch) (dC : Nat → ClassId) (dI : Nat → Nat → Nat) (cI cZ : ClassId) (oC : Nat) (aY : Nat) (aZ : Nat) (cnt : Int32) (byt : Nat → Int32) (bit : Nat → Int32) (sz : Nat) (nC : Nat) (hc : cnt.toInt = (nC : Int)) (hc12 : nC ≤ 12) : Met l y_Code_countRows w_Code_countRows ({ frames := 0, cells := 0, slots := 0, locals := 0 }) (va_Pc [.ref oC] (fun U => U.heap.size = sz ∧ va_P (dC, dI) classes [(oC, .inr (1, [.int cnt, .ref aY, .ref aZ])), (aY, .inl (cI, 12, .inl byt)), (aZ, .inl (cI, 13, .inl bit))] U.heap ∧ va_K (dC, dI) classes [(cI, .int), (cZ, .boolean)] U ∧ va_D (fun _ => True) [(oC, .inr (1, [.int cnt, .ref aY, .ref aZ])), (aY, .inl (cI, 12, .inl byt)), (aZ, .inl (cI, 13, .inl bit))])) (va_Qi (fun (r : Int32) (u : Unit) => (nC = 0 ∧ r.toInt = 0) ∨ (nC ≠ 0 ∧ r.toInt = (nC : Int) + 1)) (fun (u : Unit) (t : State) => va_P (dC, dI) classes [(oC, .inr (1, [.int cnt, .ref aY, .ref aZ])), (aY, .inl (cI, 12, .inl byt)), (aZ, .inl (cI, 13, .inl bit))] t.heap ∧ va_K (dC, dI) classes [(cI, .int), (cZ, .boolean)] t ∧ va_D (va_A [(oC, .inr (1, [.int cnt, .ref aY, .ref aZ])), (aY, .inl (cI, 12, .inl byt)), (aZ, .inl (cI, 13, .inl bit))] sz) [(oC, .inr (1, [.int cnt, .ref aY, .ref aZ])), (aY, .inl (cI, 12, .inl byt)), (aZ, .inl (cI, 13, .inl bit))]) (va_A [(oC, .inr (1, [.int cnt, .ref aY, .ref aZ])), (aY, .inl (cI, 12, .inl byt)), (aZ, .inl (cI, 13, .inl bit))] sz)) 0 0 (va_A [(oC, .inr (1, [.int cnt, .ref aY, .ref aZ])), (aY, .inl (cI, 12, .inl byt)), (aZ, .inl (cI, 13, .inl bit))] sz) := by
  refine Met.ofW (cc := b_Code_countRows) (maxL := 1) (ret := (some .int)) (by decide) rfl ?_
  intro p e s m args below meth c s₁ B hml hv
  obtain ⟨rfl, hsz, hP, hK, hD0⟩ := hv
  have hx := B.exec
  have hb := B.bytes
  have hr := B.returns
  have hts := atoms_spec (ws := w_Code_countRows) B.pre
  have hown : s.vm.findClass R_Code = some m.cls := findClass_of_methodNamed B.named
  have hlocks := B.notSynchronized
  have hw_Code : ∀ w ∈ w_Code, w ∈ w_Code_countRows := by decide +kernel
  subst hsz
  have hD := hD0.self (sz := s.heap.size)
  generalize hAe : va_A [(oC, .inr (1, [.int cnt, .ref aY, .ref aZ])), (aY, .inl (cI, 12, .inl byt)), (aZ, .inl (cI, 13, .inl bit))] s.heap.size = A at hD ⊢
  have hA : ∀ q : Nat, s.heap.size ≤ q → A q := fun q h => by rw [← hAe]; exact Or.inr h
  have hS : va_S A s.heap s.heap [] := va_S.rf
  have hP : va_P (dC, dI) classes [(oC, .inr (1, [.int cnt, .ref aY, .ref aZ])), (aY, .inl (cI, 12, .inl byt)), (aZ, .inl (cI, 13, .inl bit))] s.heap := hP
  have hl := lv_entry ([.ref oC]) (n := 1) (Nat.le_of_ble_eq_true rfl)
  rw [lg_entry_eq]
  generalize (lg_sl ([.ref oC]) ++ List.replicate (1 - (lg_sl ([.ref oC])).length) Slot.unset).toArray = ls at hl ⊢
  have hl : lv_has ls 1 [(0, .ref oC)] := hl
  refine lv_aload_n hx hb d_Code_countRows_0 rfl (lv_at hl 0 rfl) ?_
  refine va_get (D := (dC, dI)) (ci := 1) (v := .int cnt) (C := R_Code) (T := F_Code) (N := 3) hx hb hts hw_Code hown hK hP 0 rfl rfl 0 (by decide) (hts (.fieldLink R_Code 9 "PageForms$Code" "count" "I") (by decide +kernel)) (fun _ h9 => h9) rfl d_Code_countRows_1 ?_
  refine xi_if_ne (tgt := 11) hx hb hc d_Code_countRows_4 (by decide) (fun c4 => ?_) (fun c4 => ?_)
  · refine lv_aload_n hx hb d_Code_countRows_11 rfl (lv_at hl 0 rfl) ?_
    refine va_get (D := (dC, dI)) (ci := 1) (v := .int cnt) (C := R_Code) (T := F_Code) (N := 3) hx hb hts hw_Code hown hK hP 0 rfl rfl 0 (by decide) (hts (.fieldLink R_Code 9 "PageForms$Code" "count" "I") (by decide +kernel)) (fun _ h9 => h9) rfl d_Code_countRows_12 ?_
    refine lv_iconst (v := 1) hx hb d_Code_countRows_15 (by decide) ?_
    refine lv_iadd hx hb d_Code_countRows_16 ?_
    have a16 : (cnt + 1).toInt = ((nC : Int) + 1) := xi_add hc (show (1 : Int32).toInt = 1 by decide) (by omega) (by omega)
    exact W.iret (v := (cnt + 1)) hx hb hr (fun t ht hW => ⟨⟨(cnt + 1), (), rfl, (show (nC = 0 ∧ (cnt + 1).toInt = 0) ∨ (nC ≠ 0 ∧ (cnt + 1).toInt = (nC : Int) + 1) from (by first | exact Or.inl ⟨by omega, by decide⟩ | exact Or.inr ⟨by omega, by omega⟩)), by rw [ht]; exact hP, va_K.moved hW.alike hK, hD⟩, hS.F ht⟩) hS.2.2 d_Code_countRows_17
  · refine lv_iconst (v := 0) hx hb d_Code_countRows_7 (by decide) ?_
    refine lv_goto (tgt := 17) hx hb d_Code_countRows_8 (by decide) ?_
    exact W.iret (v := 0) hx hb hr (fun t ht hW => ⟨⟨0, (), rfl, (show (nC = 0 ∧ 0 = 0) ∨ (nC ≠ 0 ∧ 0 = (nC : Int) + 1) from (by first | exact Or.inl ⟨by omega, by decide⟩ | exact Or.inr ⟨by omega, by omega⟩)), by rw [ht]; exact hP, va_K.moved hW.alike hK, hD⟩, hS.F ht⟩) hS.2.2 d_Code_countRows_17

set_option maxHeartbeats 4000000 in
set_option maxRecDepth 100000 in
theorem k_Code_isSquare (l : Launch) (dC : Nat → ClassId) (dI : Nat → Nat → Nat) (cI cZ : ClassId) (oC : Nat) (aY : Nat) (aZ : Nat) (cnt : Int32) (byt : Nat → Int32) (bit : Nat → Int32) (sz : Nat) (p1 : Int32) (p2 : Int32) (nC : Nat) (hc : cnt.toInt = (nC : Int)) (hc12 : nC ≤ 12) : Met l y_Code_isSquare w_Code_isSquare ({ frames := 1, cells := 0, slots := 0, locals := 20 }) (va_Pc [.ref oC, .int p1, .int p2] (fun U => U.heap.size = sz ∧ va_P (dC, dI) classes [(oC, .inr (1, [.int cnt, .ref aY, .ref aZ])), (aY, .inl (cI, 12, .inl byt)), (aZ, .inl (cI, 13, .inl bit))] U.heap ∧ va_K (dC, dI) classes [(cI, .int), (cZ, .boolean)] U ∧ va_D (fun _ => True) [(oC, .inr (1, [.int cnt, .ref aY, .ref aZ])), (aY, .inl (cI, 12, .inl byt)), (aZ, .inl (cI, 13, .inl bit))])) (va_Qi (fun (r : Int32) (u : Unit) => (r.toInt = 1 ∧ cd_ok cnt p1.toInt p2.toInt) ∨ (r.toInt = 0 ∧ ¬ cd_ok cnt p1.toInt p2.toInt)) (fun (u : Unit) (t : State) => va_P (dC, dI) classes [(oC, .inr (1, [.int cnt, .ref aY, .ref aZ])), (aY, .inl (cI, 12, .inl byt)), (aZ, .inl (cI, 13, .inl bit))] t.heap ∧ va_K (dC, dI) classes [(cI, .int), (cZ, .boolean)] t ∧ va_D (va_A [(oC, .inr (1, [.int cnt, .ref aY, .ref aZ])), (aY, .inl (cI, 12, .inl byt)), (aZ, .inl (cI, 13, .inl bit))] sz) [(oC, .inr (1, [.int cnt, .ref aY, .ref aZ])), (aY, .inl (cI, 12, .inl byt)), (aZ, .inl (cI, 13, .inl bit))]) (va_A [(oC, .inr (1, [.int cnt, .ref aY, .ref aZ])), (aY, .inl (cI, 12, .inl byt)), (aZ, .inl (cI, 13, .inl bit))] sz)) 0 0 (va_A [(oC, .inr (1, [.int cnt, .ref aY, .ref aZ])), (aY, .inl (cI, 12, .inl byt)), (aZ, .inl (cI, 13, .inl bit))] sz) := by
  refine Met.ofW (cc := b_Code_isSquare) (maxL := 3) (ret := (some .boolean)) (by decide) rfl ?_
  intro p e s m args below meth c s₁ B hml hv
  obtain ⟨rfl, hsz, hP, hK, hD0⟩ := hv
  have hx := B.exec
  have hb := B.bytes
  have hr := B.returns
  have hts := atoms_spec (ws := w_Code_isSquare) B.pre
  have hown : s.vm.findClass R_Code = some m.cls := findClass_of_methodNamed B.named
  have hlocks := B.notSynchronized
  have hw_Code : ∀ w ∈ w_Code, w ∈ w_Code_isSquare := by decide +kernel
  subst hsz
  have hD := hD0.self (sz := s.heap.size)
  generalize hAe : va_A [(oC, .inr (1, [.int cnt, .ref aY, .ref aZ])), (aY, .inl (cI, 12, .inl byt)), (aZ, .inl (cI, 13, .inl bit))] s.heap.size = A at hD ⊢
  have hA : ∀ q : Nat, s.heap.size ≤ q → A q := fun q h => by rw [← hAe]; exact Or.inr h
  have hS : va_S A s.heap s.heap [] := va_S.rf
  have hP : va_P (dC, dI) classes [(oC, .inr (1, [.int cnt, .ref aY, .ref aZ])), (aY, .inl (cI, 12, .inl byt)), (aZ, .inl (cI, 13, .inl bit))] s.heap := hP
  have hl := lv_entry ([.ref oC, .int p1, .int p2]) (n := 3) (Nat.le_of_ble_eq_true rfl)
  rw [lg_entry_eq]
  generalize (lg_sl ([.ref oC, .int p1, .int p2]) ++ List.replicate (3 - (lg_sl ([.ref oC, .int p1, .int p2])).length) Slot.unset).toArray = ls at hl ⊢
  have hl : lv_has ls 3 [(0, .ref oC), (1, .int p1), (2, .int p2)] := hl
  refine lv_iload_n hx hb d_Code_isSquare_0 rfl (lv_at hl 1 rfl) ?_
  refine xi_if_lt (tgt := 26) hx hb (rfl) d_Code_isSquare_1 (by decide) (fun c1 => ?_) (fun c1 => ?_)
  · refine lv_iconst (v := 0) hx hb d_Code_isSquare_26 (by decide) ?_
    exact W.zret (v := 0) hx hb hr rfl (fun t ht hW => ⟨⟨0, (), rfl, (show (0 = 1 ∧ cd_ok cnt p1.toInt p2.toInt) ∨ (0 = 0 ∧ ¬ cd_ok cnt p1.toInt p2.toInt) from (by unfold cd_ok; first | exact Or.inl ⟨by decide, by omega⟩ | exact Or.inr ⟨by decide, by omega⟩)), by rw [ht]; exact hP, va_K.moved hW.alike hK, hD⟩, hS.F ht⟩) hS.2.2 d_Code_isSquare_27
  · refine lv_iload_n hx hb d_Code_isSquare_4 rfl (lv_at hl 1 rfl) ?_
    refine lv_bipush (v := 8) hx hb d_Code_isSquare_5 (by decide) ?_
    refine xi_icmp_gt (tgt := 26) hx hb (rfl) (show (8 : Int32).toInt = 8 by decide) d_Code_isSquare_7 (by decide) (fun c7 => ?_) (fun c7 => ?_)
    · refine lv_iconst (v := 0) hx hb d_Code_isSquare_26 (by decide) ?_
      exact W.zret (v := 0) hx hb hr rfl (fun t ht hW => ⟨⟨0, (), rfl, (show (0 = 1 ∧ cd_ok cnt p1.toInt p2.toInt) ∨ (0 = 0 ∧ ¬ cd_ok cnt p1.toInt p2.toInt) from (by unfold cd_ok; first | exact Or.inl ⟨by decide, by omega⟩ | exact Or.inr ⟨by decide, by omega⟩)), by rw [ht]; exact hP, va_K.moved hW.alike hK, hD⟩, hS.F ht⟩) hS.2.2 d_Code_isSquare_27
    · refine lv_iload_n hx hb d_Code_isSquare_10 rfl (lv_at hl 2 rfl) ?_
      refine xi_if_lt (tgt := 26) hx hb (rfl) d_Code_isSquare_11 (by decide) (fun c11 => ?_) (fun c11 => ?_)
      · refine lv_iconst (v := 0) hx hb d_Code_isSquare_26 (by decide) ?_
        exact W.zret (v := 0) hx hb hr rfl (fun t ht hW => ⟨⟨0, (), rfl, (show (0 = 1 ∧ cd_ok cnt p1.toInt p2.toInt) ∨ (0 = 0 ∧ ¬ cd_ok cnt p1.toInt p2.toInt) from (by unfold cd_ok; first | exact Or.inl ⟨by decide, by omega⟩ | exact Or.inr ⟨by decide, by omega⟩)), by rw [ht]; exact hP, va_K.moved hW.alike hK, hD⟩, hS.F ht⟩) hS.2.2 d_Code_isSquare_27
      · refine lv_iload_n hx hb d_Code_isSquare_14 rfl (lv_at hl 2 rfl) ?_
        refine lv_aload_n hx hb d_Code_isSquare_15 rfl (lv_at hl 0 rfl) ?_
        have hPc := hP.sub (ws' := [(oC, .inr (1, [.int cnt, .ref aY, .ref aZ])), (aY, .inl (cI, 12, .inl byt)), (aZ, .inl (cI, 13, .inl bit))]) [0, 1, 2] rfl
        have hDc := hD.sub (ws' := [(oC, .inr (1, [.int cnt, .ref aY, .ref aZ])), (aY, .inl (cI, 12, .inl byt)), (aZ, .inl (cI, 13, .inl bit))]) [0, 1, 2] (by decide) rfl
        have hFc := va_free (wc := [(oC, .inr (1, [.int cnt, .ref aY, .ref aZ])), (aY, .inl (cI, 12, .inl byt)), (aZ, .inl (cI, 13, .inl bit))]) hD hS hA [0, 1, 2] rfl
        refine va_calli (va_runV (As := []) (rest := [.int p2]) ⟨hx, hb, hml, hown, hts⟩ (k_Code_countRows l dC dI cI cZ oC aY aZ cnt byt bit s.heap.size nC hc hc12) (cwV 0 hts g_Code_isSquare_Code_countRows rfl rfl rfl (by decide +kernel) ⟨Nat.le_of_ble_eq_true rfl, Nat.le_of_ble_eq_true rfl⟩) ⟨fun a U g mk q => by obtain ⟨q0, q1, qP, qK, qD⟩ := q; exact ⟨q0, q1, qP, va_K.moved (u := U) (U := U.calling g mk a) (Vm.Alike.refl U.vm) qK, qD⟩, va_recv hK hPc (ci := 1) (q0 := 0) rfl rfl, fun U hU hW => ⟨rfl, by rw [hU], by rw [hU]; exact hPc, va_K.moved hW.alike hK, hDc.weaken (fun _ _ _ _ => trivial)⟩⟩ rfl rfl hl.1 rfl (lv_room (Nat.le_of_ble_eq_true rfl)) d_Code_isSquare_16 ⟨Nat.le_of_ble_eq_true rfl, Nat.le_of_ble_eq_true rfl⟩) hS (fun q _ h => hFc q h) hFc (fun r16 u t H1 locs ht hvm hw hB hz1 hk1 hS => ?_)
        have w16 : (nC = 0 ∧ r16.toInt = 0) ∨ (nC ≠ 0 ∧ r16.toInt = (nC : Int) + 1) := hw
        obtain ⟨hP1, hK1, hD1⟩ := hB
        rw [ht] at hP1
        obtain ⟨hP, hD⟩ := va_join (wr := []) (w1 := [(oC, .inr (1, [.int cnt, .ref aY, .ref aZ])), (aY, .inl (cI, 12, .inl byt)), (aZ, .inl (cI, 13, .inl bit))]) hP hD [0, 1, 2] [] rfl rfl (by decide) (by decide) hk1 hFc hP1 hD1
        generalize H1 = H at hP hS ⊢
        have hP : va_P (dC, dI) classes [(oC, .inr (1, [.int cnt, .ref aY, .ref aZ])), (aY, .inl (cI, 12, .inl byt)), (aZ, .inl (cI, 13, .inl bit))] H := hP
        have hD : va_D A [(oC, .inr (1, [.int cnt, .ref aY, .ref aZ])), (aY, .inl (cI, 12, .inl byt)), (aZ, .inl (cI, 13, .inl bit))] := hD
        refine xi_icmp_ge (tgt := 26) hx hb (rfl) (rfl) d_Code_isSquare_19 (by decide) (fun c19 => ?_) (fun c19 => ?_)
        · refine lv_iconst (v := 0) hx hb d_Code_isSquare_26 (by decide) ?_
          exact W.zret (v := 0) hx hb hr rfl (fun t ht hW => ⟨⟨0, (), rfl, (show (0 = 1 ∧ cd_ok cnt p1.toInt p2.toInt) ∨ (0 = 0 ∧ ¬ cd_ok cnt p1.toInt p2.toInt) from (by unfold cd_ok; first | exact Or.inl ⟨by decide, by omega⟩ | exact Or.inr ⟨by decide, by omega⟩)), by rw [ht]; exact hP, va_K.moved hW.alike hK, hD⟩, hS.F ht⟩) hS.2.2 d_Code_isSquare_27
        · refine lv_iconst (v := 1) hx hb d_Code_isSquare_22 (by decide) ?_
          refine lv_goto (tgt := 27) hx hb d_Code_isSquare_23 (by decide) ?_
          exact W.zret (v := 1) hx hb hr rfl (fun t ht hW => ⟨⟨1, (), rfl, (show (1 = 1 ∧ cd_ok cnt p1.toInt p2.toInt) ∨ (1 = 0 ∧ ¬ cd_ok cnt p1.toInt p2.toInt) from (by unfold cd_ok; first | exact Or.inl ⟨by decide, by omega⟩ | exact Or.inr ⟨by decide, by omega⟩)), by rw [ht]; exact hP, va_K.moved hW.alike hK, hD⟩, hS.F ht⟩) hS.2.2 d_Code_isSquare_27

set_option maxHeartbeats 4000000 in
set_option maxRecDepth 100000 in
theorem k_Code_isDark (l : Launch) (dC : Nat → ClassId) (dI : Nat → Nat → Nat) (cI cZ : ClassId) (oC : Nat) (aY : Nat) (aZ : Nat) (cnt : Int32) (byt : Nat → Int32) (bit : Nat → Int32) (sz : Nat) (p1 : Int32) (p2 : Int32) (nC : Nat) (hc : cnt.toInt = (nC : Int)) (hc12 : nC ≤ 12) : Met l y_Code_isDark w_Code_isDark ({ frames := 2, cells := 0, slots := 0, locals := 42 }) (va_Pc [.ref oC, .int p1, .int p2] (fun U => U.heap.size = sz ∧ va_P (dC, dI) classes [(oC, .inr (1, [.int cnt, .ref aY, .ref aZ])), (aY, .inl (cI, 12, .inl byt)), (aZ, .inl (cI, 13, .inl bit))] U.heap ∧ va_K (dC, dI) classes [(cI, .int), (cZ, .boolean)] U ∧ va_D (fun _ => True) [(oC, .inr (1, [.int cnt, .ref aY, .ref aZ])), (aY, .inl (cI, 12, .inl byt)), (aZ, .inl (cI, 13, .inl bit))])) (va_Qi (fun (r : Int32) (u : Unit) => cd_dark cnt bit p1 p2 r) (fun (u : Unit) (t : State) => va_P (dC, dI) classes [(oC, .inr (1, [.int cnt, .ref aY, .ref aZ])), (aY, .inl (cI, 12, .inl byt)), (aZ, .inl (cI, 13, .inl bit))] t.heap ∧ va_K (dC, dI) classes [(cI, .int), (cZ, .boolean)] t ∧ va_D (va_A [(oC, .inr (1, [.int cnt, .ref aY, .ref aZ])), (aY, .inl (cI, 12, .inl byt)), (aZ, .inl (cI, 13, .inl bit))] sz) [(oC, .inr (1, [.int cnt, .ref aY, .ref aZ])), (aY, .inl (cI, 12, .inl byt)), (aZ, .inl (cI, 13, .inl bit))]) (va_A [(oC, .inr (1, [.int cnt, .ref aY, .ref aZ])), (aY, .inl (cI, 12, .inl byt)), (aZ, .inl (cI, 13, .inl bit))] sz)) 0 0 (va_A [(oC, .inr (1, [.int cnt, .ref aY, .ref aZ])), (aY, .inl (cI, 12, .inl byt)), (aZ, .inl (cI, 13, .inl bit))] sz) := by
  refine Met.ofW (cc := b_Code_isDark) (maxL := 3) (ret := (some .boolean)) (by decide) rfl ?_
  intro p e s m args below meth c s₁ B hml hv
  obtain ⟨rfl, hsz, hP, hK, hD0⟩ := hv
  have hx := B.exec
  have hb := B.bytes
  have hr := B.returns
  have hts := atoms_spec (ws := w_Code_isDark) B.pre
  have hown : s.vm.findClass R_Code = some m.cls := findClass_of_methodNamed B.named
  have hlocks := B.notSynchronized
  have hw_Code : ∀ w ∈ w_Code, w ∈ w_Code_isDark := by decide +kernel
  subst hsz
  have hD := hD0.self (sz := s.heap.size)
  generalize hAe : va_A [(oC, .inr (1, [.int cnt, .ref aY, .ref aZ])), (aY, .inl (cI, 12, .inl byt)), (aZ, .inl (cI, 13, .inl bit))] s.heap.size = A at hD ⊢
  have hA : ∀ q : Nat, s.heap.size ≤ q → A q := fun q h => by rw [← hAe]; exact Or.inr h
  have hS : va_S A s.heap s.heap [] := va_S.rf
  have hP : va_P (dC, dI) classes [(oC, .inr (1, [.int cnt, .ref aY, .ref aZ])), (aY, .inl (cI, 12, .inl byt)), (aZ, .inl (cI, 13, .inl bit))] s.heap := hP
  have hl := lv_entry ([.ref oC, .int p1, .int p2]) (n := 3) (Nat.le_of_ble_eq_true rfl)
  rw [lg_entry_eq]
  generalize (lg_sl ([.ref oC, .int p1, .int p2]) ++ List.replicate (3 - (lg_sl ([.ref oC, .int p1, .int p2])).length) Slot.unset).toArray = ls at hl ⊢
  have hl : lv_has ls 3 [(0, .ref oC), (1, .int p1), (2, .int p2)] := hl
  refine lv_aload_n hx hb d_Code_isDark_0 rfl (lv_at hl 0 rfl) ?_
  refine lv_iload_n hx hb d_Code_isDark_1 rfl (lv_at hl 1 rfl) ?_
  refine lv_iload_n hx hb d_Code_isDark_2 rfl (lv_at hl 2 rfl) ?_
  have hPc := hP.sub (ws' := [(oC, .inr (1, [.int cnt, .ref aY, .ref aZ])), (aY, .inl (cI, 12, .inl byt)), (aZ, .inl (cI, 13, .inl bit))]) [0, 1, 2] rfl
  have hDc := hD.sub (ws' := [(oC, .inr (1, [.int cnt, .ref aY, .ref aZ])), (aY, .inl (cI, 12, .inl byt)), (aZ, .inl (cI, 13, .inl bit))]) [0, 1, 2] (by decide) rfl
  have hFc := va_free (wc := [(oC, .inr (1, [.int cnt, .ref aY, .ref aZ])), (aY, .inl (cI, 12, .inl byt)), (aZ, .inl (cI, 13, .inl bit))]) hD hS hA [0, 1, 2] rfl
  refine va_calli (va_runV (As := [.int p1, .int p2]) (rest := []) ⟨hx, hb, hml, hown, hts⟩ (k_Code_isSquare l dC dI cI cZ oC aY aZ cnt byt bit s.heap.size p1 p2 nC hc hc12) (cwV 2 hts g_Code_isDark_Code_isSquare rfl rfl rfl (by decide +kernel) ⟨Nat.le_of_ble_eq_true rfl, Nat.le_of_ble_eq_true rfl⟩) ⟨fun a U g mk q => by obtain ⟨q0, q1, qP, qK, qD⟩ := q; exact ⟨q0, q1, qP, va_K.moved (u := U) (U := U.calling g mk a) (Vm.Alike.refl U.vm) qK, qD⟩, va_recv hK hPc (ci := 1) (q0 := 0) rfl rfl, fun U hU hW => ⟨rfl, by rw [hU], by rw [hU]; exact hPc, va_K.moved hW.alike hK, hDc.weaken (fun _ _ _ _ => trivial)⟩⟩ rfl rfl hl.1 rfl (lv_room (Nat.le_of_ble_eq_true rfl)) d_Code_isDark_3 ⟨Nat.le_of_ble_eq_true rfl, Nat.le_of_ble_eq_true rfl⟩) hS (fun q _ h => hFc q h) hFc (fun r3 u t H1 locs ht hvm hw hB hz1 hk1 hS => ?_)
  have w3 : (r3.toInt = 1 ∧ cd_ok cnt p1.toInt p2.toInt) ∨ (r3.toInt = 0 ∧ ¬ cd_ok cnt p1.toInt p2.toInt) := hw
  obtain ⟨hP1, hK1, hD1⟩ := hB
  rw [ht] at hP1
  obtain ⟨hP, hD⟩ := va_join (wr := []) (w1 := [(oC, .inr (1, [.int cnt, .ref aY, .ref aZ])), (aY, .inl (cI, 12, .inl byt)), (aZ, .inl (cI, 13, .inl bit))]) hP hD [0, 1, 2] [] rfl rfl (by decide) (by decide) hk1 hFc hP1 hD1
  generalize H1 = H at hP hS ⊢
  have hP : va_P (dC, dI) classes [(oC, .inr (1, [.int cnt, .ref aY, .ref aZ])), (aY, .inl (cI, 12, .inl byt)), (aZ, .inl (cI, 13, .inl bit))] H := hP
  have hD : va_D A [(oC, .inr (1, [.int cnt, .ref aY, .ref aZ])), (aY, .inl (cI, 12, .inl byt)), (aZ, .inl (cI, 13, .inl bit))] := hD
  refine xi_if_eq (tgt := 30) hx hb (rfl) d_Code_isDark_6 (by decide) (fun c6 => ?_) (fun c6 => ?_)
  · refine lv_iconst (v := 0) hx hb d_Code_isDark_30 (by decide) ?_
    have q3 : ¬ cd_ok cnt p1.toInt p2.toInt := by rcases w3 with q | q; omega; exact q.2
    exact W.zret (v := 0) hx hb hr rfl (fun t ht hW => ⟨⟨0, (), rfl, (show cd_dark cnt bit p1 p2 (0 : Int32) from (Or.inr ⟨q3, by decide⟩)), by rw [ht]; exact hP, va_K.moved hW.alike hK, hD⟩, hS.F ht⟩) hS.2.2 d_Code_isDark_31
  · have q3 : cd_ok cnt p1.toInt p2.toInt := by rcases w3 with q | q; exact q.2; omega
    have q30 := q3
    unfold cd_ok at q30
    obtain ⟨y, hy⟩ : ∃ y : Nat, p2.toInt = (y : Int) := ⟨p2.toInt.toNat, by omega⟩
    have hyn : p2.toInt.toNat = y := by omega
    refine lv_aload_n hx hb d_Code_isDark_9 rfl (lv_at hl 0 rfl) ?_
    refine va_get (D := (dC, dI)) (ci := 1) (v := .ref aZ) (C := R_Code) (T := F_Code) (N := 3) hx hb hts hw_Code hown hK hP 0 rfl rfl 2 (by decide) (hts (.fieldLink R_Code 19 "PageForms$Code" "bits" "[I") (by decide +kernel)) (fun _ h9 => h9) rfl d_Code_isDark_10 ?_
    refine lv_iload_n hx hb d_Code_isDark_13 rfl (lv_at hl 2 rfl) ?_
    refine xa_iald hx hb hK hP 2 0 rfl rfl hy y (by omega) (by omega) d_Code_isDark_14 ?_
    refine lv_bipush (v := 8) hx hb d_Code_isDark_15 (by decide) ?_
    refine lv_iload_n hx hb d_Code_isDark_17 rfl (lv_at hl 1 rfl) ?_
    refine lv_isub hx hb d_Code_isDark_18 ?_
    refine lv_ishr hx hb d_Code_isDark_19 ?_
    refine lv_iconst (v := 1) hx hb d_Code_isDark_20 (by decide) ?_
    refine lv_iand hx hb d_Code_isDark_21 ?_
    refine lv_iconst (v := 1) hx hb d_Code_isDark_22 (by decide) ?_
    refine xi_icmp_ne (tgt := 30) hx hb (rfl) (show (1 : Int32).toInt = 1 by decide) d_Code_isDark_23 (by decide) (fun c23 => ?_) (fun c23 => ?_)
    · refine lv_iconst (v := 0) hx hb d_Code_isDark_30 (by decide) ?_
      exact W.zret (v := 0) hx hb hr rfl (fun t ht hW => ⟨⟨0, (), rfl, (show cd_dark cnt bit p1 p2 (0 : Int32) from (Or.inl ⟨q3, Or.inr ⟨by decide, fun q => c23 (by rw [hyn] at q; rw [q]; decide)⟩⟩)), by rw [ht]; exact hP, va_K.moved hW.alike hK, hD⟩, hS.F ht⟩) hS.2.2 d_Code_isDark_31
    · refine lv_iconst (v := 1) hx hb d_Code_isDark_26 (by decide) ?_
      refine lv_goto (tgt := 31) hx hb d_Code_isDark_27 (by decide) ?_
      exact W.zret (v := 1) hx hb hr rfl (fun t ht hW => ⟨⟨1, (), rfl, (show cd_dark cnt bit p1 p2 (1 : Int32) from (Or.inl ⟨q3, Or.inl ⟨by decide, by rw [hy]; exact Int32.toInt_inj.mp c23⟩⟩)), by rw [ht]; exact hP, va_K.moved hW.alike hK, hD⟩, hS.F ht⟩) hS.2.2 d_Code_isDark_31

set_option maxHeartbeats 4000000 in
set_option maxRecDepth 100000 in
theorem k_Code_turnOver (l : Launch) (dC : Nat → ClassId) (dI : Nat → Nat → Nat) (cI cZ : ClassId) (oC : Nat) (aY : Nat) (aZ : Nat) (cnt : Int32) (byt : Nat → Int32) (bit : Nat → Int32) (sz : Nat) (p1 : Int32) (p2 : Int32) (nC : Nat) (hc : cnt.toInt = (nC : Int)) (hc12 : nC ≤ 12) : Met l y_Code_turnOver w_Code_turnOver ({ frames := 2, cells := 0, slots := 0, locals := 42 }) (va_Pc [.ref oC, .int p1, .int p2] (fun U => U.heap.size = sz ∧ va_P (dC, dI) classes [(oC, .inr (1, [.int cnt, .ref aY, .ref aZ])), (aY, .inl (cI, 12, .inl byt)), (aZ, .inl (cI, 13, .inl bit))] U.heap ∧ va_K (dC, dI) classes [(cI, .int), (cZ, .boolean)] U ∧ va_D (fun _ => True) [(oC, .inr (1, [.int cnt, .ref aY, .ref aZ])), (aY, .inl (cI, 12, .inl byt)), (aZ, .inl (cI, 13, .inl bit))])) (va_Qi (fun (r : Int32) (u : (Nat → Int32)) => cd_spoil cnt bit p1 p2 r u) (fun (u : (Nat → Int32)) (t : State) => va_P (dC, dI) classes [(oC, .inr (1, [.int cnt, .ref aY, .ref aZ])), (aY, .inl (cI, 12, .inl byt)), (aZ, .inl (cI, 13, .inl u))] t.heap ∧ va_K (dC, dI) classes [(cI, .int), (cZ, .boolean)] t ∧ va_D (va_A [(oC, .inr (1, [.int cnt, .ref aY, .ref aZ])), (aY, .inl (cI, 12, .inl byt)), (aZ, .inl (cI, 13, .inl bit))] sz) [(oC, .inr (1, [.int cnt, .ref aY, .ref aZ])), (aY, .inl (cI, 12, .inl byt)), (aZ, .inl (cI, 13, .inl u))]) (va_A [(oC, .inr (1, [.int cnt, .ref aY, .ref aZ])), (aY, .inl (cI, 12, .inl byt)), (aZ, .inl (cI, 13, .inl bit))] sz)) 0 0 (va_A [(oC, .inr (1, [.int cnt, .ref aY, .ref aZ])), (aY, .inl (cI, 12, .inl byt)), (aZ, .inl (cI, 13, .inl bit))] sz) := by
  refine Met.ofW (cc := b_Code_turnOver) (maxL := 3) (ret := (some .boolean)) (by decide) rfl ?_
  intro p e s m args below meth c s₁ B hml hv
  obtain ⟨rfl, hsz, hP, hK, hD0⟩ := hv
  have hx := B.exec
  have hb := B.bytes
  have hr := B.returns
  have hts := atoms_spec (ws := w_Code_turnOver) B.pre
  have hown : s.vm.findClass R_Code = some m.cls := findClass_of_methodNamed B.named
  have hlocks := B.notSynchronized
  have hw_Code : ∀ w ∈ w_Code, w ∈ w_Code_turnOver := by decide +kernel
  subst hsz
  have hD := hD0.self (sz := s.heap.size)
  generalize hAe : va_A [(oC, .inr (1, [.int cnt, .ref aY, .ref aZ])), (aY, .inl (cI, 12, .inl byt)), (aZ, .inl (cI, 13, .inl bit))] s.heap.size = A at hD ⊢
  have hA : ∀ q : Nat, s.heap.size ≤ q → A q := fun q h => by rw [← hAe]; exact Or.inr h
  have hS : va_S A s.heap s.heap [] := va_S.rf
  have hP : va_P (dC, dI) classes [(oC, .inr (1, [.int cnt, .ref aY, .ref aZ])), (aY, .inl (cI, 12, .inl byt)), (aZ, .inl (cI, 13, .inl bit))] s.heap := hP
  have hl := lv_entry ([.ref oC, .int p1, .int p2]) (n := 3) (Nat.le_of_ble_eq_true rfl)
  rw [lg_entry_eq]
  generalize (lg_sl ([.ref oC, .int p1, .int p2]) ++ List.replicate (3 - (lg_sl ([.ref oC, .int p1, .int p2])).length) Slot.unset).toArray = ls at hl ⊢
  have hl : lv_has ls 3 [(0, .ref oC), (1, .int p1), (2, .int p2)] := hl
  refine lv_aload_n hx hb d_Code_turnOver_0 rfl (lv_at hl 0 rfl) ?_
  refine lv_iload_n hx hb d_Code_turnOver_1 rfl (lv_at hl 1 rfl) ?_
  refine lv_iload_n hx hb d_Code_turnOver_2 rfl (lv_at hl 2 rfl) ?_
  have hPc := hP.sub (ws' := [(oC, .inr (1, [.int cnt, .ref aY, .ref aZ])), (aY, .inl (cI, 12, .inl byt)), (aZ, .inl (cI, 13, .inl bit))]) [0, 1, 2] rfl
  have hDc := hD.sub (ws' := [(oC, .inr (1, [.int cnt, .ref aY, .ref aZ])), (aY, .inl (cI, 12, .inl byt)), (aZ, .inl (cI, 13, .inl bit))]) [0, 1, 2] (by decide) rfl
  have hFc := va_free (wc := [(oC, .inr (1, [.int cnt, .ref aY, .ref aZ])), (aY, .inl (cI, 12, .inl byt)), (aZ, .inl (cI, 13, .inl bit))]) hD hS hA [0, 1, 2] rfl
  refine va_calli (va_runV (As := [.int p1, .int p2]) (rest := []) ⟨hx, hb, hml, hown, hts⟩ (k_Code_isSquare l dC dI cI cZ oC aY aZ cnt byt bit s.heap.size p1 p2 nC hc hc12) (cwV 2 hts g_Code_turnOver_Code_isSquare rfl rfl rfl (by decide +kernel) ⟨Nat.le_of_ble_eq_true rfl, Nat.le_of_ble_eq_true rfl⟩) ⟨fun a U g mk q => by obtain ⟨q0, q1, qP, qK, qD⟩ := q; exact ⟨q0, q1, qP, va_K.moved (u := U) (U := U.calling g mk a) (Vm.Alike.refl U.vm) qK, qD⟩, va_recv hK hPc (ci := 1) (q0 := 0) rfl rfl, fun U hU hW => ⟨rfl, by rw [hU], by rw [hU]; exact hPc, va_K.moved hW.alike hK, hDc.weaken (fun _ _ _ _ => trivial)⟩⟩ rfl rfl hl.1 rfl (lv_room (Nat.le_of_ble_eq_true rfl)) d_Code_turnOver_3 ⟨Nat.le_of_ble_eq_true rfl, Nat.le_of_ble_eq_true rfl⟩) hS (fun q _ h => hFc q h) hFc (fun r3 u t H1 locs ht hvm hw hB hz1 hk1 hS => ?_)
  have w3 : (r3.toInt = 1 ∧ cd_ok cnt p1.toInt p2.toInt) ∨ (r3.toInt = 0 ∧ ¬ cd_ok cnt p1.toInt p2.toInt) := hw
  obtain ⟨hP1, hK1, hD1⟩ := hB
  rw [ht] at hP1
  obtain ⟨hP, hD⟩ := va_join (wr := []) (w1 := [(oC, .inr (1, [.int cnt, .ref aY, .ref aZ])), (aY, .inl (cI, 12, .inl byt)), (aZ, .inl (cI, 13, .inl bit))]) hP hD [0, 1, 2] [] rfl rfl (by decide) (by decide) hk1 hFc hP1 hD1
  generalize H1 = H at hP hS ⊢
  have hP : va_P (dC, dI) classes [(oC, .inr (1, [.int cnt, .ref aY, .ref aZ])), (aY, .inl (cI, 12, .inl byt)), (aZ, .inl (cI, 13, .inl bit))] H := hP
  have hD : va_D A [(oC, .inr (1, [.int cnt, .ref aY, .ref aZ])), (aY, .inl (cI, 12, .inl byt)), (aZ, .inl (cI, 13, .inl bit))] := hD
  refine xi_if_ne (tgt := 11) hx hb (rfl) d_Code_turnOver_6 (by decide) (fun c6 => ?_) (fun c6 => ?_)
  · have q3 : cd_ok cnt p1.toInt p2.toInt := by rcases w3 with q | q; exact q.2; omega
    have q30 := q3
    unfold cd_ok at q30
    obtain ⟨y, hy⟩ : ∃ y : Nat, p2.toInt = (y : Int) := ⟨p2.toInt.toNat, by omega⟩
    have hyn : p2.toInt.toNat = y := by omega
    refine lv_aload_n hx hb d_Code_turnOver_11 rfl (lv_at hl 0 rfl) ?_
    refine va_get (D := (dC, dI)) (ci := 1) (v := .ref aZ) (C := R_Code) (T := F_Code) (N := 3) hx hb hts hw_Code hown hK hP 0 rfl rfl 2 (by decide) (hts (.fieldLink R_Code 19 "PageForms$Code" "bits" "[I") (by decide +kernel)) (fun _ h9 => h9) rfl d_Code_turnOver_12 ?_
    refine lv_iload_n hx hb d_Code_turnOver_15 rfl (lv_at hl 2 rfl) ?_
    refine lv_dup2_11 hx hb d_Code_turnOver_16 rfl rfl ?_
    refine xa_iald hx hb hK hP 2 0 rfl rfl hy y (by omega) (by omega) d_Code_turnOver_17 ?_
    refine lv_iconst (v := 1) hx hb d_Code_turnOver_18 (by decide) ?_
    refine lv_bipush (v := 8) hx hb d_Code_turnOver_19 (by decide) ?_
    refine lv_iload_n hx hb d_Code_turnOver_21 rfl (lv_at hl 1 rfl) ?_
    refine lv_isub hx hb d_Code_turnOver_22 ?_
    refine lv_ishl hx hb d_Code_turnOver_23 ?_
    refine lv_ixor hx hb d_Code_turnOver_24 ?_
    refine xa_iast hx hb hK hP hD hS 2 0 rfl rfl hy y (by omega) (by omega) d_Code_turnOver_25 (fun H locs hP hD hS => ?_)
    have hP : va_P (dC, dI) classes [(oC, .inr (1, [.int cnt, .ref aY, .ref aZ])), (aY, .inl (cI, 12, .inl byt)), (aZ, .inl (cI, 13, .inl (upd bit y ((bit y) ^^^ (1 <<< ((8 - p1) &&& 31))))))] H := hP
    have hD : va_D A [(oC, .inr (1, [.int cnt, .ref aY, .ref aZ])), (aY, .inl (cI, 12, .inl byt)), (aZ, .inl (cI, 13, .inl (upd bit y ((bit y) ^^^ (1 <<< ((8 - p1) &&& 31))))))] := hD
    refine lv_iconst (v := 1) hx hb d_Code_turnOver_26 (by decide) ?_
    exact W.zret (v := 1) hx hb hr rfl (fun t ht hW => ⟨⟨1, (upd bit y ((bit y) ^^^ (1 <<< ((8 - p1) &&& 31)))), rfl, (show cd_spoil cnt bit p1 p2 (1 : Int32) (upd bit y ((bit y) ^^^ (1 <<< ((8 - p1) &&& 31)))) from (Or.inl ⟨q3, by decide, by rw [hy]; rfl⟩)), by rw [ht]; exact hP, va_K.moved hW.alike hK, hD⟩, hS.F ht⟩) hS.2.2 d_Code_turnOver_27
  · refine lv_iconst (v := 0) hx hb d_Code_turnOver_9 (by decide) ?_
    have q3 : ¬ cd_ok cnt p1.toInt p2.toInt := by rcases w3 with q | q; omega; exact q.2
    exact W.zret (v := 0) hx hb hr rfl (fun t ht hW => ⟨⟨0, bit, rfl, (show cd_spoil cnt bit p1 p2 (0 : Int32) bit from (Or.inr ⟨q3, by decide, rfl⟩)), by rw [ht]; exact hP, va_K.moved hW.alike hK, hD⟩, hS.F ht⟩) hS.2.2 d_Code_turnOver_10

set_option maxHeartbeats 4000000 in
set_option maxRecDepth 100000 in
theorem k_Code_toldByte (l : Launch) (dC : Nat → ClassId) (dI : Nat → Nat → Nat) (cI cZ : ClassId) (oC : Nat) (aY : Nat) (aZ : Nat) (cnt : Int32) (byt : Nat → Int32) (bit : Nat → Int32) (sz : Nat) (p1 : Int32) (nC : Nat) (hc : cnt.toInt = (nC : Int)) (hc12 : nC ≤ 12) : Met l y_Code_toldByte w_Code_toldByte ({ frames := 0, cells := 0, slots := 0, locals := 0 }) (va_Pc [.ref oC, .int p1] (fun U => U.heap.size = sz ∧ va_P (dC, dI) classes [(oC, .inr (1, [.int cnt, .ref aY, .ref aZ])), (aY, .inl (cI, 12, .inl byt)), (aZ, .inl (cI, 13, .inl bit))] U.heap ∧ va_K (dC, dI) classes [(cI, .int), (cZ, .boolean)] U ∧ va_D (fun _ => True) [(oC, .inr (1, [.int cnt, .ref aY, .ref aZ])), (aY, .inl (cI, 12, .inl byt)), (aZ, .inl (cI, 13, .inl bit))])) (va_Qi (fun (r : Int32) (u : Unit) => cd_byte cnt bit p1 r) (fun (u : Unit) (t : State) => va_P (dC, dI) classes [(oC, .inr (1, [.int cnt, .ref aY, .ref aZ])), (aY, .inl (cI, 12, .inl byt)), (aZ, .inl (cI, 13, .inl bit))] t.heap ∧ va_K (dC, dI) classes [(cI, .int), (cZ, .boolean)] t ∧ va_D (va_A [(oC, .inr (1, [.int cnt, .ref aY, .ref aZ])), (aY, .inl (cI, 12, .inl byt)), (aZ, .inl (cI, 13, .inl bit))] sz) [(oC, .inr (1, [.int cnt, .ref aY, .ref aZ])), (aY, .inl (cI, 12, .inl byt)), (aZ, .inl (cI, 13, .inl bit))]) (va_A [(oC, .inr (1, [.int cnt, .ref aY, .ref aZ])), (aY, .inl (cI, 12, .inl byt)), (aZ, .inl (cI, 13, .inl bit))] sz)) 0 0 (va_A [(oC, .inr (1, [.int cnt, .ref aY, .ref aZ])), (aY, .inl (cI, 12, .inl byt)), (aZ, .inl (cI, 13, .inl bit))] sz) := by
  refine Met.ofW (cc := b_Code_toldByte) (maxL := 2) (ret := (some .int)) (by decide) rfl ?_
  intro p e s m args below meth c s₁ B hml hv
  obtain ⟨rfl, hsz, hP, hK, hD0⟩ := hv
  have hx := B.exec
  have hb := B.bytes
  have hr := B.returns
  have hts := atoms_spec (ws := w_Code_toldByte) B.pre
  have hown : s.vm.findClass R_Code = some m.cls := findClass_of_methodNamed B.named
  have hlocks := B.notSynchronized
  have hw_Code : ∀ w ∈ w_Code, w ∈ w_Code_toldByte := by decide +kernel
  subst hsz
  have hD := hD0.self (sz := s.heap.size)
  generalize hAe : va_A [(oC, .inr (1, [.int cnt, .ref aY, .ref aZ])), (aY, .inl (cI, 12, .inl byt)), (aZ, .inl (cI, 13, .inl bit))] s.heap.size = A at hD ⊢
  have hA : ∀ q : Nat, s.heap.size ≤ q → A q := fun q h => by rw [← hAe]; exact Or.inr h
  have hS : va_S A s.heap s.heap [] := va_S.rf
  have hP : va_P (dC, dI) classes [(oC, .inr (1, [.int cnt, .ref aY, .ref aZ])), (aY, .inl (cI, 12, .inl byt)), (aZ, .inl (cI, 13, .inl bit))] s.heap := hP
  have hl := lv_entry ([.ref oC, .int p1]) (n := 2) (Nat.le_of_ble_eq_true rfl)
  rw [lg_entry_eq]
  generalize (lg_sl ([.ref oC, .int p1]) ++ List.replicate (2 - (lg_sl ([.ref oC, .int p1])).length) Slot.unset).toArray = ls at hl ⊢
  have hl : lv_has ls 2 [(0, .ref oC), (1, .int p1)] := hl
  refine lv_iload_n hx hb d_Code_toldByte_0 rfl (lv_at hl 1 rfl) ?_
  refine xi_if_lt (tgt := 12) hx hb (rfl) d_Code_toldByte_1 (by decide) (fun c1 => ?_) (fun c1 => ?_)
  · refine lv_iconst (v := (-1)) hx hb d_Code_toldByte_12 (by decide) ?_
    refine lv_goto (tgt := 24) hx hb d_Code_toldByte_13 (by decide) ?_
    exact W.iret (v := (-1)) hx hb hr (fun t ht hW => ⟨⟨(-1), (), rfl, (show cd_byte cnt bit p1 ((-1) : Int32) from (Or.inr ⟨by omega, by decide⟩)), by rw [ht]; exact hP, va_K.moved hW.alike hK, hD⟩, hS.F ht⟩) hS.2.2 d_Code_toldByte_24
  · refine lv_iload_n hx hb d_Code_toldByte_4 rfl (lv_at hl 1 rfl) ?_
    refine lv_aload_n hx hb d_Code_toldByte_5 rfl (lv_at hl 0 rfl) ?_
    refine va_get (D := (dC, dI)) (ci := 1) (v := .int cnt) (C := R_Code) (T := F_Code) (N := 3) hx hb hts hw_Code hown hK hP 0 rfl rfl 0 (by decide) (hts (.fieldLink R_Code 9 "PageForms$Code" "count" "I") (by decide +kernel)) (fun _ h9 => h9) rfl d_Code_toldByte_6 ?_
    refine xi_icmp_lt (tgt := 16) hx hb (rfl) hc d_Code_toldByte_9 (by decide) (fun c9 => ?_) (fun c9 => ?_)
    · obtain ⟨y, hy⟩ : ∃ y : Nat, p1.toInt = (y : Int) := ⟨p1.toInt.toNat, by omega⟩
      refine lv_aload_n hx hb d_Code_toldByte_16 rfl (lv_at hl 0 rfl) ?_
      refine va_get (D := (dC, dI)) (ci := 1) (v := .ref aZ) (C := R_Code) (T := F_Code) (N := 3) hx hb hts hw_Code hown hK hP 0 rfl rfl 2 (by decide) (hts (.fieldLink R_Code 19 "PageForms$Code" "bits" "[I") (by decide +kernel)) (fun _ h9 => h9) rfl d_Code_toldByte_17 ?_
      refine lv_iload_n hx hb d_Code_toldByte_20 rfl (lv_at hl 1 rfl) ?_
      refine xa_iald hx hb hK hP 2 0 rfl rfl hy y (by omega) (by omega) d_Code_toldByte_21 ?_
      refine lv_iconst (v := 1) hx hb d_Code_toldByte_22 (by decide) ?_
      refine lv_ishr hx hb d_Code_toldByte_23 ?_
      exact W.iret (v := ((bit y) >>> (1 &&& 31))) hx hb hr (fun t ht hW => ⟨⟨((bit y) >>> (1 &&& 31)), (), rfl, (show cd_byte cnt bit p1 ((bit y) >>> (1 &&& 31)) from (Or.inl ⟨by omega, by omega, by rw [hy]; rfl⟩)), by rw [ht]; exact hP, va_K.moved hW.alike hK, hD⟩, hS.F ht⟩) hS.2.2 d_Code_toldByte_24
    · refine lv_iconst (v := (-1)) hx hb d_Code_toldByte_12 (by decide) ?_
      refine lv_goto (tgt := 24) hx hb d_Code_toldByte_13 (by decide) ?_
      exact W.iret (v := (-1)) hx hb hr (fun t ht hW => ⟨⟨(-1), (), rfl, (show cd_byte cnt bit p1 ((-1) : Int32) from (Or.inr ⟨by omega, by decide⟩)), by rw [ht]; exact hP, va_K.moved hW.alike hK, hD⟩, hS.F ht⟩) hS.2.2 d_Code_toldByte_24

set_option maxHeartbeats 4000000 in
set_option maxRecDepth 100000 in
theorem k_Code_drawSquares (l : Launch) (dC : Nat → ClassId) (dI : Nat → Nat → Nat) (cI cZ : ClassId) (oC : Nat) (aY : Nat) (aZ : Nat) (cnt : Int32) (byt : Nat → Int32) (bit : Nat → Int32) (sz : Nat) (nC : Nat) (hc : cnt.toInt = (nC : Int)) (hc12 : nC ≤ 12) : Met l y_Code_drawSquares w_Code_drawSquares ({ frames := 2, cells := 0, slots := 0, locals := 40 }) (va_Pc [.ref oC] (fun U => U.heap.size = sz ∧ va_P (dC, dI) classes [(oC, .inr (1, [.int cnt, .ref aY, .ref aZ])), (aY, .inl (cI, 12, .inl byt)), (aZ, .inl (cI, 13, .inl bit))] U.heap ∧ va_K (dC, dI) classes [(cI, .int), (cZ, .boolean)] U ∧ va_D (fun _ => True) [(oC, .inr (1, [.int cnt, .ref aY, .ref aZ])), (aY, .inl (cI, 12, .inl byt)), (aZ, .inl (cI, 13, .inl bit))])) (va_Qv (fun (u : (Nat → Int32)) => (∀ y : Nat, y < nC → u y = cd_enc (byt y)) ∧ u nC = cd_x (fun y => cd_enc (byt y)) nC) (fun (u : (Nat → Int32)) (t : State) => va_P (dC, dI) classes [(oC, .inr (1, [.int cnt, .ref aY, .ref aZ])), (aY, .inl (cI, 12, .inl byt)), (aZ, .inl (cI, 13, .inl u))] t.heap ∧ va_K (dC, dI) classes [(cI, .int), (cZ, .boolean)] t ∧ va_D (va_A [(oC, .inr (1, [.int cnt, .ref aY, .ref aZ])), (aY, .inl (cI, 12, .inl byt)), (aZ, .inl (cI, 13, .inl bit))] sz) [(oC, .inr (1, [.int cnt, .ref aY, .ref aZ])), (aY, .inl (cI, 12, .inl byt)), (aZ, .inl (cI, 13, .inl u))]) (va_A [(oC, .inr (1, [.int cnt, .ref aY, .ref aZ])), (aY, .inl (cI, 12, .inl byt)), (aZ, .inl (cI, 13, .inl bit))] sz)) 0 0 (va_A [(oC, .inr (1, [.int cnt, .ref aY, .ref aZ])), (aY, .inl (cI, 12, .inl byt)), (aZ, .inl (cI, 13, .inl bit))] sz) := by
  refine Met.ofW (cc := b_Code_drawSquares) (maxL := 3) (ret := none) (by decide) rfl ?_
  intro p e s m args below meth c s₁ B hml hv
  obtain ⟨rfl, hsz, hP, hK, hD0⟩ := hv
  have hx := B.exec
  have hb := B.bytes
  have hr := B.returns
  have hts := atoms_spec (ws := w_Code_drawSquares) B.pre
  have hown : s.vm.findClass R_Code = some m.cls := findClass_of_methodNamed B.named
  have hlocks := B.notSynchronized
  have hw_Code : ∀ w ∈ w_Code, w ∈ w_Code_drawSquares := by decide +kernel
  subst hsz
  have hD := hD0.self (sz := s.heap.size)
  generalize hAe : va_A [(oC, .inr (1, [.int cnt, .ref aY, .ref aZ])), (aY, .inl (cI, 12, .inl byt)), (aZ, .inl (cI, 13, .inl bit))] s.heap.size = A at hD ⊢
  have hA : ∀ q : Nat, s.heap.size ≤ q → A q := fun q h => by rw [← hAe]; exact Or.inr h
  have hS : va_S A s.heap s.heap [] := va_S.rf
  have hP : va_P (dC, dI) classes [(oC, .inr (1, [.int cnt, .ref aY, .ref aZ])), (aY, .inl (cI, 12, .inl byt)), (aZ, .inl (cI, 13, .inl bit))] s.heap := hP
  have hl := lv_entry ([.ref oC]) (n := 3) (Nat.le_of_ble_eq_true rfl)
  rw [lg_entry_eq]
  generalize (lg_sl ([.ref oC]) ++ List.replicate (3 - (lg_sl ([.ref oC])).length) Slot.unset).toArray = ls at hl ⊢
  have hl : lv_has ls 3 [(0, .ref oC)] := hl
  have loop4 : ∀ (n4 : Nat) (k : Nat) (x1 : Int32) (x2 : Int32) (bit1 : Nat → Int32), (nC - k < n4) → (k ≤ nC) → (x2.toInt = (k : Int)) → (x1 = cd_x (fun y => cd_enc (byt y)) k) → (∀ y : Nat, y < k → bit1 y = cd_enc (byt y)) → ∀ (H : Heap) (locs : List Loc), va_P (dC, dI) classes [(oC, .inr (1, [.int cnt, .ref aY, .ref aZ])), (aY, .inl (cI, 12, .inl byt)), (aZ, .inl (cI, 13, .inl bit1))] H → va_D A [(oC, .inr (1, [.int cnt, .ref aY, .ref aZ])), (aY, .inl (cI, 12, .inl byt)), (aZ, .inl (cI, 13, .inl bit1))] → va_S A s.heap H locs → ∀ (ls : Array Slot), lv_has ls 3 [(0, .ref oC), (1, .int x1), (2, .int x2)] → W p l e (headSpec w_Code_drawSquares ({ frames := 2, cells := 0, slots := 0, locals := 40 })).room s m ([.ref oC] : List Value).toArray below meth c H locs 0 0 (MQ below (va_Qv (fun (u : (Nat → Int32)) => (∀ y : Nat, y < nC → u y = cd_enc (byt y)) ∧ u nC = cd_x (fun y => cd_enc (byt y)) nC) (fun (u : (Nat → Int32)) (t : State) => va_P (dC, dI) classes [(oC, .inr (1, [.int cnt, .ref aY, .ref aZ])), (aY, .inl (cI, 12, .inl byt)), (aZ, .inl (cI, 13, .inl u))] t.heap ∧ va_K (dC, dI) classes [(cI, .int), (cZ, .boolean)] t ∧ va_D (A) [(oC, .inr (1, [.int cnt, .ref aY, .ref aZ])), (aY, .inl (cI, 12, .inl byt)), (aZ, .inl (cI, 13, .inl u))]) (A)) ([.ref oC] : List Value).toArray s 0 0 A) (F0 m 4 ls []) := by
    intro n4
    induction n4 with
    | zero => intro k x1 x2 bit1 hmz4; omega
    | succ n4 ih4 =>
      intro k x1 x2 bit1 hmz4 hk e2 h1 hg H locs hP hD hS ls hl
      refine lv_iload_n hx hb d_Code_drawSquares_4 rfl (lv_at hl 2 rfl) ?_
      refine lv_aload_n hx hb d_Code_drawSquares_5 rfl (lv_at hl 0 rfl) ?_
      refine va_get (D := (dC, dI)) (ci := 1) (v := .int cnt) (C := R_Code) (T := F_Code) (N := 3) hx hb hts hw_Code hown hK hP 0 rfl rfl 0 (by decide) (hts (.fieldLink R_Code 9 "PageForms$Code" "count" "I") (by decide +kernel)) (fun _ h9 => h9) rfl d_Code_drawSquares_6 ?_
      refine xi_icmp_ge (tgt := 59) hx hb e2 hc d_Code_drawSquares_9 (by decide) (fun c9 => ?_) (fun c9 => ?_)
      · refine lv_aload_n hx hb d_Code_drawSquares_59 rfl (lv_at hl 0 rfl) ?_
        refine va_get (D := (dC, dI)) (ci := 1) (v := .ref aZ) (C := R_Code) (T := F_Code) (N := 3) hx hb hts hw_Code hown hK hP 0 rfl rfl 2 (by decide) (hts (.fieldLink R_Code 19 "PageForms$Code" "bits" "[I") (by decide +kernel)) (fun _ h9 => h9) rfl d_Code_drawSquares_60 ?_
        refine lv_aload_n hx hb d_Code_drawSquares_63 rfl (lv_at hl 0 rfl) ?_
        refine va_get (D := (dC, dI)) (ci := 1) (v := .int cnt) (C := R_Code) (T := F_Code) (N := 3) hx hb hts hw_Code hown hK hP 0 rfl rfl 0 (by decide) (hts (.fieldLink R_Code 9 "PageForms$Code" "count" "I") (by decide +kernel)) (fun _ h9 => h9) rfl d_Code_drawSquares_64 ?_
        refine lv_iload_n hx hb d_Code_drawSquares_67 rfl (lv_at hl 1 rfl) ?_
        refine xa_iast hx hb hK hP hD hS 2 0 rfl rfl hc nC (by omega) (by omega) d_Code_drawSquares_68 (fun H locs hP hD hS => ?_)
        have hP : va_P (dC, dI) classes [(oC, .inr (1, [.int cnt, .ref aY, .ref aZ])), (aY, .inl (cI, 12, .inl byt)), (aZ, .inl (cI, 13, .inl (upd bit1 nC x1)))] H := hP
        have hD : va_D A [(oC, .inr (1, [.int cnt, .ref aY, .ref aZ])), (aY, .inl (cI, 12, .inl byt)), (aZ, .inl (cI, 13, .inl (upd bit1 nC x1)))] := hD
        have hkN : k = nC := by omega
        rw [hkN] at h1 hg
        exact W.vret hx hb hr (fun t ht hW => ⟨⟨(upd bit1 nC x1), rfl, (show (∀ y : Nat, y < nC → (upd bit1 nC x1) y = cd_enc (byt y)) ∧ (upd bit1 nC x1) nC = cd_x (fun y => cd_enc (byt y)) nC from ⟨fun y hy => by rw [xi_upd_n (by omega)]; exact hg y hy, by rw [xi_upd_s]; exact h1⟩), by rw [ht]; exact hP, va_K.moved hW.alike hK, hD⟩, hS.F ht⟩) hS.2.2 d_Code_drawSquares_69
      · refine lv_aload_n hx hb d_Code_drawSquares_12 rfl (lv_at hl 0 rfl) ?_
        refine va_get (D := (dC, dI)) (ci := 1) (v := .ref aZ) (C := R_Code) (T := F_Code) (N := 3) hx hb hts hw_Code hown hK hP 0 rfl rfl 2 (by decide) (hts (.fieldLink R_Code 19 "PageForms$Code" "bits" "[I") (by decide +kernel)) (fun _ h9 => h9) rfl d_Code_drawSquares_13 ?_
        refine lv_iload_n hx hb d_Code_drawSquares_16 rfl (lv_at hl 2 rfl) ?_
        refine lv_aload_n hx hb d_Code_drawSquares_17 rfl (lv_at hl 0 rfl) ?_
        refine va_get (D := (dC, dI)) (ci := 1) (v := .ref aY) (C := R_Code) (T := F_Code) (N := 3) hx hb hts hw_Code hown hK hP 0 rfl rfl 1 (by decide) (hts (.fieldLink R_Code 15 "PageForms$Code" "bytes" "[I") (by decide +kernel)) (fun _ h9 => h9) rfl d_Code_drawSquares_18 ?_
        refine lv_iload_n hx hb d_Code_drawSquares_21 rfl (lv_at hl 2 rfl) ?_
        refine xa_iald hx hb hK hP 1 0 rfl rfl e2 k (by omega) (by omega) d_Code_drawSquares_22 ?_
        refine lv_iconst (v := 1) hx hb d_Code_drawSquares_23 (by decide) ?_
        refine lv_ishl hx hb d_Code_drawSquares_24 ?_
        refine lv_aload_n hx hb d_Code_drawSquares_25 rfl (lv_at hl 0 rfl) ?_
        refine va_get (D := (dC, dI)) (ci := 1) (v := .ref aY) (C := R_Code) (T := F_Code) (N := 3) hx hb hts hw_Code hown hK hP 0 rfl rfl 1 (by decide) (hts (.fieldLink R_Code 15 "PageForms$Code" "bytes" "[I") (by decide +kernel)) (fun _ h9 => h9) rfl d_Code_drawSquares_26 ?_
        refine lv_iload_n hx hb d_Code_drawSquares_29 rfl (lv_at hl 2 rfl) ?_
        refine xa_iald hx hb hK hP 1 0 rfl rfl e2 k (by omega) (by omega) d_Code_drawSquares_30 ?_
        have hPc := hP.sub (ws' := []) [] rfl
        have hDc := hD.sub (ws' := []) [] (by decide) rfl
        have hFc := va_free (wc := []) hD hS hA [] rfl
        refine va_calli (va_runS (As := [.int (byt k)]) (rest := [.int ((byt k) <<< (1 &&& 31)), .int x2, .ref aZ]) ⟨hx, hb, hml, hown, hts⟩ (k_Code_isOdd l dC dI cI cZ H.size (byt k)) (cwS 1 hts g_Code_drawSquares_Code_isOdd rfl rfl rfl (by decide +kernel) ⟨Nat.le_of_ble_eq_true rfl, Nat.le_of_ble_eq_true rfl⟩) ⟨fun a U g mk q => by obtain ⟨q0, q1, qP, qK, qD⟩ := q; exact ⟨q0, q1, qP, va_K.moved (u := U) (U := U.calling g mk a) (Vm.Alike.refl U.vm) qK, qD⟩, fun U hU hW => ⟨rfl, by rw [hU], by rw [hU]; exact hPc, va_K.moved hW.alike hK, hDc.weaken (fun _ _ _ _ => trivial)⟩⟩ rfl rfl hl.1 rfl (lv_room (Nat.le_of_ble_eq_true rfl)) d_Code_drawSquares_31 ⟨Nat.le_of_ble_eq_true rfl, Nat.le_of_ble_eq_true rfl⟩) hS (fun q _ h => hFc q h) hFc (fun r31 u t H1 locs ht hvm hw hB hz1 hk1 hS => ?_)
        have w31 : (r31.toInt = 1 ∧ cd_odd (byt k) = true) ∨ (r31.toInt = 0 ∧ cd_odd (byt k) = false) := hw
        obtain ⟨hP1, hK1, hD1⟩ := hB
        rw [ht] at hP1
        obtain ⟨hP, hD⟩ := va_join (wr := [(oC, .inr (1, [.int cnt, .ref aY, .ref aZ])), (aY, .inl (cI, 12, .inl byt)), (aZ, .inl (cI, 13, .inl bit1))]) (w1 := []) hP hD [] [0, 1, 2] rfl rfl (by decide) (by decide) hk1 hFc hP1 hD1
        generalize H1 = H at hP hS ⊢
        have hP : va_P (dC, dI) classes [(oC, .inr (1, [.int cnt, .ref aY, .ref aZ])), (aY, .inl (cI, 12, .inl byt)), (aZ, .inl (cI, 13, .inl bit1))] H := hP
        have hD : va_D A [(oC, .inr (1, [.int cnt, .ref aY, .ref aZ])), (aY, .inl (cI, 12, .inl byt)), (aZ, .inl (cI, 13, .inl bit1))] := hD
        refine xi_if_eq (tgt := 41) hx hb (rfl) d_Code_drawSquares_34 (by decide) (fun c34 => ?_) (fun c34 => ?_)
        · refine lv_iconst (v := 0) hx hb d_Code_drawSquares_41 (by decide) ?_
          refine lv_ior hx hb d_Code_drawSquares_42 ?_
          refine lv_topi (fun v43 ev43 => ?_)
          refine xa_iast hx hb hK hP hD hS 2 0 rfl rfl e2 k (by omega) (by omega) d_Code_drawSquares_43 (fun H locs hP hD hS => ?_)
          have hP : va_P (dC, dI) classes [(oC, .inr (1, [.int cnt, .ref aY, .ref aZ])), (aY, .inl (cI, 12, .inl byt)), (aZ, .inl (cI, 13, .inl (upd bit1 k v43)))] H := hP
          have hD : va_D A [(oC, .inr (1, [.int cnt, .ref aY, .ref aZ])), (aY, .inl (cI, 12, .inl byt)), (aZ, .inl (cI, 13, .inl (upd bit1 k v43)))] := hD
          refine lv_iload_n hx hb d_Code_drawSquares_44 rfl (lv_at hl 1 rfl) ?_
          refine lv_aload_n hx hb d_Code_drawSquares_45 rfl (lv_at hl 0 rfl) ?_
          refine va_get (D := (dC, dI)) (ci := 1) (v := .ref aZ) (C := R_Code) (T := F_Code) (N := 3) hx hb hts hw_Code hown hK hP 0 rfl rfl 2 (by decide) (hts (.fieldLink R_Code 19 "PageForms$Code" "bits" "[I") (by decide +kernel)) (fun _ h9 => h9) rfl d_Code_drawSquares_46 ?_
          refine lv_iload_n hx hb d_Code_drawSquares_49 rfl (lv_at hl 2 rfl) ?_
          refine xa_iald hx hb hK hP 2 0 rfl rfl e2 k (by omega) (by omega) d_Code_drawSquares_50 ?_
          refine lv_ixor hx hb d_Code_drawSquares_51 ?_
          refine lv_topi (fun v52 ev52 => ?_)
          refine lv_istore_n (lv' := [(1, .int v52), (0, .ref oC), (2, .int x2)]) hx hb d_Code_drawSquares_52 rfl hl (by decide) rfl (fun ls hl => ?_)
          obtain ⟨v53, ev53⟩ : ∃ y : Int32, y = (x2 + 1) := ⟨_, rfl⟩
          have fv53 : v53.toInt = ((k : Int) + 1) := by rw [ev53]; exact xi_add e2 (show (1 : Int32).toInt = 1 by decide) (by omega) (by omega)
          refine lv_iinc (v := v53) (lv' := [(2, .int v53), (1, .int v52), (0, .ref oC)]) hx hb d_Code_drawSquares_53 hl (k := 2) rfl (by rw [ev53]; rfl) (by decide) rfl (fun ls hl => ?_)
          refine lv_goto (tgt := 4) hx hb d_Code_drawSquares_56 (by decide) ?_
          have ho : cd_odd (byt k) = false := by rcases w31 with q | q <;> first | exact q.2 | omega
          have hv : v43 = cd_enc (byt k) := by rw [ev43]; unfold cd_enc; rw [ho]; rfl
          exact ih4 (k + 1) v52 v53 (upd bit1 k v43) (by omega) (by omega) (by omega) (by rw [ev52, xi_upd_s, hv, h1]; rfl) (fun y hy => cd_stp hv hg y hy) _ _ hP hD hS ls (lv_sub hl [2, 1, 0] rfl)
        · refine lv_iconst (v := 1) hx hb d_Code_drawSquares_37 (by decide) ?_
          refine lv_goto (tgt := 42) hx hb d_Code_drawSquares_38 (by decide) ?_
          refine lv_ior hx hb d_Code_drawSquares_42 ?_
          refine lv_topi (fun v43 ev43 => ?_)
          refine xa_iast hx hb hK hP hD hS 2 0 rfl rfl e2 k (by omega) (by omega) d_Code_drawSquares_43 (fun H locs hP hD hS => ?_)
          have hP : va_P (dC, dI) classes [(oC, .inr (1, [.int cnt, .ref aY, .ref aZ])), (aY, .inl (cI, 12, .inl byt)), (aZ, .inl (cI, 13, .inl (upd bit1 k v43)))] H := hP
          have hD : va_D A [(oC, .inr (1, [.int cnt, .ref aY, .ref aZ])), (aY, .inl (cI, 12, .inl byt)), (aZ, .inl (cI, 13, .inl (upd bit1 k v43)))] := hD
          refine lv_iload_n hx hb d_Code_drawSquares_44 rfl (lv_at hl 1 rfl) ?_
          refine lv_aload_n hx hb d_Code_drawSquares_45 rfl (lv_at hl 0 rfl) ?_
          refine va_get (D := (dC, dI)) (ci := 1) (v := .ref aZ) (C := R_Code) (T := F_Code) (N := 3) hx hb hts hw_Code hown hK hP 0 rfl rfl 2 (by decide) (hts (.fieldLink R_Code 19 "PageForms$Code" "bits" "[I") (by decide +kernel)) (fun _ h9 => h9) rfl d_Code_drawSquares_46 ?_
          refine lv_iload_n hx hb d_Code_drawSquares_49 rfl (lv_at hl 2 rfl) ?_
          refine xa_iald hx hb hK hP 2 0 rfl rfl e2 k (by omega) (by omega) d_Code_drawSquares_50 ?_
          refine lv_ixor hx hb d_Code_drawSquares_51 ?_
          refine lv_topi (fun v52 ev52 => ?_)
          refine lv_istore_n (lv' := [(1, .int v52), (0, .ref oC), (2, .int x2)]) hx hb d_Code_drawSquares_52 rfl hl (by decide) rfl (fun ls hl => ?_)
          obtain ⟨v53, ev53⟩ : ∃ y : Int32, y = (x2 + 1) := ⟨_, rfl⟩
          have fv53 : v53.toInt = ((k : Int) + 1) := by rw [ev53]; exact xi_add e2 (show (1 : Int32).toInt = 1 by decide) (by omega) (by omega)
          refine lv_iinc (v := v53) (lv' := [(2, .int v53), (1, .int v52), (0, .ref oC)]) hx hb d_Code_drawSquares_53 hl (k := 2) rfl (by rw [ev53]; rfl) (by decide) rfl (fun ls hl => ?_)
          refine lv_goto (tgt := 4) hx hb d_Code_drawSquares_56 (by decide) ?_
          have ho : cd_odd (byt k) = true := by rcases w31 with q | q <;> first | exact q.2 | omega
          have hv : v43 = cd_enc (byt k) := by rw [ev43]; unfold cd_enc; rw [ho]; rfl
          exact ih4 (k + 1) v52 v53 (upd bit1 k v43) (by omega) (by omega) (by omega) (by rw [ev52, xi_upd_s, hv, h1]; rfl) (fun y hy => cd_stp hv hg y hy) _ _ hP hD hS ls (lv_sub hl [2, 1, 0] rfl)
  refine lv_iconst (v := 0) hx hb d_Code_drawSquares_0 (by decide) ?_
  refine lv_istore_n (lv' := [(1, .int 0), (0, .ref oC)]) hx hb d_Code_drawSquares_1 rfl hl (by decide) rfl (fun ls hl => ?_)
  refine lv_iconst (v := 0) hx hb d_Code_drawSquares_2 (by decide) ?_
  refine lv_istore_n (lv' := [(2, .int 0), (1, .int 0), (0, .ref oC)]) hx hb d_Code_drawSquares_3 rfl hl (by decide) rfl (fun ls hl => ?_)
  exact loop4 (nC + 1) 0 0 0 bit (by omega) (by omega) (by decide) rfl (fun y hy => by omega) _ _ hP hD hS ls (lv_sub hl [2, 1, 0] rfl)

set_option maxHeartbeats 4000000 in
set_option maxRecDepth 100000 in
theorem k_Code_append (l : Launch) (dC : Nat → ClassId) (dI : Nat → Nat → Nat) (cI cZ : ClassId) (oC : Nat) (aY : Nat) (aZ : Nat) (cnt : Int32) (byt : Nat → Int32) (bit : Nat → Int32) (sz : Nat) (p1 : Int32) (nC : Nat) (hc : cnt.toInt = (nC : Int)) (hc12 : nC ≤ 12) : Met l y_Code_append w_Code_append ({ frames := 3, cells := 0, slots := 0, locals := 62 }) (va_Pc [.ref oC, .int p1] (fun U => U.heap.size = sz ∧ va_P (dC, dI) classes [(oC, .inr (1, [.int cnt, .ref aY, .ref aZ])), (aY, .inl (cI, 12, .inl byt)), (aZ, .inl (cI, 13, .inl bit))] U.heap ∧ va_K (dC, dI) classes [(cI, .int), (cZ, .boolean)] U ∧ va_D (fun _ => True) [(oC, .inr (1, [.int cnt, .ref aY, .ref aZ])), (aY, .inl (cI, 12, .inl byt)), (aZ, .inl (cI, 13, .inl bit))])) (va_Qi (fun (r : Int32) (u : Int32 × (Nat → Int32) × (Nat → Int32)) => cd_add cnt byt bit p1 r u.1 u.2.1 u.2.2) (fun (u : Int32 × (Nat → Int32) × (Nat → Int32)) (t : State) => va_P (dC, dI) classes [(oC, .inr (1, [.int u.1, .ref aY, .ref aZ])), (aY, .inl (cI, 12, .inl u.2.1)), (aZ, .inl (cI, 13, .inl u.2.2))] t.heap ∧ va_K (dC, dI) classes [(cI, .int), (cZ, .boolean)] t ∧ va_D (va_A [(oC, .inr (1, [.int cnt, .ref aY, .ref aZ])), (aY, .inl (cI, 12, .inl byt)), (aZ, .inl (cI, 13, .inl bit))] sz) [(oC, .inr (1, [.int u.1, .ref aY, .ref aZ])), (aY, .inl (cI, 12, .inl u.2.1)), (aZ, .inl (cI, 13, .inl u.2.2))]) (va_A [(oC, .inr (1, [.int cnt, .ref aY, .ref aZ])), (aY, .inl (cI, 12, .inl byt)), (aZ, .inl (cI, 13, .inl bit))] sz)) 0 0 (va_A [(oC, .inr (1, [.int cnt, .ref aY, .ref aZ])), (aY, .inl (cI, 12, .inl byt)), (aZ, .inl (cI, 13, .inl bit))] sz) := by
  refine Met.ofW (cc := b_Code_append) (maxL := 2) (ret := (some .boolean)) (by decide) rfl ?_
  intro p e s m args below meth c s₁ B hml hv
  obtain ⟨rfl, hsz, hP, hK, hD0⟩ := hv
  have hx := B.exec
  have hb := B.bytes
  have hr := B.returns
  have hts := atoms_spec (ws := w_Code_append) B.pre
  have hown : s.vm.findClass R_Code = some m.cls := findClass_of_methodNamed B.named
  have hlocks := B.notSynchronized
  have hw_Code : ∀ w ∈ w_Code, w ∈ w_Code_append := by decide +kernel
  subst hsz
  have hD := hD0.self (sz := s.heap.size)
  generalize hAe : va_A [(oC, .inr (1, [.int cnt, .ref aY, .ref aZ])), (aY, .inl (cI, 12, .inl byt)), (aZ, .inl (cI, 13, .inl bit))] s.heap.size = A at hD ⊢
  have hA : ∀ q : Nat, s.heap.size ≤ q → A q := fun q h => by rw [← hAe]; exact Or.inr h
  have hS : va_S A s.heap s.heap [] := va_S.rf
  have hP : va_P (dC, dI) classes [(oC, .inr (1, [.int cnt, .ref aY, .ref aZ])), (aY, .inl (cI, 12, .inl byt)), (aZ, .inl (cI, 13, .inl bit))] s.heap := hP
  have hl := lv_entry ([.ref oC, .int p1]) (n := 2) (Nat.le_of_ble_eq_true rfl)
  rw [lg_entry_eq]
  generalize (lg_sl ([.ref oC, .int p1]) ++ List.replicate (2 - (lg_sl ([.ref oC, .int p1])).length) Slot.unset).toArray = ls at hl ⊢
  have hl : lv_has ls 2 [(0, .ref oC), (1, .int p1)] := hl
  refine lv_iload_n hx hb d_Code_append_0 rfl (lv_at hl 1 rfl) ?_
  refine xi_if_lt (tgt := 20) hx hb (rfl) d_Code_append_1 (by decide) (fun c1 => ?_) (fun c1 => ?_)
  · refine lv_iconst (v := 0) hx hb d_Code_append_20 (by decide) ?_
    exact W.zret (v := 0) hx hb hr rfl (fun t ht hW => ⟨⟨0, (cnt, byt, bit), rfl, (show cd_add cnt byt bit p1 (0 : Int32) cnt byt bit from (Or.inr ⟨by omega, by decide, rfl, rfl, rfl⟩)), by rw [ht]; exact hP, va_K.moved hW.alike hK, hD⟩, hS.F ht⟩) hS.2.2 d_Code_append_21
  · refine lv_iload_n hx hb d_Code_append_4 rfl (lv_at hl 1 rfl) ?_
    refine lv_sipush (v := 255) hx hb d_Code_append_5 (by decide) ?_
    refine xi_icmp_gt (tgt := 20) hx hb (rfl) (show (255 : Int32).toInt = 255 by decide) d_Code_append_8 (by decide) (fun c8 => ?_) (fun c8 => ?_)
    · refine lv_iconst (v := 0) hx hb d_Code_append_20 (by decide) ?_
      exact W.zret (v := 0) hx hb hr rfl (fun t ht hW => ⟨⟨0, (cnt, byt, bit), rfl, (show cd_add cnt byt bit p1 (0 : Int32) cnt byt bit from (Or.inr ⟨by omega, by decide, rfl, rfl, rfl⟩)), by rw [ht]; exact hP, va_K.moved hW.alike hK, hD⟩, hS.F ht⟩) hS.2.2 d_Code_append_21
    · refine lv_aload_n hx hb d_Code_append_11 rfl (lv_at hl 0 rfl) ?_
      refine va_get (D := (dC, dI)) (ci := 1) (v := .int cnt) (C := R_Code) (T := F_Code) (N := 3) hx hb hts hw_Code hown hK hP 0 rfl rfl 0 (by decide) (hts (.fieldLink R_Code 9 "PageForms$Code" "count" "I") (by decide +kernel)) (fun _ h9 => h9) rfl d_Code_append_12 ?_
      refine lv_bipush (v := 12) hx hb d_Code_append_15 (by decide) ?_
      refine xi_icmp_lt (tgt := 22) hx hb hc (show (12 : Int32).toInt = 12 by decide) d_Code_append_17 (by decide) (fun c17 => ?_) (fun c17 => ?_)
      · refine lv_aload_n hx hb d_Code_append_22 rfl (lv_at hl 0 rfl) ?_
        refine va_get (D := (dC, dI)) (ci := 1) (v := .ref aY) (C := R_Code) (T := F_Code) (N := 3) hx hb hts hw_Code hown hK hP 0 rfl rfl 1 (by decide) (hts (.fieldLink R_Code 15 "PageForms$Code" "bytes" "[I") (by decide +kernel)) (fun _ h9 => h9) rfl d_Code_append_23 ?_
        refine lv_aload_n hx hb d_Code_append_26 rfl (lv_at hl 0 rfl) ?_
        refine va_get (D := (dC, dI)) (ci := 1) (v := .int cnt) (C := R_Code) (T := F_Code) (N := 3) hx hb hts hw_Code hown hK hP 0 rfl rfl 0 (by decide) (hts (.fieldLink R_Code 9 "PageForms$Code" "count" "I") (by decide +kernel)) (fun _ h9 => h9) rfl d_Code_append_27 ?_
        refine lv_iload_n hx hb d_Code_append_30 rfl (lv_at hl 1 rfl) ?_
        refine xa_iast hx hb hK hP hD hS 1 0 rfl rfl hc nC (by omega) (by omega) d_Code_append_31 (fun H locs hP hD hS => ?_)
        have hP : va_P (dC, dI) classes [(oC, .inr (1, [.int cnt, .ref aY, .ref aZ])), (aY, .inl (cI, 12, .inl (upd byt nC p1))), (aZ, .inl (cI, 13, .inl bit))] H := hP
        have hD : va_D A [(oC, .inr (1, [.int cnt, .ref aY, .ref aZ])), (aY, .inl (cI, 12, .inl (upd byt nC p1))), (aZ, .inl (cI, 13, .inl bit))] := hD
        refine lv_aload_n hx hb d_Code_append_32 rfl (lv_at hl 0 rfl) ?_
        refine lv_dup hx hb d_Code_append_33 rfl ?_
        refine va_get (D := (dC, dI)) (ci := 1) (v := .int cnt) (C := R_Code) (T := F_Code) (N := 3) hx hb hts hw_Code hown hK hP 0 rfl rfl 0 (by decide) (hts (.fieldLink R_Code 9 "PageForms$Code" "count" "I") (by decide +kernel)) (fun _ h9 => h9) rfl d_Code_append_34 ?_
        refine lv_iconst (v := 1) hx hb d_Code_append_37 (by decide) ?_
        refine lv_iadd hx hb d_Code_append_38 ?_
        have a38 : (cnt + 1).toInt = ((nC : Int) + 1) := xi_add hc (show (1 : Int32).toInt = 1 by decide) (by omega) (by omega)
        refine lv_topi (fun v39 ev39 => ?_)
        have fv39 : v39.toInt = ((nC : Int) + 1) := by rw [ev39]; exact a38
        refine va_put (D := (dC, dI)) (ci := 1) (v := .int v39) (ty := .int) (C := R_Code) (T := F_Code) (N := 3) hx hb hts hw_Code t_Code t_Code_ok n_Code hown hK hP hD hS 0 rfl rfl 0 (by decide) (hts (.fieldLink R_Code 9 "PageForms$Code" "count" "I") (by decide +kernel)) (fun _ h9 => h9) rfl (by decide +kernel) rfl rfl (Nat.le_of_ble_eq_true rfl) d_Code_append_39 (fun H locs hP hD hS => ?_)
        have hP : va_P (dC, dI) classes [(oC, .inr (1, [.int v39, .ref aY, .ref aZ])), (aY, .inl (cI, 12, .inl (upd byt nC p1))), (aZ, .inl (cI, 13, .inl bit))] H := hP
        have hD : va_D A [(oC, .inr (1, [.int v39, .ref aY, .ref aZ])), (aY, .inl (cI, 12, .inl (upd byt nC p1))), (aZ, .inl (cI, 13, .inl bit))] := hD
        refine lv_aload_n hx hb d_Code_append_42 rfl (lv_at hl 0 rfl) ?_
        have hPc := hP.sub (ws' := [(oC, .inr (1, [.int v39, .ref aY, .ref aZ])), (aY, .inl (cI, 12, .inl (upd byt nC p1))), (aZ, .inl (cI, 13, .inl bit))]) [0, 1, 2] rfl
        have hDc := hD.sub (ws' := [(oC, .inr (1, [.int v39, .ref aY, .ref aZ])), (aY, .inl (cI, 12, .inl (upd byt nC p1))), (aZ, .inl (cI, 13, .inl bit))]) [0, 1, 2] (by decide) rfl
        have hFc := va_free (wc := [(oC, .inr (1, [.int v39, .ref aY, .ref aZ])), (aY, .inl (cI, 12, .inl (upd byt nC p1))), (aZ, .inl (cI, 13, .inl bit))]) hD hS hA [0, 1, 2] rfl
        refine va_callv (va_runV (As := []) (rest := []) ⟨hx, hb, hml, hown, hts⟩ (k_Code_drawSquares l dC dI cI cZ oC aY aZ v39 (upd byt nC p1) bit H.size (nC + 1) (by omega) (by omega)) (cwV 0 hts g_Code_append_Code_drawSquares rfl rfl rfl (by decide +kernel) ⟨Nat.le_of_ble_eq_true rfl, Nat.le_of_ble_eq_true rfl⟩) ⟨fun a U g mk q => by obtain ⟨q0, q1, qP, qK, qD⟩ := q; exact ⟨q0, q1, qP, va_K.moved (u := U) (U := U.calling g mk a) (Vm.Alike.refl U.vm) qK, qD⟩, va_recv hK hPc (ci := 1) (q0 := 0) rfl rfl, fun U hU hW => ⟨rfl, by rw [hU], by rw [hU]; exact hPc, va_K.moved hW.alike hK, hDc.weaken (fun _ _ _ _ => trivial)⟩⟩ rfl rfl hl.1 rfl (lv_room (Nat.le_of_ble_eq_true rfl)) d_Code_append_43 ⟨Nat.le_of_ble_eq_true rfl, Nat.le_of_ble_eq_true rfl⟩) hS (fun q _ h => hFc q h) hFc (fun u t H1 locs ht hvm hw hB hz1 hk1 hS => ?_)
        obtain ⟨bit_43, rfl⟩ : ∃ z, z = u := ⟨_, rfl⟩
        have w43 : (∀ y : Nat, y < (nC + 1) → bit_43 y = cd_enc ((upd byt nC p1) y)) ∧ bit_43 (nC + 1) = cd_x (fun y => cd_enc ((upd byt nC p1) y)) (nC + 1) := hw
        obtain ⟨hP1, hK1, hD1⟩ := hB
        rw [ht] at hP1
        obtain ⟨hP, hD⟩ := va_join (wr := []) (w1 := [(oC, .inr (1, [.int v39, .ref aY, .ref aZ])), (aY, .inl (cI, 12, .inl (upd byt nC p1))), (aZ, .inl (cI, 13, .inl bit_43))]) hP hD [0, 1, 2] [] rfl rfl (by decide) (by decide) hk1 hFc hP1 hD1
        generalize H1 = H at hP hS ⊢
        have hP : va_P (dC, dI) classes [(oC, .inr (1, [.int v39, .ref aY, .ref aZ])), (aY, .inl (cI, 12, .inl (upd byt nC p1))), (aZ, .inl (cI, 13, .inl bit_43))] H := hP
        have hD : va_D A [(oC, .inr (1, [.int v39, .ref aY, .ref aZ])), (aY, .inl (cI, 12, .inl (upd byt nC p1))), (aZ, .inl (cI, 13, .inl bit_43))] := hD
        refine lv_iconst (v := 1) hx hb d_Code_append_46 (by decide) ?_
        exact W.zret (v := 1) hx hb hr rfl (fun t ht hW => ⟨⟨1, (v39, (upd byt nC p1), bit_43), rfl, (show cd_add cnt byt bit p1 (1 : Int32) v39 (upd byt nC p1) bit_43 from (Or.inl ⟨by omega, by omega, by omega, by decide, by omega, by rw [hc]; rfl, fun y hy => w43.1 y (by omega), by rw [hc]; exact w43.2⟩)), by rw [ht]; exact hP, va_K.moved hW.alike hK, hD⟩, hS.F ht⟩) hS.2.2 d_Code_append_47
      · refine lv_iconst (v := 0) hx hb d_Code_append_20 (by decide) ?_
        exact W.zret (v := 0) hx hb hr rfl (fun t ht hW => ⟨⟨0, (cnt, byt, bit), rfl, (show cd_add cnt byt bit p1 (0 : Int32) cnt byt bit from (Or.inr ⟨by omega, by decide, rfl, rfl, rfl⟩)), by rw [ht]; exact hP, va_K.moved hW.alike hK, hD⟩, hS.F ht⟩) hS.2.2 d_Code_append_21

set_option maxHeartbeats 4000000 in
set_option maxRecDepth 100000 in
theorem k_Code_mend (l : Launch) (dC : Nat → ClassId) (dI : Nat → Nat → Nat) (cI cZ : ClassId) (oC : Nat) (aY : Nat) (aZ : Nat) (cnt : Int32) (byt : Nat → Int32) (bit : Nat → Int32) (sz : Nat) (nC : Nat) (hc : cnt.toInt = (nC : Int)) (hc12 : nC ≤ 12) : Met l y_Code_mend w_Code_mend ({ frames := 2, cells := 0, slots := 0, locals := 40 }) (va_Pc [.ref oC] (fun U => U.heap.size = sz ∧ va_P (dC, dI) classes [(oC, .inr (1, [.int cnt, .ref aY, .ref aZ])), (aY, .inl (cI, 12, .inl byt)), (aZ, .inl (cI, 13, .inl bit))] U.heap ∧ va_K (dC, dI) classes [(cI, .int), (cZ, .boolean)] U ∧ va_D (fun _ => True) [(oC, .inr (1, [.int cnt, .ref aY, .ref aZ])), (aY, .inl (cI, 12, .inl byt)), (aZ, .inl (cI, 13, .inl bit))])) (va_Qi (fun (r : Int32) (u : (Nat → Int32)) => cd_read cnt bit r u) (fun (u : (Nat → Int32)) (t : State) => va_P (dC, dI) classes [(oC, .inr (1, [.int cnt, .ref aY, .ref aZ])), (aY, .inl (cI, 12, .inl byt)), (aZ, .inl (cI, 13, .inl u))] t.heap ∧ va_K (dC, dI) classes [(cI, .int), (cZ, .boolean)] t ∧ va_D (va_A [(oC, .inr (1, [.int cnt, .ref aY, .ref aZ])), (aY, .inl (cI, 12, .inl byt)), (aZ, .inl (cI, 13, .inl bit))] sz) [(oC, .inr (1, [.int cnt, .ref aY, .ref aZ])), (aY, .inl (cI, 12, .inl byt)), (aZ, .inl (cI, 13, .inl u))]) (va_A [(oC, .inr (1, [.int cnt, .ref aY, .ref aZ])), (aY, .inl (cI, 12, .inl byt)), (aZ, .inl (cI, 13, .inl bit))] sz)) 0 0 (va_A [(oC, .inr (1, [.int cnt, .ref aY, .ref aZ])), (aY, .inl (cI, 12, .inl byt)), (aZ, .inl (cI, 13, .inl bit))] sz) := by
  refine Met.ofW (cc := b_Code_mend) (maxL := 5) (ret := (some .int)) (by decide) rfl ?_
  intro p e s m args below meth c s₁ B hml hv
  obtain ⟨rfl, hsz, hP, hK, hD0⟩ := hv
  have hx := B.exec
  have hb := B.bytes
  have hr := B.returns
  have hts := atoms_spec (ws := w_Code_mend) B.pre
  have hown : s.vm.findClass R_Code = some m.cls := findClass_of_methodNamed B.named
  have hlocks := B.notSynchronized
  have hw_Code : ∀ w ∈ w_Code, w ∈ w_Code_mend := by decide +kernel
  subst hsz
  have hD := hD0.self (sz := s.heap.size)
  generalize hAe : va_A [(oC, .inr (1, [.int cnt, .ref aY, .ref aZ])), (aY, .inl (cI, 12, .inl byt)), (aZ, .inl (cI, 13, .inl bit))] s.heap.size = A at hD ⊢
  have hA : ∀ q : Nat, s.heap.size ≤ q → A q := fun q h => by rw [← hAe]; exact Or.inr h
  have hS : va_S A s.heap s.heap [] := va_S.rf
  have hP : va_P (dC, dI) classes [(oC, .inr (1, [.int cnt, .ref aY, .ref aZ])), (aY, .inl (cI, 12, .inl byt)), (aZ, .inl (cI, 13, .inl bit))] s.heap := hP
  have hl := lv_entry ([.ref oC]) (n := 5) (Nat.le_of_ble_eq_true rfl)
  rw [lg_entry_eq]
  generalize (lg_sl ([.ref oC]) ++ List.replicate (5 - (lg_sl ([.ref oC])).length) Slot.unset).toArray = ls at hl ⊢
  have hl : lv_has ls 5 [(0, .ref oC)] := hl
  have loop18 : ∀ (n18 : Nat) (k : Nat) (x1 : Int32) (x2 : Int32) (x3 : Int32) (x4 : Int32), (nC + 1 - k < n18) → (nC ≠ 0) → (k ≤ nC + 1) → (x4.toInt = (k : Int)) → (x1 = cd_x bit k) → (x2.toInt = (cd_c bit k : Int)) → (x3.toInt = (cd_l bit k : Int)) → ∀ (H : Heap) (locs : List Loc), va_P (dC, dI) classes [(oC, .inr (1, [.int cnt, .ref aY, .ref aZ])), (aY, .inl (cI, 12, .inl byt)), (aZ, .inl (cI, 13, .inl bit))] H → va_D A [(oC, .inr (1, [.int cnt, .ref aY, .ref aZ])), (aY, .inl (cI, 12, .inl byt)), (aZ, .inl (cI, 13, .inl bit))] → va_S A s.heap H locs → ∀ (ls : Array Slot), lv_has ls 5 [(0, .ref oC), (1, .int x1), (2, .int x2), (3, .int x3), (4, .int x4)] → W p l e (headSpec w_Code_mend ({ frames := 2, cells := 0, slots := 0, locals := 40 })).room s m ([.ref oC] : List Value).toArray below meth c H locs 0 0 (MQ below (va_Qi (fun (r : Int32) (u : (Nat → Int32)) => cd_read cnt bit r u) (fun (u : (Nat → Int32)) (t : State) => va_P (dC, dI) classes [(oC, .inr (1, [.int cnt, .ref aY, .ref aZ])), (aY, .inl (cI, 12, .inl byt)), (aZ, .inl (cI, 13, .inl u))] t.heap ∧ va_K (dC, dI) classes [(cI, .int), (cZ, .boolean)] t ∧ va_D (A) [(oC, .inr (1, [.int cnt, .ref aY, .ref aZ])), (aY, .inl (cI, 12, .inl byt)), (aZ, .inl (cI, 13, .inl u))]) (A)) ([.ref oC] : List Value).toArray s 0 0 A) (F0 m 18 ls []) := by
    intro n18
    induction n18 with
    | zero => intro k x1 x2 x3 x4 hmz18; omega
    | succ n18 ih18 =>
      intro k x1 x2 x3 x4 hmz18 hc0 hk e4 h1 e2 e3 H locs hP hD hS ls hl
      have hcl := cd_c_le bit k
      refine lv_iload hx hb d_Code_mend_18 (lv_at hl 4 rfl) ?_
      refine lv_aload_n hx hb d_Code_mend_20 rfl (lv_at hl 0 rfl) ?_
      have hPc := hP.sub (ws' := [(oC, .inr (1, [.int cnt, .ref aY, .ref aZ])), (aY, .inl (cI, 12, .inl byt)), (aZ, .inl (cI, 13, .inl bit))]) [0, 1, 2] rfl
      have hDc := hD.sub (ws' := [(oC, .inr (1, [.int cnt, .ref aY, .ref aZ])), (aY, .inl (cI, 12, .inl byt)), (aZ, .inl (cI, 13, .inl bit))]) [0, 1, 2] (by decide) rfl
      have hFc := va_free (wc := [(oC, .inr (1, [.int cnt, .ref aY, .ref aZ])), (aY, .inl (cI, 12, .inl byt)), (aZ, .inl (cI, 13, .inl bit))]) hD hS hA [0, 1, 2] rfl
      refine va_calli (va_runV (As := []) (rest := [.int x4]) ⟨hx, hb, hml, hown, hts⟩ (k_Code_countRows l dC dI cI cZ oC aY aZ cnt byt bit H.size nC hc hc12) (cwV 0 hts g_Code_mend_Code_countRows rfl rfl rfl (by decide +kernel) ⟨Nat.le_of_ble_eq_true rfl, Nat.le_of_ble_eq_true rfl⟩) ⟨fun a U g mk q => by obtain ⟨q0, q1, qP, qK, qD⟩ := q; exact ⟨q0, q1, qP, va_K.moved (u := U) (U := U.calling g mk a) (Vm.Alike.refl U.vm) qK, qD⟩, va_recv hK hPc (ci := 1) (q0 := 0) rfl rfl, fun U hU hW => ⟨rfl, by rw [hU], by rw [hU]; exact hPc, va_K.moved hW.alike hK, hDc.weaken (fun _ _ _ _ => trivial)⟩⟩ rfl rfl hl.1 rfl (lv_room (Nat.le_of_ble_eq_true rfl)) d_Code_mend_21 ⟨Nat.le_of_ble_eq_true rfl, Nat.le_of_ble_eq_true rfl⟩) hS (fun q _ h => hFc q h) hFc (fun r21 u t H1 locs ht hvm hw hB hz1 hk1 hS => ?_)
      have w21 : (nC = 0 ∧ r21.toInt = 0) ∨ (nC ≠ 0 ∧ r21.toInt = (nC : Int) + 1) := hw
      obtain ⟨hP1, hK1, hD1⟩ := hB
      rw [ht] at hP1
      obtain ⟨hP, hD⟩ := va_join (wr := []) (w1 := [(oC, .inr (1, [.int cnt, .ref aY, .ref aZ])), (aY, .inl (cI, 12, .inl byt)), (aZ, .inl (cI, 13, .inl bit))]) hP hD [0, 1, 2] [] rfl rfl (by decide) (by decide) hk1 hFc hP1 hD1
      generalize H1 = H at hP hS ⊢
      have hP : va_P (dC, dI) classes [(oC, .inr (1, [.int cnt, .ref aY, .ref aZ])), (aY, .inl (cI, 12, .inl byt)), (aZ, .inl (cI, 13, .inl bit))] H := hP
      have hD : va_D A [(oC, .inr (1, [.int cnt, .ref aY, .ref aZ])), (aY, .inl (cI, 12, .inl byt)), (aZ, .inl (cI, 13, .inl bit))] := hD
      refine xi_icmp_ge (tgt := 62) hx hb e4 (rfl) d_Code_mend_24 (by decide) (fun c24 => ?_) (fun c24 => ?_)
      · have hkN : k = nC + 1 := by omega
        rw [hkN] at h1 e2 e3
        have hll := cd_l_lt bit (nC + 1) (by omega)
        have hcn : cnt.toInt.toNat + 1 = nC + 1 := by omega
        refine lv_iload_n hx hb d_Code_mend_62 rfl (lv_at hl 2 rfl) ?_
        refine xi_if_ne (tgt := 72) hx hb e2 d_Code_mend_63 (by decide) (fun c63 => ?_) (fun c63 => ?_)
        · refine lv_iload_n hx hb d_Code_mend_72 rfl (lv_at hl 2 rfl) ?_
          refine lv_iconst (v := 1) hx hb d_Code_mend_73 (by decide) ?_
          refine xi_icmp_ne (tgt := 85) hx hb e2 (show (1 : Int32).toInt = 1 by decide) d_Code_mend_74 (by decide) (fun c74 => ?_) (fun c74 => ?_)
          · refine lv_iconst (v := (-1)) hx hb d_Code_mend_85 (by decide) ?_
            exact W.iret (v := (-1)) hx hb hr (fun t ht hW => ⟨⟨(-1), bit, rfl, (show cd_read cnt bit ((-1) : Int32) bit from (by unfold cd_read; rw [hcn]; exact Or.inr ⟨by omega, Or.inr (Or.inl ⟨fun q => by first | exact absurd q.1 (by omega) | exact c67 (by rw [h1, q.2]; decide), fun q => by first | exact absurd q.1 (by omega) | exact c82 (by rw [w78, h1, q.2]; decide), by decide, rfl⟩)⟩)), by rw [ht]; exact hP, va_K.moved hW.alike hK, hD⟩, hS.F ht⟩) hS.2.2 d_Code_mend_86
          · refine lv_iload_n hx hb d_Code_mend_77 rfl (lv_at hl 1 rfl) ?_
            have hPc := hP.sub (ws' := []) [] rfl
            have hDc := hD.sub (ws' := []) [] (by decide) rfl
            have hFc := va_free (wc := []) hD hS hA [] rfl
            refine va_calli (va_runS (As := [.int x1]) (rest := []) ⟨hx, hb, hml, hown, hts⟩ (k_bitCount l dC dI cI cZ H.size x1) (va_cwS 1 hts g_Code_mend_bitCount rfl rfl rfl (by decide +kernel) ⟨Nat.le_of_ble_eq_true rfl, Nat.le_of_ble_eq_true rfl⟩) ⟨fun a U g mk q => by obtain ⟨q0, q1, qP, qK, qD⟩ := q; exact ⟨q0, q1, qP, va_K.moved (u := U) (U := U.calling g mk a) (Vm.Alike.refl U.vm) qK, qD⟩, fun U hU hW => ⟨rfl, by rw [hU], by rw [hU]; exact hPc, va_K.moved hW.alike hK, hDc.weaken (fun _ _ _ _ => trivial)⟩⟩ rfl rfl hl.1 rfl (lv_room (Nat.le_of_ble_eq_true rfl)) d_Code_mend_78 ⟨Nat.le_of_ble_eq_true rfl, Nat.le_of_ble_eq_true rfl⟩) hS (fun q _ h => hFc q h) hFc (fun r78 u t H1 locs ht hvm hw hB hz1 hk1 hS => ?_)
            have w78 : r78 = cd_bc x1 := hw
            obtain ⟨hP1, hK1, hD1⟩ := hB
            rw [ht] at hP1
            obtain ⟨hP, hD⟩ := va_join (wr := [(oC, .inr (1, [.int cnt, .ref aY, .ref aZ])), (aY, .inl (cI, 12, .inl byt)), (aZ, .inl (cI, 13, .inl bit))]) (w1 := []) hP hD [] [0, 1, 2] rfl rfl (by decide) (by decide) hk1 hFc hP1 hD1
            generalize H1 = H at hP hS ⊢
            have hP : va_P (dC, dI) classes [(oC, .inr (1, [.int cnt, .ref aY, .ref aZ])), (aY, .inl (cI, 12, .inl byt)), (aZ, .inl (cI, 13, .inl bit))] H := hP
            have hD : va_D A [(oC, .inr (1, [.int cnt, .ref aY, .ref aZ])), (aY, .inl (cI, 12, .inl byt)), (aZ, .inl (cI, 13, .inl bit))] := hD
            refine lv_iconst (v := 1) hx hb d_Code_mend_81 (by decide) ?_
            refine xi_icmp_eq (tgt := 87) hx hb (rfl) (show (1 : Int32).toInt = 1 by decide) d_Code_mend_82 (by decide) (fun c82 => ?_) (fun c82 => ?_)
            · refine lv_aload_n hx hb d_Code_mend_87 rfl (lv_at hl 0 rfl) ?_
              refine va_get (D := (dC, dI)) (ci := 1) (v := .ref aZ) (C := R_Code) (T := F_Code) (N := 3) hx hb hts hw_Code hown hK hP 0 rfl rfl 2 (by decide) (hts (.fieldLink R_Code 19 "PageForms$Code" "bits" "[I") (by decide +kernel)) (fun _ h9 => h9) rfl d_Code_mend_88 ?_
              refine lv_iload_n hx hb d_Code_mend_91 rfl (lv_at hl 3 rfl) ?_
              refine lv_dup2_11 hx hb d_Code_mend_92 rfl rfl ?_
              refine xa_iald hx hb hK hP 2 0 rfl rfl e3 (cd_l bit (nC + 1)) (by omega) (by omega) d_Code_mend_93 ?_
              refine lv_iload_n hx hb d_Code_mend_94 rfl (lv_at hl 1 rfl) ?_
              refine lv_ixor hx hb d_Code_mend_95 ?_
              refine xa_iast hx hb hK hP hD hS 2 0 rfl rfl e3 (cd_l bit (nC + 1)) (by omega) (by omega) d_Code_mend_96 (fun H locs hP hD hS => ?_)
              have hP : va_P (dC, dI) classes [(oC, .inr (1, [.int cnt, .ref aY, .ref aZ])), (aY, .inl (cI, 12, .inl byt)), (aZ, .inl (cI, 13, .inl (upd bit (cd_l bit (nC + 1)) ((bit (cd_l bit (nC + 1))) ^^^ x1))))] H := hP
              have hD : va_D A [(oC, .inr (1, [.int cnt, .ref aY, .ref aZ])), (aY, .inl (cI, 12, .inl byt)), (aZ, .inl (cI, 13, .inl (upd bit (cd_l bit (nC + 1)) ((bit (cd_l bit (nC + 1))) ^^^ x1))))] := hD
              refine lv_iconst (v := 1) hx hb d_Code_mend_97 (by decide) ?_
              exact W.iret (v := 1) hx hb hr (fun t ht hW => ⟨⟨1, (upd bit (cd_l bit (nC + 1)) ((bit (cd_l bit (nC + 1))) ^^^ x1)), rfl, (show cd_read cnt bit (1 : Int32) (upd bit (cd_l bit (nC + 1)) ((bit (cd_l bit (nC + 1))) ^^^ x1)) from (by unfold cd_read; rw [hcn]; exact Or.inr ⟨by omega, Or.inr (Or.inr ⟨by omega, by rw [← h1, ← w78]; exact Int32.toInt_inj.mp c82, by decide, by rw [h1]⟩)⟩)), by rw [ht]; exact hP, va_K.moved hW.alike hK, hD⟩, hS.F ht⟩) hS.2.2 d_Code_mend_98
            · refine lv_iconst (v := (-1)) hx hb d_Code_mend_85 (by decide) ?_
              exact W.iret (v := (-1)) hx hb hr (fun t ht hW => ⟨⟨(-1), bit, rfl, (show cd_read cnt bit ((-1) : Int32) bit from (by unfold cd_read; rw [hcn]; exact Or.inr ⟨by omega, Or.inr (Or.inl ⟨fun q => by first | exact absurd q.1 (by omega) | exact c67 (by rw [h1, q.2]; decide), fun q => by first | exact absurd q.1 (by omega) | exact c82 (by rw [w78, h1, q.2]; decide), by decide, rfl⟩)⟩)), by rw [ht]; exact hP, va_K.moved hW.alike hK, hD⟩, hS.F ht⟩) hS.2.2 d_Code_mend_86
        · refine lv_iload_n hx hb d_Code_mend_66 rfl (lv_at hl 1 rfl) ?_
          refine xi_if_ne (tgt := 72) hx hb (rfl) d_Code_mend_67 (by decide) (fun c67 => ?_) (fun c67 => ?_)
          · refine lv_iload_n hx hb d_Code_mend_72 rfl (lv_at hl 2 rfl) ?_
            refine lv_iconst (v := 1) hx hb d_Code_mend_73 (by decide) ?_
            refine xi_icmp_ne (tgt := 85) hx hb e2 (show (1 : Int32).toInt = 1 by decide) d_Code_mend_74 (by decide) (fun c74 => ?_) (fun c74 => ?_)
            · refine lv_iconst (v := (-1)) hx hb d_Code_mend_85 (by decide) ?_
              exact W.iret (v := (-1)) hx hb hr (fun t ht hW => ⟨⟨(-1), bit, rfl, (show cd_read cnt bit ((-1) : Int32) bit from (by unfold cd_read; rw [hcn]; exact Or.inr ⟨by omega, Or.inr (Or.inl ⟨fun q => by first | exact absurd q.1 (by omega) | exact c67 (by rw [h1, q.2]; decide), fun q => by first | exact absurd q.1 (by omega) | exact c82 (by rw [w78, h1, q.2]; decide), by decide, rfl⟩)⟩)), by rw [ht]; exact hP, va_K.moved hW.alike hK, hD⟩, hS.F ht⟩) hS.2.2 d_Code_mend_86
            · refine lv_iload_n hx hb d_Code_mend_77 rfl (lv_at hl 1 rfl) ?_
              have hPc := hP.sub (ws' := []) [] rfl
              have hDc := hD.sub (ws' := []) [] (by decide) rfl
              have hFc := va_free (wc := []) hD hS hA [] rfl
              refine va_calli (va_runS (As := [.int x1]) (rest := []) ⟨hx, hb, hml, hown, hts⟩ (k_bitCount l dC dI cI cZ H.size x1) (va_cwS 1 hts g_Code_mend_bitCount rfl rfl rfl (by decide +kernel) ⟨Nat.le_of_ble_eq_true rfl, Nat.le_of_ble_eq_true rfl⟩) ⟨fun a U g mk q => by obtain ⟨q0, q1, qP, qK, qD⟩ := q; exact ⟨q0, q1, qP, va_K.moved (u := U) (U := U.calling g mk a) (Vm.Alike.refl U.vm) qK, qD⟩, fun U hU hW => ⟨rfl, by rw [hU], by rw [hU]; exact hPc, va_K.moved hW.alike hK, hDc.weaken (fun _ _ _ _ => trivial)⟩⟩ rfl rfl hl.1 rfl (lv_room (Nat.le_of_ble_eq_true rfl)) d_Code_mend_78 ⟨Nat.le_of_ble_eq_true rfl, Nat.le_of_ble_eq_true rfl⟩) hS (fun q _ h => hFc q h) hFc (fun r78 u t H1 locs ht hvm hw hB hz1 hk1 hS => ?_)
              have w78 : r78 = cd_bc x1 := hw
              obtain ⟨hP1, hK1, hD1⟩ := hB
              rw [ht] at hP1
              obtain ⟨hP, hD⟩ := va_join (wr := [(oC, .inr (1, [.int cnt, .ref aY, .ref aZ])), (aY, .inl (cI, 12, .inl byt)), (aZ, .inl (cI, 13, .inl bit))]) (w1 := []) hP hD [] [0, 1, 2] rfl rfl (by decide) (by decide) hk1 hFc hP1 hD1
              generalize H1 = H at hP hS ⊢
              have hP : va_P (dC, dI) classes [(oC, .inr (1, [.int cnt, .ref aY, .ref aZ])), (aY, .inl (cI, 12, .inl byt)), (aZ, .inl (cI, 13, .inl bit))] H := hP
              have hD : va_D A [(oC, .inr (1, [.int cnt, .ref aY, .ref aZ])), (aY, .inl (cI, 12, .inl byt)), (aZ, .inl (cI, 13, .inl bit))] := hD
              refine lv_iconst (v := 1) hx hb d_Code_mend_81 (by decide) ?_
              refine xi_icmp_eq (tgt := 87) hx hb (rfl) (show (1 : Int32).toInt = 1 by decide) d_Code_mend_82 (by decide) (fun c82 => ?_) (fun c82 => ?_)
              · refine lv_aload_n hx hb d_Code_mend_87 rfl (lv_at hl 0 rfl) ?_
                refine va_get (D := (dC, dI)) (ci := 1) (v := .ref aZ) (C := R_Code) (T := F_Code) (N := 3) hx hb hts hw_Code hown hK hP 0 rfl rfl 2 (by decide) (hts (.fieldLink R_Code 19 "PageForms$Code" "bits" "[I") (by decide +kernel)) (fun _ h9 => h9) rfl d_Code_mend_88 ?_
                refine lv_iload_n hx hb d_Code_mend_91 rfl (lv_at hl 3 rfl) ?_
                refine lv_dup2_11 hx hb d_Code_mend_92 rfl rfl ?_
                refine xa_iald hx hb hK hP 2 0 rfl rfl e3 (cd_l bit (nC + 1)) (by omega) (by omega) d_Code_mend_93 ?_
                refine lv_iload_n hx hb d_Code_mend_94 rfl (lv_at hl 1 rfl) ?_
                refine lv_ixor hx hb d_Code_mend_95 ?_
                refine xa_iast hx hb hK hP hD hS 2 0 rfl rfl e3 (cd_l bit (nC + 1)) (by omega) (by omega) d_Code_mend_96 (fun H locs hP hD hS => ?_)
                have hP : va_P (dC, dI) classes [(oC, .inr (1, [.int cnt, .ref aY, .ref aZ])), (aY, .inl (cI, 12, .inl byt)), (aZ, .inl (cI, 13, .inl (upd bit (cd_l bit (nC + 1)) ((bit (cd_l bit (nC + 1))) ^^^ x1))))] H := hP
                have hD : va_D A [(oC, .inr (1, [.int cnt, .ref aY, .ref aZ])), (aY, .inl (cI, 12, .inl byt)), (aZ, .inl (cI, 13, .inl (upd bit (cd_l bit (nC + 1)) ((bit (cd_l bit (nC + 1))) ^^^ x1))))] := hD
                refine lv_iconst (v := 1) hx hb d_Code_mend_97 (by decide) ?_
                exact W.iret (v := 1) hx hb hr (fun t ht hW => ⟨⟨1, (upd bit (cd_l bit (nC + 1)) ((bit (cd_l bit (nC + 1))) ^^^ x1)), rfl, (show cd_read cnt bit (1 : Int32) (upd bit (cd_l bit (nC + 1)) ((bit (cd_l bit (nC + 1))) ^^^ x1)) from (by unfold cd_read; rw [hcn]; exact Or.inr ⟨by omega, Or.inr (Or.inr ⟨by omega, by rw [← h1, ← w78]; exact Int32.toInt_inj.mp c82, by decide, by rw [h1]⟩)⟩)), by rw [ht]; exact hP, va_K.moved hW.alike hK, hD⟩, hS.F ht⟩) hS.2.2 d_Code_mend_98
              · refine lv_iconst (v := (-1)) hx hb d_Code_mend_85 (by decide) ?_
                exact W.iret (v := (-1)) hx hb hr (fun t ht hW => ⟨⟨(-1), bit, rfl, (show cd_read cnt bit ((-1) : Int32) bit from (by unfold cd_read; rw [hcn]; exact Or.inr ⟨by omega, Or.inr (Or.inl ⟨fun q => by first | exact absurd q.1 (by omega) | exact c67 (by rw [h1, q.2]; decide), fun q => by first | exact absurd q.1 (by omega) | exact c82 (by rw [w78, h1, q.2]; decide), by decide, rfl⟩)⟩)), by rw [ht]; exact hP, va_K.moved hW.alike hK, hD⟩, hS.F ht⟩) hS.2.2 d_Code_mend_86
          · refine lv_iconst (v := 0) hx hb d_Code_mend_70 (by decide) ?_
            exact W.iret (v := 0) hx hb hr (fun t ht hW => ⟨⟨0, bit, rfl, (show cd_read cnt bit (0 : Int32) bit from (by unfold cd_read; rw [hcn]; exact Or.inr ⟨by omega, Or.inl ⟨by omega, by rw [← h1]; exact Int32.toInt_inj.mp c67, by decide, rfl⟩⟩)), by rw [ht]; exact hP, va_K.moved hW.alike hK, hD⟩, hS.F ht⟩) hS.2.2 d_Code_mend_71
      · refine lv_iload_n hx hb d_Code_mend_27 rfl (lv_at hl 1 rfl) ?_
        refine lv_aload_n hx hb d_Code_mend_28 rfl (lv_at hl 0 rfl) ?_
        refine va_get (D := (dC, dI)) (ci := 1) (v := .ref aZ) (C := R_Code) (T := F_Code) (N := 3) hx hb hts hw_Code hown hK hP 0 rfl rfl 2 (by decide) (hts (.fieldLink R_Code 19 "PageForms$Code" "bits" "[I") (by decide +kernel)) (fun _ h9 => h9) rfl d_Code_mend_29 ?_
        refine lv_iload hx hb d_Code_mend_32 (lv_at hl 4 rfl) ?_
        refine xa_iald hx hb hK hP 2 0 rfl rfl e4 k (by omega) (by omega) d_Code_mend_34 ?_
        refine lv_ixor hx hb d_Code_mend_35 ?_
        refine lv_topi (fun v36 ev36 => ?_)
        refine lv_istore_n (lv' := [(1, .int v36), (0, .ref oC), (2, .int x2), (3, .int x3), (4, .int x4)]) hx hb d_Code_mend_36 rfl hl (by decide) rfl (fun ls hl => ?_)
        refine lv_aload_n hx hb d_Code_mend_37 rfl (lv_at hl 1 rfl) ?_
        refine va_get (D := (dC, dI)) (ci := 1) (v := .ref aZ) (C := R_Code) (T := F_Code) (N := 3) hx hb hts hw_Code hown hK hP 0 rfl rfl 2 (by decide) (hts (.fieldLink R_Code 19 "PageForms$Code" "bits" "[I") (by decide +kernel)) (fun _ h9 => h9) rfl d_Code_mend_38 ?_
        refine lv_iload hx hb d_Code_mend_41 (lv_at hl 4 rfl) ?_
        refine xa_iald hx hb hK hP 2 0 rfl rfl e4 k (by omega) (by omega) d_Code_mend_43 ?_
        have hPc := hP.sub (ws' := []) [] rfl
        have hDc := hD.sub (ws' := []) [] (by decide) rfl
        have hFc := va_free (wc := []) hD hS hA [] rfl
        refine va_calli (va_runS (As := [.int (bit k)]) (rest := []) ⟨hx, hb, hml, hown, hts⟩ (k_Code_isOdd l dC dI cI cZ H.size (bit k)) (cwS 1 hts g_Code_mend_Code_isOdd rfl rfl rfl (by decide +kernel) ⟨Nat.le_of_ble_eq_true rfl, Nat.le_of_ble_eq_true rfl⟩) ⟨fun a U g mk q => by obtain ⟨q0, q1, qP, qK, qD⟩ := q; exact ⟨q0, q1, qP, va_K.moved (u := U) (U := U.calling g mk a) (Vm.Alike.refl U.vm) qK, qD⟩, fun U hU hW => ⟨rfl, by rw [hU], by rw [hU]; exact hPc, va_K.moved hW.alike hK, hDc.weaken (fun _ _ _ _ => trivial)⟩⟩ rfl rfl hl.1 rfl (lv_room (Nat.le_of_ble_eq_true rfl)) d_Code_mend_44 ⟨Nat.le_of_ble_eq_true rfl, Nat.le_of_ble_eq_true rfl⟩) hS (fun q _ h => hFc q h) hFc (fun r44 u t H1 locs ht hvm hw hB hz1 hk1 hS => ?_)
        have w44 : (r44.toInt = 1 ∧ cd_odd (bit k) = true) ∨ (r44.toInt = 0 ∧ cd_odd (bit k) = false) := hw
        obtain ⟨hP1, hK1, hD1⟩ := hB
        rw [ht] at hP1
        obtain ⟨hP, hD⟩ := va_join (wr := [(oC, .inr (1, [.int cnt, .ref aY, .ref aZ])), (aY, .inl (cI, 12, .inl byt)), (aZ, .inl (cI, 13, .inl bit))]) (w1 := []) hP hD [] [0, 1, 2] rfl rfl (by decide) (by decide) hk1 hFc hP1 hD1
        generalize H1 = H at hP hS ⊢
        have hP : va_P (dC, dI) classes [(oC, .inr (1, [.int cnt, .ref aY, .ref aZ])), (aY, .inl (cI, 12, .inl byt)), (aZ, .inl (cI, 13, .inl bit))] H := hP
        have hD : va_D A [(oC, .inr (1, [.int cnt, .ref aY, .ref aZ])), (aY, .inl (cI, 12, .inl byt)), (aZ, .inl (cI, 13, .inl bit))] := hD
        refine xi_if_eq (tgt := 56) hx hb (rfl) d_Code_mend_47 (by decide) (fun c47 => ?_) (fun c47 => ?_)
        · obtain ⟨v56, ev56⟩ : ∃ y : Int32, y = (x4 + 1) := ⟨_, rfl⟩
          have fv56 : v56.toInt = ((k : Int) + 1) := by rw [ev56]; exact xi_add e4 (show (1 : Int32).toInt = 1 by decide) (by omega) (by omega)
          refine lv_iinc (v := v56) (lv' := [(4, .int v56), (1, .int v36), (0, .ref oC), (2, .int x2), (3, .int x3)]) hx hb d_Code_mend_56 hl (k := 4) rfl (by rw [ev56]; rfl) (by decide) rfl (fun ls hl => ?_)
          refine lv_goto (tgt := 18) hx hb d_Code_mend_59 (by decide) ?_
          have ho : cd_odd (bit k) = false := by rcases w44 with q | q <;> first | exact q.2 | omega
          exact ih18 (k + 1) v36 x2 x3 v56 (by omega) (by omega) (by omega) (by omega) (by rw [ev36, h1]; rfl) (by rw [cd_c, if_neg (by rw [ho]; decide)]; omega) (by rw [cd_l, if_neg (by rw [ho]; decide)]; omega) _ _ hP hD hS ls (lv_sub hl [2, 1, 3, 4, 0] rfl)
        · obtain ⟨v50, ev50⟩ : ∃ y : Int32, y = (x2 + 1) := ⟨_, rfl⟩
          have fv50 : v50.toInt = ((cd_c bit k : Int) + 1) := by rw [ev50]; exact xi_add e2 (show (1 : Int32).toInt = 1 by decide) (by omega) (by omega)
          refine lv_iinc (v := v50) (lv' := [(2, .int v50), (1, .int v36), (0, .ref oC), (3, .int x3), (4, .int x4)]) hx hb d_Code_mend_50 hl (k := 2) rfl (by rw [ev50]; rfl) (by decide) rfl (fun ls hl => ?_)
          refine lv_iload hx hb d_Code_mend_53 (lv_at hl 4 rfl) ?_
          refine lv_istore_n (lv' := [(3, .int x4), (2, .int v50), (1, .int v36), (0, .ref oC), (4, .int x4)]) hx hb d_Code_mend_55 rfl hl (by decide) rfl (fun ls hl => ?_)
          obtain ⟨v56, ev56⟩ : ∃ y : Int32, y = (x4 + 1) := ⟨_, rfl⟩
          have fv56 : v56.toInt = ((k : Int) + 1) := by rw [ev56]; exact xi_add e4 (show (1 : Int32).toInt = 1 by decide) (by omega) (by omega)
          refine lv_iinc (v := v56) (lv' := [(4, .int v56), (3, .int x4), (2, .int v50), (1, .int v36), (0, .ref oC)]) hx hb d_Code_mend_56 hl (k := 4) rfl (by rw [ev56]; rfl) (by decide) rfl (fun ls hl => ?_)
          refine lv_goto (tgt := 18) hx hb d_Code_mend_59 (by decide) ?_
          have ho : cd_odd (bit k) = true := by rcases w44 with q | q <;> first | exact q.2 | omega
          exact ih18 (k + 1) v36 v50 x4 v56 (by omega) (by omega) (by omega) (by omega) (by rw [ev36, h1]; rfl) (by rw [cd_c, if_pos ho]; omega) (by rw [cd_l, if_pos ho]; omega) _ _ hP hD hS ls (lv_sub hl [4, 3, 2, 1, 0] rfl)
  refine lv_aload_n hx hb d_Code_mend_0 rfl (lv_at hl 0 rfl) ?_
  refine va_get (D := (dC, dI)) (ci := 1) (v := .int cnt) (C := R_Code) (T := F_Code) (N := 3) hx hb hts hw_Code hown hK hP 0 rfl rfl 0 (by decide) (hts (.fieldLink R_Code 9 "PageForms$Code" "count" "I") (by decide +kernel)) (fun _ h9 => h9) rfl d_Code_mend_1 ?_
  refine xi_if_ne (tgt := 9) hx hb hc d_Code_mend_4 (by decide) (fun c4 => ?_) (fun c4 => ?_)
  · refine lv_iconst (v := 0) hx hb d_Code_mend_9 (by decide) ?_
    refine lv_istore_n (lv' := [(1, .int 0), (0, .ref oC)]) hx hb d_Code_mend_10 rfl hl (by decide) rfl (fun ls hl => ?_)
    refine lv_iconst (v := 0) hx hb d_Code_mend_11 (by decide) ?_
    refine lv_istore_n (lv' := [(2, .int 0), (1, .int 0), (0, .ref oC)]) hx hb d_Code_mend_12 rfl hl (by decide) rfl (fun ls hl => ?_)
    refine lv_iconst (v := 0) hx hb d_Code_mend_13 (by decide) ?_
    refine lv_istore_n (lv' := [(3, .int 0), (2, .int 0), (1, .int 0), (0, .ref oC)]) hx hb d_Code_mend_14 rfl hl (by decide) rfl (fun ls hl => ?_)
    refine lv_iconst (v := 0) hx hb d_Code_mend_15 (by decide) ?_
    refine lv_istore (lv' := [(4, .int 0), (3, .int 0), (2, .int 0), (1, .int 0), (0, .ref oC)]) hx hb d_Code_mend_16 hl (by decide) rfl (fun ls hl => ?_)
    exact loop18 (nC + 2) 0 0 0 0 0 (by omega) (by omega) (by omega) (by decide) rfl (show (0 : Int32).toInt = ((0 : Nat) : Int) by decide) (show (0 : Int32).toInt = ((0 : Nat) : Int) by decide) _ _ hP hD hS ls (lv_sub hl [4, 3, 2, 1, 0] rfl)
  · refine lv_iconst (v := (-1)) hx hb d_Code_mend_7 (by decide) ?_
    exact W.iret (v := (-1)) hx hb hr (fun t ht hW => ⟨⟨(-1), bit, rfl, (show cd_read cnt bit ((-1) : Int32) bit from (Or.inl ⟨by omega, by decide, rfl⟩)), by rw [ht]; exact hP, va_K.moved hW.alike hK, hD⟩, hS.F ht⟩) hS.2.2 d_Code_mend_8
