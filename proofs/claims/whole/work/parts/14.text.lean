set_option maxHeartbeats 4000000 in
set_option maxRecDepth 100000 in
theorem k_Text_init (l : Launch) (dC : Nat → ClassId) (dI : Nat → Nat → Nat) (cI cZ : ClassId) (oT : Nat) (sz : Nat) : Met l y_Text_init w_Text_init ({ frames := 1, cells := 4, slots := 402, locals := 12 }) (va_Pc [.ref oT] (fun U => U.heap.size = sz ∧ va_P (dC, dI) classes [(oT, .inr (3, [.int 0, .int 0, .int 0, .null, .int 0, .int 0, .null, .null, .null]))] U.heap ∧ va_K (dC, dI) classes [(cI, .int), (cZ, .boolean)] U ∧ va_D (fun _ => True) [(oT, .inr (3, [.int 0, .int 0, .int 0, .null, .int 0, .int 0, .null, .null, .null]))])) (va_Qv (fun (u : Unit) => True) (fun (u : Unit) (t : State) => ∃ (aL : Nat), ∃ (aF : Nat), ∃ (aS : Nat), ∃ (aN : Nat), va_P (dC, dI) classes [(oT, .inr (3, [.int 0, .int 0, .int 0, .ref aL, .int 0, .int 0, .ref aF, .ref aS, .ref aN])), (aL, .inl (cI, 100, .inl (fun _ => 0))), (aF, .inl (cI, 100, .inl (fun _ => 0))), (aS, .inl (cI, 101, .inl (fun _ => 0))), (aN, .inl (cI, 101, .inl (fun _ => 0)))] t.heap ∧ va_K (dC, dI) classes [(cI, .int), (cZ, .boolean)] t ∧ va_D (va_A [(oT, .inr (3, [.int 0, .int 0, .int 0, .null, .int 0, .int 0, .null, .null, .null]))] sz) [(oT, .inr (3, [.int 0, .int 0, .int 0, .ref aL, .int 0, .int 0, .ref aF, .ref aS, .ref aN])), (aL, .inl (cI, 100, .inl (fun _ => 0))), (aF, .inl (cI, 100, .inl (fun _ => 0))), (aS, .inl (cI, 101, .inl (fun _ => 0))), (aN, .inl (cI, 101, .inl (fun _ => 0)))]) (va_A [(oT, .inr (3, [.int 0, .int 0, .int 0, .null, .int 0, .int 0, .null, .null, .null]))] sz)) 4 402 (va_A [(oT, .inr (3, [.int 0, .int 0, .int 0, .null, .int 0, .int 0, .null, .null, .null]))] sz) := by
  refine Met.ofW (cc := b_Text_init) (maxL := 1) (ret := none) (by decide) rfl ?_
  intro p e s m args below meth c s₁ B hml hv
  obtain ⟨rfl, hsz, hP, hK, hD0⟩ := hv
  have hx := B.exec
  have hb := B.bytes
  have hr := B.returns
  have hts := atoms_spec (ws := w_Text_init) B.pre
  have hown : s.vm.findClass R_Text = some m.cls := findClass_of_methodNamed B.named
  have hlocks := B.notSynchronized
  have hin : meth.name = "<init>" := (name_of_methodNamed B.named B.method).1
  have hw_Text : ∀ w ∈ w_Text, w ∈ w_Text_init := by decide +kernel
  subst hsz
  have hD := hD0.self (sz := s.heap.size)
  generalize hAe : va_A [(oT, .inr (3, [.int 0, .int 0, .int 0, .null, .int 0, .int 0, .null, .null, .null]))] s.heap.size = A at hD ⊢
  have hA : ∀ q : Nat, s.heap.size ≤ q → A q := fun q h => by rw [← hAe]; exact Or.inr h
  have hS : va_S A s.heap s.heap [] := va_S.rf
  have hP : va_P (dC, dI) classes [(oT, .inr (3, [.int 0, .int 0, .int 0, .null, .int 0, .int 0, .null, .null, .null]))] s.heap := hP
  have hl := lv_entry ([.ref oT]) (n := 1) (Nat.le_of_ble_eq_true rfl)
  rw [lg_entry_eq]
  generalize (lg_sl ([.ref oT]) ++ List.replicate (1 - (lg_sl ([.ref oT])).length) Slot.unset).toArray = ls at hl ⊢
  have hl : lv_has ls 1 [(0, .ref oT)] := hl
  refine lv_aload_n hx hb d_Text_init_0 rfl (lv_at hl 0 rfl) ?_
  refine W.objInit hx hb hown (hts (.methodLink R_Text 5 objectInit) (by decide +kernel)) (hts (.instanceMethod objectInit) (by decide +kernel)) (hts (.code objectInit ⟨#[0xb1]⟩ 1 none) (by decide +kernel)) rfl (by rw [hml]; exact hl.1) rfl d_Text_init_1 (Nat.le_of_ble_eq_true rfl) (Nat.le_of_ble_eq_true rfl) ?_
  refine W.eq (g2 := F0 m 4 ls []) rfl ?_
  refine lv_aload_n hx hb d_Text_init_4 rfl (lv_at hl 0 rfl) ?_
  refine lv_iconst (v := 0) hx hb d_Text_init_5 (by decide) ?_
  refine va_put (D := (dC, dI)) (ci := 3) (v := .int 0) (ty := .int) (C := R_Text) (T := F_Text) (N := 9) hx hb hts hw_Text t_Text t_Text_ok n_Text hown hK hP hD hS 0 rfl rfl 0 (by decide) (hts (.fieldLink R_Text 11 "PageForms$Text" "bytes" "I") (by decide +kernel)) (fun _ h9 => h9) rfl (by decide +kernel) rfl rfl (Nat.le_of_ble_eq_true rfl) d_Text_init_6 (fun H locs hP hD hS => ?_)
  have hP : va_P (dC, dI) classes [(oT, .inr (3, [.int 0, .int 0, .int 0, .null, .int 0, .int 0, .null, .null, .null]))] H := hP
  have hD : va_D A [(oT, .inr (3, [.int 0, .int 0, .int 0, .null, .int 0, .int 0, .null, .null, .null]))] := hD
  refine lv_aload_n hx hb d_Text_init_9 rfl (lv_at hl 0 rfl) ?_
  refine lv_iconst (v := 0) hx hb d_Text_init_10 (by decide) ?_
  refine va_put (D := (dC, dI)) (ci := 3) (v := .int 0) (ty := .int) (C := R_Text) (T := F_Text) (N := 9) hx hb hts hw_Text t_Text t_Text_ok n_Text hown hK hP hD hS 0 rfl rfl 1 (by decide) (hts (.fieldLink R_Text 15 "PageForms$Text" "words" "I") (by decide +kernel)) (fun _ h9 => h9) rfl (by decide +kernel) rfl rfl (Nat.le_of_ble_eq_true rfl) d_Text_init_11 (fun H locs hP hD hS => ?_)
  have hP : va_P (dC, dI) classes [(oT, .inr (3, [.int 0, .int 0, .int 0, .null, .int 0, .int 0, .null, .null, .null]))] H := hP
  have hD : va_D A [(oT, .inr (3, [.int 0, .int 0, .int 0, .null, .int 0, .int 0, .null, .null, .null]))] := hD
  refine lv_aload_n hx hb d_Text_init_14 rfl (lv_at hl 0 rfl) ?_
  refine lv_iconst (v := 0) hx hb d_Text_init_15 (by decide) ?_
  refine va_put (D := (dC, dI)) (ci := 3) (v := .int 0) (ty := .boolean) (C := R_Text) (T := F_Text) (N := 9) hx hb hts hw_Text t_Text t_Text_ok n_Text hown hK hP hD hS 0 rfl rfl 2 (by decide) (hts (.fieldLink R_Text 18 "PageForms$Text" "inWord" "Z") (by decide +kernel)) (fun _ h9 => h9) rfl (by decide +kernel) rfl rfl (Nat.le_of_ble_eq_true rfl) d_Text_init_16 (fun H locs hP hD hS => ?_)
  have hP : va_P (dC, dI) classes [(oT, .inr (3, [.int 0, .int 0, .int 0, .null, .int 0, .int 0, .null, .null, .null]))] H := hP
  have hD : va_D A [(oT, .inr (3, [.int 0, .int 0, .int 0, .null, .int 0, .int 0, .null, .null, .null]))] := hD
  refine lv_aload_n hx hb d_Text_init_19 rfl (lv_at hl 0 rfl) ?_
  refine lv_bipush (v := 100) hx hb d_Text_init_20 (by decide) ?_
  have hkc22 : 0 + 1 ≤ (headSpec w_Text_init ({ frames := 1, cells := 4, slots := 402, locals := 12 })).room.cells := Nat.le_of_ble_eq_true rfl
  have hks22 : 0 + 100 ≤ (headSpec w_Text_init ({ frames := 1, cells := 4, slots := 402, locals := 12 })).room.slots := Nat.le_of_ble_eq_true rfl
  refine va_newa (atype := .int) (ty := .int) (N' := 100) (a0 := (100, .inl (fun _ => 0))) hx hb (hts (.arrayClass .int) (by decide +kernel)) rfl hK hP hD hS hA (fun _ => vp_cell_i _ _ _) (by decide) (by decide) (by decide) hkc22 hks22 d_Text_init_22 (fun q22 cN H hK hP hD hS => ?_)
  obtain rfl : cI = cN := (xi_same (i := 0) (j := 2) hK rfl rfl).symm
  have hK := hK.sub (tys' := [(cI, .int), (cZ, .boolean)]) [0, 1] rfl
  have hP : va_P (dC, dI) classes [(oT, .inr (3, [.int 0, .int 0, .int 0, .null, .int 0, .int 0, .null, .null, .null])), (q22, .inl (cI, 100, .inl (fun _ => 0)))] H := hP
  have hD : va_D A [(oT, .inr (3, [.int 0, .int 0, .int 0, .null, .int 0, .int 0, .null, .null, .null])), (q22, .inl (cI, 100, .inl (fun _ => 0)))] := hD
  refine W.widen (k := 1) (n := 100) (Nat.le_of_ble_eq_true rfl) (Nat.le_of_ble_eq_true rfl) ?_
  refine va_putF (D := (dC, dI)) (ci := 3) (v := .ref q22) (ty := (.array .int)) (C := R_Text) (T := F_Text) (N := 9) hx hb hts hw_Text t_Text t_Text_ok n_Text hown hK hP hD hS 0 rfl rfl 3 (by decide) (hts (.fieldLink R_Text 22 "PageForms$Text" "lengths" "[I") (by decide +kernel)) (fun _ h9 => h9) rfl hin rfl (by decide +kernel) rfl rfl (Nat.le_of_ble_eq_true rfl) d_Text_init_24 (fun H locs hP hD hS => ?_)
  have hP : va_P (dC, dI) classes [(oT, .inr (3, [.int 0, .int 0, .int 0, .ref q22, .int 0, .int 0, .null, .null, .null])), (q22, .inl (cI, 100, .inl (fun _ => 0)))] H := hP
  have hD : va_D A [(oT, .inr (3, [.int 0, .int 0, .int 0, .ref q22, .int 0, .int 0, .null, .null, .null])), (q22, .inl (cI, 100, .inl (fun _ => 0)))] := hD
  refine lv_aload_n hx hb d_Text_init_27 rfl (lv_at hl 0 rfl) ?_
  refine lv_iconst (v := 0) hx hb d_Text_init_28 (by decide) ?_
  refine va_put (D := (dC, dI)) (ci := 3) (v := .int 0) (ty := .int) (C := R_Text) (T := F_Text) (N := 9) hx hb hts hw_Text t_Text t_Text_ok n_Text hown hK hP hD hS 0 rfl rfl 4 (by decide) (hts (.fieldLink R_Text 26 "PageForms$Text" "lineCount" "I") (by decide +kernel)) (fun _ h9 => h9) rfl (by decide +kernel) rfl rfl (Nat.le_of_ble_eq_true rfl) d_Text_init_29 (fun H locs hP hD hS => ?_)
  have hP : va_P (dC, dI) classes [(oT, .inr (3, [.int 0, .int 0, .int 0, .ref q22, .int 0, .int 0, .null, .null, .null])), (q22, .inl (cI, 100, .inl (fun _ => 0)))] H := hP
  have hD : va_D A [(oT, .inr (3, [.int 0, .int 0, .int 0, .ref q22, .int 0, .int 0, .null, .null, .null])), (q22, .inl (cI, 100, .inl (fun _ => 0)))] := hD
  refine lv_aload_n hx hb d_Text_init_32 rfl (lv_at hl 0 rfl) ?_
  refine lv_iconst (v := 0) hx hb d_Text_init_33 (by decide) ?_
  refine va_put (D := (dC, dI)) (ci := 3) (v := .int 0) (ty := .int) (C := R_Text) (T := F_Text) (N := 9) hx hb hts hw_Text t_Text t_Text_ok n_Text hown hK hP hD hS 0 rfl rfl 5 (by decide) (hts (.fieldLink R_Text 29 "PageForms$Text" "squaresSum" "I") (by decide +kernel)) (fun _ h9 => h9) rfl (by decide +kernel) rfl rfl (Nat.le_of_ble_eq_true rfl) d_Text_init_34 (fun H locs hP hD hS => ?_)
  have hP : va_P (dC, dI) classes [(oT, .inr (3, [.int 0, .int 0, .int 0, .ref q22, .int 0, .int 0, .null, .null, .null])), (q22, .inl (cI, 100, .inl (fun _ => 0)))] H := hP
  have hD : va_D A [(oT, .inr (3, [.int 0, .int 0, .int 0, .ref q22, .int 0, .int 0, .null, .null, .null])), (q22, .inl (cI, 100, .inl (fun _ => 0)))] := hD
  refine lv_aload_n hx hb d_Text_init_37 rfl (lv_at hl 0 rfl) ?_
  refine lv_bipush (v := 100) hx hb d_Text_init_38 (by decide) ?_
  have hkc40 : 1 + 1 ≤ (headSpec w_Text_init ({ frames := 1, cells := 4, slots := 402, locals := 12 })).room.cells := Nat.le_of_ble_eq_true rfl
  have hks40 : 100 + 100 ≤ (headSpec w_Text_init ({ frames := 1, cells := 4, slots := 402, locals := 12 })).room.slots := Nat.le_of_ble_eq_true rfl
  refine va_newa (atype := .int) (ty := .int) (N' := 100) (a0 := (100, .inl (fun _ => 0))) hx hb (hts (.arrayClass .int) (by decide +kernel)) rfl hK hP hD hS hA (fun _ => vp_cell_i _ _ _) (by decide) (by decide) (by decide) hkc40 hks40 d_Text_init_40 (fun q40 cN H hK hP hD hS => ?_)
  obtain rfl : cI = cN := (xi_same (i := 0) (j := 2) hK rfl rfl).symm
  have hK := hK.sub (tys' := [(cI, .int), (cZ, .boolean)]) [0, 1] rfl
  have hP : va_P (dC, dI) classes [(oT, .inr (3, [.int 0, .int 0, .int 0, .ref q22, .int 0, .int 0, .null, .null, .null])), (q22, .inl (cI, 100, .inl (fun _ => 0))), (q40, .inl (cI, 100, .inl (fun _ => 0)))] H := hP
  have hD : va_D A [(oT, .inr (3, [.int 0, .int 0, .int 0, .ref q22, .int 0, .int 0, .null, .null, .null])), (q22, .inl (cI, 100, .inl (fun _ => 0))), (q40, .inl (cI, 100, .inl (fun _ => 0)))] := hD
  refine W.widen (k := 2) (n := 200) (Nat.le_of_ble_eq_true rfl) (Nat.le_of_ble_eq_true rfl) ?_
  refine va_putF (D := (dC, dI)) (ci := 3) (v := .ref q40) (ty := (.array .int)) (C := R_Text) (T := F_Text) (N := 9) hx hb hts hw_Text t_Text t_Text_ok n_Text hown hK hP hD hS 0 rfl rfl 6 (by decide) (hts (.fieldLink R_Text 32 "PageForms$Text" "firstWords" "[I") (by decide +kernel)) (fun _ h9 => h9) rfl hin rfl (by decide +kernel) rfl rfl (Nat.le_of_ble_eq_true rfl) d_Text_init_42 (fun H locs hP hD hS => ?_)
  have hP : va_P (dC, dI) classes [(oT, .inr (3, [.int 0, .int 0, .int 0, .ref q22, .int 0, .int 0, .ref q40, .null, .null])), (q22, .inl (cI, 100, .inl (fun _ => 0))), (q40, .inl (cI, 100, .inl (fun _ => 0)))] H := hP
  have hD : va_D A [(oT, .inr (3, [.int 0, .int 0, .int 0, .ref q22, .int 0, .int 0, .ref q40, .null, .null])), (q22, .inl (cI, 100, .inl (fun _ => 0))), (q40, .inl (cI, 100, .inl (fun _ => 0)))] := hD
  refine lv_aload_n hx hb d_Text_init_45 rfl (lv_at hl 0 rfl) ?_
  refine lv_bipush (v := 101) hx hb d_Text_init_46 (by decide) ?_
  have hkc48 : 2 + 1 ≤ (headSpec w_Text_init ({ frames := 1, cells := 4, slots := 402, locals := 12 })).room.cells := Nat.le_of_ble_eq_true rfl
  have hks48 : 200 + 101 ≤ (headSpec w_Text_init ({ frames := 1, cells := 4, slots := 402, locals := 12 })).room.slots := Nat.le_of_ble_eq_true rfl
  refine va_newa (atype := .int) (ty := .int) (N' := 101) (a0 := (101, .inl (fun _ => 0))) hx hb (hts (.arrayClass .int) (by decide +kernel)) rfl hK hP hD hS hA (fun _ => vp_cell_i _ _ _) (by decide) (by decide) (by decide) hkc48 hks48 d_Text_init_48 (fun q48 cN H hK hP hD hS => ?_)
  obtain rfl : cI = cN := (xi_same (i := 0) (j := 2) hK rfl rfl).symm
  have hK := hK.sub (tys' := [(cI, .int), (cZ, .boolean)]) [0, 1] rfl
  have hP : va_P (dC, dI) classes [(oT, .inr (3, [.int 0, .int 0, .int 0, .ref q22, .int 0, .int 0, .ref q40, .null, .null])), (q22, .inl (cI, 100, .inl (fun _ => 0))), (q40, .inl (cI, 100, .inl (fun _ => 0))), (q48, .inl (cI, 101, .inl (fun _ => 0)))] H := hP
  have hD : va_D A [(oT, .inr (3, [.int 0, .int 0, .int 0, .ref q22, .int 0, .int 0, .ref q40, .null, .null])), (q22, .inl (cI, 100, .inl (fun _ => 0))), (q40, .inl (cI, 100, .inl (fun _ => 0))), (q48, .inl (cI, 101, .inl (fun _ => 0)))] := hD
  refine W.widen (k := 3) (n := 301) (Nat.le_of_ble_eq_true rfl) (Nat.le_of_ble_eq_true rfl) ?_
  refine va_putF (D := (dC, dI)) (ci := 3) (v := .ref q48) (ty := (.array .int)) (C := R_Text) (T := F_Text) (N := 9) hx hb hts hw_Text t_Text t_Text_ok n_Text hown hK hP hD hS 0 rfl rfl 7 (by decide) (hts (.fieldLink R_Text 35 "PageForms$Text" "leastSum" "[I") (by decide +kernel)) (fun _ h9 => h9) rfl hin rfl (by decide +kernel) rfl rfl (Nat.le_of_ble_eq_true rfl) d_Text_init_50 (fun H locs hP hD hS => ?_)
  have hP : va_P (dC, dI) classes [(oT, .inr (3, [.int 0, .int 0, .int 0, .ref q22, .int 0, .int 0, .ref q40, .ref q48, .null])), (q22, .inl (cI, 100, .inl (fun _ => 0))), (q40, .inl (cI, 100, .inl (fun _ => 0))), (q48, .inl (cI, 101, .inl (fun _ => 0)))] H := hP
  have hD : va_D A [(oT, .inr (3, [.int 0, .int 0, .int 0, .ref q22, .int 0, .int 0, .ref q40, .ref q48, .null])), (q22, .inl (cI, 100, .inl (fun _ => 0))), (q40, .inl (cI, 100, .inl (fun _ => 0))), (q48, .inl (cI, 101, .inl (fun _ => 0)))] := hD
  refine lv_aload_n hx hb d_Text_init_53 rfl (lv_at hl 0 rfl) ?_
  refine lv_bipush (v := 101) hx hb d_Text_init_54 (by decide) ?_
  have hkc56 : 3 + 1 ≤ (headSpec w_Text_init ({ frames := 1, cells := 4, slots := 402, locals := 12 })).room.cells := Nat.le_of_ble_eq_true rfl
  have hks56 : 301 + 101 ≤ (headSpec w_Text_init ({ frames := 1, cells := 4, slots := 402, locals := 12 })).room.slots := Nat.le_of_ble_eq_true rfl
  refine va_newa (atype := .int) (ty := .int) (N' := 101) (a0 := (101, .inl (fun _ => 0))) hx hb (hts (.arrayClass .int) (by decide +kernel)) rfl hK hP hD hS hA (fun _ => vp_cell_i _ _ _) (by decide) (by decide) (by decide) hkc56 hks56 d_Text_init_56 (fun q56 cN H hK hP hD hS => ?_)
  obtain rfl : cI = cN := (xi_same (i := 0) (j := 2) hK rfl rfl).symm
  have hK := hK.sub (tys' := [(cI, .int), (cZ, .boolean)]) [0, 1] rfl
  have hP : va_P (dC, dI) classes [(oT, .inr (3, [.int 0, .int 0, .int 0, .ref q22, .int 0, .int 0, .ref q40, .ref q48, .null])), (q22, .inl (cI, 100, .inl (fun _ => 0))), (q40, .inl (cI, 100, .inl (fun _ => 0))), (q48, .inl (cI, 101, .inl (fun _ => 0))), (q56, .inl (cI, 101, .inl (fun _ => 0)))] H := hP
  have hD : va_D A [(oT, .inr (3, [.int 0, .int 0, .int 0, .ref q22, .int 0, .int 0, .ref q40, .ref q48, .null])), (q22, .inl (cI, 100, .inl (fun _ => 0))), (q40, .inl (cI, 100, .inl (fun _ => 0))), (q48, .inl (cI, 101, .inl (fun _ => 0))), (q56, .inl (cI, 101, .inl (fun _ => 0)))] := hD
  refine W.widen (k := 4) (n := 402) (Nat.le_of_ble_eq_true rfl) (Nat.le_of_ble_eq_true rfl) ?_
  refine va_putF (D := (dC, dI)) (ci := 3) (v := .ref q56) (ty := (.array .int)) (C := R_Text) (T := F_Text) (N := 9) hx hb hts hw_Text t_Text t_Text_ok n_Text hown hK hP hD hS 0 rfl rfl 8 (by decide) (hts (.fieldLink R_Text 38 "PageForms$Text" "nextLine" "[I") (by decide +kernel)) (fun _ h9 => h9) rfl hin rfl (by decide +kernel) rfl rfl (Nat.le_of_ble_eq_true rfl) d_Text_init_58 (fun H locs hP hD hS => ?_)
  have hP : va_P (dC, dI) classes [(oT, .inr (3, [.int 0, .int 0, .int 0, .ref q22, .int 0, .int 0, .ref q40, .ref q48, .ref q56])), (q22, .inl (cI, 100, .inl (fun _ => 0))), (q40, .inl (cI, 100, .inl (fun _ => 0))), (q48, .inl (cI, 101, .inl (fun _ => 0))), (q56, .inl (cI, 101, .inl (fun _ => 0)))] H := hP
  have hD : va_D A [(oT, .inr (3, [.int 0, .int 0, .int 0, .ref q22, .int 0, .int 0, .ref q40, .ref q48, .ref q56])), (q22, .inl (cI, 100, .inl (fun _ => 0))), (q40, .inl (cI, 100, .inl (fun _ => 0))), (q48, .inl (cI, 101, .inl (fun _ => 0))), (q56, .inl (cI, 101, .inl (fun _ => 0)))] := hD
  refine W.widen (k := 4) (n := 402) (Nat.le_of_ble_eq_true rfl) (Nat.le_of_ble_eq_true rfl) ?_
  exact W.vret hx hb hr (fun t ht hW => ⟨⟨(), rfl, (show True from trivial), q22, q40, q48, q56, by rw [ht]; exact hP, va_K.moved hW.alike hK, hD⟩, hS.F ht⟩) hS.2.2 d_Text_init_61

set_option maxHeartbeats 4000000 in
set_option maxRecDepth 100000 in
theorem k_Text_forgetBreak (l : Launch) (dC : Nat → ClassId) (dI : Nat → Nat → Nat) (cI cZ : ClassId) (oT : Nat) (aL : Nat) (aF : Nat) (aS : Nat) (aN : Nat) (byt : Int32) (wds : Int32) (inw : Int32) (lct : Int32) (sqs : Int32) (len : Nat → Int32) (fwd : Nat → Int32) (lsm : Nat → Int32) (nxl : Nat → Int32) (sz : Nat) : Met l y_Text_forgetBreak w_Text_forgetBreak ({ frames := 0, cells := 0, slots := 0, locals := 0 }) (va_Pc [.ref oT] (fun U => U.heap.size = sz ∧ va_P (dC, dI) classes [(oT, .inr (3, [.int byt, .int wds, .int inw, .ref aL, .int lct, .int sqs, .ref aF, .ref aS, .ref aN])), (aL, .inl (cI, 100, .inl len)), (aF, .inl (cI, 100, .inl fwd)), (aS, .inl (cI, 101, .inl lsm)), (aN, .inl (cI, 101, .inl nxl))] U.heap ∧ va_K (dC, dI) classes [(cI, .int), (cZ, .boolean)] U ∧ va_D (fun _ => True) [(oT, .inr (3, [.int byt, .int wds, .int inw, .ref aL, .int lct, .int sqs, .ref aF, .ref aS, .ref aN])), (aL, .inl (cI, 100, .inl len)), (aF, .inl (cI, 100, .inl fwd)), (aS, .inl (cI, 101, .inl lsm)), (aN, .inl (cI, 101, .inl nxl))])) (va_Qv (fun (u : Int32 × Int32) => u.1.toInt = 0 ∧ u.2.toInt = 0) (fun (u : Int32 × Int32) (t : State) => va_P (dC, dI) classes [(oT, .inr (3, [.int byt, .int wds, .int inw, .ref aL, .int u.1, .int u.2, .ref aF, .ref aS, .ref aN])), (aL, .inl (cI, 100, .inl len)), (aF, .inl (cI, 100, .inl fwd)), (aS, .inl (cI, 101, .inl lsm)), (aN, .inl (cI, 101, .inl nxl))] t.heap ∧ va_K (dC, dI) classes [(cI, .int), (cZ, .boolean)] t ∧ va_D (va_A [(oT, .inr (3, [.int byt, .int wds, .int inw, .ref aL, .int lct, .int sqs, .ref aF, .ref aS, .ref aN])), (aL, .inl (cI, 100, .inl len)), (aF, .inl (cI, 100, .inl fwd)), (aS, .inl (cI, 101, .inl lsm)), (aN, .inl (cI, 101, .inl nxl))] sz) [(oT, .inr (3, [.int byt, .int wds, .int inw, .ref aL, .int u.1, .int u.2, .ref aF, .ref aS, .ref aN])), (aL, .inl (cI, 100, .inl len)), (aF, .inl (cI, 100, .inl fwd)), (aS, .inl (cI, 101, .inl lsm)), (aN, .inl (cI, 101, .inl nxl))]) (va_A [(oT, .inr (3, [.int byt, .int wds, .int inw, .ref aL, .int lct, .int sqs, .ref aF, .ref aS, .ref aN])), (aL, .inl (cI, 100, .inl len)), (aF, .inl (cI, 100, .inl fwd)), (aS, .inl (cI, 101, .inl lsm)), (aN, .inl (cI, 101, .inl nxl))] sz)) 0 0 (va_A [(oT, .inr (3, [.int byt, .int wds, .int inw, .ref aL, .int lct, .int sqs, .ref aF, .ref aS, .ref aN])), (aL, .inl (cI, 100, .inl len)), (aF, .inl (cI, 100, .inl fwd)), (aS, .inl (cI, 101, .inl lsm)), (aN, .inl (cI, 101, .inl nxl))] sz) := by
  refine Met.ofW (cc := b_Text_forgetBreak) (maxL := 1) (ret := none) (by decide) rfl ?_
  intro p e s m args below meth c s₁ B hml hv
  obtain ⟨rfl, hsz, hP, hK, hD0⟩ := hv
  have hx := B.exec
  have hb := B.bytes
  have hr := B.returns
  have hts := atoms_spec (ws := w_Text_forgetBreak) B.pre
  have hown : s.vm.findClass R_Text = some m.cls := findClass_of_methodNamed B.named
  have hlocks := B.notSynchronized
  have hw_Text : ∀ w ∈ w_Text, w ∈ w_Text_forgetBreak := by decide +kernel
  subst hsz
  have hD := hD0.self (sz := s.heap.size)
  generalize hAe : va_A [(oT, .inr (3, [.int byt, .int wds, .int inw, .ref aL, .int lct, .int sqs, .ref aF, .ref aS, .ref aN])), (aL, .inl (cI, 100, .inl len)), (aF, .inl (cI, 100, .inl fwd)), (aS, .inl (cI, 101, .inl lsm)), (aN, .inl (cI, 101, .inl nxl))] s.heap.size = A at hD ⊢
  have hA : ∀ q : Nat, s.heap.size ≤ q → A q := fun q h => by rw [← hAe]; exact Or.inr h
  have hS : va_S A s.heap s.heap [] := va_S.rf
  have hP : va_P (dC, dI) classes [(oT, .inr (3, [.int byt, .int wds, .int inw, .ref aL, .int lct, .int sqs, .ref aF, .ref aS, .ref aN])), (aL, .inl (cI, 100, .inl len)), (aF, .inl (cI, 100, .inl fwd)), (aS, .inl (cI, 101, .inl lsm)), (aN, .inl (cI, 101, .inl nxl))] s.heap := hP
  have hl := lv_entry ([.ref oT]) (n := 1) (Nat.le_of_ble_eq_true rfl)
  rw [lg_entry_eq]
  generalize (lg_sl ([.ref oT]) ++ List.replicate (1 - (lg_sl ([.ref oT])).length) Slot.unset).toArray = ls at hl ⊢
  have hl : lv_has ls 1 [(0, .ref oT)] := hl
  refine lv_aload_n hx hb d_Text_forgetBreak_0 rfl (lv_at hl 0 rfl) ?_
  refine lv_iconst (v := 0) hx hb d_Text_forgetBreak_1 (by decide) ?_
  refine va_put (D := (dC, dI)) (ci := 3) (v := .int 0) (ty := .int) (C := R_Text) (T := F_Text) (N := 9) hx hb hts hw_Text t_Text t_Text_ok n_Text hown hK hP hD hS 0 rfl rfl 4 (by decide) (hts (.fieldLink R_Text 26 "PageForms$Text" "lineCount" "I") (by decide +kernel)) (fun _ h9 => h9) rfl (by decide +kernel) rfl rfl (Nat.le_of_ble_eq_true rfl) d_Text_forgetBreak_2 (fun H locs hP hD hS => ?_)
  have hP : va_P (dC, dI) classes [(oT, .inr (3, [.int byt, .int wds, .int inw, .ref aL, .int 0, .int sqs, .ref aF, .ref aS, .ref aN])), (aL, .inl (cI, 100, .inl len)), (aF, .inl (cI, 100, .inl fwd)), (aS, .inl (cI, 101, .inl lsm)), (aN, .inl (cI, 101, .inl nxl))] H := hP
  have hD : va_D A [(oT, .inr (3, [.int byt, .int wds, .int inw, .ref aL, .int 0, .int sqs, .ref aF, .ref aS, .ref aN])), (aL, .inl (cI, 100, .inl len)), (aF, .inl (cI, 100, .inl fwd)), (aS, .inl (cI, 101, .inl lsm)), (aN, .inl (cI, 101, .inl nxl))] := hD
  refine lv_aload_n hx hb d_Text_forgetBreak_5 rfl (lv_at hl 0 rfl) ?_
  refine lv_iconst (v := 0) hx hb d_Text_forgetBreak_6 (by decide) ?_
  refine va_put (D := (dC, dI)) (ci := 3) (v := .int 0) (ty := .int) (C := R_Text) (T := F_Text) (N := 9) hx hb hts hw_Text t_Text t_Text_ok n_Text hown hK hP hD hS 0 rfl rfl 5 (by decide) (hts (.fieldLink R_Text 29 "PageForms$Text" "squaresSum" "I") (by decide +kernel)) (fun _ h9 => h9) rfl (by decide +kernel) rfl rfl (Nat.le_of_ble_eq_true rfl) d_Text_forgetBreak_7 (fun H locs hP hD hS => ?_)
  have hP : va_P (dC, dI) classes [(oT, .inr (3, [.int byt, .int wds, .int inw, .ref aL, .int 0, .int 0, .ref aF, .ref aS, .ref aN])), (aL, .inl (cI, 100, .inl len)), (aF, .inl (cI, 100, .inl fwd)), (aS, .inl (cI, 101, .inl lsm)), (aN, .inl (cI, 101, .inl nxl))] H := hP
  have hD : va_D A [(oT, .inr (3, [.int byt, .int wds, .int inw, .ref aL, .int 0, .int 0, .ref aF, .ref aS, .ref aN])), (aL, .inl (cI, 100, .inl len)), (aF, .inl (cI, 100, .inl fwd)), (aS, .inl (cI, 101, .inl lsm)), (aN, .inl (cI, 101, .inl nxl))] := hD
  exact W.vret hx hb hr (fun t ht hW => ⟨⟨(0, 0), rfl, (show 0 = 0 ∧ 0 = 0 from ⟨by decide, by decide⟩), by rw [ht]; exact hP, va_K.moved hW.alike hK, hD⟩, hS.F ht⟩) hS.2.2 d_Text_forgetBreak_10

set_option maxHeartbeats 4000000 in
set_option maxRecDepth 100000 in
theorem k_Text_empty (l : Launch) (dC : Nat → ClassId) (dI : Nat → Nat → Nat) (cI cZ : ClassId) (oT : Nat) (aL : Nat) (aF : Nat) (aS : Nat) (aN : Nat) (byt : Int32) (wds : Int32) (inw : Int32) (lct : Int32) (sqs : Int32) (len : Nat → Int32) (fwd : Nat → Int32) (lsm : Nat → Int32) (nxl : Nat → Int32) (sz : Nat) : Met l y_Text_empty w_Text_empty ({ frames := 1, cells := 0, slots := 0, locals := 20 }) (va_Pc [.ref oT] (fun U => U.heap.size = sz ∧ va_P (dC, dI) classes [(oT, .inr (3, [.int byt, .int wds, .int inw, .ref aL, .int lct, .int sqs, .ref aF, .ref aS, .ref aN])), (aL, .inl (cI, 100, .inl len)), (aF, .inl (cI, 100, .inl fwd)), (aS, .inl (cI, 101, .inl lsm)), (aN, .inl (cI, 101, .inl nxl))] U.heap ∧ va_K (dC, dI) classes [(cI, .int), (cZ, .boolean)] U ∧ va_D (fun _ => True) [(oT, .inr (3, [.int byt, .int wds, .int inw, .ref aL, .int lct, .int sqs, .ref aF, .ref aS, .ref aN])), (aL, .inl (cI, 100, .inl len)), (aF, .inl (cI, 100, .inl fwd)), (aS, .inl (cI, 101, .inl lsm)), (aN, .inl (cI, 101, .inl nxl))])) (va_Qv (fun (u : Int32 × Int32 × Int32 × Int32 × Int32) => u.1.toInt = 0 ∧ u.2.1.toInt = 0 ∧ u.2.2.1.toInt = 0 ∧ u.2.2.2.1.toInt = 0 ∧ u.2.2.2.2.toInt = 0) (fun (u : Int32 × Int32 × Int32 × Int32 × Int32) (t : State) => va_P (dC, dI) classes [(oT, .inr (3, [.int u.1, .int u.2.1, .int u.2.2.1, .ref aL, .int u.2.2.2.1, .int u.2.2.2.2, .ref aF, .ref aS, .ref aN])), (aL, .inl (cI, 100, .inl len)), (aF, .inl (cI, 100, .inl fwd)), (aS, .inl (cI, 101, .inl lsm)), (aN, .inl (cI, 101, .inl nxl))] t.heap ∧ va_K (dC, dI) classes [(cI, .int), (cZ, .boolean)] t ∧ va_D (va_A [(oT, .inr (3, [.int byt, .int wds, .int inw, .ref aL, .int lct, .int sqs, .ref aF, .ref aS, .ref aN])), (aL, .inl (cI, 100, .inl len)), (aF, .inl (cI, 100, .inl fwd)), (aS, .inl (cI, 101, .inl lsm)), (aN, .inl (cI, 101, .inl nxl))] sz) [(oT, .inr (3, [.int u.1, .int u.2.1, .int u.2.2.1, .ref aL, .int u.2.2.2.1, .int u.2.2.2.2, .ref aF, .ref aS, .ref aN])), (aL, .inl (cI, 100, .inl len)), (aF, .inl (cI, 100, .inl fwd)), (aS, .inl (cI, 101, .inl lsm)), (aN, .inl (cI, 101, .inl nxl))]) (va_A [(oT, .inr (3, [.int byt, .int wds, .int inw, .ref aL, .int lct, .int sqs, .ref aF, .ref aS, .ref aN])), (aL, .inl (cI, 100, .inl len)), (aF, .inl (cI, 100, .inl fwd)), (aS, .inl (cI, 101, .inl lsm)), (aN, .inl (cI, 101, .inl nxl))] sz)) 0 0 (va_A [(oT, .inr (3, [.int byt, .int wds, .int inw, .ref aL, .int lct, .int sqs, .ref aF, .ref aS, .ref aN])), (aL, .inl (cI, 100, .inl len)), (aF, .inl (cI, 100, .inl fwd)), (aS, .inl (cI, 101, .inl lsm)), (aN, .inl (cI, 101, .inl nxl))] sz) := by
  refine Met.ofW (cc := b_Text_empty) (maxL := 1) (ret := none) (by decide) rfl ?_
  intro p e s m args below meth c s₁ B hml hv
  obtain ⟨rfl, hsz, hP, hK, hD0⟩ := hv
  have hx := B.exec
  have hb := B.bytes
  have hr := B.returns
  have hts := atoms_spec (ws := w_Text_empty) B.pre
  have hown : s.vm.findClass R_Text = some m.cls := findClass_of_methodNamed B.named
  have hlocks := B.notSynchronized
  have hw_Text : ∀ w ∈ w_Text, w ∈ w_Text_empty := by decide +kernel
  subst hsz
  have hD := hD0.self (sz := s.heap.size)
  generalize hAe : va_A [(oT, .inr (3, [.int byt, .int wds, .int inw, .ref aL, .int lct, .int sqs, .ref aF, .ref aS, .ref aN])), (aL, .inl (cI, 100, .inl len)), (aF, .inl (cI, 100, .inl fwd)), (aS, .inl (cI, 101, .inl lsm)), (aN, .inl (cI, 101, .inl nxl))] s.heap.size = A at hD ⊢
  have hA : ∀ q : Nat, s.heap.size ≤ q → A q := fun q h => by rw [← hAe]; exact Or.inr h
  have hS : va_S A s.heap s.heap [] := va_S.rf
  have hP : va_P (dC, dI) classes [(oT, .inr (3, [.int byt, .int wds, .int inw, .ref aL, .int lct, .int sqs, .ref aF, .ref aS, .ref aN])), (aL, .inl (cI, 100, .inl len)), (aF, .inl (cI, 100, .inl fwd)), (aS, .inl (cI, 101, .inl lsm)), (aN, .inl (cI, 101, .inl nxl))] s.heap := hP
  have hl := lv_entry ([.ref oT]) (n := 1) (Nat.le_of_ble_eq_true rfl)
  rw [lg_entry_eq]
  generalize (lg_sl ([.ref oT]) ++ List.replicate (1 - (lg_sl ([.ref oT])).length) Slot.unset).toArray = ls at hl ⊢
  have hl : lv_has ls 1 [(0, .ref oT)] := hl
  refine lv_aload_n hx hb d_Text_empty_0 rfl (lv_at hl 0 rfl) ?_
  refine lv_iconst (v := 0) hx hb d_Text_empty_1 (by decide) ?_
  refine va_put (D := (dC, dI)) (ci := 3) (v := .int 0) (ty := .int) (C := R_Text) (T := F_Text) (N := 9) hx hb hts hw_Text t_Text t_Text_ok n_Text hown hK hP hD hS 0 rfl rfl 0 (by decide) (hts (.fieldLink R_Text 11 "PageForms$Text" "bytes" "I") (by decide +kernel)) (fun _ h9 => h9) rfl (by decide +kernel) rfl rfl (Nat.le_of_ble_eq_true rfl) d_Text_empty_2 (fun H locs hP hD hS => ?_)
  have hP : va_P (dC, dI) classes [(oT, .inr (3, [.int 0, .int wds, .int inw, .ref aL, .int lct, .int sqs, .ref aF, .ref aS, .ref aN])), (aL, .inl (cI, 100, .inl len)), (aF, .inl (cI, 100, .inl fwd)), (aS, .inl (cI, 101, .inl lsm)), (aN, .inl (cI, 101, .inl nxl))] H := hP
  have hD : va_D A [(oT, .inr (3, [.int 0, .int wds, .int inw, .ref aL, .int lct, .int sqs, .ref aF, .ref aS, .ref aN])), (aL, .inl (cI, 100, .inl len)), (aF, .inl (cI, 100, .inl fwd)), (aS, .inl (cI, 101, .inl lsm)), (aN, .inl (cI, 101, .inl nxl))] := hD
  refine lv_aload_n hx hb d_Text_empty_5 rfl (lv_at hl 0 rfl) ?_
  refine lv_iconst (v := 0) hx hb d_Text_empty_6 (by decide) ?_
  refine va_put (D := (dC, dI)) (ci := 3) (v := .int 0) (ty := .int) (C := R_Text) (T := F_Text) (N := 9) hx hb hts hw_Text t_Text t_Text_ok n_Text hown hK hP hD hS 0 rfl rfl 1 (by decide) (hts (.fieldLink R_Text 15 "PageForms$Text" "words" "I") (by decide +kernel)) (fun _ h9 => h9) rfl (by decide +kernel) rfl rfl (Nat.le_of_ble_eq_true rfl) d_Text_empty_7 (fun H locs hP hD hS => ?_)
  have hP : va_P (dC, dI) classes [(oT, .inr (3, [.int 0, .int 0, .int inw, .ref aL, .int lct, .int sqs, .ref aF, .ref aS, .ref aN])), (aL, .inl (cI, 100, .inl len)), (aF, .inl (cI, 100, .inl fwd)), (aS, .inl (cI, 101, .inl lsm)), (aN, .inl (cI, 101, .inl nxl))] H := hP
  have hD : va_D A [(oT, .inr (3, [.int 0, .int 0, .int inw, .ref aL, .int lct, .int sqs, .ref aF, .ref aS, .ref aN])), (aL, .inl (cI, 100, .inl len)), (aF, .inl (cI, 100, .inl fwd)), (aS, .inl (cI, 101, .inl lsm)), (aN, .inl (cI, 101, .inl nxl))] := hD
  refine lv_aload_n hx hb d_Text_empty_10 rfl (lv_at hl 0 rfl) ?_
  refine lv_iconst (v := 0) hx hb d_Text_empty_11 (by decide) ?_
  refine va_put (D := (dC, dI)) (ci := 3) (v := .int 0) (ty := .boolean) (C := R_Text) (T := F_Text) (N := 9) hx hb hts hw_Text t_Text t_Text_ok n_Text hown hK hP hD hS 0 rfl rfl 2 (by decide) (hts (.fieldLink R_Text 18 "PageForms$Text" "inWord" "Z") (by decide +kernel)) (fun _ h9 => h9) rfl (by decide +kernel) rfl rfl (Nat.le_of_ble_eq_true rfl) d_Text_empty_12 (fun H locs hP hD hS => ?_)
  have hP : va_P (dC, dI) classes [(oT, .inr (3, [.int 0, .int 0, .int 0, .ref aL, .int lct, .int sqs, .ref aF, .ref aS, .ref aN])), (aL, .inl (cI, 100, .inl len)), (aF, .inl (cI, 100, .inl fwd)), (aS, .inl (cI, 101, .inl lsm)), (aN, .inl (cI, 101, .inl nxl))] H := hP
  have hD : va_D A [(oT, .inr (3, [.int 0, .int 0, .int 0, .ref aL, .int lct, .int sqs, .ref aF, .ref aS, .ref aN])), (aL, .inl (cI, 100, .inl len)), (aF, .inl (cI, 100, .inl fwd)), (aS, .inl (cI, 101, .inl lsm)), (aN, .inl (cI, 101, .inl nxl))] := hD
  refine lv_aload_n hx hb d_Text_empty_15 rfl (lv_at hl 0 rfl) ?_
  have hPc := hP.sub (ws' := [(oT, .inr (3, [.int 0, .int 0, .int 0, .ref aL, .int lct, .int sqs, .ref aF, .ref aS, .ref aN])), (aL, .inl (cI, 100, .inl len)), (aF, .inl (cI, 100, .inl fwd)), (aS, .inl (cI, 101, .inl lsm)), (aN, .inl (cI, 101, .inl nxl))]) [0, 1, 2, 3, 4] rfl
  have hDc := hD.sub (ws' := [(oT, .inr (3, [.int 0, .int 0, .int 0, .ref aL, .int lct, .int sqs, .ref aF, .ref aS, .ref aN])), (aL, .inl (cI, 100, .inl len)), (aF, .inl (cI, 100, .inl fwd)), (aS, .inl (cI, 101, .inl lsm)), (aN, .inl (cI, 101, .inl nxl))]) [0, 1, 2, 3, 4] (by decide) rfl
  have hFc := va_free (wc := [(oT, .inr (3, [.int 0, .int 0, .int 0, .ref aL, .int lct, .int sqs, .ref aF, .ref aS, .ref aN])), (aL, .inl (cI, 100, .inl len)), (aF, .inl (cI, 100, .inl fwd)), (aS, .inl (cI, 101, .inl lsm)), (aN, .inl (cI, 101, .inl nxl))]) hD hS hA [0, 1, 2, 3, 4] rfl
  refine va_callv (va_runV (As := []) (rest := []) ⟨hx, hb, hml, hown, hts⟩ (k_Text_forgetBreak l dC dI cI cZ oT aL aF aS aN 0 0 0 lct sqs len fwd lsm nxl H.size) (cwV 0 hts g_Text_empty_Text_forgetBreak rfl rfl rfl (by decide +kernel) ⟨Nat.le_of_ble_eq_true rfl, Nat.le_of_ble_eq_true rfl⟩) ⟨fun a U g mk q => by obtain ⟨q0, q1, qP, qK, qD⟩ := q; exact ⟨q0, q1, qP, va_K.moved (u := U) (U := U.calling g mk a) (Vm.Alike.refl U.vm) qK, qD⟩, va_recv hK hPc (ci := 3) (q0 := 0) rfl rfl, fun U hU hW => ⟨rfl, by rw [hU], by rw [hU]; exact hPc, va_K.moved hW.alike hK, hDc.weaken (fun _ _ _ _ => trivial)⟩⟩ rfl rfl hl.1 rfl (lv_room (Nat.le_of_ble_eq_true rfl)) d_Text_empty_16 ⟨Nat.le_of_ble_eq_true rfl, Nat.le_of_ble_eq_true rfl⟩) hS (fun q _ h => hFc q h) hFc (fun u t H1 locs ht hvm hw hB hz1 hk1 hS => ?_)
  obtain ⟨lct_16, sqs_16⟩ := u
  have w16 : lct_16.toInt = 0 ∧ sqs_16.toInt = 0 := hw
  obtain ⟨hP1, hK1, hD1⟩ := hB
  rw [ht] at hP1
  obtain ⟨hP, hD⟩ := va_join (wr := []) (w1 := [(oT, .inr (3, [.int 0, .int 0, .int 0, .ref aL, .int lct_16, .int sqs_16, .ref aF, .ref aS, .ref aN])), (aL, .inl (cI, 100, .inl len)), (aF, .inl (cI, 100, .inl fwd)), (aS, .inl (cI, 101, .inl lsm)), (aN, .inl (cI, 101, .inl nxl))]) hP hD [0, 1, 2, 3, 4] [] rfl rfl (by decide) (by decide) hk1 hFc hP1 hD1
  generalize H1 = H at hP hS ⊢
  have hP : va_P (dC, dI) classes [(oT, .inr (3, [.int 0, .int 0, .int 0, .ref aL, .int lct_16, .int sqs_16, .ref aF, .ref aS, .ref aN])), (aL, .inl (cI, 100, .inl len)), (aF, .inl (cI, 100, .inl fwd)), (aS, .inl (cI, 101, .inl lsm)), (aN, .inl (cI, 101, .inl nxl))] H := hP
  have hD : va_D A [(oT, .inr (3, [.int 0, .int 0, .int 0, .ref aL, .int lct_16, .int sqs_16, .ref aF, .ref aS, .ref aN])), (aL, .inl (cI, 100, .inl len)), (aF, .inl (cI, 100, .inl fwd)), (aS, .inl (cI, 101, .inl lsm)), (aN, .inl (cI, 101, .inl nxl))] := hD
  exact W.vret hx hb hr (fun t ht hW => ⟨⟨(0, 0, 0, lct_16, sqs_16), rfl, (show 0 = 0 ∧ 0 = 0 ∧ 0 = 0 ∧ lct_16.toInt = 0 ∧ sqs_16.toInt = 0 from ⟨by decide, by decide, by decide, w16.1, w16.2⟩), by rw [ht]; exact hP, va_K.moved hW.alike hK, hD⟩, hS.F ht⟩) hS.2.2 d_Text_empty_19

set_option maxHeartbeats 4000000 in
set_option maxRecDepth 100000 in
theorem k_Text_sumOfSquares (l : Launch) (dC : Nat → ClassId) (dI : Nat → Nat → Nat) (cI cZ : ClassId) (oT : Nat) (aL : Nat) (aF : Nat) (aS : Nat) (aN : Nat) (byt : Int32) (wds : Int32) (inw : Int32) (lct : Int32) (sqs : Int32) (len : Nat → Int32) (fwd : Nat → Int32) (lsm : Nat → Int32) (nxl : Nat → Int32) (sz : Nat) : Met l y_Text_sumOfSquares w_Text_sumOfSquares ({ frames := 0, cells := 0, slots := 0, locals := 0 }) (va_Pc [.ref oT] (fun U => U.heap.size = sz ∧ va_P (dC, dI) classes [(oT, .inr (3, [.int byt, .int wds, .int inw, .ref aL, .int lct, .int sqs, .ref aF, .ref aS, .ref aN])), (aL, .inl (cI, 100, .inl len)), (aF, .inl (cI, 100, .inl fwd)), (aS, .inl (cI, 101, .inl lsm)), (aN, .inl (cI, 101, .inl nxl))] U.heap ∧ va_K (dC, dI) classes [(cI, .int), (cZ, .boolean)] U ∧ va_D (fun _ => True) [(oT, .inr (3, [.int byt, .int wds, .int inw, .ref aL, .int lct, .int sqs, .ref aF, .ref aS, .ref aN])), (aL, .inl (cI, 100, .inl len)), (aF, .inl (cI, 100, .inl fwd)), (aS, .inl (cI, 101, .inl lsm)), (aN, .inl (cI, 101, .inl nxl))])) (va_Qi (fun (r : Int32) (u : Unit) => r = sqs) (fun (u : Unit) (t : State) => va_P (dC, dI) classes [(oT, .inr (3, [.int byt, .int wds, .int inw, .ref aL, .int lct, .int sqs, .ref aF, .ref aS, .ref aN])), (aL, .inl (cI, 100, .inl len)), (aF, .inl (cI, 100, .inl fwd)), (aS, .inl (cI, 101, .inl lsm)), (aN, .inl (cI, 101, .inl nxl))] t.heap ∧ va_K (dC, dI) classes [(cI, .int), (cZ, .boolean)] t ∧ va_D (va_A [(oT, .inr (3, [.int byt, .int wds, .int inw, .ref aL, .int lct, .int sqs, .ref aF, .ref aS, .ref aN])), (aL, .inl (cI, 100, .inl len)), (aF, .inl (cI, 100, .inl fwd)), (aS, .inl (cI, 101, .inl lsm)), (aN, .inl (cI, 101, .inl nxl))] sz) [(oT, .inr (3, [.int byt, .int wds, .int inw, .ref aL, .int lct, .int sqs, .ref aF, .ref aS, .ref aN])), (aL, .inl (cI, 100, .inl len)), (aF, .inl (cI, 100, .inl fwd)), (aS, .inl (cI, 101, .inl lsm)), (aN, .inl (cI, 101, .inl nxl))]) (va_A [(oT, .inr (3, [.int byt, .int wds, .int inw, .ref aL, .int lct, .int sqs, .ref aF, .ref aS, .ref aN])), (aL, .inl (cI, 100, .inl len)), (aF, .inl (cI, 100, .inl fwd)), (aS, .inl (cI, 101, .inl lsm)), (aN, .inl (cI, 101, .inl nxl))] sz)) 0 0 (va_A [(oT, .inr (3, [.int byt, .int wds, .int inw, .ref aL, .int lct, .int sqs, .ref aF, .ref aS, .ref aN])), (aL, .inl (cI, 100, .inl len)), (aF, .inl (cI, 100, .inl fwd)), (aS, .inl (cI, 101, .inl lsm)), (aN, .inl (cI, 101, .inl nxl))] sz) := by
  refine Met.ofW (cc := b_Text_sumOfSquares) (maxL := 1) (ret := (some .int)) (by decide) rfl ?_
  intro p e s m args below meth c s₁ B hml hv
  obtain ⟨rfl, hsz, hP, hK, hD0⟩ := hv
  have hx := B.exec
  have hb := B.bytes
  have hr := B.returns
  have hts := atoms_spec (ws := w_Text_sumOfSquares) B.pre
  have hown : s.vm.findClass R_Text = some m.cls := findClass_of_methodNamed B.named
  have hlocks := B.notSynchronized
  have hw_Text : ∀ w ∈ w_Text, w ∈ w_Text_sumOfSquares := by decide +kernel
  subst hsz
  have hD := hD0.self (sz := s.heap.size)
  generalize hAe : va_A [(oT, .inr (3, [.int byt, .int wds, .int inw, .ref aL, .int lct, .int sqs, .ref aF, .ref aS, .ref aN])), (aL, .inl (cI, 100, .inl len)), (aF, .inl (cI, 100, .inl fwd)), (aS, .inl (cI, 101, .inl lsm)), (aN, .inl (cI, 101, .inl nxl))] s.heap.size = A at hD ⊢
  have hA : ∀ q : Nat, s.heap.size ≤ q → A q := fun q h => by rw [← hAe]; exact Or.inr h
  have hS : va_S A s.heap s.heap [] := va_S.rf
  have hP : va_P (dC, dI) classes [(oT, .inr (3, [.int byt, .int wds, .int inw, .ref aL, .int lct, .int sqs, .ref aF, .ref aS, .ref aN])), (aL, .inl (cI, 100, .inl len)), (aF, .inl (cI, 100, .inl fwd)), (aS, .inl (cI, 101, .inl lsm)), (aN, .inl (cI, 101, .inl nxl))] s.heap := hP
  have hl := lv_entry ([.ref oT]) (n := 1) (Nat.le_of_ble_eq_true rfl)
  rw [lg_entry_eq]
  generalize (lg_sl ([.ref oT]) ++ List.replicate (1 - (lg_sl ([.ref oT])).length) Slot.unset).toArray = ls at hl ⊢
  have hl : lv_has ls 1 [(0, .ref oT)] := hl
  refine lv_aload_n hx hb d_Text_sumOfSquares_0 rfl (lv_at hl 0 rfl) ?_
  refine va_get (D := (dC, dI)) (ci := 3) (v := .int sqs) (C := R_Text) (T := F_Text) (N := 9) hx hb hts hw_Text hown hK hP 0 rfl rfl 5 (by decide) (hts (.fieldLink R_Text 29 "PageForms$Text" "squaresSum" "I") (by decide +kernel)) (fun _ h9 => h9) rfl d_Text_sumOfSquares_1 ?_
  exact W.iret (v := sqs) hx hb hr (fun t ht hW => ⟨⟨sqs, (), rfl, (show sqs = sqs from rfl), by rw [ht]; exact hP, va_K.moved hW.alike hK, hD⟩, hS.F ht⟩) hS.2.2 d_Text_sumOfSquares_4

set_option maxHeartbeats 4000000 in
set_option maxRecDepth 100000 in
theorem k_Text_firstWordOf (l : Launch) (dC : Nat → ClassId) (dI : Nat → Nat → Nat) (cI cZ : ClassId) (oT : Nat) (aL : Nat) (aF : Nat) (aS : Nat) (aN : Nat) (byt : Int32) (wds : Int32) (inw : Int32) (lct : Int32) (sqs : Int32) (len : Nat → Int32) (fwd : Nat → Int32) (lsm : Nat → Int32) (nxl : Nat → Int32) (sz : Nat) (p1 : Int32) (q : Nat) (hq : lct.toInt = (q : Int)) (hq1 : q ≤ 100) : Met l y_Text_firstWordOf w_Text_firstWordOf ({ frames := 0, cells := 0, slots := 0, locals := 0 }) (va_Pc [.ref oT, .int p1] (fun U => U.heap.size = sz ∧ va_P (dC, dI) classes [(oT, .inr (3, [.int byt, .int wds, .int inw, .ref aL, .int lct, .int sqs, .ref aF, .ref aS, .ref aN])), (aL, .inl (cI, 100, .inl len)), (aF, .inl (cI, 100, .inl fwd)), (aS, .inl (cI, 101, .inl lsm)), (aN, .inl (cI, 101, .inl nxl))] U.heap ∧ va_K (dC, dI) classes [(cI, .int), (cZ, .boolean)] U ∧ va_D (fun _ => True) [(oT, .inr (3, [.int byt, .int wds, .int inw, .ref aL, .int lct, .int sqs, .ref aF, .ref aS, .ref aN])), (aL, .inl (cI, 100, .inl len)), (aF, .inl (cI, 100, .inl fwd)), (aS, .inl (cI, 101, .inl lsm)), (aN, .inl (cI, 101, .inl nxl))])) (va_Qi (fun (r : Int32) (u : Unit) => (0 ≤ p1.toInt ∧ p1.toInt < (q : Int) ∧ r = fwd p1.toInt.toNat) ∨ ((p1.toInt < 0 ∨ (q : Int) ≤ p1.toInt) ∧ r.toInt = -1)) (fun (u : Unit) (t : State) => va_P (dC, dI) classes [(oT, .inr (3, [.int byt, .int wds, .int inw, .ref aL, .int lct, .int sqs, .ref aF, .ref aS, .ref aN])), (aL, .inl (cI, 100, .inl len)), (aF, .inl (cI, 100, .inl fwd)), (aS, .inl (cI, 101, .inl lsm)), (aN, .inl (cI, 101, .inl nxl))] t.heap ∧ va_K (dC, dI) classes [(cI, .int), (cZ, .boolean)] t ∧ va_D (va_A [(oT, .inr (3, [.int byt, .int wds, .int inw, .ref aL, .int lct, .int sqs, .ref aF, .ref aS, .ref aN])), (aL, .inl (cI, 100, .inl len)), (aF, .inl (cI, 100, .inl fwd)), (aS, .inl (cI, 101, .inl lsm)), (aN, .inl (cI, 101, .inl nxl))] sz) [(oT, .inr (3, [.int byt, .int wds, .int inw, .ref aL, .int lct, .int sqs, .ref aF, .ref aS, .ref aN])), (aL, .inl (cI, 100, .inl len)), (aF, .inl (cI, 100, .inl fwd)), (aS, .inl (cI, 101, .inl lsm)), (aN, .inl (cI, 101, .inl nxl))]) (va_A [(oT, .inr (3, [.int byt, .int wds, .int inw, .ref aL, .int lct, .int sqs, .ref aF, .ref aS, .ref aN])), (aL, .inl (cI, 100, .inl len)), (aF, .inl (cI, 100, .inl fwd)), (aS, .inl (cI, 101, .inl lsm)), (aN, .inl (cI, 101, .inl nxl))] sz)) 0 0 (va_A [(oT, .inr (3, [.int byt, .int wds, .int inw, .ref aL, .int lct, .int sqs, .ref aF, .ref aS, .ref aN])), (aL, .inl (cI, 100, .inl len)), (aF, .inl (cI, 100, .inl fwd)), (aS, .inl (cI, 101, .inl lsm)), (aN, .inl (cI, 101, .inl nxl))] sz) := by
  refine Met.ofW (cc := b_Text_firstWordOf) (maxL := 2) (ret := (some .int)) (by decide) rfl ?_
  intro p e s m args below meth c s₁ B hml hv
  obtain ⟨rfl, hsz, hP, hK, hD0⟩ := hv
  have hx := B.exec
  have hb := B.bytes
  have hr := B.returns
  have hts := atoms_spec (ws := w_Text_firstWordOf) B.pre
  have hown : s.vm.findClass R_Text = some m.cls := findClass_of_methodNamed B.named
  have hlocks := B.notSynchronized
  have hw_Text : ∀ w ∈ w_Text, w ∈ w_Text_firstWordOf := by decide +kernel
  subst hsz
  have hD := hD0.self (sz := s.heap.size)
  generalize hAe : va_A [(oT, .inr (3, [.int byt, .int wds, .int inw, .ref aL, .int lct, .int sqs, .ref aF, .ref aS, .ref aN])), (aL, .inl (cI, 100, .inl len)), (aF, .inl (cI, 100, .inl fwd)), (aS, .inl (cI, 101, .inl lsm)), (aN, .inl (cI, 101, .inl nxl))] s.heap.size = A at hD ⊢
  have hA : ∀ q : Nat, s.heap.size ≤ q → A q := fun q h => by rw [← hAe]; exact Or.inr h
  have hS : va_S A s.heap s.heap [] := va_S.rf
  have hP : va_P (dC, dI) classes [(oT, .inr (3, [.int byt, .int wds, .int inw, .ref aL, .int lct, .int sqs, .ref aF, .ref aS, .ref aN])), (aL, .inl (cI, 100, .inl len)), (aF, .inl (cI, 100, .inl fwd)), (aS, .inl (cI, 101, .inl lsm)), (aN, .inl (cI, 101, .inl nxl))] s.heap := hP
  have hl := lv_entry ([.ref oT, .int p1]) (n := 2) (Nat.le_of_ble_eq_true rfl)
  rw [lg_entry_eq]
  generalize (lg_sl ([.ref oT, .int p1]) ++ List.replicate (2 - (lg_sl ([.ref oT, .int p1])).length) Slot.unset).toArray = ls at hl ⊢
  have hl : lv_has ls 2 [(0, .ref oT), (1, .int p1)] := hl
  refine lv_iload_n hx hb d_Text_firstWordOf_0 rfl (lv_at hl 1 rfl) ?_
  refine xi_if_lt (tgt := 12) hx hb (rfl) d_Text_firstWordOf_1 (by decide) (fun c1 => ?_) (fun c1 => ?_)
  · refine lv_iconst (v := (-1)) hx hb d_Text_firstWordOf_12 (by decide) ?_
    refine lv_goto (tgt := 22) hx hb d_Text_firstWordOf_13 (by decide) ?_
    exact W.iret (v := (-1)) hx hb hr (fun t ht hW => ⟨⟨(-1), (), rfl, (show (0 ≤ p1.toInt ∧ p1.toInt < (q : Int) ∧ ((-1) : Int32) = fwd p1.toInt.toNat) ∨ ((p1.toInt < 0 ∨ (q : Int) ≤ p1.toInt) ∧ ((-1) : Int32).toInt = -1) from (Or.inr ⟨by omega, by decide⟩)), by rw [ht]; exact hP, va_K.moved hW.alike hK, hD⟩, hS.F ht⟩) hS.2.2 d_Text_firstWordOf_22
  · refine lv_iload_n hx hb d_Text_firstWordOf_4 rfl (lv_at hl 1 rfl) ?_
    refine lv_aload_n hx hb d_Text_firstWordOf_5 rfl (lv_at hl 0 rfl) ?_
    refine va_get (D := (dC, dI)) (ci := 3) (v := .int lct) (C := R_Text) (T := F_Text) (N := 9) hx hb hts hw_Text hown hK hP 0 rfl rfl 4 (by decide) (hts (.fieldLink R_Text 26 "PageForms$Text" "lineCount" "I") (by decide +kernel)) (fun _ h9 => h9) rfl d_Text_firstWordOf_6 ?_
    refine xi_icmp_lt (tgt := 16) hx hb (rfl) hq d_Text_firstWordOf_9 (by decide) (fun c9 => ?_) (fun c9 => ?_)
    · obtain ⟨y, hy⟩ : ∃ y : Nat, p1.toInt = (y : Int) := ⟨p1.toInt.toNat, by omega⟩
      refine lv_aload_n hx hb d_Text_firstWordOf_16 rfl (lv_at hl 0 rfl) ?_
      refine va_get (D := (dC, dI)) (ci := 3) (v := .ref aF) (C := R_Text) (T := F_Text) (N := 9) hx hb hts hw_Text hown hK hP 0 rfl rfl 6 (by decide) (hts (.fieldLink R_Text 32 "PageForms$Text" "firstWords" "[I") (by decide +kernel)) (fun _ h9 => h9) rfl d_Text_firstWordOf_17 ?_
      refine lv_iload_n hx hb d_Text_firstWordOf_20 rfl (lv_at hl 1 rfl) ?_
      refine xa_iald hx hb hK hP 2 0 rfl rfl hy y (by omega) (by omega) d_Text_firstWordOf_21 ?_
      exact W.iret (v := (fwd y)) hx hb hr (fun t ht hW => ⟨⟨(fwd y), (), rfl, (show (0 ≤ p1.toInt ∧ p1.toInt < (q : Int) ∧ (fwd y) = fwd p1.toInt.toNat) ∨ ((p1.toInt < 0 ∨ (q : Int) ≤ p1.toInt) ∧ (fwd y).toInt = -1) from (Or.inl ⟨by omega, by omega, by rw [hy]; rfl⟩)), by rw [ht]; exact hP, va_K.moved hW.alike hK, hD⟩, hS.F ht⟩) hS.2.2 d_Text_firstWordOf_22
    · refine lv_iconst (v := (-1)) hx hb d_Text_firstWordOf_12 (by decide) ?_
      refine lv_goto (tgt := 22) hx hb d_Text_firstWordOf_13 (by decide) ?_
      exact W.iret (v := (-1)) hx hb hr (fun t ht hW => ⟨⟨(-1), (), rfl, (show (0 ≤ p1.toInt ∧ p1.toInt < (q : Int) ∧ ((-1) : Int32) = fwd p1.toInt.toNat) ∨ ((p1.toInt < 0 ∨ (q : Int) ≤ p1.toInt) ∧ ((-1) : Int32).toInt = -1) from (Or.inr ⟨by omega, by decide⟩)), by rw [ht]; exact hP, va_K.moved hW.alike hK, hD⟩, hS.F ht⟩) hS.2.2 d_Text_firstWordOf_22

set_option maxHeartbeats 4000000 in
set_option maxRecDepth 100000 in
theorem k_Text_appendLetter (l : Launch) (dC : Nat → ClassId) (dI : Nat → Nat → Nat) (cI cZ : ClassId) (oT : Nat) (aL : Nat) (aF : Nat) (aS : Nat) (aN : Nat) (byt : Int32) (wds : Int32) (inw : Int32) (lct : Int32) (sqs : Int32) (len : Nat → Int32) (fwd : Nat → Int32) (lsm : Nat → Int32) (nxl : Nat → Int32) (sz : Nat) (nB : Nat) (w : Nat) (b : Bool) (L : Nat → Nat) (hw0 : wds.toInt = (w : Int)) (hi0 : inw.toInt = gd_b b) (hL0 : ∀ j, j < w → (len j).toInt = (L j : Int) ∧ 1 ≤ L j ∧ L j ≤ nB) (hnB : nB < 200) (hbt : b = true → 1 ≤ w ∧ 2 * w ≤ nB + 1) (hbf : b = false → 2 * w ≤ nB) : Met l y_Text_appendLetter w_Text_appendLetter ({ frames := 0, cells := 0, slots := 0, locals := 0 }) (va_Pc [.ref oT] (fun U => U.heap.size = sz ∧ va_P (dC, dI) classes [(oT, .inr (3, [.int byt, .int wds, .int inw, .ref aL, .int lct, .int sqs, .ref aF, .ref aS, .ref aN])), (aL, .inl (cI, 100, .inl len)), (aF, .inl (cI, 100, .inl fwd)), (aS, .inl (cI, 101, .inl lsm)), (aN, .inl (cI, 101, .inl nxl))] U.heap ∧ va_K (dC, dI) classes [(cI, .int), (cZ, .boolean)] U ∧ va_D (fun _ => True) [(oT, .inr (3, [.int byt, .int wds, .int inw, .ref aL, .int lct, .int sqs, .ref aF, .ref aS, .ref aN])), (aL, .inl (cI, 100, .inl len)), (aF, .inl (cI, 100, .inl fwd)), (aS, .inl (cI, 101, .inl lsm)), (aN, .inl (cI, 101, .inl nxl))])) (va_Qv (fun (u : Int32 × Int32 × (Nat → Int32)) => u.1.toInt = ((tx_step false w b L).1 : Int) ∧ u.2.1.toInt = 1 ∧ (∀ j, j < (tx_step false w b L).1 → (u.2.2 j).toInt = ((tx_step false w b L).2.2 j : Int) ∧ 1 ≤ (tx_step false w b L).2.2 j ∧ (tx_step false w b L).2.2 j ≤ nB + 1)) (fun (u : Int32 × Int32 × (Nat → Int32)) (t : State) => va_P (dC, dI) classes [(oT, .inr (3, [.int byt, .int u.1, .int u.2.1, .ref aL, .int lct, .int sqs, .ref aF, .ref aS, .ref aN])), (aL, .inl (cI, 100, .inl u.2.2)), (aF, .inl (cI, 100, .inl fwd)), (aS, .inl (cI, 101, .inl lsm)), (aN, .inl (cI, 101, .inl nxl))] t.heap ∧ va_K (dC, dI) classes [(cI, .int), (cZ, .boolean)] t ∧ va_D (va_A [(oT, .inr (3, [.int byt, .int wds, .int inw, .ref aL, .int lct, .int sqs, .ref aF, .ref aS, .ref aN])), (aL, .inl (cI, 100, .inl len)), (aF, .inl (cI, 100, .inl fwd)), (aS, .inl (cI, 101, .inl lsm)), (aN, .inl (cI, 101, .inl nxl))] sz) [(oT, .inr (3, [.int byt, .int u.1, .int u.2.1, .ref aL, .int lct, .int sqs, .ref aF, .ref aS, .ref aN])), (aL, .inl (cI, 100, .inl u.2.2)), (aF, .inl (cI, 100, .inl fwd)), (aS, .inl (cI, 101, .inl lsm)), (aN, .inl (cI, 101, .inl nxl))]) (va_A [(oT, .inr (3, [.int byt, .int wds, .int inw, .ref aL, .int lct, .int sqs, .ref aF, .ref aS, .ref aN])), (aL, .inl (cI, 100, .inl len)), (aF, .inl (cI, 100, .inl fwd)), (aS, .inl (cI, 101, .inl lsm)), (aN, .inl (cI, 101, .inl nxl))] sz)) 0 0 (va_A [(oT, .inr (3, [.int byt, .int wds, .int inw, .ref aL, .int lct, .int sqs, .ref aF, .ref aS, .ref aN])), (aL, .inl (cI, 100, .inl len)), (aF, .inl (cI, 100, .inl fwd)), (aS, .inl (cI, 101, .inl lsm)), (aN, .inl (cI, 101, .inl nxl))] sz) := by
  refine Met.ofW (cc := b_Text_appendLetter) (maxL := 1) (ret := none) (by decide) rfl ?_
  intro p e s m args below meth c s₁ B hml hv
  obtain ⟨rfl, hsz, hP, hK, hD0⟩ := hv
  have hx := B.exec
  have hb := B.bytes
  have hr := B.returns
  have hts := atoms_spec (ws := w_Text_appendLetter) B.pre
  have hown : s.vm.findClass R_Text = some m.cls := findClass_of_methodNamed B.named
  have hlocks := B.notSynchronized
  have hw_Text : ∀ w ∈ w_Text, w ∈ w_Text_appendLetter := by decide +kernel
  subst hsz
  have hD := hD0.self (sz := s.heap.size)
  generalize hAe : va_A [(oT, .inr (3, [.int byt, .int wds, .int inw, .ref aL, .int lct, .int sqs, .ref aF, .ref aS, .ref aN])), (aL, .inl (cI, 100, .inl len)), (aF, .inl (cI, 100, .inl fwd)), (aS, .inl (cI, 101, .inl lsm)), (aN, .inl (cI, 101, .inl nxl))] s.heap.size = A at hD ⊢
  have hA : ∀ q : Nat, s.heap.size ≤ q → A q := fun q h => by rw [← hAe]; exact Or.inr h
  have hS : va_S A s.heap s.heap [] := va_S.rf
  have hP : va_P (dC, dI) classes [(oT, .inr (3, [.int byt, .int wds, .int inw, .ref aL, .int lct, .int sqs, .ref aF, .ref aS, .ref aN])), (aL, .inl (cI, 100, .inl len)), (aF, .inl (cI, 100, .inl fwd)), (aS, .inl (cI, 101, .inl lsm)), (aN, .inl (cI, 101, .inl nxl))] s.heap := hP
  have hl := lv_entry ([.ref oT]) (n := 1) (Nat.le_of_ble_eq_true rfl)
  rw [lg_entry_eq]
  generalize (lg_sl ([.ref oT]) ++ List.replicate (1 - (lg_sl ([.ref oT])).length) Slot.unset).toArray = ls at hl ⊢
  have hl : lv_has ls 1 [(0, .ref oT)] := hl
  refine lv_aload_n hx hb d_Text_appendLetter_0 rfl (lv_at hl 0 rfl) ?_
  refine va_get (D := (dC, dI)) (ci := 3) (v := .int inw) (C := R_Text) (T := F_Text) (N := 9) hx hb hts hw_Text hown hK hP 0 rfl rfl 2 (by decide) (hts (.fieldLink R_Text 18 "PageForms$Text" "inWord" "Z") (by decide +kernel)) (fun _ h9 => h9) rfl d_Text_appendLetter_1 ?_
  refine xi_if_eq (tgt := 32) hx hb (rfl) d_Text_appendLetter_4 (by decide) (fun c4 => ?_) (fun c4 => ?_)
  · have hb1 : b = false := by cases b; rfl; rw [show gd_b true = 1 from rfl] at hi0; omega
    have hbw := hbf hb1
    refine lv_aload_n hx hb d_Text_appendLetter_32 rfl (lv_at hl 0 rfl) ?_
    refine va_get (D := (dC, dI)) (ci := 3) (v := .int wds) (C := R_Text) (T := F_Text) (N := 9) hx hb hts hw_Text hown hK hP 0 rfl rfl 1 (by decide) (hts (.fieldLink R_Text 15 "PageForms$Text" "words" "I") (by decide +kernel)) (fun _ h9 => h9) rfl d_Text_appendLetter_33 ?_
    refine lv_bipush (v := 100) hx hb d_Text_appendLetter_36 (by decide) ?_
    refine xi_icmp_ge (tgt := 66) hx hb hw0 (show (100 : Int32).toInt = 100 by decide) d_Text_appendLetter_38 (by decide) (fun c38 => absurd (show False by omega) id) (fun c38 => ?_)
    refine lv_aload_n hx hb d_Text_appendLetter_41 rfl (lv_at hl 0 rfl) ?_
    refine va_get (D := (dC, dI)) (ci := 3) (v := .ref aL) (C := R_Text) (T := F_Text) (N := 9) hx hb hts hw_Text hown hK hP 0 rfl rfl 3 (by decide) (hts (.fieldLink R_Text 22 "PageForms$Text" "lengths" "[I") (by decide +kernel)) (fun _ h9 => h9) rfl d_Text_appendLetter_42 ?_
    refine lv_aload_n hx hb d_Text_appendLetter_45 rfl (lv_at hl 0 rfl) ?_
    refine va_get (D := (dC, dI)) (ci := 3) (v := .int wds) (C := R_Text) (T := F_Text) (N := 9) hx hb hts hw_Text hown hK hP 0 rfl rfl 1 (by decide) (hts (.fieldLink R_Text 15 "PageForms$Text" "words" "I") (by decide +kernel)) (fun _ h9 => h9) rfl d_Text_appendLetter_46 ?_
    refine lv_iconst (v := 1) hx hb d_Text_appendLetter_49 (by decide) ?_
    refine xa_iast hx hb hK hP hD hS 1 0 rfl rfl hw0 w (by omega) (by omega) d_Text_appendLetter_50 (fun H locs hP hD hS => ?_)
    have hP : va_P (dC, dI) classes [(oT, .inr (3, [.int byt, .int wds, .int inw, .ref aL, .int lct, .int sqs, .ref aF, .ref aS, .ref aN])), (aL, .inl (cI, 100, .inl (upd len w 1))), (aF, .inl (cI, 100, .inl fwd)), (aS, .inl (cI, 101, .inl lsm)), (aN, .inl (cI, 101, .inl nxl))] H := hP
    have hD : va_D A [(oT, .inr (3, [.int byt, .int wds, .int inw, .ref aL, .int lct, .int sqs, .ref aF, .ref aS, .ref aN])), (aL, .inl (cI, 100, .inl (upd len w 1))), (aF, .inl (cI, 100, .inl fwd)), (aS, .inl (cI, 101, .inl lsm)), (aN, .inl (cI, 101, .inl nxl))] := hD
    refine lv_aload_n hx hb d_Text_appendLetter_51 rfl (lv_at hl 0 rfl) ?_
    refine lv_dup hx hb d_Text_appendLetter_52 rfl ?_
    refine va_get (D := (dC, dI)) (ci := 3) (v := .int wds) (C := R_Text) (T := F_Text) (N := 9) hx hb hts hw_Text hown hK hP 0 rfl rfl 1 (by decide) (hts (.fieldLink R_Text 15 "PageForms$Text" "words" "I") (by decide +kernel)) (fun _ h9 => h9) rfl d_Text_appendLetter_53 ?_
    refine lv_iconst (v := 1) hx hb d_Text_appendLetter_56 (by decide) ?_
    refine lv_iadd hx hb d_Text_appendLetter_57 ?_
    have a57 : (wds + 1).toInt = ((w : Int) + 1) := xi_add hw0 (show (1 : Int32).toInt = 1 by decide) (by omega) (by omega)
    refine lv_topi (fun v58 ev58 => ?_)
    have fv58 : v58.toInt = ((w : Int) + 1) := by rw [ev58]; exact a57
    refine va_put (D := (dC, dI)) (ci := 3) (v := .int v58) (ty := .int) (C := R_Text) (T := F_Text) (N := 9) hx hb hts hw_Text t_Text t_Text_ok n_Text hown hK hP hD hS 0 rfl rfl 1 (by decide) (hts (.fieldLink R_Text 15 "PageForms$Text" "words" "I") (by decide +kernel)) (fun _ h9 => h9) rfl (by decide +kernel) rfl rfl (Nat.le_of_ble_eq_true rfl) d_Text_appendLetter_58 (fun H locs hP hD hS => ?_)
    have hP : va_P (dC, dI) classes [(oT, .inr (3, [.int byt, .int v58, .int inw, .ref aL, .int lct, .int sqs, .ref aF, .ref aS, .ref aN])), (aL, .inl (cI, 100, .inl (upd len w 1))), (aF, .inl (cI, 100, .inl fwd)), (aS, .inl (cI, 101, .inl lsm)), (aN, .inl (cI, 101, .inl nxl))] H := hP
    have hD : va_D A [(oT, .inr (3, [.int byt, .int v58, .int inw, .ref aL, .int lct, .int sqs, .ref aF, .ref aS, .ref aN])), (aL, .inl (cI, 100, .inl (upd len w 1))), (aF, .inl (cI, 100, .inl fwd)), (aS, .inl (cI, 101, .inl lsm)), (aN, .inl (cI, 101, .inl nxl))] := hD
    refine lv_aload_n hx hb d_Text_appendLetter_61 rfl (lv_at hl 0 rfl) ?_
    refine lv_iconst (v := 1) hx hb d_Text_appendLetter_62 (by decide) ?_
    refine va_put (D := (dC, dI)) (ci := 3) (v := .int 1) (ty := .boolean) (C := R_Text) (T := F_Text) (N := 9) hx hb hts hw_Text t_Text t_Text_ok n_Text hown hK hP hD hS 0 rfl rfl 2 (by decide) (hts (.fieldLink R_Text 18 "PageForms$Text" "inWord" "Z") (by decide +kernel)) (fun _ h9 => h9) rfl (by decide +kernel) rfl rfl (Nat.le_of_ble_eq_true rfl) d_Text_appendLetter_63 (fun H locs hP hD hS => ?_)
    have hP : va_P (dC, dI) classes [(oT, .inr (3, [.int byt, .int v58, .int 1, .ref aL, .int lct, .int sqs, .ref aF, .ref aS, .ref aN])), (aL, .inl (cI, 100, .inl (upd len w 1))), (aF, .inl (cI, 100, .inl fwd)), (aS, .inl (cI, 101, .inl lsm)), (aN, .inl (cI, 101, .inl nxl))] H := hP
    have hD : va_D A [(oT, .inr (3, [.int byt, .int v58, .int 1, .ref aL, .int lct, .int sqs, .ref aF, .ref aS, .ref aN])), (aL, .inl (cI, 100, .inl (upd len w 1))), (aF, .inl (cI, 100, .inl fwd)), (aS, .inl (cI, 101, .inl lsm)), (aN, .inl (cI, 101, .inl nxl))] := hD
    exact W.vret hx hb hr (fun t ht hW => ⟨⟨(v58, 1, (upd len w 1)), rfl, (show v58.toInt = ((tx_step false w b L).1 : Int) ∧ 1 = 1 ∧ (∀ j, j < (tx_step false w b L).1 → ((upd len w 1) j).toInt = ((tx_step false w b L).2.2 j : Int) ∧ 1 ≤ (tx_step false w b L).2.2 j ∧ (tx_step false w b L).2.2 j ≤ nB + 1) from (by subst hb1; exact ⟨by show v58.toInt = ((w + 1 : Nat) : Int); omega, by decide, fun j hj => tx_up2 hL0 j hj⟩)), by rw [ht]; exact hP, va_K.moved hW.alike hK, hD⟩, hS.F ht⟩) hS.2.2 d_Text_appendLetter_66
  · have hb1 : b = true := by cases b; rw [show gd_b false = 0 from rfl] at hi0; omega; rfl
    have hbw := hbt hb1
    have hLw := hL0 (w - 1) (by omega)
    refine lv_aload_n hx hb d_Text_appendLetter_7 rfl (lv_at hl 0 rfl) ?_
    refine va_get (D := (dC, dI)) (ci := 3) (v := .int wds) (C := R_Text) (T := F_Text) (N := 9) hx hb hts hw_Text hown hK hP 0 rfl rfl 1 (by decide) (hts (.fieldLink R_Text 15 "PageForms$Text" "words" "I") (by decide +kernel)) (fun _ h9 => h9) rfl d_Text_appendLetter_8 ?_
    refine xi_if_le (tgt := 32) hx hb hw0 d_Text_appendLetter_11 (by decide) (fun c11 => absurd (show False by omega) id) (fun c11 => ?_)
    refine lv_aload_n hx hb d_Text_appendLetter_14 rfl (lv_at hl 0 rfl) ?_
    refine va_get (D := (dC, dI)) (ci := 3) (v := .ref aL) (C := R_Text) (T := F_Text) (N := 9) hx hb hts hw_Text hown hK hP 0 rfl rfl 3 (by decide) (hts (.fieldLink R_Text 22 "PageForms$Text" "lengths" "[I") (by decide +kernel)) (fun _ h9 => h9) rfl d_Text_appendLetter_15 ?_
    refine lv_aload_n hx hb d_Text_appendLetter_18 rfl (lv_at hl 0 rfl) ?_
    refine va_get (D := (dC, dI)) (ci := 3) (v := .int wds) (C := R_Text) (T := F_Text) (N := 9) hx hb hts hw_Text hown hK hP 0 rfl rfl 1 (by decide) (hts (.fieldLink R_Text 15 "PageForms$Text" "words" "I") (by decide +kernel)) (fun _ h9 => h9) rfl d_Text_appendLetter_19 ?_
    refine lv_iconst (v := 1) hx hb d_Text_appendLetter_22 (by decide) ?_
    refine lv_isub hx hb d_Text_appendLetter_23 ?_
    have a23 : (wds - 1).toInt = ((w : Int) - 1) := xi_sub hw0 (show (1 : Int32).toInt = 1 by decide) (by omega) (by omega)
    refine lv_dup2_11 hx hb d_Text_appendLetter_24 rfl rfl ?_
    refine xa_iald hx hb hK hP 1 0 rfl rfl a23 (w - 1) (by omega) (by omega) d_Text_appendLetter_25 ?_
    have b25 : (len (w - 1)).toInt = (L (w - 1) : Int) := hLw.1
    refine lv_iconst (v := 1) hx hb d_Text_appendLetter_26 (by decide) ?_
    refine lv_iadd hx hb d_Text_appendLetter_27 ?_
    have a27 : ((len (w - 1)) + 1).toInt = ((L (w - 1) : Int) + 1) := xi_add b25 (show (1 : Int32).toInt = 1 by decide) (by omega) (by omega)
    refine lv_topi (fun v28 ev28 => ?_)
    have fv28 : v28.toInt = ((L (w - 1) : Int) + 1) := by rw [ev28]; exact a27
    refine xa_iast hx hb hK hP hD hS 1 0 rfl rfl a23 (w - 1) (by omega) (by omega) d_Text_appendLetter_28 (fun H locs hP hD hS => ?_)
    have hP : va_P (dC, dI) classes [(oT, .inr (3, [.int byt, .int wds, .int inw, .ref aL, .int lct, .int sqs, .ref aF, .ref aS, .ref aN])), (aL, .inl (cI, 100, .inl (upd len (w - 1) v28))), (aF, .inl (cI, 100, .inl fwd)), (aS, .inl (cI, 101, .inl lsm)), (aN, .inl (cI, 101, .inl nxl))] H := hP
    have hD : va_D A [(oT, .inr (3, [.int byt, .int wds, .int inw, .ref aL, .int lct, .int sqs, .ref aF, .ref aS, .ref aN])), (aL, .inl (cI, 100, .inl (upd len (w - 1) v28))), (aF, .inl (cI, 100, .inl fwd)), (aS, .inl (cI, 101, .inl lsm)), (aN, .inl (cI, 101, .inl nxl))] := hD
    refine lv_goto (tgt := 66) hx hb d_Text_appendLetter_29 (by decide) ?_
    exact W.vret hx hb hr (fun t ht hW => ⟨⟨(wds, inw, (upd len (w - 1) v28)), rfl, (show wds.toInt = ((tx_step false w b L).1 : Int) ∧ inw.toInt = 1 ∧ (∀ j, j < (tx_step false w b L).1 → ((upd len (w - 1) v28) j).toInt = ((tx_step false w b L).2.2 j : Int) ∧ 1 ≤ (tx_step false w b L).2.2 j ∧ (tx_step false w b L).2.2 j ≤ nB + 1) from (by subst hb1; exact ⟨hw0, hi0, fun j hj => tx_up1 hL0 hbw.1 fv28 j hj⟩)), by rw [ht]; exact hP, va_K.moved hW.alike hK, hD⟩, hS.F ht⟩) hS.2.2 d_Text_appendLetter_66

set_option maxHeartbeats 4000000 in
set_option maxRecDepth 100000 in
theorem k_Text_append (l : Launch) (dC : Nat → ClassId) (dI : Nat → Nat → Nat) (cI cZ : ClassId) (oT : Nat) (aL : Nat) (aF : Nat) (aS : Nat) (aN : Nat) (byt : Int32) (wds : Int32) (inw : Int32) (lct : Int32) (sqs : Int32) (len : Nat → Int32) (fwd : Nat → Int32) (lsm : Nat → Int32) (nxl : Nat → Int32) (sz : Nat) (p1 : Int32) (nB : Nat) (w : Nat) (b : Bool) (L : Nat → Nat) (hI : tx_I byt wds inw len nB w b L) : Met l y_Text_append w_Text_append ({ frames := 1, cells := 0, slots := 0, locals := 20 }) (va_Pc [.ref oT, .int p1] (fun U => U.heap.size = sz ∧ va_P (dC, dI) classes [(oT, .inr (3, [.int byt, .int wds, .int inw, .ref aL, .int lct, .int sqs, .ref aF, .ref aS, .ref aN])), (aL, .inl (cI, 100, .inl len)), (aF, .inl (cI, 100, .inl fwd)), (aS, .inl (cI, 101, .inl lsm)), (aN, .inl (cI, 101, .inl nxl))] U.heap ∧ va_K (dC, dI) classes [(cI, .int), (cZ, .boolean)] U ∧ va_D (fun _ => True) [(oT, .inr (3, [.int byt, .int wds, .int inw, .ref aL, .int lct, .int sqs, .ref aF, .ref aS, .ref aN])), (aL, .inl (cI, 100, .inl len)), (aF, .inl (cI, 100, .inl fwd)), (aS, .inl (cI, 101, .inl lsm)), (aN, .inl (cI, 101, .inl nxl))])) (va_Qi (fun (r : Int32) (u : Int32 × Int32 × Int32 × (Nat → Int32)) => tx_app byt wds inw len nB w b L p1 r u.1 u.2.1 u.2.2.1 u.2.2.2) (fun (u : Int32 × Int32 × Int32 × (Nat → Int32)) (t : State) => va_P (dC, dI) classes [(oT, .inr (3, [.int u.1, .int u.2.1, .int u.2.2.1, .ref aL, .int lct, .int sqs, .ref aF, .ref aS, .ref aN])), (aL, .inl (cI, 100, .inl u.2.2.2)), (aF, .inl (cI, 100, .inl fwd)), (aS, .inl (cI, 101, .inl lsm)), (aN, .inl (cI, 101, .inl nxl))] t.heap ∧ va_K (dC, dI) classes [(cI, .int), (cZ, .boolean)] t ∧ va_D (va_A [(oT, .inr (3, [.int byt, .int wds, .int inw, .ref aL, .int lct, .int sqs, .ref aF, .ref aS, .ref aN])), (aL, .inl (cI, 100, .inl len)), (aF, .inl (cI, 100, .inl fwd)), (aS, .inl (cI, 101, .inl lsm)), (aN, .inl (cI, 101, .inl nxl))] sz) [(oT, .inr (3, [.int u.1, .int u.2.1, .int u.2.2.1, .ref aL, .int lct, .int sqs, .ref aF, .ref aS, .ref aN])), (aL, .inl (cI, 100, .inl u.2.2.2)), (aF, .inl (cI, 100, .inl fwd)), (aS, .inl (cI, 101, .inl lsm)), (aN, .inl (cI, 101, .inl nxl))]) (va_A [(oT, .inr (3, [.int byt, .int wds, .int inw, .ref aL, .int lct, .int sqs, .ref aF, .ref aS, .ref aN])), (aL, .inl (cI, 100, .inl len)), (aF, .inl (cI, 100, .inl fwd)), (aS, .inl (cI, 101, .inl lsm)), (aN, .inl (cI, 101, .inl nxl))] sz)) 0 0 (va_A [(oT, .inr (3, [.int byt, .int wds, .int inw, .ref aL, .int lct, .int sqs, .ref aF, .ref aS, .ref aN])), (aL, .inl (cI, 100, .inl len)), (aF, .inl (cI, 100, .inl fwd)), (aS, .inl (cI, 101, .inl lsm)), (aN, .inl (cI, 101, .inl nxl))] sz) := by
  refine Met.ofW (cc := b_Text_append) (maxL := 2) (ret := (some .boolean)) (by decide) rfl ?_
  intro p e s m args below meth c s₁ B hml hv
  obtain ⟨rfl, hsz, hP, hK, hD0⟩ := hv
  have hx := B.exec
  have hb := B.bytes
  have hr := B.returns
  have hts := atoms_spec (ws := w_Text_append) B.pre
  have hown : s.vm.findClass R_Text = some m.cls := findClass_of_methodNamed B.named
  have hlocks := B.notSynchronized
  have hw_Text : ∀ w ∈ w_Text, w ∈ w_Text_append := by decide +kernel
  subst hsz
  have hD := hD0.self (sz := s.heap.size)
  generalize hAe : va_A [(oT, .inr (3, [.int byt, .int wds, .int inw, .ref aL, .int lct, .int sqs, .ref aF, .ref aS, .ref aN])), (aL, .inl (cI, 100, .inl len)), (aF, .inl (cI, 100, .inl fwd)), (aS, .inl (cI, 101, .inl lsm)), (aN, .inl (cI, 101, .inl nxl))] s.heap.size = A at hD ⊢
  have hA : ∀ q : Nat, s.heap.size ≤ q → A q := fun q h => by rw [← hAe]; exact Or.inr h
  have hS : va_S A s.heap s.heap [] := va_S.rf
  have hP : va_P (dC, dI) classes [(oT, .inr (3, [.int byt, .int wds, .int inw, .ref aL, .int lct, .int sqs, .ref aF, .ref aS, .ref aN])), (aL, .inl (cI, 100, .inl len)), (aF, .inl (cI, 100, .inl fwd)), (aS, .inl (cI, 101, .inl lsm)), (aN, .inl (cI, 101, .inl nxl))] s.heap := hP
  have hl := lv_entry ([.ref oT, .int p1]) (n := 2) (Nat.le_of_ble_eq_true rfl)
  rw [lg_entry_eq]
  generalize (lg_sl ([.ref oT, .int p1]) ++ List.replicate (2 - (lg_sl ([.ref oT, .int p1])).length) Slot.unset).toArray = ls at hl ⊢
  have hl : lv_has ls 2 [(0, .ref oT), (1, .int p1)] := hl
  have hI0 := hI
  obtain ⟨hb0, hb200, hw0, hi0, hL0, hbt, hbf⟩ := hI
  refine lv_iload_n hx hb d_Text_append_0 rfl (lv_at hl 1 rfl) ?_
  refine lv_bipush (v := 32) hx hb d_Text_append_1 (by decide) ?_
  refine xi_icmp_lt (tgt := 22) hx hb (rfl) (show (32 : Int32).toInt = 32 by decide) d_Text_append_3 (by decide) (fun c3 => ?_) (fun c3 => ?_)
  · refine lv_iconst (v := 0) hx hb d_Text_append_22 (by decide) ?_
    exact W.zret (v := 0) hx hb hr rfl (fun t ht hW => ⟨⟨0, (byt, wds, inw, len), rfl, (show tx_app byt wds inw len nB w b L p1 (0 : Int32) byt wds inw len from (Or.inr ⟨by omega, by decide, rfl, rfl, rfl, rfl⟩)), by rw [ht]; exact hP, va_K.moved hW.alike hK, hD⟩, hS.F ht⟩) hS.2.2 d_Text_append_23
  · refine lv_iload_n hx hb d_Text_append_6 rfl (lv_at hl 1 rfl) ?_
    refine lv_bipush (v := 126) hx hb d_Text_append_7 (by decide) ?_
    refine xi_icmp_gt (tgt := 22) hx hb (rfl) (show (126 : Int32).toInt = 126 by decide) d_Text_append_9 (by decide) (fun c9 => ?_) (fun c9 => ?_)
    · refine lv_iconst (v := 0) hx hb d_Text_append_22 (by decide) ?_
      exact W.zret (v := 0) hx hb hr rfl (fun t ht hW => ⟨⟨0, (byt, wds, inw, len), rfl, (show tx_app byt wds inw len nB w b L p1 (0 : Int32) byt wds inw len from (Or.inr ⟨by omega, by decide, rfl, rfl, rfl, rfl⟩)), by rw [ht]; exact hP, va_K.moved hW.alike hK, hD⟩, hS.F ht⟩) hS.2.2 d_Text_append_23
    · refine lv_aload_n hx hb d_Text_append_12 rfl (lv_at hl 0 rfl) ?_
      refine va_get (D := (dC, dI)) (ci := 3) (v := .int byt) (C := R_Text) (T := F_Text) (N := 9) hx hb hts hw_Text hown hK hP 0 rfl rfl 0 (by decide) (hts (.fieldLink R_Text 11 "PageForms$Text" "bytes" "I") (by decide +kernel)) (fun _ h9 => h9) rfl d_Text_append_13 ?_
      refine lv_sipush (v := 200) hx hb d_Text_append_16 (by decide) ?_
      refine xi_icmp_lt (tgt := 24) hx hb hb0 (show (200 : Int32).toInt = 200 by decide) d_Text_append_19 (by decide) (fun c19 => ?_) (fun c19 => ?_)
      · refine lv_aload_n hx hb d_Text_append_24 rfl (lv_at hl 0 rfl) ?_
        refine lv_dup hx hb d_Text_append_25 rfl ?_
        refine va_get (D := (dC, dI)) (ci := 3) (v := .int byt) (C := R_Text) (T := F_Text) (N := 9) hx hb hts hw_Text hown hK hP 0 rfl rfl 0 (by decide) (hts (.fieldLink R_Text 11 "PageForms$Text" "bytes" "I") (by decide +kernel)) (fun _ h9 => h9) rfl d_Text_append_26 ?_
        refine lv_iconst (v := 1) hx hb d_Text_append_29 (by decide) ?_
        refine lv_iadd hx hb d_Text_append_30 ?_
        have a30 : (byt + 1).toInt = ((nB : Int) + 1) := xi_add hb0 (show (1 : Int32).toInt = 1 by decide) (by omega) (by omega)
        refine lv_topi (fun v31 ev31 => ?_)
        have fv31 : v31.toInt = ((nB : Int) + 1) := by rw [ev31]; exact a30
        refine va_put (D := (dC, dI)) (ci := 3) (v := .int v31) (ty := .int) (C := R_Text) (T := F_Text) (N := 9) hx hb hts hw_Text t_Text t_Text_ok n_Text hown hK hP hD hS 0 rfl rfl 0 (by decide) (hts (.fieldLink R_Text 11 "PageForms$Text" "bytes" "I") (by decide +kernel)) (fun _ h9 => h9) rfl (by decide +kernel) rfl rfl (Nat.le_of_ble_eq_true rfl) d_Text_append_31 (fun H locs hP hD hS => ?_)
        have hP : va_P (dC, dI) classes [(oT, .inr (3, [.int v31, .int wds, .int inw, .ref aL, .int lct, .int sqs, .ref aF, .ref aS, .ref aN])), (aL, .inl (cI, 100, .inl len)), (aF, .inl (cI, 100, .inl fwd)), (aS, .inl (cI, 101, .inl lsm)), (aN, .inl (cI, 101, .inl nxl))] H := hP
        have hD : va_D A [(oT, .inr (3, [.int v31, .int wds, .int inw, .ref aL, .int lct, .int sqs, .ref aF, .ref aS, .ref aN])), (aL, .inl (cI, 100, .inl len)), (aF, .inl (cI, 100, .inl fwd)), (aS, .inl (cI, 101, .inl lsm)), (aN, .inl (cI, 101, .inl nxl))] := hD
        refine lv_iload_n hx hb d_Text_append_34 rfl (lv_at hl 1 rfl) ?_
        refine lv_bipush (v := 32) hx hb d_Text_append_35 (by decide) ?_
        refine xi_icmp_ne (tgt := 48) hx hb (rfl) (show (32 : Int32).toInt = 32 by decide) d_Text_append_37 (by decide) (fun c37 => ?_) (fun c37 => ?_)
        · refine lv_aload_n hx hb d_Text_append_48 rfl (lv_at hl 0 rfl) ?_
          have hPc := hP.sub (ws' := [(oT, .inr (3, [.int v31, .int wds, .int inw, .ref aL, .int lct, .int sqs, .ref aF, .ref aS, .ref aN])), (aL, .inl (cI, 100, .inl len)), (aF, .inl (cI, 100, .inl fwd)), (aS, .inl (cI, 101, .inl lsm)), (aN, .inl (cI, 101, .inl nxl))]) [0, 1, 2, 3, 4] rfl
          have hDc := hD.sub (ws' := [(oT, .inr (3, [.int v31, .int wds, .int inw, .ref aL, .int lct, .int sqs, .ref aF, .ref aS, .ref aN])), (aL, .inl (cI, 100, .inl len)), (aF, .inl (cI, 100, .inl fwd)), (aS, .inl (cI, 101, .inl lsm)), (aN, .inl (cI, 101, .inl nxl))]) [0, 1, 2, 3, 4] (by decide) rfl
          have hFc := va_free (wc := [(oT, .inr (3, [.int v31, .int wds, .int inw, .ref aL, .int lct, .int sqs, .ref aF, .ref aS, .ref aN])), (aL, .inl (cI, 100, .inl len)), (aF, .inl (cI, 100, .inl fwd)), (aS, .inl (cI, 101, .inl lsm)), (aN, .inl (cI, 101, .inl nxl))]) hD hS hA [0, 1, 2, 3, 4] rfl
          refine va_callv (va_runV (As := []) (rest := []) ⟨hx, hb, hml, hown, hts⟩ (k_Text_appendLetter l dC dI cI cZ oT aL aF aS aN v31 wds inw lct sqs len fwd lsm nxl H.size nB w b L hw0 hi0 hL0 (by omega) hbt hbf) (cwV 0 hts g_Text_append_Text_appendLetter rfl rfl rfl (by decide +kernel) ⟨Nat.le_of_ble_eq_true rfl, Nat.le_of_ble_eq_true rfl⟩) ⟨fun a U g mk q => by obtain ⟨q0, q1, qP, qK, qD⟩ := q; exact ⟨q0, q1, qP, va_K.moved (u := U) (U := U.calling g mk a) (Vm.Alike.refl U.vm) qK, qD⟩, va_recv hK hPc (ci := 3) (q0 := 0) rfl rfl, fun U hU hW => ⟨rfl, by rw [hU], by rw [hU]; exact hPc, va_K.moved hW.alike hK, hDc.weaken (fun _ _ _ _ => trivial)⟩⟩ rfl rfl hl.1 rfl (lv_room (Nat.le_of_ble_eq_true rfl)) d_Text_append_49 ⟨Nat.le_of_ble_eq_true rfl, Nat.le_of_ble_eq_true rfl⟩) hS (fun q _ h => hFc q h) hFc (fun u t H1 locs ht hvm hw hB hz1 hk1 hS => ?_)
          obtain ⟨wds_49, inw_49, len_49⟩ := u
          have w49 : wds_49.toInt = ((tx_step false w b L).1 : Int) ∧ inw_49.toInt = 1 ∧ (∀ j, j < (tx_step false w b L).1 → (len_49 j).toInt = ((tx_step false w b L).2.2 j : Int) ∧ 1 ≤ (tx_step false w b L).2.2 j ∧ (tx_step false w b L).2.2 j ≤ nB + 1) := hw
          obtain ⟨hP1, hK1, hD1⟩ := hB
          rw [ht] at hP1
          obtain ⟨hP, hD⟩ := va_join (wr := []) (w1 := [(oT, .inr (3, [.int v31, .int wds_49, .int inw_49, .ref aL, .int lct, .int sqs, .ref aF, .ref aS, .ref aN])), (aL, .inl (cI, 100, .inl len_49)), (aF, .inl (cI, 100, .inl fwd)), (aS, .inl (cI, 101, .inl lsm)), (aN, .inl (cI, 101, .inl nxl))]) hP hD [0, 1, 2, 3, 4] [] rfl rfl (by decide) (by decide) hk1 hFc hP1 hD1
          generalize H1 = H at hP hS ⊢
          have hP : va_P (dC, dI) classes [(oT, .inr (3, [.int v31, .int wds_49, .int inw_49, .ref aL, .int lct, .int sqs, .ref aF, .ref aS, .ref aN])), (aL, .inl (cI, 100, .inl len_49)), (aF, .inl (cI, 100, .inl fwd)), (aS, .inl (cI, 101, .inl lsm)), (aN, .inl (cI, 101, .inl nxl))] H := hP
          have hD : va_D A [(oT, .inr (3, [.int v31, .int wds_49, .int inw_49, .ref aL, .int lct, .int sqs, .ref aF, .ref aS, .ref aN])), (aL, .inl (cI, 100, .inl len_49)), (aF, .inl (cI, 100, .inl fwd)), (aS, .inl (cI, 101, .inl lsm)), (aN, .inl (cI, 101, .inl nxl))] := hD
          refine lv_iconst (v := 1) hx hb d_Text_append_52 (by decide) ?_
          exact W.zret (v := 1) hx hb hr rfl (fun t ht hW => ⟨⟨1, (v31, wds_49, inw_49, len_49), rfl, (show tx_app byt wds inw len nB w b L p1 (1 : Int32) v31 wds_49 inw_49 len_49 from (Or.inl ⟨by omega, by omega, by omega, by decide, false, ⟨fun q => (by cases q), fun q => absurd q c37⟩, by omega, by omega, w49.1, tx_st_b w49.2.1, w49.2.2, tx_st_t hbt hbf, tx_st_f⟩)), by rw [ht]; exact hP, va_K.moved hW.alike hK, hD⟩, hS.F ht⟩) hS.2.2 d_Text_append_53
        · refine lv_aload_n hx hb d_Text_append_40 rfl (lv_at hl 0 rfl) ?_
          refine lv_iconst (v := 0) hx hb d_Text_append_41 (by decide) ?_
          refine va_put (D := (dC, dI)) (ci := 3) (v := .int 0) (ty := .boolean) (C := R_Text) (T := F_Text) (N := 9) hx hb hts hw_Text t_Text t_Text_ok n_Text hown hK hP hD hS 0 rfl rfl 2 (by decide) (hts (.fieldLink R_Text 18 "PageForms$Text" "inWord" "Z") (by decide +kernel)) (fun _ h9 => h9) rfl (by decide +kernel) rfl rfl (Nat.le_of_ble_eq_true rfl) d_Text_append_42 (fun H locs hP hD hS => ?_)
          have hP : va_P (dC, dI) classes [(oT, .inr (3, [.int v31, .int wds, .int 0, .ref aL, .int lct, .int sqs, .ref aF, .ref aS, .ref aN])), (aL, .inl (cI, 100, .inl len)), (aF, .inl (cI, 100, .inl fwd)), (aS, .inl (cI, 101, .inl lsm)), (aN, .inl (cI, 101, .inl nxl))] H := hP
          have hD : va_D A [(oT, .inr (3, [.int v31, .int wds, .int 0, .ref aL, .int lct, .int sqs, .ref aF, .ref aS, .ref aN])), (aL, .inl (cI, 100, .inl len)), (aF, .inl (cI, 100, .inl fwd)), (aS, .inl (cI, 101, .inl lsm)), (aN, .inl (cI, 101, .inl nxl))] := hD
          refine lv_goto (tgt := 52) hx hb d_Text_append_45 (by decide) ?_
          refine lv_iconst (v := 1) hx hb d_Text_append_52 (by decide) ?_
          exact W.zret (v := 1) hx hb hr rfl (fun t ht hW => ⟨⟨1, (v31, wds, 0, len), rfl, (show tx_app byt wds inw len nB w b L p1 (1 : Int32) v31 wds 0 len from (Or.inl ⟨by omega, by omega, by omega, by decide, true, ⟨fun _ => by omega, fun _ => rfl⟩, by omega, by omega, hw0, (show (0 : Int32).toInt = 0 by decide), fun j hj => ⟨(hL0 j hj).1, (hL0 j hj).2.1, Nat.le_succ_of_le (hL0 j hj).2.2⟩, fun q => (by cases q), fun _ => tx_bl hbt hbf⟩)), by rw [ht]; exact hP, va_K.moved hW.alike hK, hD⟩, hS.F ht⟩) hS.2.2 d_Text_append_53
      · refine lv_iconst (v := 0) hx hb d_Text_append_22 (by decide) ?_
        exact W.zret (v := 0) hx hb hr rfl (fun t ht hW => ⟨⟨0, (byt, wds, inw, len), rfl, (show tx_app byt wds inw len nB w b L p1 (0 : Int32) byt wds inw len from (Or.inr ⟨by omega, by decide, rfl, rfl, rfl, rfl⟩)), by rw [ht]; exact hP, va_K.moved hW.alike hK, hD⟩, hS.F ht⟩) hS.2.2 d_Text_append_23

set_option maxHeartbeats 4000000 in
set_option maxRecDepth 100000 in
theorem k_Text_hasWordLongerThan (l : Launch) (dC : Nat → ClassId) (dI : Nat → Nat → Nat) (cI cZ : ClassId) (oT : Nat) (aL : Nat) (aF : Nat) (aS : Nat) (aN : Nat) (byt : Int32) (wds : Int32) (inw : Int32) (lct : Int32) (sqs : Int32) (len : Nat → Int32) (fwd : Nat → Int32) (lsm : Nat → Int32) (nxl : Nat → Int32) (sz : Nat) (p1 : Int32) (w : Nat) (L : Nat → Nat) (hw0 : wds.toInt = (w : Int)) (hw100 : w ≤ 100) (hL0 : ∀ j, j < w → (len j).toInt = (L j : Int)) : Met l y_Text_hasWordLongerThan w_Text_hasWordLongerThan ({ frames := 0, cells := 0, slots := 0, locals := 0 }) (va_Pc [.ref oT, .int p1] (fun U => U.heap.size = sz ∧ va_P (dC, dI) classes [(oT, .inr (3, [.int byt, .int wds, .int inw, .ref aL, .int lct, .int sqs, .ref aF, .ref aS, .ref aN])), (aL, .inl (cI, 100, .inl len)), (aF, .inl (cI, 100, .inl fwd)), (aS, .inl (cI, 101, .inl lsm)), (aN, .inl (cI, 101, .inl nxl))] U.heap ∧ va_K (dC, dI) classes [(cI, .int), (cZ, .boolean)] U ∧ va_D (fun _ => True) [(oT, .inr (3, [.int byt, .int wds, .int inw, .ref aL, .int lct, .int sqs, .ref aF, .ref aS, .ref aN])), (aL, .inl (cI, 100, .inl len)), (aF, .inl (cI, 100, .inl fwd)), (aS, .inl (cI, 101, .inl lsm)), (aN, .inl (cI, 101, .inl nxl))])) (va_Qi (fun (r : Int32) (u : Unit) => (r.toInt = 1 ∧ ∃ j, j < w ∧ p1.toInt < (L j : Int)) ∨ (r.toInt = 0 ∧ ∀ j, j < w → (L j : Int) ≤ p1.toInt)) (fun (u : Unit) (t : State) => va_P (dC, dI) classes [(oT, .inr (3, [.int byt, .int wds, .int inw, .ref aL, .int lct, .int sqs, .ref aF, .ref aS, .ref aN])), (aL, .inl (cI, 100, .inl len)), (aF, .inl (cI, 100, .inl fwd)), (aS, .inl (cI, 101, .inl lsm)), (aN, .inl (cI, 101, .inl nxl))] t.heap ∧ va_K (dC, dI) classes [(cI, .int), (cZ, .boolean)] t ∧ va_D (va_A [(oT, .inr (3, [.int byt, .int wds, .int inw, .ref aL, .int lct, .int sqs, .ref aF, .ref aS, .ref aN])), (aL, .inl (cI, 100, .inl len)), (aF, .inl (cI, 100, .inl fwd)), (aS, .inl (cI, 101, .inl lsm)), (aN, .inl (cI, 101, .inl nxl))] sz) [(oT, .inr (3, [.int byt, .int wds, .int inw, .ref aL, .int lct, .int sqs, .ref aF, .ref aS, .ref aN])), (aL, .inl (cI, 100, .inl len)), (aF, .inl (cI, 100, .inl fwd)), (aS, .inl (cI, 101, .inl lsm)), (aN, .inl (cI, 101, .inl nxl))]) (va_A [(oT, .inr (3, [.int byt, .int wds, .int inw, .ref aL, .int lct, .int sqs, .ref aF, .ref aS, .ref aN])), (aL, .inl (cI, 100, .inl len)), (aF, .inl (cI, 100, .inl fwd)), (aS, .inl (cI, 101, .inl lsm)), (aN, .inl (cI, 101, .inl nxl))] sz)) 0 0 (va_A [(oT, .inr (3, [.int byt, .int wds, .int inw, .ref aL, .int lct, .int sqs, .ref aF, .ref aS, .ref aN])), (aL, .inl (cI, 100, .inl len)), (aF, .inl (cI, 100, .inl fwd)), (aS, .inl (cI, 101, .inl lsm)), (aN, .inl (cI, 101, .inl nxl))] sz) := by
  refine Met.ofW (cc := b_Text_hasWordLongerThan) (maxL := 3) (ret := (some .boolean)) (by decide) rfl ?_
  intro p e s m args below meth c s₁ B hml hv
  obtain ⟨rfl, hsz, hP, hK, hD0⟩ := hv
  have hx := B.exec
  have hb := B.bytes
  have hr := B.returns
  have hts := atoms_spec (ws := w_Text_hasWordLongerThan) B.pre
  have hown : s.vm.findClass R_Text = some m.cls := findClass_of_methodNamed B.named
  have hlocks := B.notSynchronized
  have hw_Text : ∀ w ∈ w_Text, w ∈ w_Text_hasWordLongerThan := by decide +kernel
  subst hsz
  have hD := hD0.self (sz := s.heap.size)
  generalize hAe : va_A [(oT, .inr (3, [.int byt, .int wds, .int inw, .ref aL, .int lct, .int sqs, .ref aF, .ref aS, .ref aN])), (aL, .inl (cI, 100, .inl len)), (aF, .inl (cI, 100, .inl fwd)), (aS, .inl (cI, 101, .inl lsm)), (aN, .inl (cI, 101, .inl nxl))] s.heap.size = A at hD ⊢
  have hA : ∀ q : Nat, s.heap.size ≤ q → A q := fun q h => by rw [← hAe]; exact Or.inr h
  have hS : va_S A s.heap s.heap [] := va_S.rf
  have hP : va_P (dC, dI) classes [(oT, .inr (3, [.int byt, .int wds, .int inw, .ref aL, .int lct, .int sqs, .ref aF, .ref aS, .ref aN])), (aL, .inl (cI, 100, .inl len)), (aF, .inl (cI, 100, .inl fwd)), (aS, .inl (cI, 101, .inl lsm)), (aN, .inl (cI, 101, .inl nxl))] s.heap := hP
  have hl := lv_entry ([.ref oT, .int p1]) (n := 3) (Nat.le_of_ble_eq_true rfl)
  rw [lg_entry_eq]
  generalize (lg_sl ([.ref oT, .int p1]) ++ List.replicate (3 - (lg_sl ([.ref oT, .int p1])).length) Slot.unset).toArray = ls at hl ⊢
  have hl : lv_has ls 3 [(0, .ref oT), (1, .int p1)] := hl
  have loop2 : ∀ (n2 : Nat) (k : Nat) (x2 : Int32), (w - k < n2) → (k ≤ w) → (x2.toInt = (k : Int)) → (∀ j, j < k → (L j : Int) ≤ p1.toInt) → ∀ (H : Heap) (locs : List Loc), va_P (dC, dI) classes [(oT, .inr (3, [.int byt, .int wds, .int inw, .ref aL, .int lct, .int sqs, .ref aF, .ref aS, .ref aN])), (aL, .inl (cI, 100, .inl len)), (aF, .inl (cI, 100, .inl fwd)), (aS, .inl (cI, 101, .inl lsm)), (aN, .inl (cI, 101, .inl nxl))] H → va_D A [(oT, .inr (3, [.int byt, .int wds, .int inw, .ref aL, .int lct, .int sqs, .ref aF, .ref aS, .ref aN])), (aL, .inl (cI, 100, .inl len)), (aF, .inl (cI, 100, .inl fwd)), (aS, .inl (cI, 101, .inl lsm)), (aN, .inl (cI, 101, .inl nxl))] → va_S A s.heap H locs → ∀ (ls : Array Slot), lv_has ls 3 [(0, .ref oT), (1, .int p1), (2, .int x2)] → W p l e (headSpec w_Text_hasWordLongerThan ({ frames := 0, cells := 0, slots := 0, locals := 0 })).room s m ([.ref oT, .int p1] : List Value).toArray below meth c H locs 0 0 (MQ below (va_Qi (fun (r : Int32) (u : Unit) => (r.toInt = 1 ∧ ∃ j, j < w ∧ p1.toInt < (L j : Int)) ∨ (r.toInt = 0 ∧ ∀ j, j < w → (L j : Int) ≤ p1.toInt)) (fun (u : Unit) (t : State) => va_P (dC, dI) classes [(oT, .inr (3, [.int byt, .int wds, .int inw, .ref aL, .int lct, .int sqs, .ref aF, .ref aS, .ref aN])), (aL, .inl (cI, 100, .inl len)), (aF, .inl (cI, 100, .inl fwd)), (aS, .inl (cI, 101, .inl lsm)), (aN, .inl (cI, 101, .inl nxl))] t.heap ∧ va_K (dC, dI) classes [(cI, .int), (cZ, .boolean)] t ∧ va_D (A) [(oT, .inr (3, [.int byt, .int wds, .int inw, .ref aL, .int lct, .int sqs, .ref aF, .ref aS, .ref aN])), (aL, .inl (cI, 100, .inl len)), (aF, .inl (cI, 100, .inl fwd)), (aS, .inl (cI, 101, .inl lsm)), (aN, .inl (cI, 101, .inl nxl))]) (A)) ([.ref oT, .int p1] : List Value).toArray s 0 0 A) (F0 m 2 ls []) := by
    intro n2
    induction n2 with
    | zero => intro k x2 hmz2; omega
    | succ n2 ih2 =>
      intro k x2 hmz2 hk e2 hs H locs hP hD hS ls hl
      refine lv_iload_n hx hb d_Text_hasWordLongerThan_2 rfl (lv_at hl 2 rfl) ?_
      refine lv_aload_n hx hb d_Text_hasWordLongerThan_3 rfl (lv_at hl 0 rfl) ?_
      refine va_get (D := (dC, dI)) (ci := 3) (v := .int wds) (C := R_Text) (T := F_Text) (N := 9) hx hb hts hw_Text hown hK hP 0 rfl rfl 1 (by decide) (hts (.fieldLink R_Text 15 "PageForms$Text" "words" "I") (by decide +kernel)) (fun _ h9 => h9) rfl d_Text_hasWordLongerThan_4 ?_
      refine xi_icmp_ge (tgt := 28) hx hb e2 hw0 d_Text_hasWordLongerThan_7 (by decide) (fun c7 => ?_) (fun c7 => ?_)
      · refine lv_iconst (v := 0) hx hb d_Text_hasWordLongerThan_28 (by decide) ?_
        exact W.zret (v := 0) hx hb hr rfl (fun t ht hW => ⟨⟨0, (), rfl, (show (0 = 1 ∧ ∃ j, j < w ∧ p1.toInt < (L j : Int)) ∨ (0 = 0 ∧ ∀ j, j < w → (L j : Int) ≤ p1.toInt) from (Or.inr ⟨by decide, fun j hj => hs j (by omega)⟩)), by rw [ht]; exact hP, va_K.moved hW.alike hK, hD⟩, hS.F ht⟩) hS.2.2 d_Text_hasWordLongerThan_29
      · refine lv_aload_n hx hb d_Text_hasWordLongerThan_10 rfl (lv_at hl 0 rfl) ?_
        refine va_get (D := (dC, dI)) (ci := 3) (v := .ref aL) (C := R_Text) (T := F_Text) (N := 9) hx hb hts hw_Text hown hK hP 0 rfl rfl 3 (by decide) (hts (.fieldLink R_Text 22 "PageForms$Text" "lengths" "[I") (by decide +kernel)) (fun _ h9 => h9) rfl d_Text_hasWordLongerThan_11 ?_
        refine lv_iload_n hx hb d_Text_hasWordLongerThan_14 rfl (lv_at hl 2 rfl) ?_
        refine xa_iald hx hb hK hP 1 0 rfl rfl e2 k (by omega) (by omega) d_Text_hasWordLongerThan_15 ?_
        have b15 : (len k).toInt = (L k : Int) := (hL0 k (by omega))
        refine lv_iload_n hx hb d_Text_hasWordLongerThan_16 rfl (lv_at hl 1 rfl) ?_
        refine xi_icmp_le (tgt := 22) hx hb b15 (rfl) d_Text_hasWordLongerThan_17 (by decide) (fun c17 => ?_) (fun c17 => ?_)
        · obtain ⟨v22, ev22⟩ : ∃ y : Int32, y = (x2 + 1) := ⟨_, rfl⟩
          have fv22 : v22.toInt = ((k : Int) + 1) := by rw [ev22]; exact xi_add e2 (show (1 : Int32).toInt = 1 by decide) (by omega) (by omega)
          refine lv_iinc (v := v22) (lv' := [(2, .int v22), (0, .ref oT), (1, .int p1)]) hx hb d_Text_hasWordLongerThan_22 hl (k := 2) rfl (by rw [ev22]; rfl) (by decide) rfl (fun ls hl => ?_)
          refine lv_goto (tgt := 2) hx hb d_Text_hasWordLongerThan_25 (by decide) ?_
          exact ih2 (k + 1) v22 (by omega) (by omega) (by omega) (fun j hj => by rcases Nat.lt_or_ge j k with z | z; exact hs j z; rw [show j = k by omega]; exact c17) _ _ hP hD hS ls (lv_sub hl [1, 2, 0] rfl)
        · refine lv_iconst (v := 1) hx hb d_Text_hasWordLongerThan_20 (by decide) ?_
          exact W.zret (v := 1) hx hb hr rfl (fun t ht hW => ⟨⟨1, (), rfl, (show (1 = 1 ∧ ∃ j, j < w ∧ p1.toInt < (L j : Int)) ∨ (1 = 0 ∧ ∀ j, j < w → (L j : Int) ≤ p1.toInt) from (Or.inl ⟨by decide, k, by omega, by omega⟩)), by rw [ht]; exact hP, va_K.moved hW.alike hK, hD⟩, hS.F ht⟩) hS.2.2 d_Text_hasWordLongerThan_21
  refine lv_iconst (v := 0) hx hb d_Text_hasWordLongerThan_0 (by decide) ?_
  refine lv_istore_n (lv' := [(2, .int 0), (0, .ref oT), (1, .int p1)]) hx hb d_Text_hasWordLongerThan_1 rfl hl (by decide) rfl (fun ls hl => ?_)
  exact loop2 (w + 1) 0 0 (by omega) (by omega) (by decide) (fun j hj => by omega) _ _ hP hD hS ls (lv_sub hl [1, 2, 0] rfl)
