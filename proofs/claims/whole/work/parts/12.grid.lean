set_option maxHeartbeats 4000000 in
set_option maxRecDepth 100000 in
theorem k_Grid_init (l : Launch) (dC : Nat → ClassId) (dI : Nat → Nat → Nat) (cI cZ : ClassId) (oG : Nat) (sz : Nat) : Met l y_Grid_init w_Grid_init ({ frames := 1, cells := 2, slots := 69, locals := 12 }) (va_Pc [.ref oG] (fun U => U.heap.size = sz ∧ va_P (dC, dI) classes [(oG, .inr (2, [.int 0, .int 0, .null, .null]))] U.heap ∧ va_K (dC, dI) classes [(cI, .int), (cZ, .boolean)] U ∧ va_D (fun _ => True) [(oG, .inr (2, [.int 0, .int 0, .null, .null]))])) (va_Qv (fun (u : Unit) => True) (fun (u : Unit) (t : State) => ∃ (aK : Nat), ∃ (aW : Nat), va_P (dC, dI) classes [(oG, .inr (2, [.int 1, .int 1, .ref aK, .ref aW])), (aK, .inl (cI, 64, .inl (fun _ => 0))), (aW, .inl (cI, 5, .inl (fun _ => 0)))] t.heap ∧ va_K (dC, dI) classes [(cI, .int), (cZ, .boolean)] t ∧ va_D (va_A [(oG, .inr (2, [.int 0, .int 0, .null, .null]))] sz) [(oG, .inr (2, [.int 1, .int 1, .ref aK, .ref aW])), (aK, .inl (cI, 64, .inl (fun _ => 0))), (aW, .inl (cI, 5, .inl (fun _ => 0)))]) (va_A [(oG, .inr (2, [.int 0, .int 0, .null, .null]))] sz)) 2 69 (va_A [(oG, .inr (2, [.int 0, .int 0, .null, .null]))] sz) := by
  refine Met.ofW (cc := b_Grid_init) (maxL := 1) (ret := none) (by decide) rfl ?_
  intro p e s m args below meth c s₁ B hml hv
  obtain ⟨rfl, hsz, hP, hK, hD0⟩ := hv
  have hx := B.exec
  have hb := B.bytes
  have hr := B.returns
  have hts := atoms_spec (ws := w_Grid_init) B.pre
  have hown : s.vm.findClass R_Grid = some m.cls := findClass_of_methodNamed B.named
  have hlocks := B.notSynchronized
  have hin : meth.name = "<init>" := (name_of_methodNamed B.named B.method).1
  have hw_Grid : ∀ w ∈ w_Grid, w ∈ w_Grid_init := by decide +kernel
  subst hsz
  have hD := hD0.self (sz := s.heap.size)
  generalize hAe : va_A [(oG, .inr (2, [.int 0, .int 0, .null, .null]))] s.heap.size = A at hD ⊢
  have hA : ∀ q : Nat, s.heap.size ≤ q → A q := fun q h => by rw [← hAe]; exact Or.inr h
  have hS : va_S A s.heap s.heap [] := va_S.rf
  have hP : va_P (dC, dI) classes [(oG, .inr (2, [.int 0, .int 0, .null, .null]))] s.heap := hP
  have hl := lv_entry ([.ref oG]) (n := 1) (Nat.le_of_ble_eq_true rfl)
  rw [lg_entry_eq]
  generalize (lg_sl ([.ref oG]) ++ List.replicate (1 - (lg_sl ([.ref oG])).length) Slot.unset).toArray = ls at hl ⊢
  have hl : lv_has ls 1 [(0, .ref oG)] := hl
  refine lv_aload_n hx hb d_Grid_init_0 rfl (lv_at hl 0 rfl) ?_
  refine W.objInit hx hb hown (hts (.methodLink R_Grid 3 objectInit) (by decide +kernel)) (hts (.instanceMethod objectInit) (by decide +kernel)) (hts (.code objectInit ⟨#[0xb1]⟩ 1 none) (by decide +kernel)) rfl (by rw [hml]; exact hl.1) rfl d_Grid_init_1 (Nat.le_of_ble_eq_true rfl) (Nat.le_of_ble_eq_true rfl) ?_
  refine W.eq (g2 := F0 m 4 ls []) rfl ?_
  refine lv_aload_n hx hb d_Grid_init_4 rfl (lv_at hl 0 rfl) ?_
  refine lv_iconst (v := 1) hx hb d_Grid_init_5 (by decide) ?_
  refine va_put (D := (dC, dI)) (ci := 2) (v := .int 1) (ty := .int) (C := R_Grid) (T := F_Grid) (N := 4) hx hb hts hw_Grid t_Grid t_Grid_ok n_Grid hown hK hP hD hS 0 rfl rfl 0 (by decide) (hts (.fieldLink R_Grid 9 "PageForms$Grid" "wide" "I") (by decide +kernel)) (fun _ h9 => h9) rfl (by decide +kernel) rfl rfl (Nat.le_of_ble_eq_true rfl) d_Grid_init_6 (fun H locs hP hD hS => ?_)
  have hP : va_P (dC, dI) classes [(oG, .inr (2, [.int 1, .int 0, .null, .null]))] H := hP
  have hD : va_D A [(oG, .inr (2, [.int 1, .int 0, .null, .null]))] := hD
  refine lv_aload_n hx hb d_Grid_init_9 rfl (lv_at hl 0 rfl) ?_
  refine lv_iconst (v := 1) hx hb d_Grid_init_10 (by decide) ?_
  refine va_put (D := (dC, dI)) (ci := 2) (v := .int 1) (ty := .int) (C := R_Grid) (T := F_Grid) (N := 4) hx hb hts hw_Grid t_Grid t_Grid_ok n_Grid hown hK hP hD hS 0 rfl rfl 1 (by decide) (hts (.fieldLink R_Grid 15 "PageForms$Grid" "high" "I") (by decide +kernel)) (fun _ h9 => h9) rfl (by decide +kernel) rfl rfl (Nat.le_of_ble_eq_true rfl) d_Grid_init_11 (fun H locs hP hD hS => ?_)
  have hP : va_P (dC, dI) classes [(oG, .inr (2, [.int 1, .int 1, .null, .null]))] H := hP
  have hD : va_D A [(oG, .inr (2, [.int 1, .int 1, .null, .null]))] := hD
  refine lv_aload_n hx hb d_Grid_init_14 rfl (lv_at hl 0 rfl) ?_
  refine lv_bipush (v := 64) hx hb d_Grid_init_15 (by decide) ?_
  have hkc17 : 0 + 1 ≤ (headSpec w_Grid_init ({ frames := 1, cells := 2, slots := 69, locals := 12 })).room.cells := Nat.le_of_ble_eq_true rfl
  have hks17 : 0 + 64 ≤ (headSpec w_Grid_init ({ frames := 1, cells := 2, slots := 69, locals := 12 })).room.slots := Nat.le_of_ble_eq_true rfl
  refine va_newa (atype := .int) (ty := .int) (N' := 64) (a0 := (64, .inl (fun _ => 0))) hx hb (hts (.arrayClass .int) (by decide +kernel)) rfl hK hP hD hS hA (fun _ => vp_cell_i _ _ _) (by decide) (by decide) (by decide) hkc17 hks17 d_Grid_init_17 (fun q17 cN H hK hP hD hS => ?_)
  obtain rfl : cI = cN := (xi_same (i := 0) (j := 2) hK rfl rfl).symm
  have hK := hK.sub (tys' := [(cI, .int), (cZ, .boolean)]) [0, 1] rfl
  have hP : va_P (dC, dI) classes [(oG, .inr (2, [.int 1, .int 1, .null, .null])), (q17, .inl (cI, 64, .inl (fun _ => 0)))] H := hP
  have hD : va_D A [(oG, .inr (2, [.int 1, .int 1, .null, .null])), (q17, .inl (cI, 64, .inl (fun _ => 0)))] := hD
  refine W.widen (k := 1) (n := 64) (Nat.le_of_ble_eq_true rfl) (Nat.le_of_ble_eq_true rfl) ?_
  refine va_putF (D := (dC, dI)) (ci := 2) (v := .ref q17) (ty := (.array .int)) (C := R_Grid) (T := F_Grid) (N := 4) hx hb hts hw_Grid t_Grid t_Grid_ok n_Grid hown hK hP hD hS 0 rfl rfl 2 (by decide) (hts (.fieldLink R_Grid 18 "PageForms$Grid" "cages" "[I") (by decide +kernel)) (fun _ h9 => h9) rfl hin rfl (by decide +kernel) rfl rfl (Nat.le_of_ble_eq_true rfl) d_Grid_init_19 (fun H locs hP hD hS => ?_)
  have hP : va_P (dC, dI) classes [(oG, .inr (2, [.int 1, .int 1, .ref q17, .null])), (q17, .inl (cI, 64, .inl (fun _ => 0)))] H := hP
  have hD : va_D A [(oG, .inr (2, [.int 1, .int 1, .ref q17, .null])), (q17, .inl (cI, 64, .inl (fun _ => 0)))] := hD
  refine lv_aload_n hx hb d_Grid_init_22 rfl (lv_at hl 0 rfl) ?_
  refine lv_iconst (v := 5) hx hb d_Grid_init_23 (by decide) ?_
  have hkc24 : 1 + 1 ≤ (headSpec w_Grid_init ({ frames := 1, cells := 2, slots := 69, locals := 12 })).room.cells := Nat.le_of_ble_eq_true rfl
  have hks24 : 64 + 5 ≤ (headSpec w_Grid_init ({ frames := 1, cells := 2, slots := 69, locals := 12 })).room.slots := Nat.le_of_ble_eq_true rfl
  refine va_newa (atype := .int) (ty := .int) (N' := 5) (a0 := (5, .inl (fun _ => 0))) hx hb (hts (.arrayClass .int) (by decide +kernel)) rfl hK hP hD hS hA (fun _ => vp_cell_i _ _ _) (by decide) (by decide) (by decide) hkc24 hks24 d_Grid_init_24 (fun q24 cN H hK hP hD hS => ?_)
  obtain rfl : cI = cN := (xi_same (i := 0) (j := 2) hK rfl rfl).symm
  have hK := hK.sub (tys' := [(cI, .int), (cZ, .boolean)]) [0, 1] rfl
  have hP : va_P (dC, dI) classes [(oG, .inr (2, [.int 1, .int 1, .ref q17, .null])), (q17, .inl (cI, 64, .inl (fun _ => 0))), (q24, .inl (cI, 5, .inl (fun _ => 0)))] H := hP
  have hD : va_D A [(oG, .inr (2, [.int 1, .int 1, .ref q17, .null])), (q17, .inl (cI, 64, .inl (fun _ => 0))), (q24, .inl (cI, 5, .inl (fun _ => 0)))] := hD
  refine W.widen (k := 2) (n := 69) (Nat.le_of_ble_eq_true rfl) (Nat.le_of_ble_eq_true rfl) ?_
  refine va_putF (D := (dC, dI)) (ci := 2) (v := .ref q24) (ty := (.array .int)) (C := R_Grid) (T := F_Grid) (N := 4) hx hb hts hw_Grid t_Grid t_Grid_ok n_Grid hown hK hP hD hS 0 rfl rfl 3 (by decide) (hts (.fieldLink R_Grid 22 "PageForms$Grid" "wanted" "[I") (by decide +kernel)) (fun _ h9 => h9) rfl hin rfl (by decide +kernel) rfl rfl (Nat.le_of_ble_eq_true rfl) d_Grid_init_26 (fun H locs hP hD hS => ?_)
  have hP : va_P (dC, dI) classes [(oG, .inr (2, [.int 1, .int 1, .ref q17, .ref q24])), (q17, .inl (cI, 64, .inl (fun _ => 0))), (q24, .inl (cI, 5, .inl (fun _ => 0)))] H := hP
  have hD : va_D A [(oG, .inr (2, [.int 1, .int 1, .ref q17, .ref q24])), (q17, .inl (cI, 64, .inl (fun _ => 0))), (q24, .inl (cI, 5, .inl (fun _ => 0)))] := hD
  refine W.widen (k := 2) (n := 69) (Nat.le_of_ble_eq_true rfl) (Nat.le_of_ble_eq_true rfl) ?_
  exact W.vret hx hb hr (fun t ht hW => ⟨⟨(), rfl, (show True from trivial), q17, q24, by rw [ht]; exact hP, va_K.moved hW.alike hK, hD⟩, hS.F ht⟩) hS.2.2 d_Grid_init_29

set_option maxHeartbeats 4000000 in
set_option maxRecDepth 100000 in
theorem k_Grid_isSide (l : Launch) (dC : Nat → ClassId) (dI : Nat → Nat → Nat) (cI cZ : ClassId) (sz : Nat) (p0 : Int32) : Met l y_Grid_isSide w_Grid_isSide ({ frames := 0, cells := 0, slots := 0, locals := 0 }) (va_Pc [.int p0] (fun U => U.heap.size = sz ∧ va_P (dC, dI) classes [] U.heap ∧ va_K (dC, dI) classes [(cI, .int), (cZ, .boolean)] U ∧ va_D (fun _ => True) [])) (va_Qi (fun (r : Int32) (u : Unit) => (r.toInt = 1 ∧ gd_ok p0.toInt) ∨ (r.toInt = 0 ∧ ¬ gd_ok p0.toInt)) (fun (u : Unit) (t : State) => va_P (dC, dI) classes [] t.heap ∧ va_K (dC, dI) classes [(cI, .int), (cZ, .boolean)] t ∧ va_D (va_A [] sz) []) (va_A [] sz)) 0 0 (va_A [] sz) := by
  refine Met.ofW (cc := b_Grid_isSide) (maxL := 1) (ret := (some .boolean)) (by decide) rfl ?_
  intro p e s m args below meth c s₁ B hml hv
  obtain ⟨rfl, hsz, hP, hK, hD0⟩ := hv
  have hx := B.exec
  have hb := B.bytes
  have hr := B.returns
  have hts := atoms_spec (ws := w_Grid_isSide) B.pre
  have hown : s.vm.findClass R_Grid = some m.cls := findClass_of_methodNamed B.named
  have hlocks := B.notSynchronized
  subst hsz
  have hD := hD0.self (sz := s.heap.size)
  generalize hAe : va_A [] s.heap.size = A at hD ⊢
  have hA : ∀ q : Nat, s.heap.size ≤ q → A q := fun q h => by rw [← hAe]; exact Or.inr h
  have hS : va_S A s.heap s.heap [] := va_S.rf
  have hP : va_P (dC, dI) classes [] s.heap := hP
  have hl := lv_entry ([.int p0]) (n := 1) (Nat.le_of_ble_eq_true rfl)
  rw [lg_entry_eq]
  generalize (lg_sl ([.int p0]) ++ List.replicate (1 - (lg_sl ([.int p0])).length) Slot.unset).toArray = ls at hl ⊢
  have hl : lv_has ls 1 [(0, .int p0)] := hl
  refine lv_iload_n hx hb d_Grid_isSide_0 rfl (lv_at hl 0 rfl) ?_
  refine lv_iconst (v := 1) hx hb d_Grid_isSide_1 (by decide) ?_
  refine xi_icmp_lt (tgt := 15) hx hb (rfl) (show (1 : Int32).toInt = 1 by decide) d_Grid_isSide_2 (by decide) (fun c2 => ?_) (fun c2 => ?_)
  · refine lv_iconst (v := 0) hx hb d_Grid_isSide_15 (by decide) ?_
    exact W.zret (v := 0) hx hb hr rfl (fun t ht hW => ⟨⟨0, (), rfl, (show (0 = 1 ∧ gd_ok p0.toInt) ∨ (0 = 0 ∧ ¬ gd_ok p0.toInt) from (by unfold gd_ok; first | exact Or.inl ⟨by decide, by omega⟩ | exact Or.inr ⟨by decide, by omega⟩)), by rw [ht]; exact hP, va_K.moved hW.alike hK, hD⟩, hS.F ht⟩) hS.2.2 d_Grid_isSide_16
  · refine lv_iload_n hx hb d_Grid_isSide_5 rfl (lv_at hl 0 rfl) ?_
    refine lv_bipush (v := 8) hx hb d_Grid_isSide_6 (by decide) ?_
    refine xi_icmp_gt (tgt := 15) hx hb (rfl) (show (8 : Int32).toInt = 8 by decide) d_Grid_isSide_8 (by decide) (fun c8 => ?_) (fun c8 => ?_)
    · refine lv_iconst (v := 0) hx hb d_Grid_isSide_15 (by decide) ?_
      exact W.zret (v := 0) hx hb hr rfl (fun t ht hW => ⟨⟨0, (), rfl, (show (0 = 1 ∧ gd_ok p0.toInt) ∨ (0 = 0 ∧ ¬ gd_ok p0.toInt) from (by unfold gd_ok; first | exact Or.inl ⟨by decide, by omega⟩ | exact Or.inr ⟨by decide, by omega⟩)), by rw [ht]; exact hP, va_K.moved hW.alike hK, hD⟩, hS.F ht⟩) hS.2.2 d_Grid_isSide_16
    · refine lv_iconst (v := 1) hx hb d_Grid_isSide_11 (by decide) ?_
      refine lv_goto (tgt := 16) hx hb d_Grid_isSide_12 (by decide) ?_
      exact W.zret (v := 1) hx hb hr rfl (fun t ht hW => ⟨⟨1, (), rfl, (show (1 = 1 ∧ gd_ok p0.toInt) ∨ (1 = 0 ∧ ¬ gd_ok p0.toInt) from (by unfold gd_ok; first | exact Or.inl ⟨by decide, by omega⟩ | exact Or.inr ⟨by decide, by omega⟩)), by rw [ht]; exact hP, va_K.moved hW.alike hK, hD⟩, hS.F ht⟩) hS.2.2 d_Grid_isSide_16

set_option maxHeartbeats 4000000 in
set_option maxRecDepth 100000 in
theorem k_Grid_resize (l : Launch) (dC : Nat → ClassId) (dI : Nat → Nat → Nat) (cI cZ : ClassId) (oG : Nat) (aK : Nat) (aW : Nat) (wid : Int32) (hig : Int32) (cag : Nat → Int32) (wan : Nat → Int32) (sz : Nat) (p1 : Int32) (p2 : Int32) (wN : Nat) (hN : Nat) (ew : wid.toInt = (wN : Int)) (eh : hig.toInt = (hN : Int)) (hw1 : 1 ≤ wN ∧ wN ≤ 8) (hh1 : 1 ≤ hN ∧ hN ≤ 8) : Met l y_Grid_resize w_Grid_resize ({ frames := 1, cells := 0, slots := 0, locals := 20 }) (va_Pc [.ref oG, .int p1, .int p2] (fun U => U.heap.size = sz ∧ va_P (dC, dI) classes [(oG, .inr (2, [.int wid, .int hig, .ref aK, .ref aW])), (aK, .inl (cI, 64, .inl cag)), (aW, .inl (cI, 5, .inl wan))] U.heap ∧ va_K (dC, dI) classes [(cI, .int), (cZ, .boolean)] U ∧ va_D (fun _ => True) [(oG, .inr (2, [.int wid, .int hig, .ref aK, .ref aW])), (aK, .inl (cI, 64, .inl cag)), (aW, .inl (cI, 5, .inl wan))])) (va_Qi (fun (r : Int32) (u : Int32 × Int32 × (Nat → Int32)) => gd_set wid hig cag p1 p2 r u.1 u.2.1 u.2.2) (fun (u : Int32 × Int32 × (Nat → Int32)) (t : State) => va_P (dC, dI) classes [(oG, .inr (2, [.int u.1, .int u.2.1, .ref aK, .ref aW])), (aK, .inl (cI, 64, .inl u.2.2)), (aW, .inl (cI, 5, .inl wan))] t.heap ∧ va_K (dC, dI) classes [(cI, .int), (cZ, .boolean)] t ∧ va_D (va_A [(oG, .inr (2, [.int wid, .int hig, .ref aK, .ref aW])), (aK, .inl (cI, 64, .inl cag)), (aW, .inl (cI, 5, .inl wan))] sz) [(oG, .inr (2, [.int u.1, .int u.2.1, .ref aK, .ref aW])), (aK, .inl (cI, 64, .inl u.2.2)), (aW, .inl (cI, 5, .inl wan))]) (va_A [(oG, .inr (2, [.int wid, .int hig, .ref aK, .ref aW])), (aK, .inl (cI, 64, .inl cag)), (aW, .inl (cI, 5, .inl wan))] sz)) 0 0 (va_A [(oG, .inr (2, [.int wid, .int hig, .ref aK, .ref aW])), (aK, .inl (cI, 64, .inl cag)), (aW, .inl (cI, 5, .inl wan))] sz) := by
  refine Met.ofW (cc := b_Grid_resize) (maxL := 4) (ret := (some .boolean)) (by decide) rfl ?_
  intro p e s m args below meth c s₁ B hml hv
  obtain ⟨rfl, hsz, hP, hK, hD0⟩ := hv
  have hx := B.exec
  have hb := B.bytes
  have hr := B.returns
  have hts := atoms_spec (ws := w_Grid_resize) B.pre
  have hown : s.vm.findClass R_Grid = some m.cls := findClass_of_methodNamed B.named
  have hlocks := B.notSynchronized
  have hw_Grid : ∀ w ∈ w_Grid, w ∈ w_Grid_resize := by decide +kernel
  subst hsz
  have hD := hD0.self (sz := s.heap.size)
  generalize hAe : va_A [(oG, .inr (2, [.int wid, .int hig, .ref aK, .ref aW])), (aK, .inl (cI, 64, .inl cag)), (aW, .inl (cI, 5, .inl wan))] s.heap.size = A at hD ⊢
  have hA : ∀ q : Nat, s.heap.size ≤ q → A q := fun q h => by rw [← hAe]; exact Or.inr h
  have hS : va_S A s.heap s.heap [] := va_S.rf
  have hP : va_P (dC, dI) classes [(oG, .inr (2, [.int wid, .int hig, .ref aK, .ref aW])), (aK, .inl (cI, 64, .inl cag)), (aW, .inl (cI, 5, .inl wan))] s.heap := hP
  have hl := lv_entry ([.ref oG, .int p1, .int p2]) (n := 4) (Nat.le_of_ble_eq_true rfl)
  rw [lg_entry_eq]
  generalize (lg_sl ([.ref oG, .int p1, .int p2]) ++ List.replicate (4 - (lg_sl ([.ref oG, .int p1, .int p2])).length) Slot.unset).toArray = ls at hl ⊢
  have hl : lv_has ls 4 [(0, .ref oG), (1, .int p1), (2, .int p2)] := hl
  have loop28 : ∀ (n28 : Nat) (k : Nat) (x3 : Int32) (cag1 : Nat → Int32), (64 - k < n28) → (gd_ok p1.toInt ∧ gd_ok p2.toInt) → (k ≤ 64) → (x3.toInt = (k : Int)) → (∀ j, j < k → cag1 j = 0) → ∀ (H : Heap) (locs : List Loc), va_P (dC, dI) classes [(oG, .inr (2, [.int p1, .int p2, .ref aK, .ref aW])), (aK, .inl (cI, 64, .inl cag1)), (aW, .inl (cI, 5, .inl wan))] H → va_D A [(oG, .inr (2, [.int p1, .int p2, .ref aK, .ref aW])), (aK, .inl (cI, 64, .inl cag1)), (aW, .inl (cI, 5, .inl wan))] → va_S A s.heap H locs → ∀ (ls : Array Slot), lv_has ls 4 [(0, .ref oG), (1, .int p1), (2, .int p2), (3, .int x3)] → W p l e (headSpec w_Grid_resize ({ frames := 1, cells := 0, slots := 0, locals := 20 })).room s m ([.ref oG, .int p1, .int p2] : List Value).toArray below meth c H locs 0 0 (MQ below (va_Qi (fun (r : Int32) (u : Int32 × Int32 × (Nat → Int32)) => gd_set wid hig cag p1 p2 r u.1 u.2.1 u.2.2) (fun (u : Int32 × Int32 × (Nat → Int32)) (t : State) => va_P (dC, dI) classes [(oG, .inr (2, [.int u.1, .int u.2.1, .ref aK, .ref aW])), (aK, .inl (cI, 64, .inl u.2.2)), (aW, .inl (cI, 5, .inl wan))] t.heap ∧ va_K (dC, dI) classes [(cI, .int), (cZ, .boolean)] t ∧ va_D (A) [(oG, .inr (2, [.int u.1, .int u.2.1, .ref aK, .ref aW])), (aK, .inl (cI, 64, .inl u.2.2)), (aW, .inl (cI, 5, .inl wan))]) (A)) ([.ref oG, .int p1, .int p2] : List Value).toArray s 0 0 A) (F0 m 28 ls []) := by
    intro n28
    induction n28 with
    | zero => intro k x3 cag1 hmz28; omega
    | succ n28 ih28 =>
      intro k x3 cag1 hmz28 hv1 hk e3 hz H locs hP hD hS ls hl
      refine lv_iload_n hx hb d_Grid_resize_28 rfl (lv_at hl 3 rfl) ?_
      refine lv_aload_n hx hb d_Grid_resize_29 rfl (lv_at hl 0 rfl) ?_
      refine va_get (D := (dC, dI)) (ci := 2) (v := .ref aK) (C := R_Grid) (T := F_Grid) (N := 4) hx hb hts hw_Grid hown hK hP 0 rfl rfl 2 (by decide) (hts (.fieldLink R_Grid 18 "PageForms$Grid" "cages" "[I") (by decide +kernel)) (fun _ h9 => h9) rfl d_Grid_resize_30 ?_
      refine va_alen hx hb hK hP 1 0 rfl rfl (v := 64) rfl d_Grid_resize_33 ?_
      refine xi_icmp_ge (tgt := 50) hx hb e3 (show (64 : Int32).toInt = 64 by decide) d_Grid_resize_34 (by decide) (fun c34 => ?_) (fun c34 => ?_)
      · refine lv_iconst (v := 1) hx hb d_Grid_resize_50 (by decide) ?_
        exact W.zret (v := 1) hx hb hr rfl (fun t ht hW => ⟨⟨1, (p1, p2, cag1), rfl, (show gd_set wid hig cag p1 p2 (1 : Int32) p1 p2 cag1 from (Or.inl ⟨hv1.1, hv1.2, by decide, rfl, rfl, fun j hj => hz j (by omega)⟩)), by rw [ht]; exact hP, va_K.moved hW.alike hK, hD⟩, hS.F ht⟩) hS.2.2 d_Grid_resize_51
      · refine lv_aload_n hx hb d_Grid_resize_37 rfl (lv_at hl 0 rfl) ?_
        refine va_get (D := (dC, dI)) (ci := 2) (v := .ref aK) (C := R_Grid) (T := F_Grid) (N := 4) hx hb hts hw_Grid hown hK hP 0 rfl rfl 2 (by decide) (hts (.fieldLink R_Grid 18 "PageForms$Grid" "cages" "[I") (by decide +kernel)) (fun _ h9 => h9) rfl d_Grid_resize_38 ?_
        refine lv_iload_n hx hb d_Grid_resize_41 rfl (lv_at hl 3 rfl) ?_
        refine lv_iconst (v := 0) hx hb d_Grid_resize_42 (by decide) ?_
        refine xa_iast hx hb hK hP hD hS 1 0 rfl rfl e3 k (by omega) (by omega) d_Grid_resize_43 (fun H locs hP hD hS => ?_)
        have hP : va_P (dC, dI) classes [(oG, .inr (2, [.int p1, .int p2, .ref aK, .ref aW])), (aK, .inl (cI, 64, .inl (upd cag1 k 0))), (aW, .inl (cI, 5, .inl wan))] H := hP
        have hD : va_D A [(oG, .inr (2, [.int p1, .int p2, .ref aK, .ref aW])), (aK, .inl (cI, 64, .inl (upd cag1 k 0))), (aW, .inl (cI, 5, .inl wan))] := hD
        obtain ⟨v44, ev44⟩ : ∃ y : Int32, y = (x3 + 1) := ⟨_, rfl⟩
        have fv44 : v44.toInt = ((k : Int) + 1) := by rw [ev44]; exact xi_add e3 (show (1 : Int32).toInt = 1 by decide) (by omega) (by omega)
        refine lv_iinc (v := v44) (lv' := [(3, .int v44), (0, .ref oG), (1, .int p1), (2, .int p2)]) hx hb d_Grid_resize_44 hl (k := 3) rfl (by rw [ev44]; rfl) (by decide) rfl (fun ls hl => ?_)
        refine lv_goto (tgt := 28) hx hb d_Grid_resize_47 (by decide) ?_
        exact ih28 (k + 1) v44 (upd cag1 k 0) (by omega) hv1 (by omega) (by omega) (fun j hj => by rcases Nat.lt_or_ge j k with q | q; rw [xi_upd_n (by omega)]; exact hz j q; rw [show j = k by omega, xi_upd_s]) _ _ hP hD hS ls (lv_sub hl [1, 2, 3, 0] rfl)
  refine lv_iload_n hx hb d_Grid_resize_0 rfl (lv_at hl 1 rfl) ?_
  have hPc := hP.sub (ws' := []) [] rfl
  have hDc := hD.sub (ws' := []) [] (by decide) rfl
  have hFc := va_free (wc := []) hD hS hA [] rfl
  refine va_calli (va_runS (As := [.int p1]) (rest := []) ⟨hx, hb, hml, hown, hts⟩ (k_Grid_isSide l dC dI cI cZ s.heap.size p1) (cwS 1 hts g_Grid_resize_Grid_isSide rfl rfl rfl (by decide +kernel) ⟨Nat.le_of_ble_eq_true rfl, Nat.le_of_ble_eq_true rfl⟩) ⟨fun a U g mk q => by obtain ⟨q0, q1, qP, qK, qD⟩ := q; exact ⟨q0, q1, qP, va_K.moved (u := U) (U := U.calling g mk a) (Vm.Alike.refl U.vm) qK, qD⟩, fun U hU hW => ⟨rfl, by rw [hU], by rw [hU]; exact hPc, va_K.moved hW.alike hK, hDc.weaken (fun _ _ _ _ => trivial)⟩⟩ rfl rfl hl.1 rfl (lv_room (Nat.le_of_ble_eq_true rfl)) d_Grid_resize_1 ⟨Nat.le_of_ble_eq_true rfl, Nat.le_of_ble_eq_true rfl⟩) hS (fun q _ h => hFc q h) hFc (fun r1 u t H1 locs ht hvm hw hB hz1 hk1 hS => ?_)
  have w1 : (r1.toInt = 1 ∧ gd_ok p1.toInt) ∨ (r1.toInt = 0 ∧ ¬ gd_ok p1.toInt) := hw
  obtain ⟨hP1, hK1, hD1⟩ := hB
  rw [ht] at hP1
  obtain ⟨hP, hD⟩ := va_join (wr := [(oG, .inr (2, [.int wid, .int hig, .ref aK, .ref aW])), (aK, .inl (cI, 64, .inl cag)), (aW, .inl (cI, 5, .inl wan))]) (w1 := []) hP hD [] [0, 1, 2] rfl rfl (by decide) (by decide) hk1 hFc hP1 hD1
  generalize H1 = H at hP hS ⊢
  have hP : va_P (dC, dI) classes [(oG, .inr (2, [.int wid, .int hig, .ref aK, .ref aW])), (aK, .inl (cI, 64, .inl cag)), (aW, .inl (cI, 5, .inl wan))] H := hP
  have hD : va_D A [(oG, .inr (2, [.int wid, .int hig, .ref aK, .ref aW])), (aK, .inl (cI, 64, .inl cag)), (aW, .inl (cI, 5, .inl wan))] := hD
  refine xi_if_eq (tgt := 14) hx hb (rfl) d_Grid_resize_4 (by decide) (fun c4 => ?_) (fun c4 => ?_)
  · refine lv_iconst (v := 0) hx hb d_Grid_resize_14 (by decide) ?_
    exact W.zret (v := 0) hx hb hr rfl (fun t ht hW => ⟨⟨0, (wid, hig, cag), rfl, (show gd_set wid hig cag p1 p2 (0 : Int32) wid hig cag from (Or.inr ⟨fun q => by unfold gd_ok at *; omega, by decide, rfl, rfl, rfl⟩)), by rw [ht]; exact hP, va_K.moved hW.alike hK, hD⟩, hS.F ht⟩) hS.2.2 d_Grid_resize_15
  · refine lv_iload_n hx hb d_Grid_resize_7 rfl (lv_at hl 2 rfl) ?_
    have hPc := hP.sub (ws' := []) [] rfl
    have hDc := hD.sub (ws' := []) [] (by decide) rfl
    have hFc := va_free (wc := []) hD hS hA [] rfl
    refine va_calli (va_runS (As := [.int p2]) (rest := []) ⟨hx, hb, hml, hown, hts⟩ (k_Grid_isSide l dC dI cI cZ H.size p2) (cwS 1 hts g_Grid_resize_Grid_isSide rfl rfl rfl (by decide +kernel) ⟨Nat.le_of_ble_eq_true rfl, Nat.le_of_ble_eq_true rfl⟩) ⟨fun a U g mk q => by obtain ⟨q0, q1, qP, qK, qD⟩ := q; exact ⟨q0, q1, qP, va_K.moved (u := U) (U := U.calling g mk a) (Vm.Alike.refl U.vm) qK, qD⟩, fun U hU hW => ⟨rfl, by rw [hU], by rw [hU]; exact hPc, va_K.moved hW.alike hK, hDc.weaken (fun _ _ _ _ => trivial)⟩⟩ rfl rfl hl.1 rfl (lv_room (Nat.le_of_ble_eq_true rfl)) d_Grid_resize_8 ⟨Nat.le_of_ble_eq_true rfl, Nat.le_of_ble_eq_true rfl⟩) hS (fun q _ h => hFc q h) hFc (fun r8 u t H1 locs ht hvm hw hB hz1 hk1 hS => ?_)
    have w8 : (r8.toInt = 1 ∧ gd_ok p2.toInt) ∨ (r8.toInt = 0 ∧ ¬ gd_ok p2.toInt) := hw
    obtain ⟨hP1, hK1, hD1⟩ := hB
    rw [ht] at hP1
    obtain ⟨hP, hD⟩ := va_join (wr := [(oG, .inr (2, [.int wid, .int hig, .ref aK, .ref aW])), (aK, .inl (cI, 64, .inl cag)), (aW, .inl (cI, 5, .inl wan))]) (w1 := []) hP hD [] [0, 1, 2] rfl rfl (by decide) (by decide) hk1 hFc hP1 hD1
    generalize H1 = H at hP hS ⊢
    have hP : va_P (dC, dI) classes [(oG, .inr (2, [.int wid, .int hig, .ref aK, .ref aW])), (aK, .inl (cI, 64, .inl cag)), (aW, .inl (cI, 5, .inl wan))] H := hP
    have hD : va_D A [(oG, .inr (2, [.int wid, .int hig, .ref aK, .ref aW])), (aK, .inl (cI, 64, .inl cag)), (aW, .inl (cI, 5, .inl wan))] := hD
    refine xi_if_ne (tgt := 16) hx hb (rfl) d_Grid_resize_11 (by decide) (fun c11 => ?_) (fun c11 => ?_)
    · refine lv_aload_n hx hb d_Grid_resize_16 rfl (lv_at hl 0 rfl) ?_
      refine lv_iload_n hx hb d_Grid_resize_17 rfl (lv_at hl 1 rfl) ?_
      refine va_put (D := (dC, dI)) (ci := 2) (v := .int p1) (ty := .int) (C := R_Grid) (T := F_Grid) (N := 4) hx hb hts hw_Grid t_Grid t_Grid_ok n_Grid hown hK hP hD hS 0 rfl rfl 0 (by decide) (hts (.fieldLink R_Grid 9 "PageForms$Grid" "wide" "I") (by decide +kernel)) (fun _ h9 => h9) rfl (by decide +kernel) rfl rfl (Nat.le_of_ble_eq_true rfl) d_Grid_resize_18 (fun H locs hP hD hS => ?_)
      have hP : va_P (dC, dI) classes [(oG, .inr (2, [.int p1, .int hig, .ref aK, .ref aW])), (aK, .inl (cI, 64, .inl cag)), (aW, .inl (cI, 5, .inl wan))] H := hP
      have hD : va_D A [(oG, .inr (2, [.int p1, .int hig, .ref aK, .ref aW])), (aK, .inl (cI, 64, .inl cag)), (aW, .inl (cI, 5, .inl wan))] := hD
      refine lv_aload_n hx hb d_Grid_resize_21 rfl (lv_at hl 0 rfl) ?_
      refine lv_iload_n hx hb d_Grid_resize_22 rfl (lv_at hl 2 rfl) ?_
      refine va_put (D := (dC, dI)) (ci := 2) (v := .int p2) (ty := .int) (C := R_Grid) (T := F_Grid) (N := 4) hx hb hts hw_Grid t_Grid t_Grid_ok n_Grid hown hK hP hD hS 0 rfl rfl 1 (by decide) (hts (.fieldLink R_Grid 15 "PageForms$Grid" "high" "I") (by decide +kernel)) (fun _ h9 => h9) rfl (by decide +kernel) rfl rfl (Nat.le_of_ble_eq_true rfl) d_Grid_resize_23 (fun H locs hP hD hS => ?_)
      have hP : va_P (dC, dI) classes [(oG, .inr (2, [.int p1, .int p2, .ref aK, .ref aW])), (aK, .inl (cI, 64, .inl cag)), (aW, .inl (cI, 5, .inl wan))] H := hP
      have hD : va_D A [(oG, .inr (2, [.int p1, .int p2, .ref aK, .ref aW])), (aK, .inl (cI, 64, .inl cag)), (aW, .inl (cI, 5, .inl wan))] := hD
      have hv1 : gd_ok p1.toInt ∧ gd_ok p2.toInt := by unfold gd_ok at *; omega
      refine lv_iconst (v := 0) hx hb d_Grid_resize_26 (by decide) ?_
      refine lv_istore_n (lv' := [(3, .int 0), (0, .ref oG), (1, .int p1), (2, .int p2)]) hx hb d_Grid_resize_27 rfl hl (by decide) rfl (fun ls hl => ?_)
      exact loop28 65 0 0 cag (by omega) hv1 (by omega) (by decide) (fun j hj => by omega) _ _ hP hD hS ls (lv_sub hl [1, 2, 3, 0] rfl)
    · refine lv_iconst (v := 0) hx hb d_Grid_resize_14 (by decide) ?_
      exact W.zret (v := 0) hx hb hr rfl (fun t ht hW => ⟨⟨0, (wid, hig, cag), rfl, (show gd_set wid hig cag p1 p2 (0 : Int32) wid hig cag from (Or.inr ⟨fun q => by unfold gd_ok at *; omega, by decide, rfl, rfl, rfl⟩)), by rw [ht]; exact hP, va_K.moved hW.alike hK, hD⟩, hS.F ht⟩) hS.2.2 d_Grid_resize_15

set_option maxHeartbeats 4000000 in
set_option maxRecDepth 100000 in
theorem k_Grid_mark (l : Launch) (dC : Nat → ClassId) (dI : Nat → Nat → Nat) (cI cZ : ClassId) (oG : Nat) (aK : Nat) (aW : Nat) (wid : Int32) (hig : Int32) (cag : Nat → Int32) (wan : Nat → Int32) (sz : Nat) (p1 : Int32) (p2 : Int32) (wN : Nat) (hN : Nat) (ew : wid.toInt = (wN : Int)) (eh : hig.toInt = (hN : Int)) (hw1 : 1 ≤ wN ∧ wN ≤ 8) (hh1 : 1 ≤ hN ∧ hN ≤ 8) : Met l y_Grid_mark w_Grid_mark ({ frames := 0, cells := 0, slots := 0, locals := 0 }) (va_Pc [.ref oG, .int p1, .int p2] (fun U => U.heap.size = sz ∧ va_P (dC, dI) classes [(oG, .inr (2, [.int wid, .int hig, .ref aK, .ref aW])), (aK, .inl (cI, 64, .inl cag)), (aW, .inl (cI, 5, .inl wan))] U.heap ∧ va_K (dC, dI) classes [(cI, .int), (cZ, .boolean)] U ∧ va_D (fun _ => True) [(oG, .inr (2, [.int wid, .int hig, .ref aK, .ref aW])), (aK, .inl (cI, 64, .inl cag)), (aW, .inl (cI, 5, .inl wan))])) (va_Qi (fun (r : Int32) (u : (Nat → Int32)) => gd_mark wN hN cag p1 p2 r u) (fun (u : (Nat → Int32)) (t : State) => va_P (dC, dI) classes [(oG, .inr (2, [.int wid, .int hig, .ref aK, .ref aW])), (aK, .inl (cI, 64, .inl u)), (aW, .inl (cI, 5, .inl wan))] t.heap ∧ va_K (dC, dI) classes [(cI, .int), (cZ, .boolean)] t ∧ va_D (va_A [(oG, .inr (2, [.int wid, .int hig, .ref aK, .ref aW])), (aK, .inl (cI, 64, .inl cag)), (aW, .inl (cI, 5, .inl wan))] sz) [(oG, .inr (2, [.int wid, .int hig, .ref aK, .ref aW])), (aK, .inl (cI, 64, .inl u)), (aW, .inl (cI, 5, .inl wan))]) (va_A [(oG, .inr (2, [.int wid, .int hig, .ref aK, .ref aW])), (aK, .inl (cI, 64, .inl cag)), (aW, .inl (cI, 5, .inl wan))] sz)) 0 0 (va_A [(oG, .inr (2, [.int wid, .int hig, .ref aK, .ref aW])), (aK, .inl (cI, 64, .inl cag)), (aW, .inl (cI, 5, .inl wan))] sz) := by
  refine Met.ofW (cc := b_Grid_mark) (maxL := 3) (ret := (some .boolean)) (by decide) rfl ?_
  intro p e s m args below meth c s₁ B hml hv
  obtain ⟨rfl, hsz, hP, hK, hD0⟩ := hv
  have hx := B.exec
  have hb := B.bytes
  have hr := B.returns
  have hts := atoms_spec (ws := w_Grid_mark) B.pre
  have hown : s.vm.findClass R_Grid = some m.cls := findClass_of_methodNamed B.named
  have hlocks := B.notSynchronized
  have hw_Grid : ∀ w ∈ w_Grid, w ∈ w_Grid_mark := by decide +kernel
  subst hsz
  have hD := hD0.self (sz := s.heap.size)
  generalize hAe : va_A [(oG, .inr (2, [.int wid, .int hig, .ref aK, .ref aW])), (aK, .inl (cI, 64, .inl cag)), (aW, .inl (cI, 5, .inl wan))] s.heap.size = A at hD ⊢
  have hA : ∀ q : Nat, s.heap.size ≤ q → A q := fun q h => by rw [← hAe]; exact Or.inr h
  have hS : va_S A s.heap s.heap [] := va_S.rf
  have hP : va_P (dC, dI) classes [(oG, .inr (2, [.int wid, .int hig, .ref aK, .ref aW])), (aK, .inl (cI, 64, .inl cag)), (aW, .inl (cI, 5, .inl wan))] s.heap := hP
  have hl := lv_entry ([.ref oG, .int p1, .int p2]) (n := 3) (Nat.le_of_ble_eq_true rfl)
  rw [lg_entry_eq]
  generalize (lg_sl ([.ref oG, .int p1, .int p2]) ++ List.replicate (3 - (lg_sl ([.ref oG, .int p1, .int p2])).length) Slot.unset).toArray = ls at hl ⊢
  have hl : lv_has ls 3 [(0, .ref oG), (1, .int p1), (2, .int p2)] := hl
  have h64 := gd_64 hw1.2 hh1.2
  refine lv_iload_n hx hb d_Grid_mark_0 rfl (lv_at hl 1 rfl) ?_
  refine xi_if_lt (tgt := 27) hx hb (rfl) d_Grid_mark_1 (by decide) (fun c1 => ?_) (fun c1 => ?_)
  · refine lv_iconst (v := 0) hx hb d_Grid_mark_27 (by decide) ?_
    exact W.zret (v := 0) hx hb hr rfl (fun t ht hW => ⟨⟨0, cag, rfl, (show gd_mark wN hN cag p1 p2 (0 : Int32) cag from (Or.inr ⟨by omega, by decide, rfl⟩)), by rw [ht]; exact hP, va_K.moved hW.alike hK, hD⟩, hS.F ht⟩) hS.2.2 d_Grid_mark_28
  · refine lv_iload_n hx hb d_Grid_mark_4 rfl (lv_at hl 1 rfl) ?_
    refine lv_aload_n hx hb d_Grid_mark_5 rfl (lv_at hl 0 rfl) ?_
    refine va_get (D := (dC, dI)) (ci := 2) (v := .int wid) (C := R_Grid) (T := F_Grid) (N := 4) hx hb hts hw_Grid hown hK hP 0 rfl rfl 0 (by decide) (hts (.fieldLink R_Grid 9 "PageForms$Grid" "wide" "I") (by decide +kernel)) (fun _ h9 => h9) rfl d_Grid_mark_6 ?_
    refine lv_aload_n hx hb d_Grid_mark_9 rfl (lv_at hl 0 rfl) ?_
    refine va_get (D := (dC, dI)) (ci := 2) (v := .int hig) (C := R_Grid) (T := F_Grid) (N := 4) hx hb hts hw_Grid hown hK hP 0 rfl rfl 1 (by decide) (hts (.fieldLink R_Grid 15 "PageForms$Grid" "high" "I") (by decide +kernel)) (fun _ h9 => h9) rfl d_Grid_mark_10 ?_
    refine lv_imul hx hb d_Grid_mark_13 ?_
    have a13 : (wid * hig).toInt = ((wN * hN : Nat) : Int) := xi_mulN ew eh (by omega)
    refine xi_icmp_ge (tgt := 27) hx hb (rfl) a13 d_Grid_mark_14 (by decide) (fun c14 => ?_) (fun c14 => ?_)
    · refine lv_iconst (v := 0) hx hb d_Grid_mark_27 (by decide) ?_
      exact W.zret (v := 0) hx hb hr rfl (fun t ht hW => ⟨⟨0, cag, rfl, (show gd_mark wN hN cag p1 p2 (0 : Int32) cag from (Or.inr ⟨by omega, by decide, rfl⟩)), by rw [ht]; exact hP, va_K.moved hW.alike hK, hD⟩, hS.F ht⟩) hS.2.2 d_Grid_mark_28
    · refine lv_iload_n hx hb d_Grid_mark_17 rfl (lv_at hl 2 rfl) ?_
      refine xi_if_lt (tgt := 27) hx hb (rfl) d_Grid_mark_18 (by decide) (fun c18 => ?_) (fun c18 => ?_)
      · refine lv_iconst (v := 0) hx hb d_Grid_mark_27 (by decide) ?_
        exact W.zret (v := 0) hx hb hr rfl (fun t ht hW => ⟨⟨0, cag, rfl, (show gd_mark wN hN cag p1 p2 (0 : Int32) cag from (Or.inr ⟨by omega, by decide, rfl⟩)), by rw [ht]; exact hP, va_K.moved hW.alike hK, hD⟩, hS.F ht⟩) hS.2.2 d_Grid_mark_28
      · refine lv_iload_n hx hb d_Grid_mark_21 rfl (lv_at hl 2 rfl) ?_
        refine lv_bipush (v := 9) hx hb d_Grid_mark_22 (by decide) ?_
        refine xi_icmp_le (tgt := 29) hx hb (rfl) (show (9 : Int32).toInt = 9 by decide) d_Grid_mark_24 (by decide) (fun c24 => ?_) (fun c24 => ?_)
        · obtain ⟨y, hy⟩ : ∃ y : Nat, p1.toInt = (y : Int) := ⟨p1.toInt.toNat, by omega⟩
          refine lv_aload_n hx hb d_Grid_mark_29 rfl (lv_at hl 0 rfl) ?_
          refine va_get (D := (dC, dI)) (ci := 2) (v := .ref aK) (C := R_Grid) (T := F_Grid) (N := 4) hx hb hts hw_Grid hown hK hP 0 rfl rfl 2 (by decide) (hts (.fieldLink R_Grid 18 "PageForms$Grid" "cages" "[I") (by decide +kernel)) (fun _ h9 => h9) rfl d_Grid_mark_30 ?_
          refine lv_iload_n hx hb d_Grid_mark_33 rfl (lv_at hl 1 rfl) ?_
          refine lv_iload_n hx hb d_Grid_mark_34 rfl (lv_at hl 2 rfl) ?_
          refine xa_iast hx hb hK hP hD hS 1 0 rfl rfl hy y (by omega) (by omega) d_Grid_mark_35 (fun H locs hP hD hS => ?_)
          have hP : va_P (dC, dI) classes [(oG, .inr (2, [.int wid, .int hig, .ref aK, .ref aW])), (aK, .inl (cI, 64, .inl (upd cag y p2))), (aW, .inl (cI, 5, .inl wan))] H := hP
          have hD : va_D A [(oG, .inr (2, [.int wid, .int hig, .ref aK, .ref aW])), (aK, .inl (cI, 64, .inl (upd cag y p2))), (aW, .inl (cI, 5, .inl wan))] := hD
          refine lv_iconst (v := 1) hx hb d_Grid_mark_36 (by decide) ?_
          exact W.zret (v := 1) hx hb hr rfl (fun t ht hW => ⟨⟨1, (upd cag y p2), rfl, (show gd_mark wN hN cag p1 p2 (1 : Int32) (upd cag y p2) from (Or.inl ⟨by omega, by omega, by omega, by omega, by decide, by rw [hy]; rfl⟩)), by rw [ht]; exact hP, va_K.moved hW.alike hK, hD⟩, hS.F ht⟩) hS.2.2 d_Grid_mark_37
        · refine lv_iconst (v := 0) hx hb d_Grid_mark_27 (by decide) ?_
          exact W.zret (v := 0) hx hb hr rfl (fun t ht hW => ⟨⟨0, cag, rfl, (show gd_mark wN hN cag p1 p2 (0 : Int32) cag from (Or.inr ⟨by omega, by decide, rfl⟩)), by rw [ht]; exact hP, va_K.moved hW.alike hK, hD⟩, hS.F ht⟩) hS.2.2 d_Grid_mark_28

set_option maxHeartbeats 4000000 in
set_option maxRecDepth 100000 in
theorem k_Grid_isThick_a (l : Launch) (dC : Nat → ClassId) (dI : Nat → Nat → Nat) (cI cZ : ClassId) (oG : Nat) (aK : Nat) (aW : Nat) (wid : Int32) (hig : Int32) (cag : Nat → Int32) (wan : Nat → Int32) (sz : Nat) (p2 : Int32) (p3 : Int32) (wN : Nat) (hN : Nat) (q : Nat) (i : Nat) (ew : wid.toInt = (wN : Int)) (eh : hig.toInt = (hN : Int)) (hw1 : 1 ≤ wN ∧ wN ≤ 8) (hh1 : 1 ≤ hN ∧ hN ≤ 8) (eq : p2.toInt = (q : Int)) (ei : p3.toInt = (i : Int)) (hi : i < wN) (hq : q ≤ hN) : Met l y_Grid_isThick w_Grid_isThick ({ frames := 0, cells := 0, slots := 0, locals := 0 }) (va_Pc [.ref oG, .int 1, .int p2, .int p3] (fun U => U.heap.size = sz ∧ va_P (dC, dI) classes [(oG, .inr (2, [.int wid, .int hig, .ref aK, .ref aW])), (aK, .inl (cI, 64, .inl cag)), (aW, .inl (cI, 5, .inl wan))] U.heap ∧ va_K (dC, dI) classes [(cI, .int), (cZ, .boolean)] U ∧ va_D (fun _ => True) [(oG, .inr (2, [.int wid, .int hig, .ref aK, .ref aW])), (aK, .inl (cI, 64, .inl cag)), (aW, .inl (cI, 5, .inl wan))])) (va_Qi (fun (r : Int32) (u : Unit) => (r.toInt = 1 ∧ gd_a wN hN cag q i = true) ∨ (r.toInt = 0 ∧ gd_a wN hN cag q i = false)) (fun (u : Unit) (t : State) => va_P (dC, dI) classes [(oG, .inr (2, [.int wid, .int hig, .ref aK, .ref aW])), (aK, .inl (cI, 64, .inl cag)), (aW, .inl (cI, 5, .inl wan))] t.heap ∧ va_K (dC, dI) classes [(cI, .int), (cZ, .boolean)] t ∧ va_D (va_A [(oG, .inr (2, [.int wid, .int hig, .ref aK, .ref aW])), (aK, .inl (cI, 64, .inl cag)), (aW, .inl (cI, 5, .inl wan))] sz) [(oG, .inr (2, [.int wid, .int hig, .ref aK, .ref aW])), (aK, .inl (cI, 64, .inl cag)), (aW, .inl (cI, 5, .inl wan))]) (va_A [(oG, .inr (2, [.int wid, .int hig, .ref aK, .ref aW])), (aK, .inl (cI, 64, .inl cag)), (aW, .inl (cI, 5, .inl wan))] sz)) 0 0 (va_A [(oG, .inr (2, [.int wid, .int hig, .ref aK, .ref aW])), (aK, .inl (cI, 64, .inl cag)), (aW, .inl (cI, 5, .inl wan))] sz) := by
  refine Met.ofW (cc := b_Grid_isThick) (maxL := 7) (ret := (some .boolean)) (by decide) rfl ?_
  intro p e s m args below meth c s₁ B hml hv
  obtain ⟨rfl, hsz, hP, hK, hD0⟩ := hv
  have hx := B.exec
  have hb := B.bytes
  have hr := B.returns
  have hts := atoms_spec (ws := w_Grid_isThick) B.pre
  have hown : s.vm.findClass R_Grid = some m.cls := findClass_of_methodNamed B.named
  have hlocks := B.notSynchronized
  have hw_Grid : ∀ w ∈ w_Grid, w ∈ w_Grid_isThick := by decide +kernel
  subst hsz
  have hD := hD0.self (sz := s.heap.size)
  generalize hAe : va_A [(oG, .inr (2, [.int wid, .int hig, .ref aK, .ref aW])), (aK, .inl (cI, 64, .inl cag)), (aW, .inl (cI, 5, .inl wan))] s.heap.size = A at hD ⊢
  have hA : ∀ q : Nat, s.heap.size ≤ q → A q := fun q h => by rw [← hAe]; exact Or.inr h
  have hS : va_S A s.heap s.heap [] := va_S.rf
  have hP : va_P (dC, dI) classes [(oG, .inr (2, [.int wid, .int hig, .ref aK, .ref aW])), (aK, .inl (cI, 64, .inl cag)), (aW, .inl (cI, 5, .inl wan))] s.heap := hP
  have hl := lv_entry ([.ref oG, .int 1, .int p2, .int p3]) (n := 7) (Nat.le_of_ble_eq_true rfl)
  rw [lg_entry_eq]
  generalize (lg_sl ([.ref oG, .int 1, .int p2, .int p3]) ++ List.replicate (7 - (lg_sl ([.ref oG, .int 1, .int p2, .int p3])).length) Slot.unset).toArray = ls at hl ⊢
  have hl : lv_has ls 7 [(0, .ref oG), (1, .int 1), (2, .int p2), (3, .int p3)] := hl
  refine lv_iload_n hx hb d_Grid_isThick_0 rfl (lv_at hl 1 rfl) ?_
  refine xi_if_eq (tgt := 11) hx hb (show (1 : Int32).toInt = 1 by decide) d_Grid_isThick_1 (by decide) (fun c1 => absurd c1 (by decide)) (fun c1 => ?_)
  refine lv_aload_n hx hb d_Grid_isThick_4 rfl (lv_at hl 0 rfl) ?_
  refine va_get (D := (dC, dI)) (ci := 2) (v := .int hig) (C := R_Grid) (T := F_Grid) (N := 4) hx hb hts hw_Grid hown hK hP 0 rfl rfl 1 (by decide) (hts (.fieldLink R_Grid 15 "PageForms$Grid" "high" "I") (by decide +kernel)) (fun _ h9 => h9) rfl d_Grid_isThick_5 ?_
  refine lv_goto (tgt := 15) hx hb d_Grid_isThick_8 (by decide) ?_
  refine lv_istore (lv' := [(4, .int hig), (0, .ref oG), (1, .int 1), (2, .int p2), (3, .int p3)]) hx hb d_Grid_isThick_15 hl (by decide) rfl (fun ls hl => ?_)
  refine lv_iload_n hx hb d_Grid_isThick_17 rfl (lv_at hl 3 rfl) ?_
  refine xi_if_le (tgt := 27) hx hb eq d_Grid_isThick_18 (by decide) (fun c18 => ?_) (fun c18 => ?_)
  · refine lv_iconst (v := 1) hx hb d_Grid_isThick_27 (by decide) ?_
    exact W.zret (v := 1) hx hb hr rfl (fun t ht hW => ⟨⟨1, (), rfl, (show (1 = 1 ∧ gd_a wN hN cag q i = true) ∨ (1 = 0 ∧ gd_a wN hN cag q i = false) from (Or.inl ⟨by decide, decide_eq_true (by omega)⟩)), by rw [ht]; exact hP, va_K.moved hW.alike hK, hD⟩, hS.F ht⟩) hS.2.2 d_Grid_isThick_28
  · refine lv_iload_n hx hb d_Grid_isThick_21 rfl (lv_at hl 3 rfl) ?_
    refine lv_iload hx hb d_Grid_isThick_22 (lv_at hl 0 rfl) ?_
    refine xi_icmp_lt (tgt := 29) hx hb eq eh d_Grid_isThick_24 (by decide) (fun c24 => ?_) (fun c24 => ?_)
    · have hin : (i + wN * q) < 64 := gd_in hw1.2 hh1.2 hi (by omega)
      have hge : wN ≤ wN * q := gd_ge (by omega)
      refine lv_iload_n hx hb d_Grid_isThick_29 rfl (lv_at hl 2 rfl) ?_
      refine xi_if_eq (tgt := 44) hx hb (show (1 : Int32).toInt = 1 by decide) d_Grid_isThick_30 (by decide) (fun c30 => absurd c30 (by decide)) (fun c30 => ?_)
      refine lv_iload_n hx hb d_Grid_isThick_33 rfl (lv_at hl 4 rfl) ?_
      refine lv_aload_n hx hb d_Grid_isThick_34 rfl (lv_at hl 1 rfl) ?_
      refine va_get (D := (dC, dI)) (ci := 2) (v := .int wid) (C := R_Grid) (T := F_Grid) (N := 4) hx hb hts hw_Grid hown hK hP 0 rfl rfl 0 (by decide) (hts (.fieldLink R_Grid 9 "PageForms$Grid" "wide" "I") (by decide +kernel)) (fun _ h9 => h9) rfl d_Grid_isThick_35 ?_
      refine lv_iload_n hx hb d_Grid_isThick_38 rfl (lv_at hl 3 rfl) ?_
      refine lv_imul hx hb d_Grid_isThick_39 ?_
      have a39 : (wid * p2).toInt = ((wN * q : Nat) : Int) := xi_mulN ew eq (by omega)
      refine lv_iadd hx hb d_Grid_isThick_40 ?_
      have a40 : (p3 + (wid * p2)).toInt = ((i : Int) + ((wN * q : Nat) : Int)) := xi_add ei a39 (by omega) (by omega)
      refine lv_goto (tgt := 52) hx hb d_Grid_isThick_41 (by decide) ?_
      refine lv_topi (fun v52 ev52 => ?_)
      have fv52 : v52.toInt = ((i : Int) + ((wN * q : Nat) : Int)) := by rw [ev52]; exact a40
      refine lv_istore (lv' := [(5, .int v52), (4, .int hig), (0, .ref oG), (1, .int 1), (2, .int p2), (3, .int p3)]) hx hb d_Grid_isThick_52 hl (by decide) rfl (fun ls hl => ?_)
      refine lv_iload_n hx hb d_Grid_isThick_54 rfl (lv_at hl 3 rfl) ?_
      refine xi_if_eq (tgt := 68) hx hb (show (1 : Int32).toInt = 1 by decide) d_Grid_isThick_55 (by decide) (fun c55 => absurd c55 (by decide)) (fun c55 => ?_)
      refine lv_iload hx hb d_Grid_isThick_58 (lv_at hl 0 rfl) ?_
      refine lv_aload_n hx hb d_Grid_isThick_60 rfl (lv_at hl 2 rfl) ?_
      refine va_get (D := (dC, dI)) (ci := 2) (v := .int wid) (C := R_Grid) (T := F_Grid) (N := 4) hx hb hts hw_Grid hown hK hP 0 rfl rfl 0 (by decide) (hts (.fieldLink R_Grid 9 "PageForms$Grid" "wide" "I") (by decide +kernel)) (fun _ h9 => h9) rfl d_Grid_isThick_61 ?_
      refine lv_isub hx hb d_Grid_isThick_64 ?_
      have a64 : (v52 - wid).toInt = (((i : Int) + ((wN * q : Nat) : Int)) - (wN : Int)) := xi_sub fv52 ew (by omega) (by omega)
      refine lv_goto (tgt := 72) hx hb d_Grid_isThick_65 (by decide) ?_
      refine lv_topi (fun v72 ev72 => ?_)
      have fv72 : v72.toInt = (((i : Int) + ((wN * q : Nat) : Int)) - (wN : Int)) := by rw [ev72]; exact a64
      refine lv_istore (lv' := [(6, .int v72), (5, .int v52), (4, .int hig), (0, .ref oG), (1, .int 1), (2, .int p2), (3, .int p3)]) hx hb d_Grid_isThick_72 hl (by decide) rfl (fun ls hl => ?_)
      refine lv_aload_n hx hb d_Grid_isThick_74 rfl (lv_at hl 3 rfl) ?_
      refine va_get (D := (dC, dI)) (ci := 2) (v := .ref aK) (C := R_Grid) (T := F_Grid) (N := 4) hx hb hts hw_Grid hown hK hP 0 rfl rfl 2 (by decide) (hts (.fieldLink R_Grid 18 "PageForms$Grid" "cages" "[I") (by decide +kernel)) (fun _ h9 => h9) rfl d_Grid_isThick_75 ?_
      refine lv_iload hx hb d_Grid_isThick_78 (lv_at hl 1 rfl) ?_
      refine xa_iald hx hb hK hP 1 0 rfl rfl fv52 (i + wN * q) (by omega) (by omega) d_Grid_isThick_80 ?_
      refine lv_aload_n hx hb d_Grid_isThick_81 rfl (lv_at hl 3 rfl) ?_
      refine va_get (D := (dC, dI)) (ci := 2) (v := .ref aK) (C := R_Grid) (T := F_Grid) (N := 4) hx hb hts hw_Grid hown hK hP 0 rfl rfl 2 (by decide) (hts (.fieldLink R_Grid 18 "PageForms$Grid" "cages" "[I") (by decide +kernel)) (fun _ h9 => h9) rfl d_Grid_isThick_82 ?_
      refine lv_iload hx hb d_Grid_isThick_85 (lv_at hl 0 rfl) ?_
      refine xa_iald hx hb hK hP 1 0 rfl rfl fv72 (i + wN * q - wN) (by omega) (by omega) d_Grid_isThick_87 ?_
      refine xi_icmp_eq (tgt := 95) hx hb (rfl) (rfl) d_Grid_isThick_88 (by decide) (fun c88 => ?_) (fun c88 => ?_)
      · refine lv_iconst (v := 0) hx hb d_Grid_isThick_95 (by decide) ?_
        exact W.zret (v := 0) hx hb hr rfl (fun t ht hW => ⟨⟨0, (), rfl, (show (0 = 1 ∧ gd_a wN hN cag q i = true) ∨ (0 = 0 ∧ gd_a wN hN cag q i = false) from (Or.inr ⟨by decide, decide_eq_false (fun z => by rcases z with z | z | z; omega; omega; exact z (Int32.toInt_inj.mp c88))⟩)), by rw [ht]; exact hP, va_K.moved hW.alike hK, hD⟩, hS.F ht⟩) hS.2.2 d_Grid_isThick_96
      · refine lv_iconst (v := 1) hx hb d_Grid_isThick_91 (by decide) ?_
        refine lv_goto (tgt := 96) hx hb d_Grid_isThick_92 (by decide) ?_
        exact W.zret (v := 1) hx hb hr rfl (fun t ht hW => ⟨⟨1, (), rfl, (show (1 = 1 ∧ gd_a wN hN cag q i = true) ∨ (1 = 0 ∧ gd_a wN hN cag q i = false) from (Or.inl ⟨by decide, decide_eq_true (Or.inr (Or.inr (fun z => c88 (by rw [z]))))⟩)), by rw [ht]; exact hP, va_K.moved hW.alike hK, hD⟩, hS.F ht⟩) hS.2.2 d_Grid_isThick_96
    · refine lv_iconst (v := 1) hx hb d_Grid_isThick_27 (by decide) ?_
      exact W.zret (v := 1) hx hb hr rfl (fun t ht hW => ⟨⟨1, (), rfl, (show (1 = 1 ∧ gd_a wN hN cag q i = true) ∨ (1 = 0 ∧ gd_a wN hN cag q i = false) from (Or.inl ⟨by decide, decide_eq_true (by omega)⟩)), by rw [ht]; exact hP, va_K.moved hW.alike hK, hD⟩, hS.F ht⟩) hS.2.2 d_Grid_isThick_28

set_option maxHeartbeats 4000000 in
set_option maxRecDepth 100000 in
theorem k_Grid_isThick_s (l : Launch) (dC : Nat → ClassId) (dI : Nat → Nat → Nat) (cI cZ : ClassId) (oG : Nat) (aK : Nat) (aW : Nat) (wid : Int32) (hig : Int32) (cag : Nat → Int32) (wan : Nat → Int32) (sz : Nat) (p2 : Int32) (p3 : Int32) (wN : Nat) (hN : Nat) (q : Nat) (i : Nat) (ew : wid.toInt = (wN : Int)) (eh : hig.toInt = (hN : Int)) (hw1 : 1 ≤ wN ∧ wN ≤ 8) (hh1 : 1 ≤ hN ∧ hN ≤ 8) (eq : p2.toInt = (q : Int)) (ei : p3.toInt = (i : Int)) (hi : i < hN) (hq : q ≤ wN) : Met l y_Grid_isThick w_Grid_isThick ({ frames := 0, cells := 0, slots := 0, locals := 0 }) (va_Pc [.ref oG, .int 0, .int p2, .int p3] (fun U => U.heap.size = sz ∧ va_P (dC, dI) classes [(oG, .inr (2, [.int wid, .int hig, .ref aK, .ref aW])), (aK, .inl (cI, 64, .inl cag)), (aW, .inl (cI, 5, .inl wan))] U.heap ∧ va_K (dC, dI) classes [(cI, .int), (cZ, .boolean)] U ∧ va_D (fun _ => True) [(oG, .inr (2, [.int wid, .int hig, .ref aK, .ref aW])), (aK, .inl (cI, 64, .inl cag)), (aW, .inl (cI, 5, .inl wan))])) (va_Qi (fun (r : Int32) (u : Unit) => (r.toInt = 1 ∧ gd_s wN hN cag q i = true) ∨ (r.toInt = 0 ∧ gd_s wN hN cag q i = false)) (fun (u : Unit) (t : State) => va_P (dC, dI) classes [(oG, .inr (2, [.int wid, .int hig, .ref aK, .ref aW])), (aK, .inl (cI, 64, .inl cag)), (aW, .inl (cI, 5, .inl wan))] t.heap ∧ va_K (dC, dI) classes [(cI, .int), (cZ, .boolean)] t ∧ va_D (va_A [(oG, .inr (2, [.int wid, .int hig, .ref aK, .ref aW])), (aK, .inl (cI, 64, .inl cag)), (aW, .inl (cI, 5, .inl wan))] sz) [(oG, .inr (2, [.int wid, .int hig, .ref aK, .ref aW])), (aK, .inl (cI, 64, .inl cag)), (aW, .inl (cI, 5, .inl wan))]) (va_A [(oG, .inr (2, [.int wid, .int hig, .ref aK, .ref aW])), (aK, .inl (cI, 64, .inl cag)), (aW, .inl (cI, 5, .inl wan))] sz)) 0 0 (va_A [(oG, .inr (2, [.int wid, .int hig, .ref aK, .ref aW])), (aK, .inl (cI, 64, .inl cag)), (aW, .inl (cI, 5, .inl wan))] sz) := by
  refine Met.ofW (cc := b_Grid_isThick) (maxL := 7) (ret := (some .boolean)) (by decide) rfl ?_
  intro p e s m args below meth c s₁ B hml hv
  obtain ⟨rfl, hsz, hP, hK, hD0⟩ := hv
  have hx := B.exec
  have hb := B.bytes
  have hr := B.returns
  have hts := atoms_spec (ws := w_Grid_isThick) B.pre
  have hown : s.vm.findClass R_Grid = some m.cls := findClass_of_methodNamed B.named
  have hlocks := B.notSynchronized
  have hw_Grid : ∀ w ∈ w_Grid, w ∈ w_Grid_isThick := by decide +kernel
  subst hsz
  have hD := hD0.self (sz := s.heap.size)
  generalize hAe : va_A [(oG, .inr (2, [.int wid, .int hig, .ref aK, .ref aW])), (aK, .inl (cI, 64, .inl cag)), (aW, .inl (cI, 5, .inl wan))] s.heap.size = A at hD ⊢
  have hA : ∀ q : Nat, s.heap.size ≤ q → A q := fun q h => by rw [← hAe]; exact Or.inr h
  have hS : va_S A s.heap s.heap [] := va_S.rf
  have hP : va_P (dC, dI) classes [(oG, .inr (2, [.int wid, .int hig, .ref aK, .ref aW])), (aK, .inl (cI, 64, .inl cag)), (aW, .inl (cI, 5, .inl wan))] s.heap := hP
  have hl := lv_entry ([.ref oG, .int 0, .int p2, .int p3]) (n := 7) (Nat.le_of_ble_eq_true rfl)
  rw [lg_entry_eq]
  generalize (lg_sl ([.ref oG, .int 0, .int p2, .int p3]) ++ List.replicate (7 - (lg_sl ([.ref oG, .int 0, .int p2, .int p3])).length) Slot.unset).toArray = ls at hl ⊢
  have hl : lv_has ls 7 [(0, .ref oG), (1, .int 0), (2, .int p2), (3, .int p3)] := hl
  refine lv_iload_n hx hb d_Grid_isThick_0 rfl (lv_at hl 1 rfl) ?_
  refine xi_if_eq (tgt := 11) hx hb (show (0 : Int32).toInt = 0 by decide) d_Grid_isThick_1 (by decide) (fun c1 => ?_) (fun c1 => absurd c1 (by decide))
  refine lv_aload_n hx hb d_Grid_isThick_11 rfl (lv_at hl 0 rfl) ?_
  refine va_get (D := (dC, dI)) (ci := 2) (v := .int wid) (C := R_Grid) (T := F_Grid) (N := 4) hx hb hts hw_Grid hown hK hP 0 rfl rfl 0 (by decide) (hts (.fieldLink R_Grid 9 "PageForms$Grid" "wide" "I") (by decide +kernel)) (fun _ h9 => h9) rfl d_Grid_isThick_12 ?_
  refine lv_istore (lv' := [(4, .int wid), (0, .ref oG), (1, .int 0), (2, .int p2), (3, .int p3)]) hx hb d_Grid_isThick_15 hl (by decide) rfl (fun ls hl => ?_)
  refine lv_iload_n hx hb d_Grid_isThick_17 rfl (lv_at hl 3 rfl) ?_
  refine xi_if_le (tgt := 27) hx hb eq d_Grid_isThick_18 (by decide) (fun c18 => ?_) (fun c18 => ?_)
  · refine lv_iconst (v := 1) hx hb d_Grid_isThick_27 (by decide) ?_
    exact W.zret (v := 1) hx hb hr rfl (fun t ht hW => ⟨⟨1, (), rfl, (show (1 = 1 ∧ gd_s wN hN cag q i = true) ∨ (1 = 0 ∧ gd_s wN hN cag q i = false) from (Or.inl ⟨by decide, decide_eq_true (by omega)⟩)), by rw [ht]; exact hP, va_K.moved hW.alike hK, hD⟩, hS.F ht⟩) hS.2.2 d_Grid_isThick_28
  · refine lv_iload_n hx hb d_Grid_isThick_21 rfl (lv_at hl 3 rfl) ?_
    refine lv_iload hx hb d_Grid_isThick_22 (lv_at hl 0 rfl) ?_
    refine xi_icmp_lt (tgt := 29) hx hb eq ew d_Grid_isThick_24 (by decide) (fun c24 => ?_) (fun c24 => ?_)
    · have hin : (q + wN * i) < 64 := gd_in hw1.2 hh1.2 (by omega) hi
      refine lv_iload_n hx hb d_Grid_isThick_29 rfl (lv_at hl 2 rfl) ?_
      refine xi_if_eq (tgt := 44) hx hb (show (0 : Int32).toInt = 0 by decide) d_Grid_isThick_30 (by decide) (fun c30 => ?_) (fun c30 => absurd c30 (by decide))
      refine lv_iload_n hx hb d_Grid_isThick_44 rfl (lv_at hl 3 rfl) ?_
      refine lv_aload_n hx hb d_Grid_isThick_45 rfl (lv_at hl 1 rfl) ?_
      refine va_get (D := (dC, dI)) (ci := 2) (v := .int wid) (C := R_Grid) (T := F_Grid) (N := 4) hx hb hts hw_Grid hown hK hP 0 rfl rfl 0 (by decide) (hts (.fieldLink R_Grid 9 "PageForms$Grid" "wide" "I") (by decide +kernel)) (fun _ h9 => h9) rfl d_Grid_isThick_46 ?_
      refine lv_iload_n hx hb d_Grid_isThick_49 rfl (lv_at hl 4 rfl) ?_
      refine lv_imul hx hb d_Grid_isThick_50 ?_
      have a50 : (wid * p3).toInt = ((wN * i : Nat) : Int) := xi_mulN ew ei (by omega)
      refine lv_iadd hx hb d_Grid_isThick_51 ?_
      have a51 : (p2 + (wid * p3)).toInt = ((q : Int) + ((wN * i : Nat) : Int)) := xi_add eq a50 (by omega) (by omega)
      refine lv_topi (fun v52 ev52 => ?_)
      have fv52 : v52.toInt = ((q : Int) + ((wN * i : Nat) : Int)) := by rw [ev52]; exact a51
      refine lv_istore (lv' := [(5, .int v52), (4, .int wid), (0, .ref oG), (1, .int 0), (2, .int p2), (3, .int p3)]) hx hb d_Grid_isThick_52 hl (by decide) rfl (fun ls hl => ?_)
      refine lv_iload_n hx hb d_Grid_isThick_54 rfl (lv_at hl 3 rfl) ?_
      refine xi_if_eq (tgt := 68) hx hb (show (0 : Int32).toInt = 0 by decide) d_Grid_isThick_55 (by decide) (fun c55 => ?_) (fun c55 => absurd c55 (by decide))
      refine lv_iload hx hb d_Grid_isThick_68 (lv_at hl 0 rfl) ?_
      refine lv_iconst (v := 1) hx hb d_Grid_isThick_70 (by decide) ?_
      refine lv_isub hx hb d_Grid_isThick_71 ?_
      have a71 : (v52 - 1).toInt = (((q : Int) + ((wN * i : Nat) : Int)) - 1) := xi_sub fv52 (show (1 : Int32).toInt = 1 by decide) (by omega) (by omega)
      refine lv_topi (fun v72 ev72 => ?_)
      have fv72 : v72.toInt = (((q : Int) + ((wN * i : Nat) : Int)) - 1) := by rw [ev72]; exact a71
      refine lv_istore (lv' := [(6, .int v72), (5, .int v52), (4, .int wid), (0, .ref oG), (1, .int 0), (2, .int p2), (3, .int p3)]) hx hb d_Grid_isThick_72 hl (by decide) rfl (fun ls hl => ?_)
      refine lv_aload_n hx hb d_Grid_isThick_74 rfl (lv_at hl 3 rfl) ?_
      refine va_get (D := (dC, dI)) (ci := 2) (v := .ref aK) (C := R_Grid) (T := F_Grid) (N := 4) hx hb hts hw_Grid hown hK hP 0 rfl rfl 2 (by decide) (hts (.fieldLink R_Grid 18 "PageForms$Grid" "cages" "[I") (by decide +kernel)) (fun _ h9 => h9) rfl d_Grid_isThick_75 ?_
      refine lv_iload hx hb d_Grid_isThick_78 (lv_at hl 1 rfl) ?_
      refine xa_iald hx hb hK hP 1 0 rfl rfl fv52 (q + wN * i) (by omega) (by omega) d_Grid_isThick_80 ?_
      refine lv_aload_n hx hb d_Grid_isThick_81 rfl (lv_at hl 3 rfl) ?_
      refine va_get (D := (dC, dI)) (ci := 2) (v := .ref aK) (C := R_Grid) (T := F_Grid) (N := 4) hx hb hts hw_Grid hown hK hP 0 rfl rfl 2 (by decide) (hts (.fieldLink R_Grid 18 "PageForms$Grid" "cages" "[I") (by decide +kernel)) (fun _ h9 => h9) rfl d_Grid_isThick_82 ?_
      refine lv_iload hx hb d_Grid_isThick_85 (lv_at hl 0 rfl) ?_
      refine xa_iald hx hb hK hP 1 0 rfl rfl fv72 (q + wN * i - 1) (by omega) (by omega) d_Grid_isThick_87 ?_
      refine xi_icmp_eq (tgt := 95) hx hb (rfl) (rfl) d_Grid_isThick_88 (by decide) (fun c88 => ?_) (fun c88 => ?_)
      · refine lv_iconst (v := 0) hx hb d_Grid_isThick_95 (by decide) ?_
        exact W.zret (v := 0) hx hb hr rfl (fun t ht hW => ⟨⟨0, (), rfl, (show (0 = 1 ∧ gd_s wN hN cag q i = true) ∨ (0 = 0 ∧ gd_s wN hN cag q i = false) from (Or.inr ⟨by decide, decide_eq_false (fun z => by rcases z with z | z | z; omega; omega; exact z (Int32.toInt_inj.mp c88))⟩)), by rw [ht]; exact hP, va_K.moved hW.alike hK, hD⟩, hS.F ht⟩) hS.2.2 d_Grid_isThick_96
      · refine lv_iconst (v := 1) hx hb d_Grid_isThick_91 (by decide) ?_
        refine lv_goto (tgt := 96) hx hb d_Grid_isThick_92 (by decide) ?_
        exact W.zret (v := 1) hx hb hr rfl (fun t ht hW => ⟨⟨1, (), rfl, (show (1 = 1 ∧ gd_s wN hN cag q i = true) ∨ (1 = 0 ∧ gd_s wN hN cag q i = false) from (Or.inl ⟨by decide, decide_eq_true (Or.inr (Or.inr (fun z => c88 (by rw [z]))))⟩)), by rw [ht]; exact hP, va_K.moved hW.alike hK, hD⟩, hS.F ht⟩) hS.2.2 d_Grid_isThick_96
    · refine lv_iconst (v := 1) hx hb d_Grid_isThick_27 (by decide) ?_
      exact W.zret (v := 1) hx hb hr rfl (fun t ht hW => ⟨⟨1, (), rfl, (show (1 = 1 ∧ gd_s wN hN cag q i = true) ∨ (1 = 0 ∧ gd_s wN hN cag q i = false) from (Or.inl ⟨by decide, decide_eq_true (by omega)⟩)), by rw [ht]; exact hP, va_K.moved hW.alike hK, hD⟩, hS.F ht⟩) hS.2.2 d_Grid_isThick_28

set_option maxHeartbeats 4000000 in
set_option maxRecDepth 100000 in
theorem k_Grid_keepLine_a (l : Launch) (dC : Nat → ClassId) (dI : Nat → Nat → Nat) (cI cZ : ClassId) (oG : Nat) (aK : Nat) (aW : Nat) (wid : Int32) (hig : Int32) (cag : Nat → Int32) (wan : Nat → Int32) (sz : Nat) (p2 : Int32) (p3 : Int32) (p4 : Int32) (p5 : Int32) (wN : Nat) (hN : Nat) (ew : wid.toInt = (wN : Int)) (eh : hig.toInt = (hN : Int)) (hw1 : 1 ≤ wN ∧ wN ≤ 8) (hh1 : 1 ≤ hN ∧ hN ≤ 8) : Met l y_Grid_keepLine w_Grid_keepLine ({ frames := 0, cells := 0, slots := 0, locals := 0 }) (va_Pc [.ref oG, .int 1, .int p2, .int p3, .int p4, .int p5] (fun U => U.heap.size = sz ∧ va_P (dC, dI) classes [(oG, .inr (2, [.int wid, .int hig, .ref aK, .ref aW])), (aK, .inl (cI, 64, .inl cag)), (aW, .inl (cI, 5, .inl wan))] U.heap ∧ va_K (dC, dI) classes [(cI, .int), (cZ, .boolean)] U ∧ va_D (fun _ => True) [(oG, .inr (2, [.int wid, .int hig, .ref aK, .ref aW])), (aK, .inl (cI, 64, .inl cag)), (aW, .inl (cI, 5, .inl wan))])) (va_Qv (fun (u : (Nat → Int32)) => u 0 = p3 ∧ u 1 = p2 ∧ u 2 = p4 ∧ u 3 = p2 ∧ ((p5.toInt = 0 ∧ (u 4).toInt = 0) ∨ (¬ p5.toInt = 0 ∧ (u 4).toInt = 1))) (fun (u : (Nat → Int32)) (t : State) => va_P (dC, dI) classes [(oG, .inr (2, [.int wid, .int hig, .ref aK, .ref aW])), (aK, .inl (cI, 64, .inl cag)), (aW, .inl (cI, 5, .inl u))] t.heap ∧ va_K (dC, dI) classes [(cI, .int), (cZ, .boolean)] t ∧ va_D (va_A [(oG, .inr (2, [.int wid, .int hig, .ref aK, .ref aW])), (aK, .inl (cI, 64, .inl cag)), (aW, .inl (cI, 5, .inl wan))] sz) [(oG, .inr (2, [.int wid, .int hig, .ref aK, .ref aW])), (aK, .inl (cI, 64, .inl cag)), (aW, .inl (cI, 5, .inl u))]) (va_A [(oG, .inr (2, [.int wid, .int hig, .ref aK, .ref aW])), (aK, .inl (cI, 64, .inl cag)), (aW, .inl (cI, 5, .inl wan))] sz)) 0 0 (va_A [(oG, .inr (2, [.int wid, .int hig, .ref aK, .ref aW])), (aK, .inl (cI, 64, .inl cag)), (aW, .inl (cI, 5, .inl wan))] sz) := by
  refine Met.ofW (cc := b_Grid_keepLine) (maxL := 6) (ret := none) (by decide) rfl ?_
  intro p e s m args below meth c s₁ B hml hv
  obtain ⟨rfl, hsz, hP, hK, hD0⟩ := hv
  have hx := B.exec
  have hb := B.bytes
  have hr := B.returns
  have hts := atoms_spec (ws := w_Grid_keepLine) B.pre
  have hown : s.vm.findClass R_Grid = some m.cls := findClass_of_methodNamed B.named
  have hlocks := B.notSynchronized
  have hw_Grid : ∀ w ∈ w_Grid, w ∈ w_Grid_keepLine := by decide +kernel
  subst hsz
  have hD := hD0.self (sz := s.heap.size)
  generalize hAe : va_A [(oG, .inr (2, [.int wid, .int hig, .ref aK, .ref aW])), (aK, .inl (cI, 64, .inl cag)), (aW, .inl (cI, 5, .inl wan))] s.heap.size = A at hD ⊢
  have hA : ∀ q : Nat, s.heap.size ≤ q → A q := fun q h => by rw [← hAe]; exact Or.inr h
  have hS : va_S A s.heap s.heap [] := va_S.rf
  have hP : va_P (dC, dI) classes [(oG, .inr (2, [.int wid, .int hig, .ref aK, .ref aW])), (aK, .inl (cI, 64, .inl cag)), (aW, .inl (cI, 5, .inl wan))] s.heap := hP
  have hl := lv_entry ([.ref oG, .int 1, .int p2, .int p3, .int p4, .int p5]) (n := 6) (Nat.le_of_ble_eq_true rfl)
  rw [lg_entry_eq]
  generalize (lg_sl ([.ref oG, .int 1, .int p2, .int p3, .int p4, .int p5]) ++ List.replicate (6 - (lg_sl ([.ref oG, .int 1, .int p2, .int p3, .int p4, .int p5])).length) Slot.unset).toArray = ls at hl ⊢
  have hl : lv_has ls 6 [(0, .ref oG), (1, .int 1), (2, .int p2), (3, .int p3), (4, .int p4), (5, .int p5)] := hl
  refine lv_aload_n hx hb d_Grid_keepLine_0 rfl (lv_at hl 0 rfl) ?_
  refine va_get (D := (dC, dI)) (ci := 2) (v := .ref aW) (C := R_Grid) (T := F_Grid) (N := 4) hx hb hts hw_Grid hown hK hP 0 rfl rfl 3 (by decide) (hts (.fieldLink R_Grid 22 "PageForms$Grid" "wanted" "[I") (by decide +kernel)) (fun _ h9 => h9) rfl d_Grid_keepLine_1 ?_
  refine lv_iconst (v := 0) hx hb d_Grid_keepLine_4 (by decide) ?_
  refine lv_iload_n hx hb d_Grid_keepLine_5 rfl (lv_at hl 1 rfl) ?_
  refine xi_if_eq (tgt := 13) hx hb (show (1 : Int32).toInt = 1 by decide) d_Grid_keepLine_6 (by decide) (fun c6 => absurd c6 (by decide)) (fun c6 => ?_)
  refine lv_iload_n hx hb d_Grid_keepLine_9 rfl (lv_at hl 3 rfl) ?_
  refine lv_goto (tgt := 14) hx hb d_Grid_keepLine_10 (by decide) ?_
  refine xa_iast hx hb hK hP hD hS 2 0 rfl rfl (show (0 : Int32).toInt = 0 by decide) 0 (by omega) (by omega) d_Grid_keepLine_14 (fun H locs hP hD hS => ?_)
  have hP : va_P (dC, dI) classes [(oG, .inr (2, [.int wid, .int hig, .ref aK, .ref aW])), (aK, .inl (cI, 64, .inl cag)), (aW, .inl (cI, 5, .inl (upd wan 0 p3)))] H := hP
  have hD : va_D A [(oG, .inr (2, [.int wid, .int hig, .ref aK, .ref aW])), (aK, .inl (cI, 64, .inl cag)), (aW, .inl (cI, 5, .inl (upd wan 0 p3)))] := hD
  refine lv_aload_n hx hb d_Grid_keepLine_15 rfl (lv_at hl 0 rfl) ?_
  refine va_get (D := (dC, dI)) (ci := 2) (v := .ref aW) (C := R_Grid) (T := F_Grid) (N := 4) hx hb hts hw_Grid hown hK hP 0 rfl rfl 3 (by decide) (hts (.fieldLink R_Grid 22 "PageForms$Grid" "wanted" "[I") (by decide +kernel)) (fun _ h9 => h9) rfl d_Grid_keepLine_16 ?_
  refine lv_iconst (v := 1) hx hb d_Grid_keepLine_19 (by decide) ?_
  refine lv_iload_n hx hb d_Grid_keepLine_20 rfl (lv_at hl 1 rfl) ?_
  refine xi_if_eq (tgt := 28) hx hb (show (1 : Int32).toInt = 1 by decide) d_Grid_keepLine_21 (by decide) (fun c21 => absurd c21 (by decide)) (fun c21 => ?_)
  refine lv_iload_n hx hb d_Grid_keepLine_24 rfl (lv_at hl 2 rfl) ?_
  refine lv_goto (tgt := 29) hx hb d_Grid_keepLine_25 (by decide) ?_
  refine xa_iast hx hb hK hP hD hS 2 0 rfl rfl (show (1 : Int32).toInt = 1 by decide) 1 (by omega) (by omega) d_Grid_keepLine_29 (fun H locs hP hD hS => ?_)
  have hP : va_P (dC, dI) classes [(oG, .inr (2, [.int wid, .int hig, .ref aK, .ref aW])), (aK, .inl (cI, 64, .inl cag)), (aW, .inl (cI, 5, .inl (upd (upd wan 0 p3) 1 p2)))] H := hP
  have hD : va_D A [(oG, .inr (2, [.int wid, .int hig, .ref aK, .ref aW])), (aK, .inl (cI, 64, .inl cag)), (aW, .inl (cI, 5, .inl (upd (upd wan 0 p3) 1 p2)))] := hD
  refine lv_aload_n hx hb d_Grid_keepLine_30 rfl (lv_at hl 0 rfl) ?_
  refine va_get (D := (dC, dI)) (ci := 2) (v := .ref aW) (C := R_Grid) (T := F_Grid) (N := 4) hx hb hts hw_Grid hown hK hP 0 rfl rfl 3 (by decide) (hts (.fieldLink R_Grid 22 "PageForms$Grid" "wanted" "[I") (by decide +kernel)) (fun _ h9 => h9) rfl d_Grid_keepLine_31 ?_
  refine lv_iconst (v := 2) hx hb d_Grid_keepLine_34 (by decide) ?_
  refine lv_iload_n hx hb d_Grid_keepLine_35 rfl (lv_at hl 1 rfl) ?_
  refine xi_if_eq (tgt := 44) hx hb (show (1 : Int32).toInt = 1 by decide) d_Grid_keepLine_36 (by decide) (fun c36 => absurd c36 (by decide)) (fun c36 => ?_)
  refine lv_iload hx hb d_Grid_keepLine_39 (lv_at hl 4 rfl) ?_
  refine lv_goto (tgt := 45) hx hb d_Grid_keepLine_41 (by decide) ?_
  refine xa_iast hx hb hK hP hD hS 2 0 rfl rfl (show (2 : Int32).toInt = 2 by decide) 2 (by omega) (by omega) d_Grid_keepLine_45 (fun H locs hP hD hS => ?_)
  have hP : va_P (dC, dI) classes [(oG, .inr (2, [.int wid, .int hig, .ref aK, .ref aW])), (aK, .inl (cI, 64, .inl cag)), (aW, .inl (cI, 5, .inl (upd (upd (upd wan 0 p3) 1 p2) 2 p4)))] H := hP
  have hD : va_D A [(oG, .inr (2, [.int wid, .int hig, .ref aK, .ref aW])), (aK, .inl (cI, 64, .inl cag)), (aW, .inl (cI, 5, .inl (upd (upd (upd wan 0 p3) 1 p2) 2 p4)))] := hD
  refine lv_aload_n hx hb d_Grid_keepLine_46 rfl (lv_at hl 0 rfl) ?_
  refine va_get (D := (dC, dI)) (ci := 2) (v := .ref aW) (C := R_Grid) (T := F_Grid) (N := 4) hx hb hts hw_Grid hown hK hP 0 rfl rfl 3 (by decide) (hts (.fieldLink R_Grid 22 "PageForms$Grid" "wanted" "[I") (by decide +kernel)) (fun _ h9 => h9) rfl d_Grid_keepLine_47 ?_
  refine lv_iconst (v := 3) hx hb d_Grid_keepLine_50 (by decide) ?_
  refine lv_iload_n hx hb d_Grid_keepLine_51 rfl (lv_at hl 1 rfl) ?_
  refine xi_if_eq (tgt := 59) hx hb (show (1 : Int32).toInt = 1 by decide) d_Grid_keepLine_52 (by decide) (fun c52 => absurd c52 (by decide)) (fun c52 => ?_)
  refine lv_iload_n hx hb d_Grid_keepLine_55 rfl (lv_at hl 2 rfl) ?_
  refine lv_goto (tgt := 61) hx hb d_Grid_keepLine_56 (by decide) ?_
  refine xa_iast hx hb hK hP hD hS 2 0 rfl rfl (show (3 : Int32).toInt = 3 by decide) 3 (by omega) (by omega) d_Grid_keepLine_61 (fun H locs hP hD hS => ?_)
  have hP : va_P (dC, dI) classes [(oG, .inr (2, [.int wid, .int hig, .ref aK, .ref aW])), (aK, .inl (cI, 64, .inl cag)), (aW, .inl (cI, 5, .inl (upd (upd (upd (upd wan 0 p3) 1 p2) 2 p4) 3 p2)))] H := hP
  have hD : va_D A [(oG, .inr (2, [.int wid, .int hig, .ref aK, .ref aW])), (aK, .inl (cI, 64, .inl cag)), (aW, .inl (cI, 5, .inl (upd (upd (upd (upd wan 0 p3) 1 p2) 2 p4) 3 p2)))] := hD
  refine lv_aload_n hx hb d_Grid_keepLine_62 rfl (lv_at hl 0 rfl) ?_
  refine va_get (D := (dC, dI)) (ci := 2) (v := .ref aW) (C := R_Grid) (T := F_Grid) (N := 4) hx hb hts hw_Grid hown hK hP 0 rfl rfl 3 (by decide) (hts (.fieldLink R_Grid 22 "PageForms$Grid" "wanted" "[I") (by decide +kernel)) (fun _ h9 => h9) rfl d_Grid_keepLine_63 ?_
  refine lv_iconst (v := 4) hx hb d_Grid_keepLine_66 (by decide) ?_
  refine lv_iload hx hb d_Grid_keepLine_67 (lv_at hl 5 rfl) ?_
  refine xi_if_eq (tgt := 76) hx hb (rfl) d_Grid_keepLine_69 (by decide) (fun c69 => ?_) (fun c69 => ?_)
  · refine lv_iconst (v := 0) hx hb d_Grid_keepLine_76 (by decide) ?_
    refine xa_iast hx hb hK hP hD hS 2 0 rfl rfl (show (4 : Int32).toInt = 4 by decide) 4 (by omega) (by omega) d_Grid_keepLine_77 (fun H locs hP hD hS => ?_)
    have hP : va_P (dC, dI) classes [(oG, .inr (2, [.int wid, .int hig, .ref aK, .ref aW])), (aK, .inl (cI, 64, .inl cag)), (aW, .inl (cI, 5, .inl (upd (upd (upd (upd (upd wan 0 p3) 1 p2) 2 p4) 3 p2) 4 0)))] H := hP
    have hD : va_D A [(oG, .inr (2, [.int wid, .int hig, .ref aK, .ref aW])), (aK, .inl (cI, 64, .inl cag)), (aW, .inl (cI, 5, .inl (upd (upd (upd (upd (upd wan 0 p3) 1 p2) 2 p4) 3 p2) 4 0)))] := hD
    exact W.vret hx hb hr (fun t ht hW => ⟨⟨(upd (upd (upd (upd (upd wan 0 p3) 1 p2) 2 p4) 3 p2) 4 0), rfl, (show (upd (upd (upd (upd (upd wan 0 p3) 1 p2) 2 p4) 3 p2) 4 0) 0 = p3 ∧ (upd (upd (upd (upd (upd wan 0 p3) 1 p2) 2 p4) 3 p2) 4 0) 1 = p2 ∧ (upd (upd (upd (upd (upd wan 0 p3) 1 p2) 2 p4) 3 p2) 4 0) 2 = p4 ∧ (upd (upd (upd (upd (upd wan 0 p3) 1 p2) 2 p4) 3 p2) 4 0) 3 = p2 ∧ ((p5.toInt = 0 ∧ ((upd (upd (upd (upd (upd wan 0 p3) 1 p2) 2 p4) 3 p2) 4 0) 4).toInt = 0) ∨ (¬ p5.toInt = 0 ∧ ((upd (upd (upd (upd (upd wan 0 p3) 1 p2) 2 p4) 3 p2) 4 0) 4).toInt = 1)) from ⟨rfl, rfl, rfl, rfl, Or.inl ⟨c69, (show (0 : Int32).toInt = 0 by decide)⟩⟩), by rw [ht]; exact hP, va_K.moved hW.alike hK, hD⟩, hS.F ht⟩) hS.2.2 d_Grid_keepLine_78
  · refine lv_iconst (v := 1) hx hb d_Grid_keepLine_72 (by decide) ?_
    refine lv_goto (tgt := 77) hx hb d_Grid_keepLine_73 (by decide) ?_
    refine xa_iast hx hb hK hP hD hS 2 0 rfl rfl (show (4 : Int32).toInt = 4 by decide) 4 (by omega) (by omega) d_Grid_keepLine_77 (fun H locs hP hD hS => ?_)
    have hP : va_P (dC, dI) classes [(oG, .inr (2, [.int wid, .int hig, .ref aK, .ref aW])), (aK, .inl (cI, 64, .inl cag)), (aW, .inl (cI, 5, .inl (upd (upd (upd (upd (upd wan 0 p3) 1 p2) 2 p4) 3 p2) 4 1)))] H := hP
    have hD : va_D A [(oG, .inr (2, [.int wid, .int hig, .ref aK, .ref aW])), (aK, .inl (cI, 64, .inl cag)), (aW, .inl (cI, 5, .inl (upd (upd (upd (upd (upd wan 0 p3) 1 p2) 2 p4) 3 p2) 4 1)))] := hD
    exact W.vret hx hb hr (fun t ht hW => ⟨⟨(upd (upd (upd (upd (upd wan 0 p3) 1 p2) 2 p4) 3 p2) 4 1), rfl, (show (upd (upd (upd (upd (upd wan 0 p3) 1 p2) 2 p4) 3 p2) 4 1) 0 = p3 ∧ (upd (upd (upd (upd (upd wan 0 p3) 1 p2) 2 p4) 3 p2) 4 1) 1 = p2 ∧ (upd (upd (upd (upd (upd wan 0 p3) 1 p2) 2 p4) 3 p2) 4 1) 2 = p4 ∧ (upd (upd (upd (upd (upd wan 0 p3) 1 p2) 2 p4) 3 p2) 4 1) 3 = p2 ∧ ((p5.toInt = 0 ∧ ((upd (upd (upd (upd (upd wan 0 p3) 1 p2) 2 p4) 3 p2) 4 1) 4).toInt = 0) ∨ (¬ p5.toInt = 0 ∧ ((upd (upd (upd (upd (upd wan 0 p3) 1 p2) 2 p4) 3 p2) 4 1) 4).toInt = 1)) from ⟨rfl, rfl, rfl, rfl, Or.inr ⟨c69, (show (1 : Int32).toInt = 1 by decide)⟩⟩), by rw [ht]; exact hP, va_K.moved hW.alike hK, hD⟩, hS.F ht⟩) hS.2.2 d_Grid_keepLine_78

set_option maxHeartbeats 4000000 in
set_option maxRecDepth 100000 in
theorem k_Grid_keepLine_s (l : Launch) (dC : Nat → ClassId) (dI : Nat → Nat → Nat) (cI cZ : ClassId) (oG : Nat) (aK : Nat) (aW : Nat) (wid : Int32) (hig : Int32) (cag : Nat → Int32) (wan : Nat → Int32) (sz : Nat) (p2 : Int32) (p3 : Int32) (p4 : Int32) (p5 : Int32) (wN : Nat) (hN : Nat) (ew : wid.toInt = (wN : Int)) (eh : hig.toInt = (hN : Int)) (hw1 : 1 ≤ wN ∧ wN ≤ 8) (hh1 : 1 ≤ hN ∧ hN ≤ 8) : Met l y_Grid_keepLine w_Grid_keepLine ({ frames := 0, cells := 0, slots := 0, locals := 0 }) (va_Pc [.ref oG, .int 0, .int p2, .int p3, .int p4, .int p5] (fun U => U.heap.size = sz ∧ va_P (dC, dI) classes [(oG, .inr (2, [.int wid, .int hig, .ref aK, .ref aW])), (aK, .inl (cI, 64, .inl cag)), (aW, .inl (cI, 5, .inl wan))] U.heap ∧ va_K (dC, dI) classes [(cI, .int), (cZ, .boolean)] U ∧ va_D (fun _ => True) [(oG, .inr (2, [.int wid, .int hig, .ref aK, .ref aW])), (aK, .inl (cI, 64, .inl cag)), (aW, .inl (cI, 5, .inl wan))])) (va_Qv (fun (u : (Nat → Int32)) => u 0 = p2 ∧ u 1 = p3 ∧ u 2 = p2 ∧ u 3 = p4 ∧ ((p5.toInt = 0 ∧ (u 4).toInt = 0) ∨ (¬ p5.toInt = 0 ∧ (u 4).toInt = 1))) (fun (u : (Nat → Int32)) (t : State) => va_P (dC, dI) classes [(oG, .inr (2, [.int wid, .int hig, .ref aK, .ref aW])), (aK, .inl (cI, 64, .inl cag)), (aW, .inl (cI, 5, .inl u))] t.heap ∧ va_K (dC, dI) classes [(cI, .int), (cZ, .boolean)] t ∧ va_D (va_A [(oG, .inr (2, [.int wid, .int hig, .ref aK, .ref aW])), (aK, .inl (cI, 64, .inl cag)), (aW, .inl (cI, 5, .inl wan))] sz) [(oG, .inr (2, [.int wid, .int hig, .ref aK, .ref aW])), (aK, .inl (cI, 64, .inl cag)), (aW, .inl (cI, 5, .inl u))]) (va_A [(oG, .inr (2, [.int wid, .int hig, .ref aK, .ref aW])), (aK, .inl (cI, 64, .inl cag)), (aW, .inl (cI, 5, .inl wan))] sz)) 0 0 (va_A [(oG, .inr (2, [.int wid, .int hig, .ref aK, .ref aW])), (aK, .inl (cI, 64, .inl cag)), (aW, .inl (cI, 5, .inl wan))] sz) := by
  refine Met.ofW (cc := b_Grid_keepLine) (maxL := 6) (ret := none) (by decide) rfl ?_
  intro p e s m args below meth c s₁ B hml hv
  obtain ⟨rfl, hsz, hP, hK, hD0⟩ := hv
  have hx := B.exec
  have hb := B.bytes
  have hr := B.returns
  have hts := atoms_spec (ws := w_Grid_keepLine) B.pre
  have hown : s.vm.findClass R_Grid = some m.cls := findClass_of_methodNamed B.named
  have hlocks := B.notSynchronized
  have hw_Grid : ∀ w ∈ w_Grid, w ∈ w_Grid_keepLine := by decide +kernel
  subst hsz
  have hD := hD0.self (sz := s.heap.size)
  generalize hAe : va_A [(oG, .inr (2, [.int wid, .int hig, .ref aK, .ref aW])), (aK, .inl (cI, 64, .inl cag)), (aW, .inl (cI, 5, .inl wan))] s.heap.size = A at hD ⊢
  have hA : ∀ q : Nat, s.heap.size ≤ q → A q := fun q h => by rw [← hAe]; exact Or.inr h
  have hS : va_S A s.heap s.heap [] := va_S.rf
  have hP : va_P (dC, dI) classes [(oG, .inr (2, [.int wid, .int hig, .ref aK, .ref aW])), (aK, .inl (cI, 64, .inl cag)), (aW, .inl (cI, 5, .inl wan))] s.heap := hP
  have hl := lv_entry ([.ref oG, .int 0, .int p2, .int p3, .int p4, .int p5]) (n := 6) (Nat.le_of_ble_eq_true rfl)
  rw [lg_entry_eq]
  generalize (lg_sl ([.ref oG, .int 0, .int p2, .int p3, .int p4, .int p5]) ++ List.replicate (6 - (lg_sl ([.ref oG, .int 0, .int p2, .int p3, .int p4, .int p5])).length) Slot.unset).toArray = ls at hl ⊢
  have hl : lv_has ls 6 [(0, .ref oG), (1, .int 0), (2, .int p2), (3, .int p3), (4, .int p4), (5, .int p5)] := hl
  refine lv_aload_n hx hb d_Grid_keepLine_0 rfl (lv_at hl 0 rfl) ?_
  refine va_get (D := (dC, dI)) (ci := 2) (v := .ref aW) (C := R_Grid) (T := F_Grid) (N := 4) hx hb hts hw_Grid hown hK hP 0 rfl rfl 3 (by decide) (hts (.fieldLink R_Grid 22 "PageForms$Grid" "wanted" "[I") (by decide +kernel)) (fun _ h9 => h9) rfl d_Grid_keepLine_1 ?_
  refine lv_iconst (v := 0) hx hb d_Grid_keepLine_4 (by decide) ?_
  refine lv_iload_n hx hb d_Grid_keepLine_5 rfl (lv_at hl 1 rfl) ?_
  refine xi_if_eq (tgt := 13) hx hb (show (0 : Int32).toInt = 0 by decide) d_Grid_keepLine_6 (by decide) (fun c6 => ?_) (fun c6 => absurd c6 (by decide))
  refine lv_iload_n hx hb d_Grid_keepLine_13 rfl (lv_at hl 2 rfl) ?_
  refine xa_iast hx hb hK hP hD hS 2 0 rfl rfl (show (0 : Int32).toInt = 0 by decide) 0 (by omega) (by omega) d_Grid_keepLine_14 (fun H locs hP hD hS => ?_)
  have hP : va_P (dC, dI) classes [(oG, .inr (2, [.int wid, .int hig, .ref aK, .ref aW])), (aK, .inl (cI, 64, .inl cag)), (aW, .inl (cI, 5, .inl (upd wan 0 p2)))] H := hP
  have hD : va_D A [(oG, .inr (2, [.int wid, .int hig, .ref aK, .ref aW])), (aK, .inl (cI, 64, .inl cag)), (aW, .inl (cI, 5, .inl (upd wan 0 p2)))] := hD
  refine lv_aload_n hx hb d_Grid_keepLine_15 rfl (lv_at hl 0 rfl) ?_
  refine va_get (D := (dC, dI)) (ci := 2) (v := .ref aW) (C := R_Grid) (T := F_Grid) (N := 4) hx hb hts hw_Grid hown hK hP 0 rfl rfl 3 (by decide) (hts (.fieldLink R_Grid 22 "PageForms$Grid" "wanted" "[I") (by decide +kernel)) (fun _ h9 => h9) rfl d_Grid_keepLine_16 ?_
  refine lv_iconst (v := 1) hx hb d_Grid_keepLine_19 (by decide) ?_
  refine lv_iload_n hx hb d_Grid_keepLine_20 rfl (lv_at hl 1 rfl) ?_
  refine xi_if_eq (tgt := 28) hx hb (show (0 : Int32).toInt = 0 by decide) d_Grid_keepLine_21 (by decide) (fun c21 => ?_) (fun c21 => absurd c21 (by decide))
  refine lv_iload_n hx hb d_Grid_keepLine_28 rfl (lv_at hl 3 rfl) ?_
  refine xa_iast hx hb hK hP hD hS 2 0 rfl rfl (show (1 : Int32).toInt = 1 by decide) 1 (by omega) (by omega) d_Grid_keepLine_29 (fun H locs hP hD hS => ?_)
  have hP : va_P (dC, dI) classes [(oG, .inr (2, [.int wid, .int hig, .ref aK, .ref aW])), (aK, .inl (cI, 64, .inl cag)), (aW, .inl (cI, 5, .inl (upd (upd wan 0 p2) 1 p3)))] H := hP
  have hD : va_D A [(oG, .inr (2, [.int wid, .int hig, .ref aK, .ref aW])), (aK, .inl (cI, 64, .inl cag)), (aW, .inl (cI, 5, .inl (upd (upd wan 0 p2) 1 p3)))] := hD
  refine lv_aload_n hx hb d_Grid_keepLine_30 rfl (lv_at hl 0 rfl) ?_
  refine va_get (D := (dC, dI)) (ci := 2) (v := .ref aW) (C := R_Grid) (T := F_Grid) (N := 4) hx hb hts hw_Grid hown hK hP 0 rfl rfl 3 (by decide) (hts (.fieldLink R_Grid 22 "PageForms$Grid" "wanted" "[I") (by decide +kernel)) (fun _ h9 => h9) rfl d_Grid_keepLine_31 ?_
  refine lv_iconst (v := 2) hx hb d_Grid_keepLine_34 (by decide) ?_
  refine lv_iload_n hx hb d_Grid_keepLine_35 rfl (lv_at hl 1 rfl) ?_
  refine xi_if_eq (tgt := 44) hx hb (show (0 : Int32).toInt = 0 by decide) d_Grid_keepLine_36 (by decide) (fun c36 => ?_) (fun c36 => absurd c36 (by decide))
  refine lv_iload_n hx hb d_Grid_keepLine_44 rfl (lv_at hl 2 rfl) ?_
  refine xa_iast hx hb hK hP hD hS 2 0 rfl rfl (show (2 : Int32).toInt = 2 by decide) 2 (by omega) (by omega) d_Grid_keepLine_45 (fun H locs hP hD hS => ?_)
  have hP : va_P (dC, dI) classes [(oG, .inr (2, [.int wid, .int hig, .ref aK, .ref aW])), (aK, .inl (cI, 64, .inl cag)), (aW, .inl (cI, 5, .inl (upd (upd (upd wan 0 p2) 1 p3) 2 p2)))] H := hP
  have hD : va_D A [(oG, .inr (2, [.int wid, .int hig, .ref aK, .ref aW])), (aK, .inl (cI, 64, .inl cag)), (aW, .inl (cI, 5, .inl (upd (upd (upd wan 0 p2) 1 p3) 2 p2)))] := hD
  refine lv_aload_n hx hb d_Grid_keepLine_46 rfl (lv_at hl 0 rfl) ?_
  refine va_get (D := (dC, dI)) (ci := 2) (v := .ref aW) (C := R_Grid) (T := F_Grid) (N := 4) hx hb hts hw_Grid hown hK hP 0 rfl rfl 3 (by decide) (hts (.fieldLink R_Grid 22 "PageForms$Grid" "wanted" "[I") (by decide +kernel)) (fun _ h9 => h9) rfl d_Grid_keepLine_47 ?_
  refine lv_iconst (v := 3) hx hb d_Grid_keepLine_50 (by decide) ?_
  refine lv_iload_n hx hb d_Grid_keepLine_51 rfl (lv_at hl 1 rfl) ?_
  refine xi_if_eq (tgt := 59) hx hb (show (0 : Int32).toInt = 0 by decide) d_Grid_keepLine_52 (by decide) (fun c52 => ?_) (fun c52 => absurd c52 (by decide))
  refine lv_iload hx hb d_Grid_keepLine_59 (lv_at hl 4 rfl) ?_
  refine xa_iast hx hb hK hP hD hS 2 0 rfl rfl (show (3 : Int32).toInt = 3 by decide) 3 (by omega) (by omega) d_Grid_keepLine_61 (fun H locs hP hD hS => ?_)
  have hP : va_P (dC, dI) classes [(oG, .inr (2, [.int wid, .int hig, .ref aK, .ref aW])), (aK, .inl (cI, 64, .inl cag)), (aW, .inl (cI, 5, .inl (upd (upd (upd (upd wan 0 p2) 1 p3) 2 p2) 3 p4)))] H := hP
  have hD : va_D A [(oG, .inr (2, [.int wid, .int hig, .ref aK, .ref aW])), (aK, .inl (cI, 64, .inl cag)), (aW, .inl (cI, 5, .inl (upd (upd (upd (upd wan 0 p2) 1 p3) 2 p2) 3 p4)))] := hD
  refine lv_aload_n hx hb d_Grid_keepLine_62 rfl (lv_at hl 0 rfl) ?_
  refine va_get (D := (dC, dI)) (ci := 2) (v := .ref aW) (C := R_Grid) (T := F_Grid) (N := 4) hx hb hts hw_Grid hown hK hP 0 rfl rfl 3 (by decide) (hts (.fieldLink R_Grid 22 "PageForms$Grid" "wanted" "[I") (by decide +kernel)) (fun _ h9 => h9) rfl d_Grid_keepLine_63 ?_
  refine lv_iconst (v := 4) hx hb d_Grid_keepLine_66 (by decide) ?_
  refine lv_iload hx hb d_Grid_keepLine_67 (lv_at hl 5 rfl) ?_
  refine xi_if_eq (tgt := 76) hx hb (rfl) d_Grid_keepLine_69 (by decide) (fun c69 => ?_) (fun c69 => ?_)
  · refine lv_iconst (v := 0) hx hb d_Grid_keepLine_76 (by decide) ?_
    refine xa_iast hx hb hK hP hD hS 2 0 rfl rfl (show (4 : Int32).toInt = 4 by decide) 4 (by omega) (by omega) d_Grid_keepLine_77 (fun H locs hP hD hS => ?_)
    have hP : va_P (dC, dI) classes [(oG, .inr (2, [.int wid, .int hig, .ref aK, .ref aW])), (aK, .inl (cI, 64, .inl cag)), (aW, .inl (cI, 5, .inl (upd (upd (upd (upd (upd wan 0 p2) 1 p3) 2 p2) 3 p4) 4 0)))] H := hP
    have hD : va_D A [(oG, .inr (2, [.int wid, .int hig, .ref aK, .ref aW])), (aK, .inl (cI, 64, .inl cag)), (aW, .inl (cI, 5, .inl (upd (upd (upd (upd (upd wan 0 p2) 1 p3) 2 p2) 3 p4) 4 0)))] := hD
    exact W.vret hx hb hr (fun t ht hW => ⟨⟨(upd (upd (upd (upd (upd wan 0 p2) 1 p3) 2 p2) 3 p4) 4 0), rfl, (show (upd (upd (upd (upd (upd wan 0 p2) 1 p3) 2 p2) 3 p4) 4 0) 0 = p2 ∧ (upd (upd (upd (upd (upd wan 0 p2) 1 p3) 2 p2) 3 p4) 4 0) 1 = p3 ∧ (upd (upd (upd (upd (upd wan 0 p2) 1 p3) 2 p2) 3 p4) 4 0) 2 = p2 ∧ (upd (upd (upd (upd (upd wan 0 p2) 1 p3) 2 p2) 3 p4) 4 0) 3 = p4 ∧ ((p5.toInt = 0 ∧ ((upd (upd (upd (upd (upd wan 0 p2) 1 p3) 2 p2) 3 p4) 4 0) 4).toInt = 0) ∨ (¬ p5.toInt = 0 ∧ ((upd (upd (upd (upd (upd wan 0 p2) 1 p3) 2 p2) 3 p4) 4 0) 4).toInt = 1)) from ⟨rfl, rfl, rfl, rfl, Or.inl ⟨c69, (show (0 : Int32).toInt = 0 by decide)⟩⟩), by rw [ht]; exact hP, va_K.moved hW.alike hK, hD⟩, hS.F ht⟩) hS.2.2 d_Grid_keepLine_78
  · refine lv_iconst (v := 1) hx hb d_Grid_keepLine_72 (by decide) ?_
    refine lv_goto (tgt := 77) hx hb d_Grid_keepLine_73 (by decide) ?_
    refine xa_iast hx hb hK hP hD hS 2 0 rfl rfl (show (4 : Int32).toInt = 4 by decide) 4 (by omega) (by omega) d_Grid_keepLine_77 (fun H locs hP hD hS => ?_)
    have hP : va_P (dC, dI) classes [(oG, .inr (2, [.int wid, .int hig, .ref aK, .ref aW])), (aK, .inl (cI, 64, .inl cag)), (aW, .inl (cI, 5, .inl (upd (upd (upd (upd (upd wan 0 p2) 1 p3) 2 p2) 3 p4) 4 1)))] H := hP
    have hD : va_D A [(oG, .inr (2, [.int wid, .int hig, .ref aK, .ref aW])), (aK, .inl (cI, 64, .inl cag)), (aW, .inl (cI, 5, .inl (upd (upd (upd (upd (upd wan 0 p2) 1 p3) 2 p2) 3 p4) 4 1)))] := hD
    exact W.vret hx hb hr (fun t ht hW => ⟨⟨(upd (upd (upd (upd (upd wan 0 p2) 1 p3) 2 p2) 3 p4) 4 1), rfl, (show (upd (upd (upd (upd (upd wan 0 p2) 1 p3) 2 p2) 3 p4) 4 1) 0 = p2 ∧ (upd (upd (upd (upd (upd wan 0 p2) 1 p3) 2 p2) 3 p4) 4 1) 1 = p3 ∧ (upd (upd (upd (upd (upd wan 0 p2) 1 p3) 2 p2) 3 p4) 4 1) 2 = p2 ∧ (upd (upd (upd (upd (upd wan 0 p2) 1 p3) 2 p2) 3 p4) 4 1) 3 = p4 ∧ ((p5.toInt = 0 ∧ ((upd (upd (upd (upd (upd wan 0 p2) 1 p3) 2 p2) 3 p4) 4 1) 4).toInt = 0) ∨ (¬ p5.toInt = 0 ∧ ((upd (upd (upd (upd (upd wan 0 p2) 1 p3) 2 p2) 3 p4) 4 1) 4).toInt = 1)) from ⟨rfl, rfl, rfl, rfl, Or.inr ⟨c69, (show (1 : Int32).toInt = 1 by decide)⟩⟩), by rw [ht]; exact hP, va_K.moved hW.alike hK, hD⟩, hS.F ht⟩) hS.2.2 d_Grid_keepLine_78
