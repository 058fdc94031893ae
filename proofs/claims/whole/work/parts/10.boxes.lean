set_option maxHeartbeats 4000000 in
set_option maxRecDepth 100000 in
theorem k_Boxes_init (l : Launch) (dC : Nat → ClassId) (dI : Nat → Nat → Nat) (cI cZ : ClassId) (oB : Nat) (sz : Nat) : Met l y_Boxes_init w_Boxes_init ({ frames := 1, cells := 1, slots := 60, locals := 12 }) (va_Pc [.ref oB] (fun U => U.heap.size = sz ∧ va_P (dC, dI) classes [(oB, .inr (0, [.int 0, .null, .int 0, .int 0]))] U.heap ∧ va_K (dC, dI) classes [(cI, .int), (cZ, .boolean)] U ∧ va_D (fun _ => True) [(oB, .inr (0, [.int 0, .null, .int 0, .int 0]))])) (va_Qv (fun (u : Unit) => True) (fun (u : Unit) (t : State) => ∃ (aH : Nat), va_P (dC, dI) classes [(oB, .inr (0, [.int 0, .ref aH, .int (-1), .int 0])), (aH, .inl (cI, 60, .inl (fun _ => 0)))] t.heap ∧ va_K (dC, dI) classes [(cI, .int), (cZ, .boolean)] t ∧ va_D (va_A [(oB, .inr (0, [.int 0, .null, .int 0, .int 0]))] sz) [(oB, .inr (0, [.int 0, .ref aH, .int (-1), .int 0])), (aH, .inl (cI, 60, .inl (fun _ => 0)))]) (va_A [(oB, .inr (0, [.int 0, .null, .int 0, .int 0]))] sz)) 1 60 (va_A [(oB, .inr (0, [.int 0, .null, .int 0, .int 0]))] sz) := by
  refine Met.ofW (cc := b_Boxes_init) (maxL := 1) (ret := none) (by decide) rfl ?_
  intro p e s m args below meth c s₁ B hml hv
  obtain ⟨rfl, hsz, hP, hK, hD0⟩ := hv
  have hx := B.exec
  have hb := B.bytes
  have hr := B.returns
  have hts := atoms_spec (ws := w_Boxes_init) B.pre
  have hown : s.vm.findClass R_Boxes = some m.cls := findClass_of_methodNamed B.named
  have hlocks := B.notSynchronized
  have hin : meth.name = "<init>" := (name_of_methodNamed B.named B.method).1
  have hw_Boxes : ∀ w ∈ w_Boxes, w ∈ w_Boxes_init := by decide +kernel
  subst hsz
  have hD := hD0.self (sz := s.heap.size)
  generalize hAe : va_A [(oB, .inr (0, [.int 0, .null, .int 0, .int 0]))] s.heap.size = A at hD ⊢
  have hA : ∀ q : Nat, s.heap.size ≤ q → A q := fun q h => by rw [← hAe]; exact Or.inr h
  have hS : va_S A s.heap s.heap [] := va_S.rf
  have hP : va_P (dC, dI) classes [(oB, .inr (0, [.int 0, .null, .int 0, .int 0]))] s.heap := hP
  have hl := lv_entry ([.ref oB]) (n := 1) (Nat.le_of_ble_eq_true rfl)
  rw [lg_entry_eq]
  generalize (lg_sl ([.ref oB]) ++ List.replicate (1 - (lg_sl ([.ref oB])).length) Slot.unset).toArray = ls at hl ⊢
  have hl : lv_has ls 1 [(0, .ref oB)] := hl
  refine lv_aload_n hx hb d_Boxes_init_0 rfl (lv_at hl 0 rfl) ?_
  refine W.objInit hx hb hown (hts (.methodLink R_Boxes 3 objectInit) (by decide +kernel)) (hts (.instanceMethod objectInit) (by decide +kernel)) (hts (.code objectInit ⟨#[0xb1]⟩ 1 none) (by decide +kernel)) rfl (by rw [hml]; exact hl.1) rfl d_Boxes_init_1 (Nat.le_of_ble_eq_true rfl) (Nat.le_of_ble_eq_true rfl) ?_
  refine W.eq (g2 := F0 m 4 ls []) rfl ?_
  refine lv_aload_n hx hb d_Boxes_init_4 rfl (lv_at hl 0 rfl) ?_
  refine lv_iconst (v := 0) hx hb d_Boxes_init_5 (by decide) ?_
  refine va_put (D := (dC, dI)) (ci := 0) (v := .int 0) (ty := .int) (C := R_Boxes) (T := F_Boxes) (N := 4) hx hb hts hw_Boxes t_Boxes t_Boxes_ok n_Boxes hown hK hP hD hS 0 rfl rfl 0 (by decide) (hts (.fieldLink R_Boxes 9 "PageForms$Boxes" "count" "I") (by decide +kernel)) (fun _ h9 => h9) rfl (by decide +kernel) rfl rfl (Nat.le_of_ble_eq_true rfl) d_Boxes_init_6 (fun H locs hP hD hS => ?_)
  have hP : va_P (dC, dI) classes [(oB, .inr (0, [.int 0, .null, .int 0, .int 0]))] H := hP
  have hD : va_D A [(oB, .inr (0, [.int 0, .null, .int 0, .int 0]))] := hD
  refine lv_aload_n hx hb d_Boxes_init_9 rfl (lv_at hl 0 rfl) ?_
  refine lv_bipush (v := 60) hx hb d_Boxes_init_10 (by decide) ?_
  have hkc12 : 0 + 1 ≤ (headSpec w_Boxes_init ({ frames := 1, cells := 1, slots := 60, locals := 12 })).room.cells := Nat.le_of_ble_eq_true rfl
  have hks12 : 0 + 60 ≤ (headSpec w_Boxes_init ({ frames := 1, cells := 1, slots := 60, locals := 12 })).room.slots := Nat.le_of_ble_eq_true rfl
  refine va_newa (atype := .int) (ty := .int) (N' := 60) (a0 := (60, .inl (fun _ => 0))) hx hb (hts (.arrayClass .int) (by decide +kernel)) rfl hK hP hD hS hA (fun _ => vp_cell_i _ _ _) (by decide) (by decide) (by decide) hkc12 hks12 d_Boxes_init_12 (fun q12 cN H hK hP hD hS => ?_)
  obtain rfl : cI = cN := (xi_same (i := 0) (j := 2) hK rfl rfl).symm
  have hK := hK.sub (tys' := [(cI, .int), (cZ, .boolean)]) [0, 1] rfl
  have hP : va_P (dC, dI) classes [(oB, .inr (0, [.int 0, .null, .int 0, .int 0])), (q12, .inl (cI, 60, .inl (fun _ => 0)))] H := hP
  have hD : va_D A [(oB, .inr (0, [.int 0, .null, .int 0, .int 0])), (q12, .inl (cI, 60, .inl (fun _ => 0)))] := hD
  refine W.widen (k := 1) (n := 60) (Nat.le_of_ble_eq_true rfl) (Nat.le_of_ble_eq_true rfl) ?_
  refine va_putF (D := (dC, dI)) (ci := 0) (v := .ref q12) (ty := (.array .int)) (C := R_Boxes) (T := F_Boxes) (N := 4) hx hb hts hw_Boxes t_Boxes t_Boxes_ok n_Boxes hown hK hP hD hS 0 rfl rfl 1 (by decide) (hts (.fieldLink R_Boxes 15 "PageForms$Boxes" "heights" "[I") (by decide +kernel)) (fun _ h9 => h9) rfl hin rfl (by decide +kernel) rfl rfl (Nat.le_of_ble_eq_true rfl) d_Boxes_init_14 (fun H locs hP hD hS => ?_)
  have hP : va_P (dC, dI) classes [(oB, .inr (0, [.int 0, .ref q12, .int 0, .int 0])), (q12, .inl (cI, 60, .inl (fun _ => 0)))] H := hP
  have hD : va_D A [(oB, .inr (0, [.int 0, .ref q12, .int 0, .int 0])), (q12, .inl (cI, 60, .inl (fun _ => 0)))] := hD
  refine lv_aload_n hx hb d_Boxes_init_17 rfl (lv_at hl 0 rfl) ?_
  refine lv_iconst (v := (-1)) hx hb d_Boxes_init_18 (by decide) ?_
  refine va_put (D := (dC, dI)) (ci := 0) (v := .int (-1)) (ty := .int) (C := R_Boxes) (T := F_Boxes) (N := 4) hx hb hts hw_Boxes t_Boxes t_Boxes_ok n_Boxes hown hK hP hD hS 0 rfl rfl 2 (by decide) (hts (.fieldLink R_Boxes 19 "PageForms$Boxes" "page" "I") (by decide +kernel)) (fun _ h9 => h9) rfl (by decide +kernel) rfl rfl (Nat.le_of_ble_eq_true rfl) d_Boxes_init_19 (fun H locs hP hD hS => ?_)
  have hP : va_P (dC, dI) classes [(oB, .inr (0, [.int 0, .ref q12, .int (-1), .int 0])), (q12, .inl (cI, 60, .inl (fun _ => 0)))] H := hP
  have hD : va_D A [(oB, .inr (0, [.int 0, .ref q12, .int (-1), .int 0])), (q12, .inl (cI, 60, .inl (fun _ => 0)))] := hD
  refine lv_aload_n hx hb d_Boxes_init_22 rfl (lv_at hl 0 rfl) ?_
  refine lv_iconst (v := 0) hx hb d_Boxes_init_23 (by decide) ?_
  refine va_put (D := (dC, dI)) (ci := 0) (v := .int 0) (ty := .int) (C := R_Boxes) (T := F_Boxes) (N := 4) hx hb hts hw_Boxes t_Boxes t_Boxes_ok n_Boxes hown hK hP hD hS 0 rfl rfl 3 (by decide) (hts (.fieldLink R_Boxes 22 "PageForms$Boxes" "top" "I") (by decide +kernel)) (fun _ h9 => h9) rfl (by decide +kernel) rfl rfl (Nat.le_of_ble_eq_true rfl) d_Boxes_init_24 (fun H locs hP hD hS => ?_)
  have hP : va_P (dC, dI) classes [(oB, .inr (0, [.int 0, .ref q12, .int (-1), .int 0])), (q12, .inl (cI, 60, .inl (fun _ => 0)))] H := hP
  have hD : va_D A [(oB, .inr (0, [.int 0, .ref q12, .int (-1), .int 0])), (q12, .inl (cI, 60, .inl (fun _ => 0)))] := hD
  refine W.widen (k := 1) (n := 60) (Nat.le_of_ble_eq_true rfl) (Nat.le_of_ble_eq_true rfl) ?_
  exact W.vret hx hb hr (fun t ht hW => ⟨⟨(), rfl, (show True from trivial), q12, by rw [ht]; exact hP, va_K.moved hW.alike hK, hD⟩, hS.F ht⟩) hS.2.2 d_Boxes_init_27

set_option maxHeartbeats 4000000 in
set_option maxRecDepth 100000 in
theorem k_Boxes_isHeight (l : Launch) (dC : Nat → ClassId) (dI : Nat → Nat → Nat) (cI cZ : ClassId) (sz : Nat) (p0 : Int32) : Met l y_Boxes_isHeight w_Boxes_isHeight ({ frames := 0, cells := 0, slots := 0, locals := 0 }) (va_Pc [.int p0] (fun U => U.heap.size = sz ∧ va_P (dC, dI) classes [] U.heap ∧ va_K (dC, dI) classes [(cI, .int), (cZ, .boolean)] U ∧ va_D (fun _ => True) [])) (va_Qi (fun (r : Int32) (u : Unit) => (r.toInt = 1 ∧ 1 ≤ p0.toInt ∧ p0.toInt ≤ 1000) ∨ (r.toInt = 0 ∧ (p0.toInt < 1 ∨ 1000 < p0.toInt))) (fun (u : Unit) (t : State) => va_P (dC, dI) classes [] t.heap ∧ va_K (dC, dI) classes [(cI, .int), (cZ, .boolean)] t ∧ va_D (va_A [] sz) []) (va_A [] sz)) 0 0 (va_A [] sz) := by
  refine Met.ofW (cc := b_Boxes_isHeight) (maxL := 1) (ret := (some .boolean)) (by decide) rfl ?_
  intro p e s m args below meth c s₁ B hml hv
  obtain ⟨rfl, hsz, hP, hK, hD0⟩ := hv
  have hx := B.exec
  have hb := B.bytes
  have hr := B.returns
  have hts := atoms_spec (ws := w_Boxes_isHeight) B.pre
  have hown : s.vm.findClass R_Boxes = some m.cls := findClass_of_methodNamed B.named
  have hlocks := B.notSynchronized
  subst hsz
  have hD := hD0.self (sz := s.heap.size)
  generalize hAe : va_A [] s.heap.size = A at hD ⊢
  have hA : ∀ q : Nat, s.heap.size ≤ q → A q := fun q h => by rw [← hAe]; exact Or.inr h
  have hS : va_S A s.heap s.heap [] := va_S.rf
  have hP : va_P (dC, dI) classes [] s.heap := hP
  have hl := lv_entry ([.int p0]) (n := 1) (Nat.le_of_ble_eq_true rfl)
  rw [lg_entry_eq]
  generalize (lg_sl ([.int p0]) ++ List.replicate (1 - (lg_sl ([.int p0])).length) Slot.unset).toArray = ls at hl ⊢
  have hl : lv_has ls 1 [(0, .int p0)] := hl
  refine lv_iload_n hx hb d_Boxes_isHeight_0 rfl (lv_at hl 0 rfl) ?_
  refine lv_iconst (v := 1) hx hb d_Boxes_isHeight_1 (by decide) ?_
  refine xi_icmp_lt (tgt := 16) hx hb (rfl) (show (1 : Int32).toInt = 1 by decide) d_Boxes_isHeight_2 (by decide) (fun c2 => ?_) (fun c2 => ?_)
  · refine lv_iconst (v := 0) hx hb d_Boxes_isHeight_16 (by decide) ?_
    exact W.zret (v := 0) hx hb hr rfl (fun t ht hW => ⟨⟨0, (), rfl, (show (0 = 1 ∧ 1 ≤ p0.toInt ∧ p0.toInt ≤ 1000) ∨ (0 = 0 ∧ (p0.toInt < 1 ∨ 1000 < p0.toInt)) from (by first | exact Or.inl ⟨by decide, by omega, by omega⟩ | exact Or.inr ⟨by decide, by omega⟩)), by rw [ht]; exact hP, va_K.moved hW.alike hK, hD⟩, hS.F ht⟩) hS.2.2 d_Boxes_isHeight_17
  · refine lv_iload_n hx hb d_Boxes_isHeight_5 rfl (lv_at hl 0 rfl) ?_
    refine lv_sipush (v := 1000) hx hb d_Boxes_isHeight_6 (by decide) ?_
    refine xi_icmp_gt (tgt := 16) hx hb (rfl) (show (1000 : Int32).toInt = 1000 by decide) d_Boxes_isHeight_9 (by decide) (fun c9 => ?_) (fun c9 => ?_)
    · refine lv_iconst (v := 0) hx hb d_Boxes_isHeight_16 (by decide) ?_
      exact W.zret (v := 0) hx hb hr rfl (fun t ht hW => ⟨⟨0, (), rfl, (show (0 = 1 ∧ 1 ≤ p0.toInt ∧ p0.toInt ≤ 1000) ∨ (0 = 0 ∧ (p0.toInt < 1 ∨ 1000 < p0.toInt)) from (by first | exact Or.inl ⟨by decide, by omega, by omega⟩ | exact Or.inr ⟨by decide, by omega⟩)), by rw [ht]; exact hP, va_K.moved hW.alike hK, hD⟩, hS.F ht⟩) hS.2.2 d_Boxes_isHeight_17
    · refine lv_iconst (v := 1) hx hb d_Boxes_isHeight_12 (by decide) ?_
      refine lv_goto (tgt := 17) hx hb d_Boxes_isHeight_13 (by decide) ?_
      exact W.zret (v := 1) hx hb hr rfl (fun t ht hW => ⟨⟨1, (), rfl, (show (1 = 1 ∧ 1 ≤ p0.toInt ∧ p0.toInt ≤ 1000) ∨ (1 = 0 ∧ (p0.toInt < 1 ∨ 1000 < p0.toInt)) from (by first | exact Or.inl ⟨by decide, by omega, by omega⟩ | exact Or.inr ⟨by decide, by omega⟩)), by rw [ht]; exact hP, va_K.moved hW.alike hK, hD⟩, hS.F ht⟩) hS.2.2 d_Boxes_isHeight_17

set_option maxHeartbeats 4000000 in
set_option maxRecDepth 100000 in
theorem k_Boxes_isGap (l : Launch) (dC : Nat → ClassId) (dI : Nat → Nat → Nat) (cI cZ : ClassId) (sz : Nat) (p0 : Int32) : Met l y_Boxes_isGap w_Boxes_isGap ({ frames := 0, cells := 0, slots := 0, locals := 0 }) (va_Pc [.int p0] (fun U => U.heap.size = sz ∧ va_P (dC, dI) classes [] U.heap ∧ va_K (dC, dI) classes [(cI, .int), (cZ, .boolean)] U ∧ va_D (fun _ => True) [])) (va_Qi (fun (r : Int32) (u : Unit) => (r.toInt = 1 ∧ 0 ≤ p0.toInt ∧ p0.toInt ≤ 100) ∨ (r.toInt = 0 ∧ (p0.toInt < 0 ∨ 100 < p0.toInt))) (fun (u : Unit) (t : State) => va_P (dC, dI) classes [] t.heap ∧ va_K (dC, dI) classes [(cI, .int), (cZ, .boolean)] t ∧ va_D (va_A [] sz) []) (va_A [] sz)) 0 0 (va_A [] sz) := by
  refine Met.ofW (cc := b_Boxes_isGap) (maxL := 1) (ret := (some .boolean)) (by decide) rfl ?_
  intro p e s m args below meth c s₁ B hml hv
  obtain ⟨rfl, hsz, hP, hK, hD0⟩ := hv
  have hx := B.exec
  have hb := B.bytes
  have hr := B.returns
  have hts := atoms_spec (ws := w_Boxes_isGap) B.pre
  have hown : s.vm.findClass R_Boxes = some m.cls := findClass_of_methodNamed B.named
  have hlocks := B.notSynchronized
  subst hsz
  have hD := hD0.self (sz := s.heap.size)
  generalize hAe : va_A [] s.heap.size = A at hD ⊢
  have hA : ∀ q : Nat, s.heap.size ≤ q → A q := fun q h => by rw [← hAe]; exact Or.inr h
  have hS : va_S A s.heap s.heap [] := va_S.rf
  have hP : va_P (dC, dI) classes [] s.heap := hP
  have hl := lv_entry ([.int p0]) (n := 1) (Nat.le_of_ble_eq_true rfl)
  rw [lg_entry_eq]
  generalize (lg_sl ([.int p0]) ++ List.replicate (1 - (lg_sl ([.int p0])).length) Slot.unset).toArray = ls at hl ⊢
  have hl : lv_has ls 1 [(0, .int p0)] := hl
  refine lv_iload_n hx hb d_Boxes_isGap_0 rfl (lv_at hl 0 rfl) ?_
  refine xi_if_lt (tgt := 14) hx hb (rfl) d_Boxes_isGap_1 (by decide) (fun c1 => ?_) (fun c1 => ?_)
  · refine lv_iconst (v := 0) hx hb d_Boxes_isGap_14 (by decide) ?_
    exact W.zret (v := 0) hx hb hr rfl (fun t ht hW => ⟨⟨0, (), rfl, (show (0 = 1 ∧ 0 ≤ p0.toInt ∧ p0.toInt ≤ 100) ∨ (0 = 0 ∧ (p0.toInt < 0 ∨ 100 < p0.toInt)) from (by first | exact Or.inl ⟨by decide, by omega, by omega⟩ | exact Or.inr ⟨by decide, by omega⟩)), by rw [ht]; exact hP, va_K.moved hW.alike hK, hD⟩, hS.F ht⟩) hS.2.2 d_Boxes_isGap_15
  · refine lv_iload_n hx hb d_Boxes_isGap_4 rfl (lv_at hl 0 rfl) ?_
    refine lv_bipush (v := 100) hx hb d_Boxes_isGap_5 (by decide) ?_
    refine xi_icmp_gt (tgt := 14) hx hb (rfl) (show (100 : Int32).toInt = 100 by decide) d_Boxes_isGap_7 (by decide) (fun c7 => ?_) (fun c7 => ?_)
    · refine lv_iconst (v := 0) hx hb d_Boxes_isGap_14 (by decide) ?_
      exact W.zret (v := 0) hx hb hr rfl (fun t ht hW => ⟨⟨0, (), rfl, (show (0 = 1 ∧ 0 ≤ p0.toInt ∧ p0.toInt ≤ 100) ∨ (0 = 0 ∧ (p0.toInt < 0 ∨ 100 < p0.toInt)) from (by first | exact Or.inl ⟨by decide, by omega, by omega⟩ | exact Or.inr ⟨by decide, by omega⟩)), by rw [ht]; exact hP, va_K.moved hW.alike hK, hD⟩, hS.F ht⟩) hS.2.2 d_Boxes_isGap_15
    · refine lv_iconst (v := 1) hx hb d_Boxes_isGap_10 (by decide) ?_
      refine lv_goto (tgt := 15) hx hb d_Boxes_isGap_11 (by decide) ?_
      exact W.zret (v := 1) hx hb hr rfl (fun t ht hW => ⟨⟨1, (), rfl, (show (1 = 1 ∧ 0 ≤ p0.toInt ∧ p0.toInt ≤ 100) ∨ (1 = 0 ∧ (p0.toInt < 0 ∨ 100 < p0.toInt)) from (by first | exact Or.inl ⟨by decide, by omega, by omega⟩ | exact Or.inr ⟨by decide, by omega⟩)), by rw [ht]; exact hP, va_K.moved hW.alike hK, hD⟩, hS.F ht⟩) hS.2.2 d_Boxes_isGap_15

set_option maxHeartbeats 4000000 in
set_option maxRecDepth 100000 in
theorem k_Boxes_add (l : Launch) (dC : Nat → ClassId) (dI : Nat → Nat → Nat) (cI cZ : ClassId) (oB : Nat) (aH : Nat) (cnt : Int32) (pag : Int32) (top : Int32) (hgt : Nat → Int32) (sz : Nat) (p1 : Int32) (hI : bq_I cnt hgt) : Met l y_Boxes_add w_Boxes_add ({ frames := 1, cells := 0, slots := 0, locals := 20 }) (va_Pc [.ref oB, .int p1] (fun U => U.heap.size = sz ∧ va_P (dC, dI) classes [(oB, .inr (0, [.int cnt, .ref aH, .int pag, .int top])), (aH, .inl (cI, 60, .inl hgt))] U.heap ∧ va_K (dC, dI) classes [(cI, .int), (cZ, .boolean)] U ∧ va_D (fun _ => True) [(oB, .inr (0, [.int cnt, .ref aH, .int pag, .int top])), (aH, .inl (cI, 60, .inl hgt))])) (va_Qi (fun (r : Int32) (u : Int32 × (Nat → Int32)) => bq_add cnt hgt p1 r u.1 u.2) (fun (u : Int32 × (Nat → Int32)) (t : State) => va_P (dC, dI) classes [(oB, .inr (0, [.int u.1, .ref aH, .int pag, .int top])), (aH, .inl (cI, 60, .inl u.2))] t.heap ∧ va_K (dC, dI) classes [(cI, .int), (cZ, .boolean)] t ∧ va_D (va_A [(oB, .inr (0, [.int cnt, .ref aH, .int pag, .int top])), (aH, .inl (cI, 60, .inl hgt))] sz) [(oB, .inr (0, [.int u.1, .ref aH, .int pag, .int top])), (aH, .inl (cI, 60, .inl u.2))]) (va_A [(oB, .inr (0, [.int cnt, .ref aH, .int pag, .int top])), (aH, .inl (cI, 60, .inl hgt))] sz)) 0 0 (va_A [(oB, .inr (0, [.int cnt, .ref aH, .int pag, .int top])), (aH, .inl (cI, 60, .inl hgt))] sz) := by
  refine Met.ofW (cc := b_Boxes_add) (maxL := 2) (ret := (some .int)) (by decide) rfl ?_
  intro p e s m args below meth c s₁ B hml hv
  obtain ⟨rfl, hsz, hP, hK, hD0⟩ := hv
  have hx := B.exec
  have hb := B.bytes
  have hr := B.returns
  have hts := atoms_spec (ws := w_Boxes_add) B.pre
  have hown : s.vm.findClass R_Boxes = some m.cls := findClass_of_methodNamed B.named
  have hlocks := B.notSynchronized
  have hw_Boxes : ∀ w ∈ w_Boxes, w ∈ w_Boxes_add := by decide +kernel
  subst hsz
  have hD := hD0.self (sz := s.heap.size)
  generalize hAe : va_A [(oB, .inr (0, [.int cnt, .ref aH, .int pag, .int top])), (aH, .inl (cI, 60, .inl hgt))] s.heap.size = A at hD ⊢
  have hA : ∀ q : Nat, s.heap.size ≤ q → A q := fun q h => by rw [← hAe]; exact Or.inr h
  have hS : va_S A s.heap s.heap [] := va_S.rf
  have hP : va_P (dC, dI) classes [(oB, .inr (0, [.int cnt, .ref aH, .int pag, .int top])), (aH, .inl (cI, 60, .inl hgt))] s.heap := hP
  have hl := lv_entry ([.ref oB, .int p1]) (n := 2) (Nat.le_of_ble_eq_true rfl)
  rw [lg_entry_eq]
  generalize (lg_sl ([.ref oB, .int p1]) ++ List.replicate (2 - (lg_sl ([.ref oB, .int p1])).length) Slot.unset).toArray = ls at hl ⊢
  have hl : lv_has ls 2 [(0, .ref oB), (1, .int p1)] := hl
  obtain ⟨nB, hnB, hn60, hh⟩ := hI
  refine lv_iload_n hx hb d_Boxes_add_0 rfl (lv_at hl 1 rfl) ?_
  have hPc := hP.sub (ws' := []) [] rfl
  have hDc := hD.sub (ws' := []) [] (by decide) rfl
  have hFc := va_free (wc := []) hD hS hA [] rfl
  refine va_calli (va_runS (As := [.int p1]) (rest := []) ⟨hx, hb, hml, hown, hts⟩ (k_Boxes_isHeight l dC dI cI cZ s.heap.size p1) (cwS 1 hts g_Boxes_add_Boxes_isHeight rfl rfl rfl (by decide +kernel) ⟨Nat.le_of_ble_eq_true rfl, Nat.le_of_ble_eq_true rfl⟩) ⟨fun a U g mk q => by obtain ⟨q0, q1, qP, qK, qD⟩ := q; exact ⟨q0, q1, qP, va_K.moved (u := U) (U := U.calling g mk a) (Vm.Alike.refl U.vm) qK, qD⟩, fun U hU hW => ⟨rfl, by rw [hU], by rw [hU]; exact hPc, va_K.moved hW.alike hK, hDc.weaken (fun _ _ _ _ => trivial)⟩⟩ rfl rfl hl.1 rfl (lv_room (Nat.le_of_ble_eq_true rfl)) d_Boxes_add_1 ⟨Nat.le_of_ble_eq_true rfl, Nat.le_of_ble_eq_true rfl⟩) hS (fun q _ h => hFc q h) hFc (fun r1 u t H1 locs ht hvm hw hB hz1 hk1 hS => ?_)
  have w1 : (r1.toInt = 1 ∧ 1 ≤ p1.toInt ∧ p1.toInt ≤ 1000) ∨ (r1.toInt = 0 ∧ (p1.toInt < 1 ∨ 1000 < p1.toInt)) := hw
  obtain ⟨hP1, hK1, hD1⟩ := hB
  rw [ht] at hP1
  obtain ⟨hP, hD⟩ := va_join (wr := [(oB, .inr (0, [.int cnt, .ref aH, .int pag, .int top])), (aH, .inl (cI, 60, .inl hgt))]) (w1 := []) hP hD [] [0, 1] rfl rfl (by decide) (by decide) hk1 hFc hP1 hD1
  generalize H1 = H at hP hS ⊢
  have hP : va_P (dC, dI) classes [(oB, .inr (0, [.int cnt, .ref aH, .int pag, .int top])), (aH, .inl (cI, 60, .inl hgt))] H := hP
  have hD : va_D A [(oB, .inr (0, [.int cnt, .ref aH, .int pag, .int top])), (aH, .inl (cI, 60, .inl hgt))] := hD
  refine xi_if_eq (tgt := 16) hx hb (rfl) d_Boxes_add_4 (by decide) (fun c4 => ?_) (fun c4 => ?_)
  · refine lv_iconst (v := (-1)) hx hb d_Boxes_add_16 (by decide) ?_
    exact W.iret (v := (-1)) hx hb hr (fun t ht hW => ⟨⟨(-1), (cnt, hgt), rfl, (show bq_add cnt hgt p1 ((-1) : Int32) cnt hgt from (Or.inr ⟨by omega, by decide, rfl, rfl⟩)), by rw [ht]; exact hP, va_K.moved hW.alike hK, hD⟩, hS.F ht⟩) hS.2.2 d_Boxes_add_17
  · refine lv_aload_n hx hb d_Boxes_add_7 rfl (lv_at hl 0 rfl) ?_
    refine va_get (D := (dC, dI)) (ci := 0) (v := .int cnt) (C := R_Boxes) (T := F_Boxes) (N := 4) hx hb hts hw_Boxes hown hK hP 0 rfl rfl 0 (by decide) (hts (.fieldLink R_Boxes 9 "PageForms$Boxes" "count" "I") (by decide +kernel)) (fun _ h9 => h9) rfl d_Boxes_add_8 ?_
    refine lv_bipush (v := 60) hx hb d_Boxes_add_11 (by decide) ?_
    refine xi_icmp_lt (tgt := 18) hx hb hnB (show (60 : Int32).toInt = 60 by decide) d_Boxes_add_13 (by decide) (fun c13 => ?_) (fun c13 => ?_)
    · refine lv_aload_n hx hb d_Boxes_add_18 rfl (lv_at hl 0 rfl) ?_
      refine va_get (D := (dC, dI)) (ci := 0) (v := .ref aH) (C := R_Boxes) (T := F_Boxes) (N := 4) hx hb hts hw_Boxes hown hK hP 0 rfl rfl 1 (by decide) (hts (.fieldLink R_Boxes 15 "PageForms$Boxes" "heights" "[I") (by decide +kernel)) (fun _ h9 => h9) rfl d_Boxes_add_19 ?_
      refine lv_aload_n hx hb d_Boxes_add_22 rfl (lv_at hl 0 rfl) ?_
      refine va_get (D := (dC, dI)) (ci := 0) (v := .int cnt) (C := R_Boxes) (T := F_Boxes) (N := 4) hx hb hts hw_Boxes hown hK hP 0 rfl rfl 0 (by decide) (hts (.fieldLink R_Boxes 9 "PageForms$Boxes" "count" "I") (by decide +kernel)) (fun _ h9 => h9) rfl d_Boxes_add_23 ?_
      refine lv_iload_n hx hb d_Boxes_add_26 rfl (lv_at hl 1 rfl) ?_
      refine xa_iast hx hb hK hP hD hS 1 0 rfl rfl hnB nB (by omega) (by omega) d_Boxes_add_27 (fun H locs hP hD hS => ?_)
      have hP : va_P (dC, dI) classes [(oB, .inr (0, [.int cnt, .ref aH, .int pag, .int top])), (aH, .inl (cI, 60, .inl (upd hgt nB p1)))] H := hP
      have hD : va_D A [(oB, .inr (0, [.int cnt, .ref aH, .int pag, .int top])), (aH, .inl (cI, 60, .inl (upd hgt nB p1)))] := hD
      refine lv_aload_n hx hb d_Boxes_add_28 rfl (lv_at hl 0 rfl) ?_
      refine lv_dup hx hb d_Boxes_add_29 rfl ?_
      refine va_get (D := (dC, dI)) (ci := 0) (v := .int cnt) (C := R_Boxes) (T := F_Boxes) (N := 4) hx hb hts hw_Boxes hown hK hP 0 rfl rfl 0 (by decide) (hts (.fieldLink R_Boxes 9 "PageForms$Boxes" "count" "I") (by decide +kernel)) (fun _ h9 => h9) rfl d_Boxes_add_30 ?_
      refine lv_iconst (v := 1) hx hb d_Boxes_add_33 (by decide) ?_
      refine lv_iadd hx hb d_Boxes_add_34 ?_
      have a34 : (cnt + 1).toInt = ((nB : Int) + 1) := xi_add hnB (show (1 : Int32).toInt = 1 by decide) (by omega) (by omega)
      refine lv_topi (fun v35 ev35 => ?_)
      have fv35 : v35.toInt = ((nB : Int) + 1) := by rw [ev35]; exact a34
      refine va_put (D := (dC, dI)) (ci := 0) (v := .int v35) (ty := .int) (C := R_Boxes) (T := F_Boxes) (N := 4) hx hb hts hw_Boxes t_Boxes t_Boxes_ok n_Boxes hown hK hP hD hS 0 rfl rfl 0 (by decide) (hts (.fieldLink R_Boxes 9 "PageForms$Boxes" "count" "I") (by decide +kernel)) (fun _ h9 => h9) rfl (by decide +kernel) rfl rfl (Nat.le_of_ble_eq_true rfl) d_Boxes_add_35 (fun H locs hP hD hS => ?_)
      have hP : va_P (dC, dI) classes [(oB, .inr (0, [.int v35, .ref aH, .int pag, .int top])), (aH, .inl (cI, 60, .inl (upd hgt nB p1)))] H := hP
      have hD : va_D A [(oB, .inr (0, [.int v35, .ref aH, .int pag, .int top])), (aH, .inl (cI, 60, .inl (upd hgt nB p1)))] := hD
      refine lv_aload_n hx hb d_Boxes_add_38 rfl (lv_at hl 0 rfl) ?_
      refine va_get (D := (dC, dI)) (ci := 0) (v := .int v35) (C := R_Boxes) (T := F_Boxes) (N := 4) hx hb hts hw_Boxes hown hK hP 0 rfl rfl 0 (by decide) (hts (.fieldLink R_Boxes 9 "PageForms$Boxes" "count" "I") (by decide +kernel)) (fun _ h9 => h9) rfl d_Boxes_add_39 ?_
      refine lv_iconst (v := 1) hx hb d_Boxes_add_42 (by decide) ?_
      refine lv_isub hx hb d_Boxes_add_43 ?_
      have a43 : (v35 - 1).toInt = (((nB : Int) + 1) - 1) := xi_sub fv35 (show (1 : Int32).toInt = 1 by decide) (by omega) (by omega)
      exact W.iret (v := (v35 - 1)) hx hb hr (fun t ht hW => ⟨⟨(v35 - 1), (v35, (upd hgt nB p1)), rfl, (show bq_add cnt hgt p1 (v35 - 1) v35 (upd hgt nB p1) from (Or.inl ⟨by omega, by omega, by omega, by omega, by omega, by rw [hnB]; rfl⟩)), by rw [ht]; exact hP, va_K.moved hW.alike hK, hD⟩, hS.F ht⟩) hS.2.2 d_Boxes_add_44
    · refine lv_iconst (v := (-1)) hx hb d_Boxes_add_16 (by decide) ?_
      exact W.iret (v := (-1)) hx hb hr (fun t ht hW => ⟨⟨(-1), (cnt, hgt), rfl, (show bq_add cnt hgt p1 ((-1) : Int32) cnt hgt from (Or.inr ⟨by omega, by decide, rfl, rfl⟩)), by rw [ht]; exact hP, va_K.moved hW.alike hK, hD⟩, hS.F ht⟩) hS.2.2 d_Boxes_add_17

set_option maxHeartbeats 4000000 in
set_option maxRecDepth 100000 in
theorem k_Boxes_putFirst (l : Launch) (dC : Nat → ClassId) (dI : Nat → Nat → Nat) (cI cZ : ClassId) (oB : Nat) (aH : Nat) (cnt : Int32) (pag : Int32) (top : Int32) (hgt : Nat → Int32) (sz : Nat) (p1 : Int32) (p2 : Int32) (p3 : Int32) (nN : Nat) (hnN : p1.toInt = (nN : Int)) (hn60 : nN ≤ 60) (hh : ∀ j, j < nN → 1 ≤ (hgt j).toInt ∧ (hgt j).toInt ≤ 1000) (hht : p2.toInt ≤ 1000) (hg : 0 ≤ p3.toInt ∧ p3.toInt ≤ 100) : Met l y_Boxes_putFirst w_Boxes_putFirst ({ frames := 0, cells := 0, slots := 0, locals := 0 }) (va_Pc [.ref oB, .int p1, .int p2, .int p3] (fun U => U.heap.size = sz ∧ va_P (dC, dI) classes [(oB, .inr (0, [.int cnt, .ref aH, .int pag, .int top])), (aH, .inl (cI, 60, .inl hgt))] U.heap ∧ va_K (dC, dI) classes [(cI, .int), (cZ, .boolean)] U ∧ va_D (fun _ => True) [(oB, .inr (0, [.int cnt, .ref aH, .int pag, .int top])), (aH, .inl (cI, 60, .inl hgt))])) (va_Qv (fun (u : Int32 × Int32) => u.1.toInt = (bq hgt p2.toInt p3.toInt top.toInt nN).1 ∧ u.2.toInt = (bq hgt p2.toInt p3.toInt top.toInt nN).2.1) (fun (u : Int32 × Int32) (t : State) => va_P (dC, dI) classes [(oB, .inr (0, [.int cnt, .ref aH, .int u.1, .int u.2])), (aH, .inl (cI, 60, .inl hgt))] t.heap ∧ va_K (dC, dI) classes [(cI, .int), (cZ, .boolean)] t ∧ va_D (va_A [(oB, .inr (0, [.int cnt, .ref aH, .int pag, .int top])), (aH, .inl (cI, 60, .inl hgt))] sz) [(oB, .inr (0, [.int cnt, .ref aH, .int u.1, .int u.2])), (aH, .inl (cI, 60, .inl hgt))]) (va_A [(oB, .inr (0, [.int cnt, .ref aH, .int pag, .int top])), (aH, .inl (cI, 60, .inl hgt))] sz)) 0 0 (va_A [(oB, .inr (0, [.int cnt, .ref aH, .int pag, .int top])), (aH, .inl (cI, 60, .inl hgt))] sz) := by
  refine Met.ofW (cc := b_Boxes_putFirst) (maxL := 6) (ret := none) (by decide) rfl ?_
  intro p e s m args below meth c s₁ B hml hv
  obtain ⟨rfl, hsz, hP, hK, hD0⟩ := hv
  have hx := B.exec
  have hb := B.bytes
  have hr := B.returns
  have hts := atoms_spec (ws := w_Boxes_putFirst) B.pre
  have hown : s.vm.findClass R_Boxes = some m.cls := findClass_of_methodNamed B.named
  have hlocks := B.notSynchronized
  have hw_Boxes : ∀ w ∈ w_Boxes, w ∈ w_Boxes_putFirst := by decide +kernel
  subst hsz
  have hD := hD0.self (sz := s.heap.size)
  generalize hAe : va_A [(oB, .inr (0, [.int cnt, .ref aH, .int pag, .int top])), (aH, .inl (cI, 60, .inl hgt))] s.heap.size = A at hD ⊢
  have hA : ∀ q : Nat, s.heap.size ≤ q → A q := fun q h => by rw [← hAe]; exact Or.inr h
  have hS : va_S A s.heap s.heap [] := va_S.rf
  have hP : va_P (dC, dI) classes [(oB, .inr (0, [.int cnt, .ref aH, .int pag, .int top])), (aH, .inl (cI, 60, .inl hgt))] s.heap := hP
  have hl := lv_entry ([.ref oB, .int p1, .int p2, .int p3]) (n := 6) (Nat.le_of_ble_eq_true rfl)
  rw [lg_entry_eq]
  generalize (lg_sl ([.ref oB, .int p1, .int p2, .int p3]) ++ List.replicate (6 - (lg_sl ([.ref oB, .int p1, .int p2, .int p3])).length) Slot.unset).toArray = ls at hl ⊢
  have hl : lv_has ls 6 [(0, .ref oB), (1, .int p1), (2, .int p2), (3, .int p3)] := hl
  have loop11 : ∀ (n11 : Nat) (k : Nat) (P0 : Int) (T0 : Int) (B0 : Int) (x4 : Int32) (x5 : Int32) (pag1 : Int32) (top1 : Int32), (nN - k < n11) → (k ≤ nN) → (bq hgt p2.toInt p3.toInt top.toInt k = (P0, T0, B0)) → (x4.toInt = B0) → (x5.toInt = (k : Int)) → (pag1.toInt = P0) → (top1.toInt = T0) → ∀ (H : Heap) (locs : List Loc), va_P (dC, dI) classes [(oB, .inr (0, [.int cnt, .ref aH, .int pag1, .int top1])), (aH, .inl (cI, 60, .inl hgt))] H → va_D A [(oB, .inr (0, [.int cnt, .ref aH, .int pag1, .int top1])), (aH, .inl (cI, 60, .inl hgt))] → va_S A s.heap H locs → ∀ (ls : Array Slot), lv_has ls 6 [(0, .ref oB), (1, .int p1), (2, .int p2), (3, .int p3), (4, .int x4), (5, .int x5)] → W p l e (headSpec w_Boxes_putFirst ({ frames := 0, cells := 0, slots := 0, locals := 0 })).room s m ([.ref oB, .int p1, .int p2, .int p3] : List Value).toArray below meth c H locs 0 0 (MQ below (va_Qv (fun (u : Int32 × Int32) => u.1.toInt = (bq hgt p2.toInt p3.toInt top.toInt nN).1 ∧ u.2.toInt = (bq hgt p2.toInt p3.toInt top.toInt nN).2.1) (fun (u : Int32 × Int32) (t : State) => va_P (dC, dI) classes [(oB, .inr (0, [.int cnt, .ref aH, .int u.1, .int u.2])), (aH, .inl (cI, 60, .inl hgt))] t.heap ∧ va_K (dC, dI) classes [(cI, .int), (cZ, .boolean)] t ∧ va_D (A) [(oB, .inr (0, [.int cnt, .ref aH, .int u.1, .int u.2])), (aH, .inl (cI, 60, .inl hgt))]) (A)) ([.ref oB, .int p1, .int p2, .int p3] : List Value).toArray s 0 0 A) (F0 m 11 ls []) := by
    intro n11
    induction n11 with
    | zero => intro k P0 T0 B0 x4 x5 pag1 top1 hmz11; omega
    | succ n11 ih11 =>
      intro k P0 T0 B0 x4 x5 pag1 top1 hmz11 hk hst e4 e5 eP eT H locs hP hD hS ls hl
      have hbd := bq_bnd hg.1 k P0 T0 B0 hst (fun j hj => hh j (by omega)) hht
      refine lv_iload hx hb d_Boxes_putFirst_11 (lv_at hl 5 rfl) ?_
      refine lv_iload_n hx hb d_Boxes_putFirst_13 rfl (lv_at hl 1 rfl) ?_
      refine xi_icmp_ge (tgt := 94) hx hb e5 hnN d_Boxes_putFirst_14 (by decide) (fun c14 => ?_) (fun c14 => ?_)
      · have hkN : k = nN := by omega
        rw [hkN] at hst
        exact W.vret hx hb hr (fun t ht hW => ⟨⟨(pag1, top1), rfl, (show pag1.toInt = (bq hgt p2.toInt p3.toInt top.toInt nN).1 ∧ top1.toInt = (bq hgt p2.toInt p3.toInt top.toInt nN).2.1 from ⟨by rw [hst]; exact eP, by rw [hst]; exact eT⟩), by rw [ht]; exact hP, va_K.moved hW.alike hK, hD⟩, hS.F ht⟩) hS.2.2 d_Boxes_putFirst_94
      · refine lv_iload hx hb d_Boxes_putFirst_17 (lv_at hl 5 rfl) ?_
        refine lv_bipush (v := 60) hx hb d_Boxes_putFirst_19 (by decide) ?_
        refine xi_icmp_ge (tgt := 94) hx hb e5 (show (60 : Int32).toInt = 60 by decide) d_Boxes_putFirst_21 (by decide) (fun c21 => absurd (show False by omega) id) (fun c21 => ?_)
        refine lv_aload_n hx hb d_Boxes_putFirst_24 rfl (lv_at hl 0 rfl) ?_
        refine va_get (D := (dC, dI)) (ci := 0) (v := .int pag1) (C := R_Boxes) (T := F_Boxes) (N := 4) hx hb hts hw_Boxes hown hK hP 0 rfl rfl 2 (by decide) (hts (.fieldLink R_Boxes 19 "PageForms$Boxes" "page" "I") (by decide +kernel)) (fun _ h9 => h9) rfl d_Boxes_putFirst_25 ?_
        refine lv_iconst (v := (-1)) hx hb d_Boxes_putFirst_28 (by decide) ?_
        refine xi_icmp_eq (tgt := 59) hx hb eP (show ((-1) : Int32).toInt = -1 by decide) d_Boxes_putFirst_29 (by decide) (fun c29 => ?_) (fun c29 => ?_)
        · have hhk := hh k (by omega)
          refine lv_aload_n hx hb d_Boxes_putFirst_59 rfl (lv_at hl 0 rfl) ?_
          refine lv_dup hx hb d_Boxes_putFirst_60 rfl ?_
          refine va_get (D := (dC, dI)) (ci := 0) (v := .int pag1) (C := R_Boxes) (T := F_Boxes) (N := 4) hx hb hts hw_Boxes hown hK hP 0 rfl rfl 2 (by decide) (hts (.fieldLink R_Boxes 19 "PageForms$Boxes" "page" "I") (by decide +kernel)) (fun _ h9 => h9) rfl d_Boxes_putFirst_61 ?_
          refine lv_iconst (v := 1) hx hb d_Boxes_putFirst_64 (by decide) ?_
          refine lv_iadd hx hb d_Boxes_putFirst_65 ?_
          have a65 : (pag1 + 1).toInt = (P0 + 1) := xi_add eP (show (1 : Int32).toInt = 1 by decide) (by omega) (by omega)
          refine lv_topi (fun v66 ev66 => ?_)
          have fv66 : v66.toInt = (P0 + 1) := by rw [ev66]; exact a65
          refine va_put (D := (dC, dI)) (ci := 0) (v := .int v66) (ty := .int) (C := R_Boxes) (T := F_Boxes) (N := 4) hx hb hts hw_Boxes t_Boxes t_Boxes_ok n_Boxes hown hK hP hD hS 0 rfl rfl 2 (by decide) (hts (.fieldLink R_Boxes 19 "PageForms$Boxes" "page" "I") (by decide +kernel)) (fun _ h9 => h9) rfl (by decide +kernel) rfl rfl (Nat.le_of_ble_eq_true rfl) d_Boxes_putFirst_66 (fun H locs hP hD hS => ?_)
          have hP : va_P (dC, dI) classes [(oB, .inr (0, [.int cnt, .ref aH, .int v66, .int top1])), (aH, .inl (cI, 60, .inl hgt))] H := hP
          have hD : va_D A [(oB, .inr (0, [.int cnt, .ref aH, .int v66, .int top1])), (aH, .inl (cI, 60, .inl hgt))] := hD
          refine lv_aload_n hx hb d_Boxes_putFirst_69 rfl (lv_at hl 0 rfl) ?_
          refine lv_iconst (v := 0) hx hb d_Boxes_putFirst_70 (by decide) ?_
          refine va_put (D := (dC, dI)) (ci := 0) (v := .int 0) (ty := .int) (C := R_Boxes) (T := F_Boxes) (N := 4) hx hb hts hw_Boxes t_Boxes t_Boxes_ok n_Boxes hown hK hP hD hS 0 rfl rfl 3 (by decide) (hts (.fieldLink R_Boxes 22 "PageForms$Boxes" "top" "I") (by decide +kernel)) (fun _ h9 => h9) rfl (by decide +kernel) rfl rfl (Nat.le_of_ble_eq_true rfl) d_Boxes_putFirst_71 (fun H locs hP hD hS => ?_)
          have hP : va_P (dC, dI) classes [(oB, .inr (0, [.int cnt, .ref aH, .int v66, .int 0])), (aH, .inl (cI, 60, .inl hgt))] H := hP
          have hD : va_D A [(oB, .inr (0, [.int cnt, .ref aH, .int v66, .int 0])), (aH, .inl (cI, 60, .inl hgt))] := hD
          refine lv_aload_n hx hb d_Boxes_putFirst_74 rfl (lv_at hl 0 rfl) ?_
          refine va_get (D := (dC, dI)) (ci := 0) (v := .int 0) (C := R_Boxes) (T := F_Boxes) (N := 4) hx hb hts hw_Boxes hown hK hP 0 rfl rfl 3 (by decide) (hts (.fieldLink R_Boxes 22 "PageForms$Boxes" "top" "I") (by decide +kernel)) (fun _ h9 => h9) rfl d_Boxes_putFirst_75 ?_
          refine lv_aload_n hx hb d_Boxes_putFirst_78 rfl (lv_at hl 0 rfl) ?_
          refine va_get (D := (dC, dI)) (ci := 0) (v := .ref aH) (C := R_Boxes) (T := F_Boxes) (N := 4) hx hb hts hw_Boxes hown hK hP 0 rfl rfl 1 (by decide) (hts (.fieldLink R_Boxes 15 "PageForms$Boxes" "heights" "[I") (by decide +kernel)) (fun _ h9 => h9) rfl d_Boxes_putFirst_79 ?_
          refine lv_iload hx hb d_Boxes_putFirst_82 (lv_at hl 5 rfl) ?_
          refine xa_iald hx hb hK hP 1 0 rfl rfl e5 k (by omega) (by omega) d_Boxes_putFirst_84 ?_
          refine lv_iadd hx hb d_Boxes_putFirst_85 ?_
          have a85 : (0 + (hgt k)).toInt = (0 + (hgt k).toInt) := xi_add (show (0 : Int32).toInt = 0 by decide) (rfl) (by omega) (by omega)
          refine lv_topi (fun v86 ev86 => ?_)
          have fv86 : v86.toInt = (0 + (hgt k).toInt) := by rw [ev86]; exact a85
          refine lv_istore (lv' := [(4, .int v86), (0, .ref oB), (1, .int p1), (2, .int p2), (3, .int p3), (5, .int x5)]) hx hb d_Boxes_putFirst_86 hl (by decide) rfl (fun ls hl => ?_)
          obtain ⟨v88, ev88⟩ : ∃ y : Int32, y = (x5 + 1) := ⟨_, rfl⟩
          have fv88 : v88.toInt = ((k : Int) + 1) := by rw [ev88]; exact xi_add e5 (show (1 : Int32).toInt = 1 by decide) (by omega) (by omega)
          refine lv_iinc (v := v88) (lv' := [(5, .int v88), (4, .int v86), (0, .ref oB), (1, .int p1), (2, .int p2), (3, .int p3)]) hx hb d_Boxes_putFirst_88 hl (k := 5) rfl (by rw [ev88]; rfl) (by decide) rfl (fun ls hl => ?_)
          refine lv_goto (tgt := 11) hx hb d_Boxes_putFirst_91 (by decide) ?_
          exact ih11 (k + 1) (P0 + 1) 0 ((hgt k).toInt) v86 v88 v66 0 (by omega) (by omega) (bq_new hst (by omega)) (by omega) (by omega) (by omega) (by decide) _ _ hP hD hS ls (lv_sub hl [2, 3, 4, 5, 1, 0] rfl)
        · have hhk := hh k (by omega)
          refine lv_iload hx hb d_Boxes_putFirst_32 (lv_at hl 4 rfl) ?_
          refine lv_iload_n hx hb d_Boxes_putFirst_34 rfl (lv_at hl 3 rfl) ?_
          refine lv_iadd hx hb d_Boxes_putFirst_35 ?_
          have a35 : (x4 + p3).toInt = (B0 + p3.toInt) := xi_add e4 (rfl) (by omega) (by omega)
          refine lv_aload_n hx hb d_Boxes_putFirst_36 rfl (lv_at hl 0 rfl) ?_
          refine va_get (D := (dC, dI)) (ci := 0) (v := .ref aH) (C := R_Boxes) (T := F_Boxes) (N := 4) hx hb hts hw_Boxes hown hK hP 0 rfl rfl 1 (by decide) (hts (.fieldLink R_Boxes 15 "PageForms$Boxes" "heights" "[I") (by decide +kernel)) (fun _ h9 => h9) rfl d_Boxes_putFirst_37 ?_
          refine lv_iload hx hb d_Boxes_putFirst_40 (lv_at hl 5 rfl) ?_
          refine xa_iald hx hb hK hP 1 0 rfl rfl e5 k (by omega) (by omega) d_Boxes_putFirst_42 ?_
          refine lv_iadd hx hb d_Boxes_putFirst_43 ?_
          have a43 : ((x4 + p3) + (hgt k)).toInt = ((B0 + p3.toInt) + (hgt k).toInt) := xi_add a35 (rfl) (by omega) (by omega)
          refine lv_iload_n hx hb d_Boxes_putFirst_44 rfl (lv_at hl 2 rfl) ?_
          refine xi_icmp_gt (tgt := 59) hx hb a43 (rfl) d_Boxes_putFirst_45 (by decide) (fun c45 => ?_) (fun c45 => ?_)
          · have hhk := hh k (by omega)
            refine lv_aload_n hx hb d_Boxes_putFirst_59 rfl (lv_at hl 0 rfl) ?_
            refine lv_dup hx hb d_Boxes_putFirst_60 rfl ?_
            refine va_get (D := (dC, dI)) (ci := 0) (v := .int pag1) (C := R_Boxes) (T := F_Boxes) (N := 4) hx hb hts hw_Boxes hown hK hP 0 rfl rfl 2 (by decide) (hts (.fieldLink R_Boxes 19 "PageForms$Boxes" "page" "I") (by decide +kernel)) (fun _ h9 => h9) rfl d_Boxes_putFirst_61 ?_
            refine lv_iconst (v := 1) hx hb d_Boxes_putFirst_64 (by decide) ?_
            refine lv_iadd hx hb d_Boxes_putFirst_65 ?_
            have a65 : (pag1 + 1).toInt = (P0 + 1) := xi_add eP (show (1 : Int32).toInt = 1 by decide) (by omega) (by omega)
            refine lv_topi (fun v66 ev66 => ?_)
            have fv66 : v66.toInt = (P0 + 1) := by rw [ev66]; exact a65
            refine va_put (D := (dC, dI)) (ci := 0) (v := .int v66) (ty := .int) (C := R_Boxes) (T := F_Boxes) (N := 4) hx hb hts hw_Boxes t_Boxes t_Boxes_ok n_Boxes hown hK hP hD hS 0 rfl rfl 2 (by decide) (hts (.fieldLink R_Boxes 19 "PageForms$Boxes" "page" "I") (by decide +kernel)) (fun _ h9 => h9) rfl (by decide +kernel) rfl rfl (Nat.le_of_ble_eq_true rfl) d_Boxes_putFirst_66 (fun H locs hP hD hS => ?_)
            have hP : va_P (dC, dI) classes [(oB, .inr (0, [.int cnt, .ref aH, .int v66, .int top1])), (aH, .inl (cI, 60, .inl hgt))] H := hP
            have hD : va_D A [(oB, .inr (0, [.int cnt, .ref aH, .int v66, .int top1])), (aH, .inl (cI, 60, .inl hgt))] := hD
            refine lv_aload_n hx hb d_Boxes_putFirst_69 rfl (lv_at hl 0 rfl) ?_
            refine lv_iconst (v := 0) hx hb d_Boxes_putFirst_70 (by decide) ?_
            refine va_put (D := (dC, dI)) (ci := 0) (v := .int 0) (ty := .int) (C := R_Boxes) (T := F_Boxes) (N := 4) hx hb hts hw_Boxes t_Boxes t_Boxes_ok n_Boxes hown hK hP hD hS 0 rfl rfl 3 (by decide) (hts (.fieldLink R_Boxes 22 "PageForms$Boxes" "top" "I") (by decide +kernel)) (fun _ h9 => h9) rfl (by decide +kernel) rfl rfl (Nat.le_of_ble_eq_true rfl) d_Boxes_putFirst_71 (fun H locs hP hD hS => ?_)
            have hP : va_P (dC, dI) classes [(oB, .inr (0, [.int cnt, .ref aH, .int v66, .int 0])), (aH, .inl (cI, 60, .inl hgt))] H := hP
            have hD : va_D A [(oB, .inr (0, [.int cnt, .ref aH, .int v66, .int 0])), (aH, .inl (cI, 60, .inl hgt))] := hD
            refine lv_aload_n hx hb d_Boxes_putFirst_74 rfl (lv_at hl 0 rfl) ?_
            refine va_get (D := (dC, dI)) (ci := 0) (v := .int 0) (C := R_Boxes) (T := F_Boxes) (N := 4) hx hb hts hw_Boxes hown hK hP 0 rfl rfl 3 (by decide) (hts (.fieldLink R_Boxes 22 "PageForms$Boxes" "top" "I") (by decide +kernel)) (fun _ h9 => h9) rfl d_Boxes_putFirst_75 ?_
            refine lv_aload_n hx hb d_Boxes_putFirst_78 rfl (lv_at hl 0 rfl) ?_
            refine va_get (D := (dC, dI)) (ci := 0) (v := .ref aH) (C := R_Boxes) (T := F_Boxes) (N := 4) hx hb hts hw_Boxes hown hK hP 0 rfl rfl 1 (by decide) (hts (.fieldLink R_Boxes 15 "PageForms$Boxes" "heights" "[I") (by decide +kernel)) (fun _ h9 => h9) rfl d_Boxes_putFirst_79 ?_
            refine lv_iload hx hb d_Boxes_putFirst_82 (lv_at hl 5 rfl) ?_
            refine xa_iald hx hb hK hP 1 0 rfl rfl e5 k (by omega) (by omega) d_Boxes_putFirst_84 ?_
            refine lv_iadd hx hb d_Boxes_putFirst_85 ?_
            have a85 : (0 + (hgt k)).toInt = (0 + (hgt k).toInt) := xi_add (show (0 : Int32).toInt = 0 by decide) (rfl) (by omega) (by omega)
            refine lv_topi (fun v86 ev86 => ?_)
            have fv86 : v86.toInt = (0 + (hgt k).toInt) := by rw [ev86]; exact a85
            refine lv_istore (lv' := [(4, .int v86), (0, .ref oB), (1, .int p1), (2, .int p2), (3, .int p3), (5, .int x5)]) hx hb d_Boxes_putFirst_86 hl (by decide) rfl (fun ls hl => ?_)
            obtain ⟨v88, ev88⟩ : ∃ y : Int32, y = (x5 + 1) := ⟨_, rfl⟩
            have fv88 : v88.toInt = ((k : Int) + 1) := by rw [ev88]; exact xi_add e5 (show (1 : Int32).toInt = 1 by decide) (by omega) (by omega)
            refine lv_iinc (v := v88) (lv' := [(5, .int v88), (4, .int v86), (0, .ref oB), (1, .int p1), (2, .int p2), (3, .int p3)]) hx hb d_Boxes_putFirst_88 hl (k := 5) rfl (by rw [ev88]; rfl) (by decide) rfl (fun ls hl => ?_)
            refine lv_goto (tgt := 11) hx hb d_Boxes_putFirst_91 (by decide) ?_
            exact ih11 (k + 1) (P0 + 1) 0 ((hgt k).toInt) v86 v88 v66 0 (by omega) (by omega) (bq_new hst (by omega)) (by omega) (by omega) (by omega) (by decide) _ _ hP hD hS ls (lv_sub hl [2, 3, 4, 5, 1, 0] rfl)
          · refine lv_aload_n hx hb d_Boxes_putFirst_48 rfl (lv_at hl 0 rfl) ?_
            refine lv_iload hx hb d_Boxes_putFirst_49 (lv_at hl 4 rfl) ?_
            refine lv_iload_n hx hb d_Boxes_putFirst_51 rfl (lv_at hl 3 rfl) ?_
            refine lv_iadd hx hb d_Boxes_putFirst_52 ?_
            refine lv_topi (fun v53 ev53 => ?_)
            have fv53 : v53.toInt = (B0 + p3.toInt) := by rw [ev53]; exact a35
            refine va_put (D := (dC, dI)) (ci := 0) (v := .int v53) (ty := .int) (C := R_Boxes) (T := F_Boxes) (N := 4) hx hb hts hw_Boxes t_Boxes t_Boxes_ok n_Boxes hown hK hP hD hS 0 rfl rfl 3 (by decide) (hts (.fieldLink R_Boxes 22 "PageForms$Boxes" "top" "I") (by decide +kernel)) (fun _ h9 => h9) rfl (by decide +kernel) rfl rfl (Nat.le_of_ble_eq_true rfl) d_Boxes_putFirst_53 (fun H locs hP hD hS => ?_)
            have hP : va_P (dC, dI) classes [(oB, .inr (0, [.int cnt, .ref aH, .int pag1, .int v53])), (aH, .inl (cI, 60, .inl hgt))] H := hP
            have hD : va_D A [(oB, .inr (0, [.int cnt, .ref aH, .int pag1, .int v53])), (aH, .inl (cI, 60, .inl hgt))] := hD
            refine lv_goto (tgt := 74) hx hb d_Boxes_putFirst_56 (by decide) ?_
            refine lv_aload_n hx hb d_Boxes_putFirst_74 rfl (lv_at hl 0 rfl) ?_
            refine va_get (D := (dC, dI)) (ci := 0) (v := .int v53) (C := R_Boxes) (T := F_Boxes) (N := 4) hx hb hts hw_Boxes hown hK hP 0 rfl rfl 3 (by decide) (hts (.fieldLink R_Boxes 22 "PageForms$Boxes" "top" "I") (by decide +kernel)) (fun _ h9 => h9) rfl d_Boxes_putFirst_75 ?_
            refine lv_aload_n hx hb d_Boxes_putFirst_78 rfl (lv_at hl 0 rfl) ?_
            refine va_get (D := (dC, dI)) (ci := 0) (v := .ref aH) (C := R_Boxes) (T := F_Boxes) (N := 4) hx hb hts hw_Boxes hown hK hP 0 rfl rfl 1 (by decide) (hts (.fieldLink R_Boxes 15 "PageForms$Boxes" "heights" "[I") (by decide +kernel)) (fun _ h9 => h9) rfl d_Boxes_putFirst_79 ?_
            refine lv_iload hx hb d_Boxes_putFirst_82 (lv_at hl 5 rfl) ?_
            refine xa_iald hx hb hK hP 1 0 rfl rfl e5 k (by omega) (by omega) d_Boxes_putFirst_84 ?_
            refine lv_iadd hx hb d_Boxes_putFirst_85 ?_
            have a85 : (v53 + (hgt k)).toInt = ((B0 + p3.toInt) + (hgt k).toInt) := xi_add fv53 (rfl) (by omega) (by omega)
            refine lv_topi (fun v86 ev86 => ?_)
            have fv86 : v86.toInt = ((B0 + p3.toInt) + (hgt k).toInt) := by rw [ev86]; exact a85
            refine lv_istore (lv' := [(4, .int v86), (0, .ref oB), (1, .int p1), (2, .int p2), (3, .int p3), (5, .int x5)]) hx hb d_Boxes_putFirst_86 hl (by decide) rfl (fun ls hl => ?_)
            obtain ⟨v88, ev88⟩ : ∃ y : Int32, y = (x5 + 1) := ⟨_, rfl⟩
            have fv88 : v88.toInt = ((k : Int) + 1) := by rw [ev88]; exact xi_add e5 (show (1 : Int32).toInt = 1 by decide) (by omega) (by omega)
            refine lv_iinc (v := v88) (lv' := [(5, .int v88), (4, .int v86), (0, .ref oB), (1, .int p1), (2, .int p2), (3, .int p3)]) hx hb d_Boxes_putFirst_88 hl (k := 5) rfl (by rw [ev88]; rfl) (by decide) rfl (fun ls hl => ?_)
            refine lv_goto (tgt := 11) hx hb d_Boxes_putFirst_91 (by decide) ?_
            exact ih11 (k + 1) P0 (B0 + p3.toInt) (B0 + p3.toInt + (hgt k).toInt) v86 v88 pag1 v53 (by omega) (by omega) (bq_fit hst (by omega) (by omega)) (by omega) (by omega) (by omega) (by omega) _ _ hP hD hS ls (lv_sub hl [2, 3, 4, 5, 1, 0] rfl)
  refine lv_aload_n hx hb d_Boxes_putFirst_0 rfl (lv_at hl 0 rfl) ?_
  refine lv_iconst (v := (-1)) hx hb d_Boxes_putFirst_1 (by decide) ?_
  refine va_put (D := (dC, dI)) (ci := 0) (v := .int (-1)) (ty := .int) (C := R_Boxes) (T := F_Boxes) (N := 4) hx hb hts hw_Boxes t_Boxes t_Boxes_ok n_Boxes hown hK hP hD hS 0 rfl rfl 2 (by decide) (hts (.fieldLink R_Boxes 19 "PageForms$Boxes" "page" "I") (by decide +kernel)) (fun _ h9 => h9) rfl (by decide +kernel) rfl rfl (Nat.le_of_ble_eq_true rfl) d_Boxes_putFirst_2 (fun H locs hP hD hS => ?_)
  have hP : va_P (dC, dI) classes [(oB, .inr (0, [.int cnt, .ref aH, .int (-1), .int top])), (aH, .inl (cI, 60, .inl hgt))] H := hP
  have hD : va_D A [(oB, .inr (0, [.int cnt, .ref aH, .int (-1), .int top])), (aH, .inl (cI, 60, .inl hgt))] := hD
  refine lv_iconst (v := 0) hx hb d_Boxes_putFirst_5 (by decide) ?_
  refine lv_istore (lv' := [(4, .int 0), (0, .ref oB), (1, .int p1), (2, .int p2), (3, .int p3)]) hx hb d_Boxes_putFirst_6 hl (by decide) rfl (fun ls hl => ?_)
  refine lv_iconst (v := 0) hx hb d_Boxes_putFirst_8 (by decide) ?_
  refine lv_istore (lv' := [(5, .int 0), (4, .int 0), (0, .ref oB), (1, .int p1), (2, .int p2), (3, .int p3)]) hx hb d_Boxes_putFirst_9 hl (by decide) rfl (fun ls hl => ?_)
  exact loop11 (nN + 1) 0 (-1) top.toInt 0 0 0 (-1) top (by omega) (by omega) rfl (by decide) (by decide) (by decide) rfl _ _ hP hD hS ls (lv_sub hl [2, 3, 4, 5, 1, 0] rfl)

set_option maxHeartbeats 4000000 in
set_option maxRecDepth 100000 in
theorem k_Boxes_countPages (l : Launch) (dC : Nat → ClassId) (dI : Nat → Nat → Nat) (cI cZ : ClassId) (oB : Nat) (aH : Nat) (cnt : Int32) (pag : Int32) (top : Int32) (hgt : Nat → Int32) (sz : Nat) (p1 : Int32) (p2 : Int32) (hI : bq_I cnt hgt) : Met l y_Boxes_countPages w_Boxes_countPages ({ frames := 1, cells := 0, slots := 0, locals := 25 }) (va_Pc [.ref oB, .int p1, .int p2] (fun U => U.heap.size = sz ∧ va_P (dC, dI) classes [(oB, .inr (0, [.int cnt, .ref aH, .int pag, .int top])), (aH, .inl (cI, 60, .inl hgt))] U.heap ∧ va_K (dC, dI) classes [(cI, .int), (cZ, .boolean)] U ∧ va_D (fun _ => True) [(oB, .inr (0, [.int cnt, .ref aH, .int pag, .int top])), (aH, .inl (cI, 60, .inl hgt))])) (va_Qi (fun (r : Int32) (u : Int32 × Int32) => bq_pages cnt hgt p1 p2 r) (fun (u : Int32 × Int32) (t : State) => va_P (dC, dI) classes [(oB, .inr (0, [.int cnt, .ref aH, .int u.1, .int u.2])), (aH, .inl (cI, 60, .inl hgt))] t.heap ∧ va_K (dC, dI) classes [(cI, .int), (cZ, .boolean)] t ∧ va_D (va_A [(oB, .inr (0, [.int cnt, .ref aH, .int pag, .int top])), (aH, .inl (cI, 60, .inl hgt))] sz) [(oB, .inr (0, [.int cnt, .ref aH, .int u.1, .int u.2])), (aH, .inl (cI, 60, .inl hgt))]) (va_A [(oB, .inr (0, [.int cnt, .ref aH, .int pag, .int top])), (aH, .inl (cI, 60, .inl hgt))] sz)) 0 0 (va_A [(oB, .inr (0, [.int cnt, .ref aH, .int pag, .int top])), (aH, .inl (cI, 60, .inl hgt))] sz) := by
  refine Met.ofW (cc := b_Boxes_countPages) (maxL := 3) (ret := (some .int)) (by decide) rfl ?_
  intro p e s m args below meth c s₁ B hml hv
  obtain ⟨rfl, hsz, hP, hK, hD0⟩ := hv
  have hx := B.exec
  have hb := B.bytes
  have hr := B.returns
  have hts := atoms_spec (ws := w_Boxes_countPages) B.pre
  have hown : s.vm.findClass R_Boxes = some m.cls := findClass_of_methodNamed B.named
  have hlocks := B.notSynchronized
  have hw_Boxes : ∀ w ∈ w_Boxes, w ∈ w_Boxes_countPages := by decide +kernel
  subst hsz
  have hD := hD0.self (sz := s.heap.size)
  generalize hAe : va_A [(oB, .inr (0, [.int cnt, .ref aH, .int pag, .int top])), (aH, .inl (cI, 60, .inl hgt))] s.heap.size = A at hD ⊢
  have hA : ∀ q : Nat, s.heap.size ≤ q → A q := fun q h => by rw [← hAe]; exact Or.inr h
  have hS : va_S A s.heap s.heap [] := va_S.rf
  have hP : va_P (dC, dI) classes [(oB, .inr (0, [.int cnt, .ref aH, .int pag, .int top])), (aH, .inl (cI, 60, .inl hgt))] s.heap := hP
  have hl := lv_entry ([.ref oB, .int p1, .int p2]) (n := 3) (Nat.le_of_ble_eq_true rfl)
  rw [lg_entry_eq]
  generalize (lg_sl ([.ref oB, .int p1, .int p2]) ++ List.replicate (3 - (lg_sl ([.ref oB, .int p1, .int p2])).length) Slot.unset).toArray = ls at hl ⊢
  have hl : lv_has ls 3 [(0, .ref oB), (1, .int p1), (2, .int p2)] := hl
  obtain ⟨nB, hnB, hn60, hh⟩ := hI
  refine lv_iload_n hx hb d_Boxes_countPages_0 rfl (lv_at hl 1 rfl) ?_
  have hPc := hP.sub (ws' := []) [] rfl
  have hDc := hD.sub (ws' := []) [] (by decide) rfl
  have hFc := va_free (wc := []) hD hS hA [] rfl
  refine va_calli (va_runS (As := [.int p1]) (rest := []) ⟨hx, hb, hml, hown, hts⟩ (k_Boxes_isHeight l dC dI cI cZ s.heap.size p1) (cwS 1 hts g_Boxes_countPages_Boxes_isHeight rfl rfl rfl (by decide +kernel) ⟨Nat.le_of_ble_eq_true rfl, Nat.le_of_ble_eq_true rfl⟩) ⟨fun a U g mk q => by obtain ⟨q0, q1, qP, qK, qD⟩ := q; exact ⟨q0, q1, qP, va_K.moved (u := U) (U := U.calling g mk a) (Vm.Alike.refl U.vm) qK, qD⟩, fun U hU hW => ⟨rfl, by rw [hU], by rw [hU]; exact hPc, va_K.moved hW.alike hK, hDc.weaken (fun _ _ _ _ => trivial)⟩⟩ rfl rfl hl.1 rfl (lv_room (Nat.le_of_ble_eq_true rfl)) d_Boxes_countPages_1 ⟨Nat.le_of_ble_eq_true rfl, Nat.le_of_ble_eq_true rfl⟩) hS (fun q _ h => hFc q h) hFc (fun r1 u t H1 locs ht hvm hw hB hz1 hk1 hS => ?_)
  have w1 : (r1.toInt = 1 ∧ 1 ≤ p1.toInt ∧ p1.toInt ≤ 1000) ∨ (r1.toInt = 0 ∧ (p1.toInt < 1 ∨ 1000 < p1.toInt)) := hw
  obtain ⟨hP1, hK1, hD1⟩ := hB
  rw [ht] at hP1
  obtain ⟨hP, hD⟩ := va_join (wr := [(oB, .inr (0, [.int cnt, .ref aH, .int pag, .int top])), (aH, .inl (cI, 60, .inl hgt))]) (w1 := []) hP hD [] [0, 1] rfl rfl (by decide) (by decide) hk1 hFc hP1 hD1
  generalize H1 = H at hP hS ⊢
  have hP : va_P (dC, dI) classes [(oB, .inr (0, [.int cnt, .ref aH, .int pag, .int top])), (aH, .inl (cI, 60, .inl hgt))] H := hP
  have hD : va_D A [(oB, .inr (0, [.int cnt, .ref aH, .int pag, .int top])), (aH, .inl (cI, 60, .inl hgt))] := hD
  refine xi_if_eq (tgt := 14) hx hb (rfl) d_Boxes_countPages_4 (by decide) (fun c4 => ?_) (fun c4 => ?_)
  · refine lv_iconst (v := (-1)) hx hb d_Boxes_countPages_14 (by decide) ?_
    exact W.iret (v := (-1)) hx hb hr (fun t ht hW => ⟨⟨(-1), (pag, top), rfl, (show bq_pages cnt hgt p1 p2 ((-1) : Int32) from (Or.inr ⟨fun q => by unfold bq_ok at q; omega, by decide⟩)), by rw [ht]; exact hP, va_K.moved hW.alike hK, hD⟩, hS.F ht⟩) hS.2.2 d_Boxes_countPages_15
  · refine lv_iload_n hx hb d_Boxes_countPages_7 rfl (lv_at hl 2 rfl) ?_
    have hPc := hP.sub (ws' := []) [] rfl
    have hDc := hD.sub (ws' := []) [] (by decide) rfl
    have hFc := va_free (wc := []) hD hS hA [] rfl
    refine va_calli (va_runS (As := [.int p2]) (rest := []) ⟨hx, hb, hml, hown, hts⟩ (k_Boxes_isGap l dC dI cI cZ H.size p2) (cwS 1 hts g_Boxes_countPages_Boxes_isGap rfl rfl rfl (by decide +kernel) ⟨Nat.le_of_ble_eq_true rfl, Nat.le_of_ble_eq_true rfl⟩) ⟨fun a U g mk q => by obtain ⟨q0, q1, qP, qK, qD⟩ := q; exact ⟨q0, q1, qP, va_K.moved (u := U) (U := U.calling g mk a) (Vm.Alike.refl U.vm) qK, qD⟩, fun U hU hW => ⟨rfl, by rw [hU], by rw [hU]; exact hPc, va_K.moved hW.alike hK, hDc.weaken (fun _ _ _ _ => trivial)⟩⟩ rfl rfl hl.1 rfl (lv_room (Nat.le_of_ble_eq_true rfl)) d_Boxes_countPages_8 ⟨Nat.le_of_ble_eq_true rfl, Nat.le_of_ble_eq_true rfl⟩) hS (fun q _ h => hFc q h) hFc (fun r8 u t H1 locs ht hvm hw hB hz1 hk1 hS => ?_)
    have w8 : (r8.toInt = 1 ∧ 0 ≤ p2.toInt ∧ p2.toInt ≤ 100) ∨ (r8.toInt = 0 ∧ (p2.toInt < 0 ∨ 100 < p2.toInt)) := hw
    obtain ⟨hP1, hK1, hD1⟩ := hB
    rw [ht] at hP1
    obtain ⟨hP, hD⟩ := va_join (wr := [(oB, .inr (0, [.int cnt, .ref aH, .int pag, .int top])), (aH, .inl (cI, 60, .inl hgt))]) (w1 := []) hP hD [] [0, 1] rfl rfl (by decide) (by decide) hk1 hFc hP1 hD1
    generalize H1 = H at hP hS ⊢
    have hP : va_P (dC, dI) classes [(oB, .inr (0, [.int cnt, .ref aH, .int pag, .int top])), (aH, .inl (cI, 60, .inl hgt))] H := hP
    have hD : va_D A [(oB, .inr (0, [.int cnt, .ref aH, .int pag, .int top])), (aH, .inl (cI, 60, .inl hgt))] := hD
    refine xi_if_ne (tgt := 16) hx hb (rfl) d_Boxes_countPages_11 (by decide) (fun c11 => ?_) (fun c11 => ?_)
    · refine lv_aload_n hx hb d_Boxes_countPages_16 rfl (lv_at hl 0 rfl) ?_
      refine lv_aload_n hx hb d_Boxes_countPages_17 rfl (lv_at hl 0 rfl) ?_
      refine va_get (D := (dC, dI)) (ci := 0) (v := .int cnt) (C := R_Boxes) (T := F_Boxes) (N := 4) hx hb hts hw_Boxes hown hK hP 0 rfl rfl 0 (by decide) (hts (.fieldLink R_Boxes 9 "PageForms$Boxes" "count" "I") (by decide +kernel)) (fun _ h9 => h9) rfl d_Boxes_countPages_18 ?_
      refine lv_iload_n hx hb d_Boxes_countPages_21 rfl (lv_at hl 1 rfl) ?_
      refine lv_iload_n hx hb d_Boxes_countPages_22 rfl (lv_at hl 2 rfl) ?_
      have hPc := hP.sub (ws' := [(oB, .inr (0, [.int cnt, .ref aH, .int pag, .int top])), (aH, .inl (cI, 60, .inl hgt))]) [0, 1] rfl
      have hDc := hD.sub (ws' := [(oB, .inr (0, [.int cnt, .ref aH, .int pag, .int top])), (aH, .inl (cI, 60, .inl hgt))]) [0, 1] (by decide) rfl
      have hFc := va_free (wc := [(oB, .inr (0, [.int cnt, .ref aH, .int pag, .int top])), (aH, .inl (cI, 60, .inl hgt))]) hD hS hA [0, 1] rfl
      refine va_callv (va_runV (As := [.int cnt, .int p1, .int p2]) (rest := []) ⟨hx, hb, hml, hown, hts⟩ (k_Boxes_putFirst l dC dI cI cZ oB aH cnt pag top hgt H.size cnt p1 p2 nB hnB hn60 hh (by omega) (by omega)) (cwV 3 hts g_Boxes_countPages_Boxes_putFirst rfl rfl rfl (by decide +kernel) ⟨Nat.le_of_ble_eq_true rfl, Nat.le_of_ble_eq_true rfl⟩) ⟨fun a U g mk q => by obtain ⟨q0, q1, qP, qK, qD⟩ := q; exact ⟨q0, q1, qP, va_K.moved (u := U) (U := U.calling g mk a) (Vm.Alike.refl U.vm) qK, qD⟩, va_recv hK hPc (ci := 0) (q0 := 0) rfl rfl, fun U hU hW => ⟨rfl, by rw [hU], by rw [hU]; exact hPc, va_K.moved hW.alike hK, hDc.weaken (fun _ _ _ _ => trivial)⟩⟩ rfl rfl hl.1 rfl (lv_room (Nat.le_of_ble_eq_true rfl)) d_Boxes_countPages_23 ⟨Nat.le_of_ble_eq_true rfl, Nat.le_of_ble_eq_true rfl⟩) hS (fun q _ h => hFc q h) hFc (fun u t H1 locs ht hvm hw hB hz1 hk1 hS => ?_)
      obtain ⟨pag_23, top_23⟩ := u
      have w23 : pag_23.toInt = (bq hgt p1.toInt p2.toInt top.toInt nB).1 ∧ top_23.toInt = (bq hgt p1.toInt p2.toInt top.toInt nB).2.1 := hw
      obtain ⟨hP1, hK1, hD1⟩ := hB
      rw [ht] at hP1
      obtain ⟨hP, hD⟩ := va_join (wr := []) (w1 := [(oB, .inr (0, [.int cnt, .ref aH, .int pag_23, .int top_23])), (aH, .inl (cI, 60, .inl hgt))]) hP hD [0, 1] [] rfl rfl (by decide) (by decide) hk1 hFc hP1 hD1
      generalize H1 = H at hP hS ⊢
      have hP : va_P (dC, dI) classes [(oB, .inr (0, [.int cnt, .ref aH, .int pag_23, .int top_23])), (aH, .inl (cI, 60, .inl hgt))] H := hP
      have hD : va_D A [(oB, .inr (0, [.int cnt, .ref aH, .int pag_23, .int top_23])), (aH, .inl (cI, 60, .inl hgt))] := hD
      have hbd := bq_bnd (t0 := top.toInt) (h := hgt) (ht := p1.toInt) (g := p2.toInt) (by omega) nB _ _ _ rfl hh (by omega)
      refine lv_aload_n hx hb d_Boxes_countPages_26 rfl (lv_at hl 0 rfl) ?_
      refine va_get (D := (dC, dI)) (ci := 0) (v := .int pag_23) (C := R_Boxes) (T := F_Boxes) (N := 4) hx hb hts hw_Boxes hown hK hP 0 rfl rfl 2 (by decide) (hts (.fieldLink R_Boxes 19 "PageForms$Boxes" "page" "I") (by decide +kernel)) (fun _ h9 => h9) rfl d_Boxes_countPages_27 ?_
      refine lv_iconst (v := 1) hx hb d_Boxes_countPages_30 (by decide) ?_
      refine lv_iadd hx hb d_Boxes_countPages_31 ?_
      have a31 : (pag_23 + 1).toInt = (pag_23.toInt + 1) := xi_add (rfl) (show (1 : Int32).toInt = 1 by decide) (by rw [w23.1]; omega) (by rw [w23.1]; omega)
      exact W.iret (v := (pag_23 + 1)) hx hb hr (fun t ht hW => ⟨⟨(pag_23 + 1), (pag_23, top_23), rfl, (show bq_pages cnt hgt p1 p2 (pag_23 + 1) from (Or.inl ⟨⟨by omega, by omega, by omega, by omega⟩, by rw [a31, w23.1, hnB, bq_t1]; rfl⟩)), by rw [ht]; exact hP, va_K.moved hW.alike hK, hD⟩, hS.F ht⟩) hS.2.2 d_Boxes_countPages_32
    · refine lv_iconst (v := (-1)) hx hb d_Boxes_countPages_14 (by decide) ?_
      exact W.iret (v := (-1)) hx hb hr (fun t ht hW => ⟨⟨(-1), (pag, top), rfl, (show bq_pages cnt hgt p1 p2 ((-1) : Int32) from (Or.inr ⟨fun q => by unfold bq_ok at q; omega, by decide⟩)), by rw [ht]; exact hP, va_K.moved hW.alike hK, hD⟩, hS.F ht⟩) hS.2.2 d_Boxes_countPages_15

set_option maxHeartbeats 4000000 in
set_option maxRecDepth 100000 in
theorem k_Boxes_placeOf (l : Launch) (dC : Nat → ClassId) (dI : Nat → Nat → Nat) (cI cZ : ClassId) (oB : Nat) (aH : Nat) (cnt : Int32) (pag : Int32) (top : Int32) (hgt : Nat → Int32) (sz : Nat) (p1 : Int32) (p2 : Int32) (p3 : Int32) (p4 : Int32) (hI : bq_I cnt hgt) : Met l y_Boxes_placeOf w_Boxes_placeOf ({ frames := 1, cells := 0, slots := 0, locals := 25 }) (va_Pc [.ref oB, .int p1, .int p2, .int p3, .int p4] (fun U => U.heap.size = sz ∧ va_P (dC, dI) classes [(oB, .inr (0, [.int cnt, .ref aH, .int pag, .int top])), (aH, .inl (cI, 60, .inl hgt))] U.heap ∧ va_K (dC, dI) classes [(cI, .int), (cZ, .boolean)] U ∧ va_D (fun _ => True) [(oB, .inr (0, [.int cnt, .ref aH, .int pag, .int top])), (aH, .inl (cI, 60, .inl hgt))])) (va_Qi (fun (r : Int32) (u : Int32 × Int32) => bq_put cnt hgt p1 p2 p3 p4 r) (fun (u : Int32 × Int32) (t : State) => va_P (dC, dI) classes [(oB, .inr (0, [.int cnt, .ref aH, .int u.1, .int u.2])), (aH, .inl (cI, 60, .inl hgt))] t.heap ∧ va_K (dC, dI) classes [(cI, .int), (cZ, .boolean)] t ∧ va_D (va_A [(oB, .inr (0, [.int cnt, .ref aH, .int pag, .int top])), (aH, .inl (cI, 60, .inl hgt))] sz) [(oB, .inr (0, [.int cnt, .ref aH, .int u.1, .int u.2])), (aH, .inl (cI, 60, .inl hgt))]) (va_A [(oB, .inr (0, [.int cnt, .ref aH, .int pag, .int top])), (aH, .inl (cI, 60, .inl hgt))] sz)) 0 0 (va_A [(oB, .inr (0, [.int cnt, .ref aH, .int pag, .int top])), (aH, .inl (cI, 60, .inl hgt))] sz) := by
  refine Met.ofW (cc := b_Boxes_placeOf) (maxL := 5) (ret := (some .int)) (by decide) rfl ?_
  intro p e s m args below meth c s₁ B hml hv
  obtain ⟨rfl, hsz, hP, hK, hD0⟩ := hv
  have hx := B.exec
  have hb := B.bytes
  have hr := B.returns
  have hts := atoms_spec (ws := w_Boxes_placeOf) B.pre
  have hown : s.vm.findClass R_Boxes = some m.cls := findClass_of_methodNamed B.named
  have hlocks := B.notSynchronized
  have hw_Boxes : ∀ w ∈ w_Boxes, w ∈ w_Boxes_placeOf := by decide +kernel
  subst hsz
  have hD := hD0.self (sz := s.heap.size)
  generalize hAe : va_A [(oB, .inr (0, [.int cnt, .ref aH, .int pag, .int top])), (aH, .inl (cI, 60, .inl hgt))] s.heap.size = A at hD ⊢
  have hA : ∀ q : Nat, s.heap.size ≤ q → A q := fun q h => by rw [← hAe]; exact Or.inr h
  have hS : va_S A s.heap s.heap [] := va_S.rf
  have hP : va_P (dC, dI) classes [(oB, .inr (0, [.int cnt, .ref aH, .int pag, .int top])), (aH, .inl (cI, 60, .inl hgt))] s.heap := hP
  have hl := lv_entry ([.ref oB, .int p1, .int p2, .int p3, .int p4]) (n := 5) (Nat.le_of_ble_eq_true rfl)
  rw [lg_entry_eq]
  generalize (lg_sl ([.ref oB, .int p1, .int p2, .int p3, .int p4]) ++ List.replicate (5 - (lg_sl ([.ref oB, .int p1, .int p2, .int p3, .int p4])).length) Slot.unset).toArray = ls at hl ⊢
  have hl : lv_has ls 5 [(0, .ref oB), (1, .int p1), (2, .int p2), (3, .int p3), (4, .int p4)] := hl
  obtain ⟨nB, hnB, hn60, hh⟩ := hI
  refine lv_iload_n hx hb d_Boxes_placeOf_0 rfl (lv_at hl 2 rfl) ?_
  have hPc := hP.sub (ws' := []) [] rfl
  have hDc := hD.sub (ws' := []) [] (by decide) rfl
  have hFc := va_free (wc := []) hD hS hA [] rfl
  refine va_calli (va_runS (As := [.int p2]) (rest := []) ⟨hx, hb, hml, hown, hts⟩ (k_Boxes_isHeight l dC dI cI cZ s.heap.size p2) (cwS 1 hts g_Boxes_placeOf_Boxes_isHeight rfl rfl rfl (by decide +kernel) ⟨Nat.le_of_ble_eq_true rfl, Nat.le_of_ble_eq_true rfl⟩) ⟨fun a U g mk q => by obtain ⟨q0, q1, qP, qK, qD⟩ := q; exact ⟨q0, q1, qP, va_K.moved (u := U) (U := U.calling g mk a) (Vm.Alike.refl U.vm) qK, qD⟩, fun U hU hW => ⟨rfl, by rw [hU], by rw [hU]; exact hPc, va_K.moved hW.alike hK, hDc.weaken (fun _ _ _ _ => trivial)⟩⟩ rfl rfl hl.1 rfl (lv_room (Nat.le_of_ble_eq_true rfl)) d_Boxes_placeOf_1 ⟨Nat.le_of_ble_eq_true rfl, Nat.le_of_ble_eq_true rfl⟩) hS (fun q _ h => hFc q h) hFc (fun r1 u t H1 locs ht hvm hw hB hz1 hk1 hS => ?_)
  have w1 : (r1.toInt = 1 ∧ 1 ≤ p2.toInt ∧ p2.toInt ≤ 1000) ∨ (r1.toInt = 0 ∧ (p2.toInt < 1 ∨ 1000 < p2.toInt)) := hw
  obtain ⟨hP1, hK1, hD1⟩ := hB
  rw [ht] at hP1
  obtain ⟨hP, hD⟩ := va_join (wr := [(oB, .inr (0, [.int cnt, .ref aH, .int pag, .int top])), (aH, .inl (cI, 60, .inl hgt))]) (w1 := []) hP hD [] [0, 1] rfl rfl (by decide) (by decide) hk1 hFc hP1 hD1
  generalize H1 = H at hP hS ⊢
  have hP : va_P (dC, dI) classes [(oB, .inr (0, [.int cnt, .ref aH, .int pag, .int top])), (aH, .inl (cI, 60, .inl hgt))] H := hP
  have hD : va_D A [(oB, .inr (0, [.int cnt, .ref aH, .int pag, .int top])), (aH, .inl (cI, 60, .inl hgt))] := hD
  refine xi_if_eq (tgt := 26) hx hb (rfl) d_Boxes_placeOf_4 (by decide) (fun c4 => ?_) (fun c4 => ?_)
  · refine lv_iconst (v := (-1)) hx hb d_Boxes_placeOf_26 (by decide) ?_
    exact W.iret (v := (-1)) hx hb hr (fun t ht hW => ⟨⟨(-1), (pag, top), rfl, (show bq_put cnt hgt p1 p2 p3 p4 ((-1) : Int32) from (Or.inr ⟨fun q => by unfold bq_ok at q; omega, by decide⟩)), by rw [ht]; exact hP, va_K.moved hW.alike hK, hD⟩, hS.F ht⟩) hS.2.2 d_Boxes_placeOf_27
  · refine lv_iload_n hx hb d_Boxes_placeOf_7 rfl (lv_at hl 3 rfl) ?_
    have hPc := hP.sub (ws' := []) [] rfl
    have hDc := hD.sub (ws' := []) [] (by decide) rfl
    have hFc := va_free (wc := []) hD hS hA [] rfl
    refine va_calli (va_runS (As := [.int p3]) (rest := []) ⟨hx, hb, hml, hown, hts⟩ (k_Boxes_isGap l dC dI cI cZ H.size p3) (cwS 1 hts g_Boxes_placeOf_Boxes_isGap rfl rfl rfl (by decide +kernel) ⟨Nat.le_of_ble_eq_true rfl, Nat.le_of_ble_eq_true rfl⟩) ⟨fun a U g mk q => by obtain ⟨q0, q1, qP, qK, qD⟩ := q; exact ⟨q0, q1, qP, va_K.moved (u := U) (U := U.calling g mk a) (Vm.Alike.refl U.vm) qK, qD⟩, fun U hU hW => ⟨rfl, by rw [hU], by rw [hU]; exact hPc, va_K.moved hW.alike hK, hDc.weaken (fun _ _ _ _ => trivial)⟩⟩ rfl rfl hl.1 rfl (lv_room (Nat.le_of_ble_eq_true rfl)) d_Boxes_placeOf_8 ⟨Nat.le_of_ble_eq_true rfl, Nat.le_of_ble_eq_true rfl⟩) hS (fun q _ h => hFc q h) hFc (fun r8 u t H1 locs ht hvm hw hB hz1 hk1 hS => ?_)
    have w8 : (r8.toInt = 1 ∧ 0 ≤ p3.toInt ∧ p3.toInt ≤ 100) ∨ (r8.toInt = 0 ∧ (p3.toInt < 0 ∨ 100 < p3.toInt)) := hw
    obtain ⟨hP1, hK1, hD1⟩ := hB
    rw [ht] at hP1
    obtain ⟨hP, hD⟩ := va_join (wr := [(oB, .inr (0, [.int cnt, .ref aH, .int pag, .int top])), (aH, .inl (cI, 60, .inl hgt))]) (w1 := []) hP hD [] [0, 1] rfl rfl (by decide) (by decide) hk1 hFc hP1 hD1
    generalize H1 = H at hP hS ⊢
    have hP : va_P (dC, dI) classes [(oB, .inr (0, [.int cnt, .ref aH, .int pag, .int top])), (aH, .inl (cI, 60, .inl hgt))] H := hP
    have hD : va_D A [(oB, .inr (0, [.int cnt, .ref aH, .int pag, .int top])), (aH, .inl (cI, 60, .inl hgt))] := hD
    refine xi_if_eq (tgt := 26) hx hb (rfl) d_Boxes_placeOf_11 (by decide) (fun c11 => ?_) (fun c11 => ?_)
    · refine lv_iconst (v := (-1)) hx hb d_Boxes_placeOf_26 (by decide) ?_
      exact W.iret (v := (-1)) hx hb hr (fun t ht hW => ⟨⟨(-1), (pag, top), rfl, (show bq_put cnt hgt p1 p2 p3 p4 ((-1) : Int32) from (Or.inr ⟨fun q => by unfold bq_ok at q; omega, by decide⟩)), by rw [ht]; exact hP, va_K.moved hW.alike hK, hD⟩, hS.F ht⟩) hS.2.2 d_Boxes_placeOf_27
    · refine lv_iload_n hx hb d_Boxes_placeOf_14 rfl (lv_at hl 1 rfl) ?_
      refine xi_if_lt (tgt := 26) hx hb (rfl) d_Boxes_placeOf_15 (by decide) (fun c15 => ?_) (fun c15 => ?_)
      · refine lv_iconst (v := (-1)) hx hb d_Boxes_placeOf_26 (by decide) ?_
        exact W.iret (v := (-1)) hx hb hr (fun t ht hW => ⟨⟨(-1), (pag, top), rfl, (show bq_put cnt hgt p1 p2 p3 p4 ((-1) : Int32) from (Or.inr ⟨fun q => by unfold bq_ok at q; omega, by decide⟩)), by rw [ht]; exact hP, va_K.moved hW.alike hK, hD⟩, hS.F ht⟩) hS.2.2 d_Boxes_placeOf_27
      · refine lv_iload_n hx hb d_Boxes_placeOf_18 rfl (lv_at hl 1 rfl) ?_
        refine lv_aload_n hx hb d_Boxes_placeOf_19 rfl (lv_at hl 0 rfl) ?_
        refine va_get (D := (dC, dI)) (ci := 0) (v := .int cnt) (C := R_Boxes) (T := F_Boxes) (N := 4) hx hb hts hw_Boxes hown hK hP 0 rfl rfl 0 (by decide) (hts (.fieldLink R_Boxes 9 "PageForms$Boxes" "count" "I") (by decide +kernel)) (fun _ h9 => h9) rfl d_Boxes_placeOf_20 ?_
        refine xi_icmp_lt (tgt := 28) hx hb (rfl) hnB d_Boxes_placeOf_23 (by decide) (fun c23 => ?_) (fun c23 => ?_)
        · refine lv_iload hx hb d_Boxes_placeOf_28 (lv_at hl 4 rfl) ?_
          refine xi_if_eq (tgt := 41) hx hb (rfl) d_Boxes_placeOf_30 (by decide) (fun c30 => ?_) (fun c30 => ?_)
          · obtain ⟨b, hb0⟩ : ∃ b : Nat, p1.toInt = (b : Int) := ⟨p1.toInt.toNat, by omega⟩
            refine lv_aload_n hx hb d_Boxes_placeOf_41 rfl (lv_at hl 0 rfl) ?_
            refine lv_iload_n hx hb d_Boxes_placeOf_42 rfl (lv_at hl 1 rfl) ?_
            refine lv_iconst (v := 1) hx hb d_Boxes_placeOf_43 (by decide) ?_
            refine lv_iadd hx hb d_Boxes_placeOf_44 ?_
            have a44 : (p1 + 1).toInt = (p1.toInt + 1) := xi_add (rfl) (show (1 : Int32).toInt = 1 by decide) (by omega) (by omega)
            refine lv_iload_n hx hb d_Boxes_placeOf_45 rfl (lv_at hl 2 rfl) ?_
            refine lv_iload_n hx hb d_Boxes_placeOf_46 rfl (lv_at hl 3 rfl) ?_
            have hPc := hP.sub (ws' := [(oB, .inr (0, [.int cnt, .ref aH, .int pag, .int top])), (aH, .inl (cI, 60, .inl hgt))]) [0, 1] rfl
            have hDc := hD.sub (ws' := [(oB, .inr (0, [.int cnt, .ref aH, .int pag, .int top])), (aH, .inl (cI, 60, .inl hgt))]) [0, 1] (by decide) rfl
            have hFc := va_free (wc := [(oB, .inr (0, [.int cnt, .ref aH, .int pag, .int top])), (aH, .inl (cI, 60, .inl hgt))]) hD hS hA [0, 1] rfl
            refine va_callv (va_runV (As := [.int (p1 + 1), .int p2, .int p3]) (rest := []) ⟨hx, hb, hml, hown, hts⟩ (k_Boxes_putFirst l dC dI cI cZ oB aH cnt pag top hgt H.size (p1 + 1) p2 p3 (b + 1) (by omega) (by omega) (fun j hj => hh j (by omega)) (by omega) (by omega)) (cwV 3 hts g_Boxes_placeOf_Boxes_putFirst rfl rfl rfl (by decide +kernel) ⟨Nat.le_of_ble_eq_true rfl, Nat.le_of_ble_eq_true rfl⟩) ⟨fun a U g mk q => by obtain ⟨q0, q1, qP, qK, qD⟩ := q; exact ⟨q0, q1, qP, va_K.moved (u := U) (U := U.calling g mk a) (Vm.Alike.refl U.vm) qK, qD⟩, va_recv hK hPc (ci := 0) (q0 := 0) rfl rfl, fun U hU hW => ⟨rfl, by rw [hU], by rw [hU]; exact hPc, va_K.moved hW.alike hK, hDc.weaken (fun _ _ _ _ => trivial)⟩⟩ rfl rfl hl.1 rfl (lv_room (Nat.le_of_ble_eq_true rfl)) d_Boxes_placeOf_47 ⟨Nat.le_of_ble_eq_true rfl, Nat.le_of_ble_eq_true rfl⟩) hS (fun q _ h => hFc q h) hFc (fun u t H1 locs ht hvm hw hB hz1 hk1 hS => ?_)
            obtain ⟨pag_47, top_47⟩ := u
            have w47 : pag_47.toInt = (bq hgt p2.toInt p3.toInt top.toInt (b + 1)).1 ∧ top_47.toInt = (bq hgt p2.toInt p3.toInt top.toInt (b + 1)).2.1 := hw
            obtain ⟨hP1, hK1, hD1⟩ := hB
            rw [ht] at hP1
            obtain ⟨hP, hD⟩ := va_join (wr := []) (w1 := [(oB, .inr (0, [.int cnt, .ref aH, .int pag_47, .int top_47])), (aH, .inl (cI, 60, .inl hgt))]) hP hD [0, 1] [] rfl rfl (by decide) (by decide) hk1 hFc hP1 hD1
            generalize H1 = H at hP hS ⊢
            have hP : va_P (dC, dI) classes [(oB, .inr (0, [.int cnt, .ref aH, .int pag_47, .int top_47])), (aH, .inl (cI, 60, .inl hgt))] H := hP
            have hD : va_D A [(oB, .inr (0, [.int cnt, .ref aH, .int pag_47, .int top_47])), (aH, .inl (cI, 60, .inl hgt))] := hD
            refine lv_iload hx hb d_Boxes_placeOf_50 (lv_at hl 4 rfl) ?_
            refine xi_if_ne (tgt := 62) hx hb (rfl) d_Boxes_placeOf_52 (by decide) (fun c52 => ?_) (fun c52 => ?_)
            · refine lv_aload_n hx hb d_Boxes_placeOf_62 rfl (lv_at hl 0 rfl) ?_
              refine va_get (D := (dC, dI)) (ci := 0) (v := .int top_47) (C := R_Boxes) (T := F_Boxes) (N := 4) hx hb hts hw_Boxes hown hK hP 0 rfl rfl 3 (by decide) (hts (.fieldLink R_Boxes 22 "PageForms$Boxes" "top" "I") (by decide +kernel)) (fun _ h9 => h9) rfl d_Boxes_placeOf_63 ?_
              exact W.iret (v := top_47) hx hb hr (fun t ht hW => ⟨⟨top_47, (pag_47, top_47), rfl, (show bq_put cnt hgt p1 p2 p3 p4 top_47 from (Or.inl ⟨⟨by omega, by omega, by omega, by omega⟩, by omega, by omega, Or.inr ⟨by omega, by rw [w47.2, bq_t0, hb0]; rfl⟩⟩)), by rw [ht]; exact hP, va_K.moved hW.alike hK, hD⟩, hS.F ht⟩) hS.2.2 d_Boxes_placeOf_66
            · refine lv_aload_n hx hb d_Boxes_placeOf_55 rfl (lv_at hl 0 rfl) ?_
              refine va_get (D := (dC, dI)) (ci := 0) (v := .int pag_47) (C := R_Boxes) (T := F_Boxes) (N := 4) hx hb hts hw_Boxes hown hK hP 0 rfl rfl 2 (by decide) (hts (.fieldLink R_Boxes 19 "PageForms$Boxes" "page" "I") (by decide +kernel)) (fun _ h9 => h9) rfl d_Boxes_placeOf_56 ?_
              refine lv_goto (tgt := 66) hx hb d_Boxes_placeOf_59 (by decide) ?_
              exact W.iret (v := pag_47) hx hb hr (fun t ht hW => ⟨⟨pag_47, (pag_47, top_47), rfl, (show bq_put cnt hgt p1 p2 p3 p4 pag_47 from (Or.inl ⟨⟨by omega, by omega, by omega, by omega⟩, by omega, by omega, Or.inl ⟨by omega, by rw [w47.1, bq_t0, hb0]; rfl⟩⟩)), by rw [ht]; exact hP, va_K.moved hW.alike hK, hD⟩, hS.F ht⟩) hS.2.2 d_Boxes_placeOf_66
          · refine lv_iload hx hb d_Boxes_placeOf_33 (lv_at hl 4 rfl) ?_
            refine lv_iconst (v := 1) hx hb d_Boxes_placeOf_35 (by decide) ?_
            refine xi_icmp_eq (tgt := 41) hx hb (rfl) (show (1 : Int32).toInt = 1 by decide) d_Boxes_placeOf_36 (by decide) (fun c36 => ?_) (fun c36 => ?_)
            · obtain ⟨b, hb0⟩ : ∃ b : Nat, p1.toInt = (b : Int) := ⟨p1.toInt.toNat, by omega⟩
              refine lv_aload_n hx hb d_Boxes_placeOf_41 rfl (lv_at hl 0 rfl) ?_
              refine lv_iload_n hx hb d_Boxes_placeOf_42 rfl (lv_at hl 1 rfl) ?_
              refine lv_iconst (v := 1) hx hb d_Boxes_placeOf_43 (by decide) ?_
              refine lv_iadd hx hb d_Boxes_placeOf_44 ?_
              have a44 : (p1 + 1).toInt = (p1.toInt + 1) := xi_add (rfl) (show (1 : Int32).toInt = 1 by decide) (by omega) (by omega)
              refine lv_iload_n hx hb d_Boxes_placeOf_45 rfl (lv_at hl 2 rfl) ?_
              refine lv_iload_n hx hb d_Boxes_placeOf_46 rfl (lv_at hl 3 rfl) ?_
              have hPc := hP.sub (ws' := [(oB, .inr (0, [.int cnt, .ref aH, .int pag, .int top])), (aH, .inl (cI, 60, .inl hgt))]) [0, 1] rfl
              have hDc := hD.sub (ws' := [(oB, .inr (0, [.int cnt, .ref aH, .int pag, .int top])), (aH, .inl (cI, 60, .inl hgt))]) [0, 1] (by decide) rfl
              have hFc := va_free (wc := [(oB, .inr (0, [.int cnt, .ref aH, .int pag, .int top])), (aH, .inl (cI, 60, .inl hgt))]) hD hS hA [0, 1] rfl
              refine va_callv (va_runV (As := [.int (p1 + 1), .int p2, .int p3]) (rest := []) ⟨hx, hb, hml, hown, hts⟩ (k_Boxes_putFirst l dC dI cI cZ oB aH cnt pag top hgt H.size (p1 + 1) p2 p3 (b + 1) (by omega) (by omega) (fun j hj => hh j (by omega)) (by omega) (by omega)) (cwV 3 hts g_Boxes_placeOf_Boxes_putFirst rfl rfl rfl (by decide +kernel) ⟨Nat.le_of_ble_eq_true rfl, Nat.le_of_ble_eq_true rfl⟩) ⟨fun a U g mk q => by obtain ⟨q0, q1, qP, qK, qD⟩ := q; exact ⟨q0, q1, qP, va_K.moved (u := U) (U := U.calling g mk a) (Vm.Alike.refl U.vm) qK, qD⟩, va_recv hK hPc (ci := 0) (q0 := 0) rfl rfl, fun U hU hW => ⟨rfl, by rw [hU], by rw [hU]; exact hPc, va_K.moved hW.alike hK, hDc.weaken (fun _ _ _ _ => trivial)⟩⟩ rfl rfl hl.1 rfl (lv_room (Nat.le_of_ble_eq_true rfl)) d_Boxes_placeOf_47 ⟨Nat.le_of_ble_eq_true rfl, Nat.le_of_ble_eq_true rfl⟩) hS (fun q _ h => hFc q h) hFc (fun u t H1 locs ht hvm hw hB hz1 hk1 hS => ?_)
              obtain ⟨pag_47, top_47⟩ := u
              have w47 : pag_47.toInt = (bq hgt p2.toInt p3.toInt top.toInt (b + 1)).1 ∧ top_47.toInt = (bq hgt p2.toInt p3.toInt top.toInt (b + 1)).2.1 := hw
              obtain ⟨hP1, hK1, hD1⟩ := hB
              rw [ht] at hP1
              obtain ⟨hP, hD⟩ := va_join (wr := []) (w1 := [(oB, .inr (0, [.int cnt, .ref aH, .int pag_47, .int top_47])), (aH, .inl (cI, 60, .inl hgt))]) hP hD [0, 1] [] rfl rfl (by decide) (by decide) hk1 hFc hP1 hD1
              generalize H1 = H at hP hS ⊢
              have hP : va_P (dC, dI) classes [(oB, .inr (0, [.int cnt, .ref aH, .int pag_47, .int top_47])), (aH, .inl (cI, 60, .inl hgt))] H := hP
              have hD : va_D A [(oB, .inr (0, [.int cnt, .ref aH, .int pag_47, .int top_47])), (aH, .inl (cI, 60, .inl hgt))] := hD
              refine lv_iload hx hb d_Boxes_placeOf_50 (lv_at hl 4 rfl) ?_
              refine xi_if_ne (tgt := 62) hx hb (rfl) d_Boxes_placeOf_52 (by decide) (fun c52 => ?_) (fun c52 => ?_)
              · refine lv_aload_n hx hb d_Boxes_placeOf_62 rfl (lv_at hl 0 rfl) ?_
                refine va_get (D := (dC, dI)) (ci := 0) (v := .int top_47) (C := R_Boxes) (T := F_Boxes) (N := 4) hx hb hts hw_Boxes hown hK hP 0 rfl rfl 3 (by decide) (hts (.fieldLink R_Boxes 22 "PageForms$Boxes" "top" "I") (by decide +kernel)) (fun _ h9 => h9) rfl d_Boxes_placeOf_63 ?_
                exact W.iret (v := top_47) hx hb hr (fun t ht hW => ⟨⟨top_47, (pag_47, top_47), rfl, (show bq_put cnt hgt p1 p2 p3 p4 top_47 from (Or.inl ⟨⟨by omega, by omega, by omega, by omega⟩, by omega, by omega, Or.inr ⟨by omega, by rw [w47.2, bq_t0, hb0]; rfl⟩⟩)), by rw [ht]; exact hP, va_K.moved hW.alike hK, hD⟩, hS.F ht⟩) hS.2.2 d_Boxes_placeOf_66
              · refine lv_aload_n hx hb d_Boxes_placeOf_55 rfl (lv_at hl 0 rfl) ?_
                refine va_get (D := (dC, dI)) (ci := 0) (v := .int pag_47) (C := R_Boxes) (T := F_Boxes) (N := 4) hx hb hts hw_Boxes hown hK hP 0 rfl rfl 2 (by decide) (hts (.fieldLink R_Boxes 19 "PageForms$Boxes" "page" "I") (by decide +kernel)) (fun _ h9 => h9) rfl d_Boxes_placeOf_56 ?_
                refine lv_goto (tgt := 66) hx hb d_Boxes_placeOf_59 (by decide) ?_
                exact W.iret (v := pag_47) hx hb hr (fun t ht hW => ⟨⟨pag_47, (pag_47, top_47), rfl, (show bq_put cnt hgt p1 p2 p3 p4 pag_47 from (Or.inl ⟨⟨by omega, by omega, by omega, by omega⟩, by omega, by omega, Or.inl ⟨by omega, by rw [w47.1, bq_t0, hb0]; rfl⟩⟩)), by rw [ht]; exact hP, va_K.moved hW.alike hK, hD⟩, hS.F ht⟩) hS.2.2 d_Boxes_placeOf_66
            · refine lv_iconst (v := (-1)) hx hb d_Boxes_placeOf_39 (by decide) ?_
              exact W.iret (v := (-1)) hx hb hr (fun t ht hW => ⟨⟨(-1), (pag, top), rfl, (show bq_put cnt hgt p1 p2 p3 p4 ((-1) : Int32) from (Or.inr ⟨fun q => by unfold bq_ok at q; omega, by decide⟩)), by rw [ht]; exact hP, va_K.moved hW.alike hK, hD⟩, hS.F ht⟩) hS.2.2 d_Boxes_placeOf_40
        · refine lv_iconst (v := (-1)) hx hb d_Boxes_placeOf_26 (by decide) ?_
          exact W.iret (v := (-1)) hx hb hr (fun t ht hW => ⟨⟨(-1), (pag, top), rfl, (show bq_put cnt hgt p1 p2 p3 p4 ((-1) : Int32) from (Or.inr ⟨fun q => by unfold bq_ok at q; omega, by decide⟩)), by rw [ht]; exact hP, va_K.moved hW.alike hK, hD⟩, hS.F ht⟩) hS.2.2 d_Boxes_placeOf_27
