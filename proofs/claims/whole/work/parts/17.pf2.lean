set_option maxHeartbeats 4000000 in
set_option maxRecDepth 100000 in
theorem k_PF_cage (l : Launch) (dC : Nat → ClassId) (dI : Nat → Nat → Nat) (cI cZ : ClassId) (oX : Nat) (oG : Nat) (aK : Nat) (aW : Nat) (oT : Nat) (oB : Nat) (oC : Nat) (wid : Int32) (hig : Int32) (cag : Nat → Int32) (wan : Nat → Int32) (sz : Nat) (p1 : Int32) (p2 : Int32) (wN : Nat) (hN : Nat) (ew : wid.toInt = (wN : Int)) (eh : hig.toInt = (hN : Int)) (hw1 : 1 ≤ wN ∧ wN ≤ 8) (hh1 : 1 ≤ hN ∧ hN ≤ 8) : Met l y_PF_cage w_PF_cage ({ frames := 1, cells := 0, slots := 0, locals := 22 }) (va_Pc [.ref oX, .int p1, .int p2] (fun U => U.heap.size = sz ∧ va_P (dC, dI) classes [(oX, .inr (4, [.ref oT, .ref oB, .ref oG, .ref oC])), (oG, .inr (2, [.int wid, .int hig, .ref aK, .ref aW])), (aK, .inl (cI, 64, .inl cag)), (aW, .inl (cI, 5, .inl wan))] U.heap ∧ va_K (dC, dI) classes [(cI, .int), (cZ, .boolean)] U ∧ va_D (fun _ => True) [(oX, .inr (4, [.ref oT, .ref oB, .ref oG, .ref oC])), (oG, .inr (2, [.int wid, .int hig, .ref aK, .ref aW])), (aK, .inl (cI, 64, .inl cag)), (aW, .inl (cI, 5, .inl wan))] ∧ nn_All U)) (va_Qi (fun (r : Int32) (u : (Nat → Int32)) => gd_mark wN hN cag p1 p2 r u) (fun (u : (Nat → Int32)) (t : State) => va_P (dC, dI) classes [(oX, .inr (4, [.ref oT, .ref oB, .ref oG, .ref oC])), (oG, .inr (2, [.int wid, .int hig, .ref aK, .ref aW])), (aK, .inl (cI, 64, .inl u)), (aW, .inl (cI, 5, .inl wan))] t.heap ∧ va_K (dC, dI) classes [(cI, .int), (cZ, .boolean)] t ∧ va_D (va_A [(oX, .inr (4, [.ref oT, .ref oB, .ref oG, .ref oC])), (oG, .inr (2, [.int wid, .int hig, .ref aK, .ref aW])), (aK, .inl (cI, 64, .inl cag)), (aW, .inl (cI, 5, .inl wan))] sz) [(oX, .inr (4, [.ref oT, .ref oB, .ref oG, .ref oC])), (oG, .inr (2, [.int wid, .int hig, .ref aK, .ref aW])), (aK, .inl (cI, 64, .inl u)), (aW, .inl (cI, 5, .inl wan))]) (va_A [(oX, .inr (4, [.ref oT, .ref oB, .ref oG, .ref oC])), (oG, .inr (2, [.int wid, .int hig, .ref aK, .ref aW])), (aK, .inl (cI, 64, .inl cag)), (aW, .inl (cI, 5, .inl wan))] sz)) 0 0 (va_A [(oX, .inr (4, [.ref oT, .ref oB, .ref oG, .ref oC])), (oG, .inr (2, [.int wid, .int hig, .ref aK, .ref aW])), (aK, .inl (cI, 64, .inl cag)), (aW, .inl (cI, 5, .inl wan))] sz) := by
  refine Met.ofW (cc := b_PF_cage) (maxL := 3) (ret := (some .boolean)) (by decide) rfl ?_
  intro p e s m args below meth c s₁ B hml hv
  obtain ⟨rfl, hsz, hP, hK, hD0, hNst⟩ := hv
  have hx := B.exec
  have hb := B.bytes
  have hr := B.returns
  have hts := atoms_spec (ws := w_PF_cage) B.pre
  have hown : s.vm.findClass R_PF = some m.cls := findClass_of_methodNamed B.named
  have hlocks := B.notSynchronized
  have hw_PF : ∀ w ∈ w_PF, w ∈ w_PF_cage := by decide +kernel
  have hw_Grid : ∀ w ∈ w_Grid, w ∈ w_PF_cage := by decide +kernel
  subst hsz
  have hD := hD0.self (sz := s.heap.size)
  generalize hAe : va_A [(oX, .inr (4, [.ref oT, .ref oB, .ref oG, .ref oC])), (oG, .inr (2, [.int wid, .int hig, .ref aK, .ref aW])), (aK, .inl (cI, 64, .inl cag)), (aW, .inl (cI, 5, .inl wan))] s.heap.size = A at hD ⊢
  have hA : ∀ q : Nat, s.heap.size ≤ q → A q := fun q h => by rw [← hAe]; exact Or.inr h
  have hS : va_S A s.heap s.heap [] := va_S.rf
  have hP : va_P (dC, dI) classes [(oX, .inr (4, [.ref oT, .ref oB, .ref oG, .ref oC])), (oG, .inr (2, [.int wid, .int hig, .ref aK, .ref aW])), (aK, .inl (cI, 64, .inl cag)), (aW, .inl (cI, 5, .inl wan))] s.heap := hP
  have hl := lv_entry ([.ref oX, .int p1, .int p2]) (n := 3) (Nat.le_of_ble_eq_true rfl)
  rw [lg_entry_eq]
  generalize (lg_sl ([.ref oX, .int p1, .int p2]) ++ List.replicate (3 - (lg_sl ([.ref oX, .int p1, .int p2])).length) Slot.unset).toArray = ls at hl ⊢
  have hl : lv_has ls 3 [(0, .ref oX), (1, .int p1), (2, .int p2)] := hl
  refine lv_aload_n hx hb d_PF_cage_0 rfl (lv_at hl 0 rfl) ?_
  refine va_get (D := (dC, dI)) (ci := 4) (v := .ref oG) (C := R_PF) (T := F_PF) (N := 4) hx hb hts hw_PF hown hK hP 0 rfl rfl 2 (by decide) (hts (.fieldLink R_PF 26 "PageForms" "cells" "LPageForms$Grid;") (by decide +kernel)) (fun _ h9 => h9) rfl d_PF_cage_1 ?_
  refine lv_iload_n hx hb d_PF_cage_4 rfl (lv_at hl 1 rfl) ?_
  refine lv_iload_n hx hb d_PF_cage_5 rfl (lv_at hl 2 rfl) ?_
  have hPc := hP.sub (ws' := [(oG, .inr (2, [.int wid, .int hig, .ref aK, .ref aW])), (aK, .inl (cI, 64, .inl cag)), (aW, .inl (cI, 5, .inl wan))]) [1, 2, 3] rfl
  have hDc := hD.sub (ws' := [(oG, .inr (2, [.int wid, .int hig, .ref aK, .ref aW])), (aK, .inl (cI, 64, .inl cag)), (aW, .inl (cI, 5, .inl wan))]) [1, 2, 3] (by decide) rfl
  have hFc := va_free (wc := [(oG, .inr (2, [.int wid, .int hig, .ref aK, .ref aW])), (aK, .inl (cI, 64, .inl cag)), (aW, .inl (cI, 5, .inl wan))]) hD hS hA [1, 2, 3] rfl
  refine va_calli (va_runVN (As := [.int p1, .int p2]) (rest := []) ⟨hx, hb, hml, hown, hts⟩ (k_Grid_mark l dC dI cI cZ oG aK aW wid hig cag wan s.heap.size p1 p2 wN hN ew eh hw1 hh1) ⟨va_cnB 2 hts g_PF_cage_Grid_mark rfl rfl rfl (nn_PF_cage_6 hNst) (hts (.initialized R_Grid) (by decide +kernel)) (by decide +kernel) ⟨Nat.le_of_ble_eq_true rfl, Nat.le_of_ble_eq_true rfl⟩, hts (.instanceMethod y_Grid_mark) (by decide +kernel), hts (.selects R_Grid y_Grid_mark y_Grid_mark) (by decide +kernel)⟩ ⟨fun a U g mk q => by obtain ⟨q0, q1, qP, qK, qD⟩ := q; exact ⟨q0, q1, qP, va_K.moved (u := U) (U := U.calling g mk a) (Vm.Alike.refl U.vm) qK, qD⟩, va_recv hK hPc (ci := 2) (q0 := 0) rfl rfl, fun U hU hW => ⟨rfl, by rw [hU], by rw [hU]; exact hPc, va_K.moved hW.alike hK, hDc.weaken (fun _ _ _ _ => trivial)⟩⟩ rfl rfl hl.1 rfl (lv_room (Nat.le_of_ble_eq_true rfl)) d_PF_cage_6 ⟨Nat.le_of_ble_eq_true rfl, Nat.le_of_ble_eq_true rfl⟩) hS (fun q _ h => hFc q h) hFc (fun r6 u t H1 locs ht hvm hw hB hz1 hk1 hS => ?_)
  obtain ⟨cag_6, rfl⟩ : ∃ z, z = u := ⟨_, rfl⟩
  have w6 : gd_mark wN hN cag p1 p2 r6 cag_6 := hw
  obtain ⟨hP1, hK1, hD1⟩ := hB
  rw [ht] at hP1
  obtain ⟨hP, hD⟩ := va_join (wr := [(oX, .inr (4, [.ref oT, .ref oB, .ref oG, .ref oC]))]) (w1 := [(oG, .inr (2, [.int wid, .int hig, .ref aK, .ref aW])), (aK, .inl (cI, 64, .inl cag_6)), (aW, .inl (cI, 5, .inl wan))]) hP hD [1, 2, 3] [0] rfl rfl (by decide) (by decide) hk1 hFc hP1 hD1
  generalize H1 = H at hP hS ⊢
  have hP : va_P (dC, dI) classes [(oX, .inr (4, [.ref oT, .ref oB, .ref oG, .ref oC])), (oG, .inr (2, [.int wid, .int hig, .ref aK, .ref aW])), (aK, .inl (cI, 64, .inl cag_6)), (aW, .inl (cI, 5, .inl wan))] H := hP
  have hD : va_D A [(oX, .inr (4, [.ref oT, .ref oB, .ref oG, .ref oC])), (oG, .inr (2, [.int wid, .int hig, .ref aK, .ref aW])), (aK, .inl (cI, 64, .inl cag_6)), (aW, .inl (cI, 5, .inl wan))] := hD
  exact W.zret (v := r6) hx hb hr (xi_nz (by rcases w6 with z | z; exact Or.inr z.2.2.2.2.1; exact Or.inl z.2.1)) (fun t ht hW => ⟨⟨r6, cag_6, rfl, (show gd_mark wN hN cag p1 p2 r6 cag_6 from w6), by rw [ht]; exact hP, va_K.moved hW.alike hK, hD⟩, hS.F ht⟩) hS.2.2 d_PF_cage_9

set_option maxHeartbeats 4000000 in
set_option maxRecDepth 100000 in
theorem k_PF_lines (l : Launch) (dC : Nat → ClassId) (dI : Nat → Nat → Nat) (cI cZ : ClassId) (oX : Nat) (oG : Nat) (aK : Nat) (aW : Nat) (oT : Nat) (oB : Nat) (oC : Nat) (wid : Int32) (hig : Int32) (cag : Nat → Int32) (wan : Nat → Int32) (sz : Nat) (wN : Nat) (hN : Nat) (ew : wid.toInt = (wN : Int)) (eh : hig.toInt = (hN : Int)) (hw1 : 1 ≤ wN ∧ wN ≤ 8) (hh1 : 1 ≤ hN ∧ hN ≤ 8) : Met l y_PF_lines w_PF_lines ({ frames := 4, cells := 0, slots := 0, locals := 98 }) (va_Pc [.ref oX] (fun U => U.heap.size = sz ∧ va_P (dC, dI) classes [(oX, .inr (4, [.ref oT, .ref oB, .ref oG, .ref oC])), (oG, .inr (2, [.int wid, .int hig, .ref aK, .ref aW])), (aK, .inl (cI, 64, .inl cag)), (aW, .inl (cI, 5, .inl wan))] U.heap ∧ va_K (dC, dI) classes [(cI, .int), (cZ, .boolean)] U ∧ va_D (fun _ => True) [(oX, .inr (4, [.ref oT, .ref oB, .ref oG, .ref oC])), (oG, .inr (2, [.int wid, .int hig, .ref aK, .ref aW])), (aK, .inl (cI, 64, .inl cag)), (aW, .inl (cI, 5, .inl wan))] ∧ nn_All U)) (va_Qi (fun (r : Int32) (u : (Nat → Int32)) => r.toInt = ((gd_all wN hN cag).length : Int)) (fun (u : (Nat → Int32)) (t : State) => va_P (dC, dI) classes [(oX, .inr (4, [.ref oT, .ref oB, .ref oG, .ref oC])), (oG, .inr (2, [.int wid, .int hig, .ref aK, .ref aW])), (aK, .inl (cI, 64, .inl cag)), (aW, .inl (cI, 5, .inl u))] t.heap ∧ va_K (dC, dI) classes [(cI, .int), (cZ, .boolean)] t ∧ va_D (va_A [(oX, .inr (4, [.ref oT, .ref oB, .ref oG, .ref oC])), (oG, .inr (2, [.int wid, .int hig, .ref aK, .ref aW])), (aK, .inl (cI, 64, .inl cag)), (aW, .inl (cI, 5, .inl wan))] sz) [(oX, .inr (4, [.ref oT, .ref oB, .ref oG, .ref oC])), (oG, .inr (2, [.int wid, .int hig, .ref aK, .ref aW])), (aK, .inl (cI, 64, .inl cag)), (aW, .inl (cI, 5, .inl u))]) (va_A [(oX, .inr (4, [.ref oT, .ref oB, .ref oG, .ref oC])), (oG, .inr (2, [.int wid, .int hig, .ref aK, .ref aW])), (aK, .inl (cI, 64, .inl cag)), (aW, .inl (cI, 5, .inl wan))] sz)) 0 0 (va_A [(oX, .inr (4, [.ref oT, .ref oB, .ref oG, .ref oC])), (oG, .inr (2, [.int wid, .int hig, .ref aK, .ref aW])), (aK, .inl (cI, 64, .inl cag)), (aW, .inl (cI, 5, .inl wan))] sz) := by
  refine Met.ofW (cc := b_PF_lines) (maxL := 1) (ret := (some .int)) (by decide) rfl ?_
  intro p e s m args below meth c s₁ B hml hv
  obtain ⟨rfl, hsz, hP, hK, hD0, hNst⟩ := hv
  have hx := B.exec
  have hb := B.bytes
  have hr := B.returns
  have hts := atoms_spec (ws := w_PF_lines) B.pre
  have hown : s.vm.findClass R_PF = some m.cls := findClass_of_methodNamed B.named
  have hlocks := B.notSynchronized
  have hw_PF : ∀ w ∈ w_PF, w ∈ w_PF_lines := by decide +kernel
  have hw_Grid : ∀ w ∈ w_Grid, w ∈ w_PF_lines := by decide +kernel
  subst hsz
  have hD := hD0.self (sz := s.heap.size)
  generalize hAe : va_A [(oX, .inr (4, [.ref oT, .ref oB, .ref oG, .ref oC])), (oG, .inr (2, [.int wid, .int hig, .ref aK, .ref aW])), (aK, .inl (cI, 64, .inl cag)), (aW, .inl (cI, 5, .inl wan))] s.heap.size = A at hD ⊢
  have hA : ∀ q : Nat, s.heap.size ≤ q → A q := fun q h => by rw [← hAe]; exact Or.inr h
  have hS : va_S A s.heap s.heap [] := va_S.rf
  have hP : va_P (dC, dI) classes [(oX, .inr (4, [.ref oT, .ref oB, .ref oG, .ref oC])), (oG, .inr (2, [.int wid, .int hig, .ref aK, .ref aW])), (aK, .inl (cI, 64, .inl cag)), (aW, .inl (cI, 5, .inl wan))] s.heap := hP
  have hl := lv_entry ([.ref oX]) (n := 1) (Nat.le_of_ble_eq_true rfl)
  rw [lg_entry_eq]
  generalize (lg_sl ([.ref oX]) ++ List.replicate (1 - (lg_sl ([.ref oX])).length) Slot.unset).toArray = ls at hl ⊢
  have hl : lv_has ls 1 [(0, .ref oX)] := hl
  refine lv_aload_n hx hb d_PF_lines_0 rfl (lv_at hl 0 rfl) ?_
  refine va_get (D := (dC, dI)) (ci := 4) (v := .ref oG) (C := R_PF) (T := F_PF) (N := 4) hx hb hts hw_PF hown hK hP 0 rfl rfl 2 (by decide) (hts (.fieldLink R_PF 26 "PageForms" "cells" "LPageForms$Grid;") (by decide +kernel)) (fun _ h9 => h9) rfl d_PF_lines_1 ?_
  have hPc := hP.sub (ws' := [(oG, .inr (2, [.int wid, .int hig, .ref aK, .ref aW])), (aK, .inl (cI, 64, .inl cag)), (aW, .inl (cI, 5, .inl wan))]) [1, 2, 3] rfl
  have hDc := hD.sub (ws' := [(oG, .inr (2, [.int wid, .int hig, .ref aK, .ref aW])), (aK, .inl (cI, 64, .inl cag)), (aW, .inl (cI, 5, .inl wan))]) [1, 2, 3] (by decide) rfl
  have hFc := va_free (wc := [(oG, .inr (2, [.int wid, .int hig, .ref aK, .ref aW])), (aK, .inl (cI, 64, .inl cag)), (aW, .inl (cI, 5, .inl wan))]) hD hS hA [1, 2, 3] rfl
  refine va_calli (va_runVN (As := []) (rest := []) ⟨hx, hb, hml, hown, hts⟩ (k_Grid_countLines l dC dI cI cZ oG aK aW wid hig cag wan s.heap.size wN hN ew eh hw1 hh1) ⟨va_cnB 0 hts g_PF_lines_Grid_countLines rfl rfl rfl (nn_PF_lines_4 hNst) (hts (.initialized R_Grid) (by decide +kernel)) (by decide +kernel) ⟨Nat.le_of_ble_eq_true rfl, Nat.le_of_ble_eq_true rfl⟩, hts (.instanceMethod y_Grid_countLines) (by decide +kernel), hts (.selects R_Grid y_Grid_countLines y_Grid_countLines) (by decide +kernel)⟩ ⟨fun a U g mk q => by obtain ⟨q0, q1, qP, qK, qD⟩ := q; exact ⟨q0, q1, qP, va_K.moved (u := U) (U := U.calling g mk a) (Vm.Alike.refl U.vm) qK, qD⟩, va_recv hK hPc (ci := 2) (q0 := 0) rfl rfl, fun U hU hW => ⟨rfl, by rw [hU], by rw [hU]; exact hPc, va_K.moved hW.alike hK, hDc.weaken (fun _ _ _ _ => trivial)⟩⟩ rfl rfl hl.1 rfl (lv_room (Nat.le_of_ble_eq_true rfl)) d_PF_lines_4 ⟨Nat.le_of_ble_eq_true rfl, Nat.le_of_ble_eq_true rfl⟩) hS (fun q _ h => hFc q h) hFc (fun r4 u t H1 locs ht hvm hw hB hz1 hk1 hS => ?_)
  obtain ⟨wan_4, rfl⟩ : ∃ z, z = u := ⟨_, rfl⟩
  have w4 : r4.toInt = ((gd_all wN hN cag).length : Int) := hw
  obtain ⟨hP1, hK1, hD1⟩ := hB
  rw [ht] at hP1
  obtain ⟨hP, hD⟩ := va_join (wr := [(oX, .inr (4, [.ref oT, .ref oB, .ref oG, .ref oC]))]) (w1 := [(oG, .inr (2, [.int wid, .int hig, .ref aK, .ref aW])), (aK, .inl (cI, 64, .inl cag)), (aW, .inl (cI, 5, .inl wan_4))]) hP hD [1, 2, 3] [0] rfl rfl (by decide) (by decide) hk1 hFc hP1 hD1
  generalize H1 = H at hP hS ⊢
  have hP : va_P (dC, dI) classes [(oX, .inr (4, [.ref oT, .ref oB, .ref oG, .ref oC])), (oG, .inr (2, [.int wid, .int hig, .ref aK, .ref aW])), (aK, .inl (cI, 64, .inl cag)), (aW, .inl (cI, 5, .inl wan_4))] H := hP
  have hD : va_D A [(oX, .inr (4, [.ref oT, .ref oB, .ref oG, .ref oC])), (oG, .inr (2, [.int wid, .int hig, .ref aK, .ref aW])), (aK, .inl (cI, 64, .inl cag)), (aW, .inl (cI, 5, .inl wan_4))] := hD
  exact W.iret (v := r4) hx hb hr (fun t ht hW => ⟨⟨r4, wan_4, rfl, (show r4.toInt = ((gd_all wN hN cag).length : Int) from w4), by rw [ht]; exact hP, va_K.moved hW.alike hK, hD⟩, hS.F ht⟩) hS.2.2 d_PF_lines_7

set_option maxHeartbeats 4000000 in
set_option maxRecDepth 100000 in
theorem k_PF_drawn (l : Launch) (dC : Nat → ClassId) (dI : Nat → Nat → Nat) (cI cZ : ClassId) (oX : Nat) (oG : Nat) (aK : Nat) (aW : Nat) (oT : Nat) (oB : Nat) (oC : Nat) (wid : Int32) (hig : Int32) (cag : Nat → Int32) (wan : Nat → Int32) (sz : Nat) (p1 : Int32) (p2 : Int32) (wN : Nat) (hN : Nat) (ew : wid.toInt = (wN : Int)) (eh : hig.toInt = (hN : Int)) (hw1 : 1 ≤ wN ∧ wN ≤ 8) (hh1 : 1 ≤ hN ∧ hN ≤ 8) : Met l y_PF_drawn w_PF_drawn ({ frames := 4, cells := 0, slots := 0, locals := 100 }) (va_Pc [.ref oX, .int p1, .int p2] (fun U => U.heap.size = sz ∧ va_P (dC, dI) classes [(oX, .inr (4, [.ref oT, .ref oB, .ref oG, .ref oC])), (oG, .inr (2, [.int wid, .int hig, .ref aK, .ref aW])), (aK, .inl (cI, 64, .inl cag)), (aW, .inl (cI, 5, .inl wan))] U.heap ∧ va_K (dC, dI) classes [(cI, .int), (cZ, .boolean)] U ∧ va_D (fun _ => True) [(oX, .inr (4, [.ref oT, .ref oB, .ref oG, .ref oC])), (oG, .inr (2, [.int wid, .int hig, .ref aK, .ref aW])), (aK, .inl (cI, 64, .inl cag)), (aW, .inl (cI, 5, .inl wan))] ∧ nn_All U)) (va_Qi (fun (r : Int32) (u : (Nat → Int32)) => gd_draw wN hN cag p1 p2 r) (fun (u : (Nat → Int32)) (t : State) => va_P (dC, dI) classes [(oX, .inr (4, [.ref oT, .ref oB, .ref oG, .ref oC])), (oG, .inr (2, [.int wid, .int hig, .ref aK, .ref aW])), (aK, .inl (cI, 64, .inl cag)), (aW, .inl (cI, 5, .inl u))] t.heap ∧ va_K (dC, dI) classes [(cI, .int), (cZ, .boolean)] t ∧ va_D (va_A [(oX, .inr (4, [.ref oT, .ref oB, .ref oG, .ref oC])), (oG, .inr (2, [.int wid, .int hig, .ref aK, .ref aW])), (aK, .inl (cI, 64, .inl cag)), (aW, .inl (cI, 5, .inl wan))] sz) [(oX, .inr (4, [.ref oT, .ref oB, .ref oG, .ref oC])), (oG, .inr (2, [.int wid, .int hig, .ref aK, .ref aW])), (aK, .inl (cI, 64, .inl cag)), (aW, .inl (cI, 5, .inl u))]) (va_A [(oX, .inr (4, [.ref oT, .ref oB, .ref oG, .ref oC])), (oG, .inr (2, [.int wid, .int hig, .ref aK, .ref aW])), (aK, .inl (cI, 64, .inl cag)), (aW, .inl (cI, 5, .inl wan))] sz)) 0 0 (va_A [(oX, .inr (4, [.ref oT, .ref oB, .ref oG, .ref oC])), (oG, .inr (2, [.int wid, .int hig, .ref aK, .ref aW])), (aK, .inl (cI, 64, .inl cag)), (aW, .inl (cI, 5, .inl wan))] sz) := by
  refine Met.ofW (cc := b_PF_drawn) (maxL := 3) (ret := (some .int)) (by decide) rfl ?_
  intro p e s m args below meth c s₁ B hml hv
  obtain ⟨rfl, hsz, hP, hK, hD0, hNst⟩ := hv
  have hx := B.exec
  have hb := B.bytes
  have hr := B.returns
  have hts := atoms_spec (ws := w_PF_drawn) B.pre
  have hown : s.vm.findClass R_PF = some m.cls := findClass_of_methodNamed B.named
  have hlocks := B.notSynchronized
  have hw_PF : ∀ w ∈ w_PF, w ∈ w_PF_drawn := by decide +kernel
  have hw_Grid : ∀ w ∈ w_Grid, w ∈ w_PF_drawn := by decide +kernel
  subst hsz
  have hD := hD0.self (sz := s.heap.size)
  generalize hAe : va_A [(oX, .inr (4, [.ref oT, .ref oB, .ref oG, .ref oC])), (oG, .inr (2, [.int wid, .int hig, .ref aK, .ref aW])), (aK, .inl (cI, 64, .inl cag)), (aW, .inl (cI, 5, .inl wan))] s.heap.size = A at hD ⊢
  have hA : ∀ q : Nat, s.heap.size ≤ q → A q := fun q h => by rw [← hAe]; exact Or.inr h
  have hS : va_S A s.heap s.heap [] := va_S.rf
  have hP : va_P (dC, dI) classes [(oX, .inr (4, [.ref oT, .ref oB, .ref oG, .ref oC])), (oG, .inr (2, [.int wid, .int hig, .ref aK, .ref aW])), (aK, .inl (cI, 64, .inl cag)), (aW, .inl (cI, 5, .inl wan))] s.heap := hP
  have hl := lv_entry ([.ref oX, .int p1, .int p2]) (n := 3) (Nat.le_of_ble_eq_true rfl)
  rw [lg_entry_eq]
  generalize (lg_sl ([.ref oX, .int p1, .int p2]) ++ List.replicate (3 - (lg_sl ([.ref oX, .int p1, .int p2])).length) Slot.unset).toArray = ls at hl ⊢
  have hl : lv_has ls 3 [(0, .ref oX), (1, .int p1), (2, .int p2)] := hl
  refine lv_aload_n hx hb d_PF_drawn_0 rfl (lv_at hl 0 rfl) ?_
  refine va_get (D := (dC, dI)) (ci := 4) (v := .ref oG) (C := R_PF) (T := F_PF) (N := 4) hx hb hts hw_PF hown hK hP 0 rfl rfl 2 (by decide) (hts (.fieldLink R_PF 26 "PageForms" "cells" "LPageForms$Grid;") (by decide +kernel)) (fun _ h9 => h9) rfl d_PF_drawn_1 ?_
  refine lv_iload_n hx hb d_PF_drawn_4 rfl (lv_at hl 1 rfl) ?_
  refine lv_iload_n hx hb d_PF_drawn_5 rfl (lv_at hl 2 rfl) ?_
  have hPc := hP.sub (ws' := [(oG, .inr (2, [.int wid, .int hig, .ref aK, .ref aW])), (aK, .inl (cI, 64, .inl cag)), (aW, .inl (cI, 5, .inl wan))]) [1, 2, 3] rfl
  have hDc := hD.sub (ws' := [(oG, .inr (2, [.int wid, .int hig, .ref aK, .ref aW])), (aK, .inl (cI, 64, .inl cag)), (aW, .inl (cI, 5, .inl wan))]) [1, 2, 3] (by decide) rfl
  have hFc := va_free (wc := [(oG, .inr (2, [.int wid, .int hig, .ref aK, .ref aW])), (aK, .inl (cI, 64, .inl cag)), (aW, .inl (cI, 5, .inl wan))]) hD hS hA [1, 2, 3] rfl
  refine va_calli (va_runVN (As := [.int p1, .int p2]) (rest := []) ⟨hx, hb, hml, hown, hts⟩ (k_Grid_partOfLine l dC dI cI cZ oG aK aW wid hig cag wan s.heap.size p1 p2 wN hN ew eh hw1 hh1) ⟨va_cnB 2 hts g_PF_drawn_Grid_partOfLine rfl rfl rfl (nn_PF_drawn_6 hNst) (hts (.initialized R_Grid) (by decide +kernel)) (by decide +kernel) ⟨Nat.le_of_ble_eq_true rfl, Nat.le_of_ble_eq_true rfl⟩, hts (.instanceMethod y_Grid_partOfLine) (by decide +kernel), hts (.selects R_Grid y_Grid_partOfLine y_Grid_partOfLine) (by decide +kernel)⟩ ⟨fun a U g mk q => by obtain ⟨q0, q1, qP, qK, qD⟩ := q; exact ⟨q0, q1, qP, va_K.moved (u := U) (U := U.calling g mk a) (Vm.Alike.refl U.vm) qK, qD⟩, va_recv hK hPc (ci := 2) (q0 := 0) rfl rfl, fun U hU hW => ⟨rfl, by rw [hU], by rw [hU]; exact hPc, va_K.moved hW.alike hK, hDc.weaken (fun _ _ _ _ => trivial)⟩⟩ rfl rfl hl.1 rfl (lv_room (Nat.le_of_ble_eq_true rfl)) d_PF_drawn_6 ⟨Nat.le_of_ble_eq_true rfl, Nat.le_of_ble_eq_true rfl⟩) hS (fun q _ h => hFc q h) hFc (fun r6 u t H1 locs ht hvm hw hB hz1 hk1 hS => ?_)
  obtain ⟨wan_6, rfl⟩ : ∃ z, z = u := ⟨_, rfl⟩
  have w6 : gd_draw wN hN cag p1 p2 r6 := hw
  obtain ⟨hP1, hK1, hD1⟩ := hB
  rw [ht] at hP1
  obtain ⟨hP, hD⟩ := va_join (wr := [(oX, .inr (4, [.ref oT, .ref oB, .ref oG, .ref oC]))]) (w1 := [(oG, .inr (2, [.int wid, .int hig, .ref aK, .ref aW])), (aK, .inl (cI, 64, .inl cag)), (aW, .inl (cI, 5, .inl wan_6))]) hP hD [1, 2, 3] [0] rfl rfl (by decide) (by decide) hk1 hFc hP1 hD1
  generalize H1 = H at hP hS ⊢
  have hP : va_P (dC, dI) classes [(oX, .inr (4, [.ref oT, .ref oB, .ref oG, .ref oC])), (oG, .inr (2, [.int wid, .int hig, .ref aK, .ref aW])), (aK, .inl (cI, 64, .inl cag)), (aW, .inl (cI, 5, .inl wan_6))] H := hP
  have hD : va_D A [(oX, .inr (4, [.ref oT, .ref oB, .ref oG, .ref oC])), (oG, .inr (2, [.int wid, .int hig, .ref aK, .ref aW])), (aK, .inl (cI, 64, .inl cag)), (aW, .inl (cI, 5, .inl wan_6))] := hD
  exact W.iret (v := r6) hx hb hr (fun t ht hW => ⟨⟨r6, wan_6, rfl, (show gd_draw wN hN cag p1 p2 r6 from w6), by rw [ht]; exact hP, va_K.moved hW.alike hK, hD⟩, hS.F ht⟩) hS.2.2 d_PF_drawn_9

set_option maxHeartbeats 4000000 in
set_option maxRecDepth 100000 in
theorem k_PF_code (l : Launch) (dC : Nat → ClassId) (dI : Nat → Nat → Nat) (cI cZ : ClassId) (oX : Nat) (oC : Nat) (aY : Nat) (aZ : Nat) (oT : Nat) (oB : Nat) (oG : Nat) (cnt : Int32) (byt : Nat → Int32) (bit : Nat → Int32) (sz : Nat) (p1 : Int32) (nC : Nat) (hc : cnt.toInt = (nC : Int)) (hc12 : nC ≤ 12) : Met l y_PF_code w_PF_code ({ frames := 4, cells := 0, slots := 0, locals := 83 }) (va_Pc [.ref oX, .int p1] (fun U => U.heap.size = sz ∧ va_P (dC, dI) classes [(oX, .inr (4, [.ref oT, .ref oB, .ref oG, .ref oC])), (oC, .inr (1, [.int cnt, .ref aY, .ref aZ])), (aY, .inl (cI, 12, .inl byt)), (aZ, .inl (cI, 13, .inl bit))] U.heap ∧ va_K (dC, dI) classes [(cI, .int), (cZ, .boolean)] U ∧ va_D (fun _ => True) [(oX, .inr (4, [.ref oT, .ref oB, .ref oG, .ref oC])), (oC, .inr (1, [.int cnt, .ref aY, .ref aZ])), (aY, .inl (cI, 12, .inl byt)), (aZ, .inl (cI, 13, .inl bit))] ∧ nn_All U)) (va_Qi (fun (r : Int32) (u : Int32 × (Nat → Int32) × (Nat → Int32)) => cd_add cnt byt bit p1 r u.1 u.2.1 u.2.2) (fun (u : Int32 × (Nat → Int32) × (Nat → Int32)) (t : State) => va_P (dC, dI) classes [(oX, .inr (4, [.ref oT, .ref oB, .ref oG, .ref oC])), (oC, .inr (1, [.int u.1, .ref aY, .ref aZ])), (aY, .inl (cI, 12, .inl u.2.1)), (aZ, .inl (cI, 13, .inl u.2.2))] t.heap ∧ va_K (dC, dI) classes [(cI, .int), (cZ, .boolean)] t ∧ va_D (va_A [(oX, .inr (4, [.ref oT, .ref oB, .ref oG, .ref oC])), (oC, .inr (1, [.int cnt, .ref aY, .ref aZ])), (aY, .inl (cI, 12, .inl byt)), (aZ, .inl (cI, 13, .inl bit))] sz) [(oX, .inr (4, [.ref oT, .ref oB, .ref oG, .ref oC])), (oC, .inr (1, [.int u.1, .ref aY, .ref aZ])), (aY, .inl (cI, 12, .inl u.2.1)), (aZ, .inl (cI, 13, .inl u.2.2))]) (va_A [(oX, .inr (4, [.ref oT, .ref oB, .ref oG, .ref oC])), (oC, .inr (1, [.int cnt, .ref aY, .ref aZ])), (aY, .inl (cI, 12, .inl byt)), (aZ, .inl (cI, 13, .inl bit))] sz)) 0 0 (va_A [(oX, .inr (4, [.ref oT, .ref oB, .ref oG, .ref oC])), (oC, .inr (1, [.int cnt, .ref aY, .ref aZ])), (aY, .inl (cI, 12, .inl byt)), (aZ, .inl (cI, 13, .inl bit))] sz) := by
  refine Met.ofW (cc := b_PF_code) (maxL := 2) (ret := (some .boolean)) (by decide) rfl ?_
  intro p e s m args below meth c s₁ B hml hv
  obtain ⟨rfl, hsz, hP, hK, hD0, hNst⟩ := hv
  have hx := B.exec
  have hb := B.bytes
  have hr := B.returns
  have hts := atoms_spec (ws := w_PF_code) B.pre
  have hown : s.vm.findClass R_PF = some m.cls := findClass_of_methodNamed B.named
  have hlocks := B.notSynchronized
  have hw_PF : ∀ w ∈ w_PF, w ∈ w_PF_code := by decide +kernel
  have hw_Code : ∀ w ∈ w_Code, w ∈ w_PF_code := by decide +kernel
  subst hsz
  have hD := hD0.self (sz := s.heap.size)
  generalize hAe : va_A [(oX, .inr (4, [.ref oT, .ref oB, .ref oG, .ref oC])), (oC, .inr (1, [.int cnt, .ref aY, .ref aZ])), (aY, .inl (cI, 12, .inl byt)), (aZ, .inl (cI, 13, .inl bit))] s.heap.size = A at hD ⊢
  have hA : ∀ q : Nat, s.heap.size ≤ q → A q := fun q h => by rw [← hAe]; exact Or.inr h
  have hS : va_S A s.heap s.heap [] := va_S.rf
  have hP : va_P (dC, dI) classes [(oX, .inr (4, [.ref oT, .ref oB, .ref oG, .ref oC])), (oC, .inr (1, [.int cnt, .ref aY, .ref aZ])), (aY, .inl (cI, 12, .inl byt)), (aZ, .inl (cI, 13, .inl bit))] s.heap := hP
  have hl := lv_entry ([.ref oX, .int p1]) (n := 2) (Nat.le_of_ble_eq_true rfl)
  rw [lg_entry_eq]
  generalize (lg_sl ([.ref oX, .int p1]) ++ List.replicate (2 - (lg_sl ([.ref oX, .int p1])).length) Slot.unset).toArray = ls at hl ⊢
  have hl : lv_has ls 2 [(0, .ref oX), (1, .int p1)] := hl
  refine lv_aload_n hx hb d_PF_code_0 rfl (lv_at hl 0 rfl) ?_
  refine va_get (D := (dC, dI)) (ci := 4) (v := .ref oC) (C := R_PF) (T := F_PF) (N := 4) hx hb hts hw_PF hown hK hP 0 rfl rfl 3 (by decide) (hts (.fieldLink R_PF 33 "PageForms" "squares" "LPageForms$Code;") (by decide +kernel)) (fun _ h9 => h9) rfl d_PF_code_1 ?_
  refine lv_iload_n hx hb d_PF_code_4 rfl (lv_at hl 1 rfl) ?_
  have hPc := hP.sub (ws' := [(oC, .inr (1, [.int cnt, .ref aY, .ref aZ])), (aY, .inl (cI, 12, .inl byt)), (aZ, .inl (cI, 13, .inl bit))]) [1, 2, 3] rfl
  have hDc := hD.sub (ws' := [(oC, .inr (1, [.int cnt, .ref aY, .ref aZ])), (aY, .inl (cI, 12, .inl byt)), (aZ, .inl (cI, 13, .inl bit))]) [1, 2, 3] (by decide) rfl
  have hFc := va_free (wc := [(oC, .inr (1, [.int cnt, .ref aY, .ref aZ])), (aY, .inl (cI, 12, .inl byt)), (aZ, .inl (cI, 13, .inl bit))]) hD hS hA [1, 2, 3] rfl
  refine va_calli (va_runVN (As := [.int p1]) (rest := []) ⟨hx, hb, hml, hown, hts⟩ (k_Code_append l dC dI cI cZ oC aY aZ cnt byt bit s.heap.size p1 nC hc hc12) ⟨va_cnB 1 hts g_PF_code_Code_append rfl rfl rfl (nn_PF_code_5 hNst) (hts (.initialized R_Code) (by decide +kernel)) (by decide +kernel) ⟨Nat.le_of_ble_eq_true rfl, Nat.le_of_ble_eq_true rfl⟩, hts (.instanceMethod y_Code_append) (by decide +kernel), hts (.selects R_Code y_Code_append y_Code_append) (by decide +kernel)⟩ ⟨fun a U g mk q => by obtain ⟨q0, q1, qP, qK, qD⟩ := q; exact ⟨q0, q1, qP, va_K.moved (u := U) (U := U.calling g mk a) (Vm.Alike.refl U.vm) qK, qD⟩, va_recv hK hPc (ci := 1) (q0 := 0) rfl rfl, fun U hU hW => ⟨rfl, by rw [hU], by rw [hU]; exact hPc, va_K.moved hW.alike hK, hDc.weaken (fun _ _ _ _ => trivial)⟩⟩ rfl rfl hl.1 rfl (lv_room (Nat.le_of_ble_eq_true rfl)) d_PF_code_5 ⟨Nat.le_of_ble_eq_true rfl, Nat.le_of_ble_eq_true rfl⟩) hS (fun q _ h => hFc q h) hFc (fun r5 u t H1 locs ht hvm hw hB hz1 hk1 hS => ?_)
  obtain ⟨cnt_5, byt_5, bit_5⟩ := u
  have w5 : cd_add cnt byt bit p1 r5 cnt_5 byt_5 bit_5 := hw
  obtain ⟨hP1, hK1, hD1⟩ := hB
  rw [ht] at hP1
  obtain ⟨hP, hD⟩ := va_join (wr := [(oX, .inr (4, [.ref oT, .ref oB, .ref oG, .ref oC]))]) (w1 := [(oC, .inr (1, [.int cnt_5, .ref aY, .ref aZ])), (aY, .inl (cI, 12, .inl byt_5)), (aZ, .inl (cI, 13, .inl bit_5))]) hP hD [1, 2, 3] [0] rfl rfl (by decide) (by decide) hk1 hFc hP1 hD1
  generalize H1 = H at hP hS ⊢
  have hP : va_P (dC, dI) classes [(oX, .inr (4, [.ref oT, .ref oB, .ref oG, .ref oC])), (oC, .inr (1, [.int cnt_5, .ref aY, .ref aZ])), (aY, .inl (cI, 12, .inl byt_5)), (aZ, .inl (cI, 13, .inl bit_5))] H := hP
  have hD : va_D A [(oX, .inr (4, [.ref oT, .ref oB, .ref oG, .ref oC])), (oC, .inr (1, [.int cnt_5, .ref aY, .ref aZ])), (aY, .inl (cI, 12, .inl byt_5)), (aZ, .inl (cI, 13, .inl bit_5))] := hD
  exact W.zret (v := r5) hx hb hr (xi_nz (by rcases w5 with z | z; exact Or.inr z.2.2.2.1; exact Or.inl z.2.1)) (fun t ht hW => ⟨⟨r5, (cnt_5, byt_5, bit_5), rfl, (show cd_add cnt byt bit p1 r5 cnt_5 byt_5 bit_5 from w5), by rw [ht]; exact hP, va_K.moved hW.alike hK, hD⟩, hS.F ht⟩) hS.2.2 d_PF_code_8

set_option maxHeartbeats 4000000 in
set_option maxRecDepth 100000 in
theorem k_PF_rows (l : Launch) (dC : Nat → ClassId) (dI : Nat → Nat → Nat) (cI cZ : ClassId) (oX : Nat) (oC : Nat) (aY : Nat) (aZ : Nat) (oT : Nat) (oB : Nat) (oG : Nat) (cnt : Int32) (byt : Nat → Int32) (bit : Nat → Int32) (sz : Nat) (nC : Nat) (hc : cnt.toInt = (nC : Int)) (hc12 : nC ≤ 12) : Met l y_PF_rows w_PF_rows ({ frames := 1, cells := 0, slots := 0, locals := 20 }) (va_Pc [.ref oX] (fun U => U.heap.size = sz ∧ va_P (dC, dI) classes [(oX, .inr (4, [.ref oT, .ref oB, .ref oG, .ref oC])), (oC, .inr (1, [.int cnt, .ref aY, .ref aZ])), (aY, .inl (cI, 12, .inl byt)), (aZ, .inl (cI, 13, .inl bit))] U.heap ∧ va_K (dC, dI) classes [(cI, .int), (cZ, .boolean)] U ∧ va_D (fun _ => True) [(oX, .inr (4, [.ref oT, .ref oB, .ref oG, .ref oC])), (oC, .inr (1, [.int cnt, .ref aY, .ref aZ])), (aY, .inl (cI, 12, .inl byt)), (aZ, .inl (cI, 13, .inl bit))] ∧ nn_All U)) (va_Qi (fun (r : Int32) (u : Unit) => (nC = 0 ∧ r.toInt = 0) ∨ (nC ≠ 0 ∧ r.toInt = (nC : Int) + 1)) (fun (u : Unit) (t : State) => va_P (dC, dI) classes [(oX, .inr (4, [.ref oT, .ref oB, .ref oG, .ref oC])), (oC, .inr (1, [.int cnt, .ref aY, .ref aZ])), (aY, .inl (cI, 12, .inl byt)), (aZ, .inl (cI, 13, .inl bit))] t.heap ∧ va_K (dC, dI) classes [(cI, .int), (cZ, .boolean)] t ∧ va_D (va_A [(oX, .inr (4, [.ref oT, .ref oB, .ref oG, .ref oC])), (oC, .inr (1, [.int cnt, .ref aY, .ref aZ])), (aY, .inl (cI, 12, .inl byt)), (aZ, .inl (cI, 13, .inl bit))] sz) [(oX, .inr (4, [.ref oT, .ref oB, .ref oG, .ref oC])), (oC, .inr (1, [.int cnt, .ref aY, .ref aZ])), (aY, .inl (cI, 12, .inl byt)), (aZ, .inl (cI, 13, .inl bit))]) (va_A [(oX, .inr (4, [.ref oT, .ref oB, .ref oG, .ref oC])), (oC, .inr (1, [.int cnt, .ref aY, .ref aZ])), (aY, .inl (cI, 12, .inl byt)), (aZ, .inl (cI, 13, .inl bit))] sz)) 0 0 (va_A [(oX, .inr (4, [.ref oT, .ref oB, .ref oG, .ref oC])), (oC, .inr (1, [.int cnt, .ref aY, .ref aZ])), (aY, .inl (cI, 12, .inl byt)), (aZ, .inl (cI, 13, .inl bit))] sz) := by
  refine Met.ofW (cc := b_PF_rows) (maxL := 1) (ret := (some .int)) (by decide) rfl ?_
  intro p e s m args below meth c s₁ B hml hv
  obtain ⟨rfl, hsz, hP, hK, hD0, hNst⟩ := hv
  have hx := B.exec
  have hb := B.bytes
  have hr := B.returns
  have hts := atoms_spec (ws := w_PF_rows) B.pre
  have hown : s.vm.findClass R_PF = some m.cls := findClass_of_methodNamed B.named
  have hlocks := B.notSynchronized
  have hw_PF : ∀ w ∈ w_PF, w ∈ w_PF_rows := by decide +kernel
  have hw_Code : ∀ w ∈ w_Code, w ∈ w_PF_rows := by decide +kernel
  subst hsz
  have hD := hD0.self (sz := s.heap.size)
  generalize hAe : va_A [(oX, .inr (4, [.ref oT, .ref oB, .ref oG, .ref oC])), (oC, .inr (1, [.int cnt, .ref aY, .ref aZ])), (aY, .inl (cI, 12, .inl byt)), (aZ, .inl (cI, 13, .inl bit))] s.heap.size = A at hD ⊢
  have hA : ∀ q : Nat, s.heap.size ≤ q → A q := fun q h => by rw [← hAe]; exact Or.inr h
  have hS : va_S A s.heap s.heap [] := va_S.rf
  have hP : va_P (dC, dI) classes [(oX, .inr (4, [.ref oT, .ref oB, .ref oG, .ref oC])), (oC, .inr (1, [.int cnt, .ref aY, .ref aZ])), (aY, .inl (cI, 12, .inl byt)), (aZ, .inl (cI, 13, .inl bit))] s.heap := hP
  have hl := lv_entry ([.ref oX]) (n := 1) (Nat.le_of_ble_eq_true rfl)
  rw [lg_entry_eq]
  generalize (lg_sl ([.ref oX]) ++ List.replicate (1 - (lg_sl ([.ref oX])).length) Slot.unset).toArray = ls at hl ⊢
  have hl : lv_has ls 1 [(0, .ref oX)] := hl
  refine lv_aload_n hx hb d_PF_rows_0 rfl (lv_at hl 0 rfl) ?_
  refine va_get (D := (dC, dI)) (ci := 4) (v := .ref oC) (C := R_PF) (T := F_PF) (N := 4) hx hb hts hw_PF hown hK hP 0 rfl rfl 3 (by decide) (hts (.fieldLink R_PF 33 "PageForms" "squares" "LPageForms$Code;") (by decide +kernel)) (fun _ h9 => h9) rfl d_PF_rows_1 ?_
  have hPc := hP.sub (ws' := [(oC, .inr (1, [.int cnt, .ref aY, .ref aZ])), (aY, .inl (cI, 12, .inl byt)), (aZ, .inl (cI, 13, .inl bit))]) [1, 2, 3] rfl
  have hDc := hD.sub (ws' := [(oC, .inr (1, [.int cnt, .ref aY, .ref aZ])), (aY, .inl (cI, 12, .inl byt)), (aZ, .inl (cI, 13, .inl bit))]) [1, 2, 3] (by decide) rfl
  have hFc := va_free (wc := [(oC, .inr (1, [.int cnt, .ref aY, .ref aZ])), (aY, .inl (cI, 12, .inl byt)), (aZ, .inl (cI, 13, .inl bit))]) hD hS hA [1, 2, 3] rfl
  refine va_calli (va_runVN (As := []) (rest := []) ⟨hx, hb, hml, hown, hts⟩ (k_Code_countRows l dC dI cI cZ oC aY aZ cnt byt bit s.heap.size nC hc hc12) ⟨va_cnB 0 hts g_PF_rows_Code_countRows rfl rfl rfl (nn_PF_rows_4 hNst) (hts (.initialized R_Code) (by decide +kernel)) (by decide +kernel) ⟨Nat.le_of_ble_eq_true rfl, Nat.le_of_ble_eq_true rfl⟩, hts (.instanceMethod y_Code_countRows) (by decide +kernel), hts (.selects R_Code y_Code_countRows y_Code_countRows) (by decide +kernel)⟩ ⟨fun a U g mk q => by obtain ⟨q0, q1, qP, qK, qD⟩ := q; exact ⟨q0, q1, qP, va_K.moved (u := U) (U := U.calling g mk a) (Vm.Alike.refl U.vm) qK, qD⟩, va_recv hK hPc (ci := 1) (q0 := 0) rfl rfl, fun U hU hW => ⟨rfl, by rw [hU], by rw [hU]; exact hPc, va_K.moved hW.alike hK, hDc.weaken (fun _ _ _ _ => trivial)⟩⟩ rfl rfl hl.1 rfl (lv_room (Nat.le_of_ble_eq_true rfl)) d_PF_rows_4 ⟨Nat.le_of_ble_eq_true rfl, Nat.le_of_ble_eq_true rfl⟩) hS (fun q _ h => hFc q h) hFc (fun r4 u t H1 locs ht hvm hw hB hz1 hk1 hS => ?_)
  have w4 : (nC = 0 ∧ r4.toInt = 0) ∨ (nC ≠ 0 ∧ r4.toInt = (nC : Int) + 1) := hw
  obtain ⟨hP1, hK1, hD1⟩ := hB
  rw [ht] at hP1
  obtain ⟨hP, hD⟩ := va_join (wr := [(oX, .inr (4, [.ref oT, .ref oB, .ref oG, .ref oC]))]) (w1 := [(oC, .inr (1, [.int cnt, .ref aY, .ref aZ])), (aY, .inl (cI, 12, .inl byt)), (aZ, .inl (cI, 13, .inl bit))]) hP hD [1, 2, 3] [0] rfl rfl (by decide) (by decide) hk1 hFc hP1 hD1
  generalize H1 = H at hP hS ⊢
  have hP : va_P (dC, dI) classes [(oX, .inr (4, [.ref oT, .ref oB, .ref oG, .ref oC])), (oC, .inr (1, [.int cnt, .ref aY, .ref aZ])), (aY, .inl (cI, 12, .inl byt)), (aZ, .inl (cI, 13, .inl bit))] H := hP
  have hD : va_D A [(oX, .inr (4, [.ref oT, .ref oB, .ref oG, .ref oC])), (oC, .inr (1, [.int cnt, .ref aY, .ref aZ])), (aY, .inl (cI, 12, .inl byt)), (aZ, .inl (cI, 13, .inl bit))] := hD
  exact W.iret (v := r4) hx hb hr (fun t ht hW => ⟨⟨r4, (), rfl, (show (nC = 0 ∧ r4.toInt = 0) ∨ (nC ≠ 0 ∧ r4.toInt = (nC : Int) + 1) from w4), by rw [ht]; exact hP, va_K.moved hW.alike hK, hD⟩, hS.F ht⟩) hS.2.2 d_PF_rows_7

set_option maxHeartbeats 4000000 in
set_option maxRecDepth 100000 in
theorem k_PF_dark (l : Launch) (dC : Nat → ClassId) (dI : Nat → Nat → Nat) (cI cZ : ClassId) (oX : Nat) (oC : Nat) (aY : Nat) (aZ : Nat) (oT : Nat) (oB : Nat) (oG : Nat) (cnt : Int32) (byt : Nat → Int32) (bit : Nat → Int32) (sz : Nat) (p1 : Int32) (p2 : Int32) (nC : Nat) (hc : cnt.toInt = (nC : Int)) (hc12 : nC ≤ 12) : Met l y_PF_dark w_PF_dark ({ frames := 3, cells := 0, slots := 0, locals := 64 }) (va_Pc [.ref oX, .int p1, .int p2] (fun U => U.heap.size = sz ∧ va_P (dC, dI) classes [(oX, .inr (4, [.ref oT, .ref oB, .ref oG, .ref oC])), (oC, .inr (1, [.int cnt, .ref aY, .ref aZ])), (aY, .inl (cI, 12, .inl byt)), (aZ, .inl (cI, 13, .inl bit))] U.heap ∧ va_K (dC, dI) classes [(cI, .int), (cZ, .boolean)] U ∧ va_D (fun _ => True) [(oX, .inr (4, [.ref oT, .ref oB, .ref oG, .ref oC])), (oC, .inr (1, [.int cnt, .ref aY, .ref aZ])), (aY, .inl (cI, 12, .inl byt)), (aZ, .inl (cI, 13, .inl bit))] ∧ nn_All U)) (va_Qi (fun (r : Int32) (u : Unit) => cd_dark cnt bit p1 p2 r) (fun (u : Unit) (t : State) => va_P (dC, dI) classes [(oX, .inr (4, [.ref oT, .ref oB, .ref oG, .ref oC])), (oC, .inr (1, [.int cnt, .ref aY, .ref aZ])), (aY, .inl (cI, 12, .inl byt)), (aZ, .inl (cI, 13, .inl bit))] t.heap ∧ va_K (dC, dI) classes [(cI, .int), (cZ, .boolean)] t ∧ va_D (va_A [(oX, .inr (4, [.ref oT, .ref oB, .ref oG, .ref oC])), (oC, .inr (1, [.int cnt, .ref aY, .ref aZ])), (aY, .inl (cI, 12, .inl byt)), (aZ, .inl (cI, 13, .inl bit))] sz) [(oX, .inr (4, [.ref oT, .ref oB, .ref oG, .ref oC])), (oC, .inr (1, [.int cnt, .ref aY, .ref aZ])), (aY, .inl (cI, 12, .inl byt)), (aZ, .inl (cI, 13, .inl bit))]) (va_A [(oX, .inr (4, [.ref oT, .ref oB, .ref oG, .ref oC])), (oC, .inr (1, [.int cnt, .ref aY, .ref aZ])), (aY, .inl (cI, 12, .inl byt)), (aZ, .inl (cI, 13, .inl bit))] sz)) 0 0 (va_A [(oX, .inr (4, [.ref oT, .ref oB, .ref oG, .ref oC])), (oC, .inr (1, [.int cnt, .ref aY, .ref aZ])), (aY, .inl (cI, 12, .inl byt)), (aZ, .inl (cI, 13, .inl bit))] sz) := by
  refine Met.ofW (cc := b_PF_dark) (maxL := 3) (ret := (some .boolean)) (by decide) rfl ?_
  intro p e s m args below meth c s₁ B hml hv
  obtain ⟨rfl, hsz, hP, hK, hD0, hNst⟩ := hv
  have hx := B.exec
  have hb := B.bytes
  have hr := B.returns
  have hts := atoms_spec (ws := w_PF_dark) B.pre
  have hown : s.vm.findClass R_PF = some m.cls := findClass_of_methodNamed B.named
  have hlocks := B.notSynchronized
  have hw_PF : ∀ w ∈ w_PF, w ∈ w_PF_dark := by decide +kernel
  have hw_Code : ∀ w ∈ w_Code, w ∈ w_PF_dark := by decide +kernel
  subst hsz
  have hD := hD0.self (sz := s.heap.size)
  generalize hAe : va_A [(oX, .inr (4, [.ref oT, .ref oB, .ref oG, .ref oC])), (oC, .inr (1, [.int cnt, .ref aY, .ref aZ])), (aY, .inl (cI, 12, .inl byt)), (aZ, .inl (cI, 13, .inl bit))] s.heap.size = A at hD ⊢
  have hA : ∀ q : Nat, s.heap.size ≤ q → A q := fun q h => by rw [← hAe]; exact Or.inr h
  have hS : va_S A s.heap s.heap [] := va_S.rf
  have hP : va_P (dC, dI) classes [(oX, .inr (4, [.ref oT, .ref oB, .ref oG, .ref oC])), (oC, .inr (1, [.int cnt, .ref aY, .ref aZ])), (aY, .inl (cI, 12, .inl byt)), (aZ, .inl (cI, 13, .inl bit))] s.heap := hP
  have hl := lv_entry ([.ref oX, .int p1, .int p2]) (n := 3) (Nat.le_of_ble_eq_true rfl)
  rw [lg_entry_eq]
  generalize (lg_sl ([.ref oX, .int p1, .int p2]) ++ List.replicate (3 - (lg_sl ([.ref oX, .int p1, .int p2])).length) Slot.unset).toArray = ls at hl ⊢
  have hl : lv_has ls 3 [(0, .ref oX), (1, .int p1), (2, .int p2)] := hl
  refine lv_aload_n hx hb d_PF_dark_0 rfl (lv_at hl 0 rfl) ?_
  refine va_get (D := (dC, dI)) (ci := 4) (v := .ref oC) (C := R_PF) (T := F_PF) (N := 4) hx hb hts hw_PF hown hK hP 0 rfl rfl 3 (by decide) (hts (.fieldLink R_PF 33 "PageForms" "squares" "LPageForms$Code;") (by decide +kernel)) (fun _ h9 => h9) rfl d_PF_dark_1 ?_
  refine lv_iload_n hx hb d_PF_dark_4 rfl (lv_at hl 1 rfl) ?_
  refine lv_iload_n hx hb d_PF_dark_5 rfl (lv_at hl 2 rfl) ?_
  have hPc := hP.sub (ws' := [(oC, .inr (1, [.int cnt, .ref aY, .ref aZ])), (aY, .inl (cI, 12, .inl byt)), (aZ, .inl (cI, 13, .inl bit))]) [1, 2, 3] rfl
  have hDc := hD.sub (ws' := [(oC, .inr (1, [.int cnt, .ref aY, .ref aZ])), (aY, .inl (cI, 12, .inl byt)), (aZ, .inl (cI, 13, .inl bit))]) [1, 2, 3] (by decide) rfl
  have hFc := va_free (wc := [(oC, .inr (1, [.int cnt, .ref aY, .ref aZ])), (aY, .inl (cI, 12, .inl byt)), (aZ, .inl (cI, 13, .inl bit))]) hD hS hA [1, 2, 3] rfl
  refine va_calli (va_runVN (As := [.int p1, .int p2]) (rest := []) ⟨hx, hb, hml, hown, hts⟩ (k_Code_isDark l dC dI cI cZ oC aY aZ cnt byt bit s.heap.size p1 p2 nC hc hc12) ⟨va_cnB 2 hts g_PF_dark_Code_isDark rfl rfl rfl (nn_PF_dark_6 hNst) (hts (.initialized R_Code) (by decide +kernel)) (by decide +kernel) ⟨Nat.le_of_ble_eq_true rfl, Nat.le_of_ble_eq_true rfl⟩, hts (.instanceMethod y_Code_isDark) (by decide +kernel), hts (.selects R_Code y_Code_isDark y_Code_isDark) (by decide +kernel)⟩ ⟨fun a U g mk q => by obtain ⟨q0, q1, qP, qK, qD⟩ := q; exact ⟨q0, q1, qP, va_K.moved (u := U) (U := U.calling g mk a) (Vm.Alike.refl U.vm) qK, qD⟩, va_recv hK hPc (ci := 1) (q0 := 0) rfl rfl, fun U hU hW => ⟨rfl, by rw [hU], by rw [hU]; exact hPc, va_K.moved hW.alike hK, hDc.weaken (fun _ _ _ _ => trivial)⟩⟩ rfl rfl hl.1 rfl (lv_room (Nat.le_of_ble_eq_true rfl)) d_PF_dark_6 ⟨Nat.le_of_ble_eq_true rfl, Nat.le_of_ble_eq_true rfl⟩) hS (fun q _ h => hFc q h) hFc (fun r6 u t H1 locs ht hvm hw hB hz1 hk1 hS => ?_)
  have w6 : cd_dark cnt bit p1 p2 r6 := hw
  obtain ⟨hP1, hK1, hD1⟩ := hB
  rw [ht] at hP1
  obtain ⟨hP, hD⟩ := va_join (wr := [(oX, .inr (4, [.ref oT, .ref oB, .ref oG, .ref oC]))]) (w1 := [(oC, .inr (1, [.int cnt, .ref aY, .ref aZ])), (aY, .inl (cI, 12, .inl byt)), (aZ, .inl (cI, 13, .inl bit))]) hP hD [1, 2, 3] [0] rfl rfl (by decide) (by decide) hk1 hFc hP1 hD1
  generalize H1 = H at hP hS ⊢
  have hP : va_P (dC, dI) classes [(oX, .inr (4, [.ref oT, .ref oB, .ref oG, .ref oC])), (oC, .inr (1, [.int cnt, .ref aY, .ref aZ])), (aY, .inl (cI, 12, .inl byt)), (aZ, .inl (cI, 13, .inl bit))] H := hP
  have hD : va_D A [(oX, .inr (4, [.ref oT, .ref oB, .ref oG, .ref oC])), (oC, .inr (1, [.int cnt, .ref aY, .ref aZ])), (aY, .inl (cI, 12, .inl byt)), (aZ, .inl (cI, 13, .inl bit))] := hD
  exact W.zret (v := r6) hx hb hr (xi_nz (by rcases w6 with z | z; rcases z.2 with y | y; exact Or.inr y.1; exact Or.inl y.1; exact Or.inl z.2)) (fun t ht hW => ⟨⟨r6, (), rfl, (show cd_dark cnt bit p1 p2 r6 from w6), by rw [ht]; exact hP, va_K.moved hW.alike hK, hD⟩, hS.F ht⟩) hS.2.2 d_PF_dark_9

set_option maxHeartbeats 4000000 in
set_option maxRecDepth 100000 in
theorem k_PF_spoil (l : Launch) (dC : Nat → ClassId) (dI : Nat → Nat → Nat) (cI cZ : ClassId) (oX : Nat) (oC : Nat) (aY : Nat) (aZ : Nat) (oT : Nat) (oB : Nat) (oG : Nat) (cnt : Int32) (byt : Nat → Int32) (bit : Nat → Int32) (sz : Nat) (p1 : Int32) (p2 : Int32) (nC : Nat) (hc : cnt.toInt = (nC : Int)) (hc12 : nC ≤ 12) : Met l y_PF_spoil w_PF_spoil ({ frames := 3, cells := 0, slots := 0, locals := 64 }) (va_Pc [.ref oX, .int p1, .int p2] (fun U => U.heap.size = sz ∧ va_P (dC, dI) classes [(oX, .inr (4, [.ref oT, .ref oB, .ref oG, .ref oC])), (oC, .inr (1, [.int cnt, .ref aY, .ref aZ])), (aY, .inl (cI, 12, .inl byt)), (aZ, .inl (cI, 13, .inl bit))] U.heap ∧ va_K (dC, dI) classes [(cI, .int), (cZ, .boolean)] U ∧ va_D (fun _ => True) [(oX, .inr (4, [.ref oT, .ref oB, .ref oG, .ref oC])), (oC, .inr (1, [.int cnt, .ref aY, .ref aZ])), (aY, .inl (cI, 12, .inl byt)), (aZ, .inl (cI, 13, .inl bit))] ∧ nn_All U)) (va_Qi (fun (r : Int32) (u : (Nat → Int32)) => cd_spoil cnt bit p1 p2 r u) (fun (u : (Nat → Int32)) (t : State) => va_P (dC, dI) classes [(oX, .inr (4, [.ref oT, .ref oB, .ref oG, .ref oC])), (oC, .inr (1, [.int cnt, .ref aY, .ref aZ])), (aY, .inl (cI, 12, .inl byt)), (aZ, .inl (cI, 13, .inl u))] t.heap ∧ va_K (dC, dI) classes [(cI, .int), (cZ, .boolean)] t ∧ va_D (va_A [(oX, .inr (4, [.ref oT, .ref oB, .ref oG, .ref oC])), (oC, .inr (1, [.int cnt, .ref aY, .ref aZ])), (aY, .inl (cI, 12, .inl byt)), (aZ, .inl (cI, 13, .inl bit))] sz) [(oX, .inr (4, [.ref oT, .ref oB, .ref oG, .ref oC])), (oC, .inr (1, [.int cnt, .ref aY, .ref aZ])), (aY, .inl (cI, 12, .inl byt)), (aZ, .inl (cI, 13, .inl u))]) (va_A [(oX, .inr (4, [.ref oT, .ref oB, .ref oG, .ref oC])), (oC, .inr (1, [.int cnt, .ref aY, .ref aZ])), (aY, .inl (cI, 12, .inl byt)), (aZ, .inl (cI, 13, .inl bit))] sz)) 0 0 (va_A [(oX, .inr (4, [.ref oT, .ref oB, .ref oG, .ref oC])), (oC, .inr (1, [.int cnt, .ref aY, .ref aZ])), (aY, .inl (cI, 12, .inl byt)), (aZ, .inl (cI, 13, .inl bit))] sz) := by
  refine Met.ofW (cc := b_PF_spoil) (maxL := 3) (ret := (some .boolean)) (by decide) rfl ?_
  intro p e s m args below meth c s₁ B hml hv
  obtain ⟨rfl, hsz, hP, hK, hD0, hNst⟩ := hv
  have hx := B.exec
  have hb := B.bytes
  have hr := B.returns
  have hts := atoms_spec (ws := w_PF_spoil) B.pre
  have hown : s.vm.findClass R_PF = some m.cls := findClass_of_methodNamed B.named
  have hlocks := B.notSynchronized
  have hw_PF : ∀ w ∈ w_PF, w ∈ w_PF_spoil := by decide +kernel
  have hw_Code : ∀ w ∈ w_Code, w ∈ w_PF_spoil := by decide +kernel
  subst hsz
  have hD := hD0.self (sz := s.heap.size)
  generalize hAe : va_A [(oX, .inr (4, [.ref oT, .ref oB, .ref oG, .ref oC])), (oC, .inr (1, [.int cnt, .ref aY, .ref aZ])), (aY, .inl (cI, 12, .inl byt)), (aZ, .inl (cI, 13, .inl bit))] s.heap.size = A at hD ⊢
  have hA : ∀ q : Nat, s.heap.size ≤ q → A q := fun q h => by rw [← hAe]; exact Or.inr h
  have hS : va_S A s.heap s.heap [] := va_S.rf
  have hP : va_P (dC, dI) classes [(oX, .inr (4, [.ref oT, .ref oB, .ref oG, .ref oC])), (oC, .inr (1, [.int cnt, .ref aY, .ref aZ])), (aY, .inl (cI, 12, .inl byt)), (aZ, .inl (cI, 13, .inl bit))] s.heap := hP
  have hl := lv_entry ([.ref oX, .int p1, .int p2]) (n := 3) (Nat.le_of_ble_eq_true rfl)
  rw [lg_entry_eq]
  generalize (lg_sl ([.ref oX, .int p1, .int p2]) ++ List.replicate (3 - (lg_sl ([.ref oX, .int p1, .int p2])).length) Slot.unset).toArray = ls at hl ⊢
  have hl : lv_has ls 3 [(0, .ref oX), (1, .int p1), (2, .int p2)] := hl
  refine lv_aload_n hx hb d_PF_spoil_0 rfl (lv_at hl 0 rfl) ?_
  refine va_get (D := (dC, dI)) (ci := 4) (v := .ref oC) (C := R_PF) (T := F_PF) (N := 4) hx hb hts hw_PF hown hK hP 0 rfl rfl 3 (by decide) (hts (.fieldLink R_PF 33 "PageForms" "squares" "LPageForms$Code;") (by decide +kernel)) (fun _ h9 => h9) rfl d_PF_spoil_1 ?_
  refine lv_iload_n hx hb d_PF_spoil_4 rfl (lv_at hl 1 rfl) ?_
  refine lv_iload_n hx hb d_PF_spoil_5 rfl (lv_at hl 2 rfl) ?_
  have hPc := hP.sub (ws' := [(oC, .inr (1, [.int cnt, .ref aY, .ref aZ])), (aY, .inl (cI, 12, .inl byt)), (aZ, .inl (cI, 13, .inl bit))]) [1, 2, 3] rfl
  have hDc := hD.sub (ws' := [(oC, .inr (1, [.int cnt, .ref aY, .ref aZ])), (aY, .inl (cI, 12, .inl byt)), (aZ, .inl (cI, 13, .inl bit))]) [1, 2, 3] (by decide) rfl
  have hFc := va_free (wc := [(oC, .inr (1, [.int cnt, .ref aY, .ref aZ])), (aY, .inl (cI, 12, .inl byt)), (aZ, .inl (cI, 13, .inl bit))]) hD hS hA [1, 2, 3] rfl
  refine va_calli (va_runVN (As := [.int p1, .int p2]) (rest := []) ⟨hx, hb, hml, hown, hts⟩ (k_Code_turnOver l dC dI cI cZ oC aY aZ cnt byt bit s.heap.size p1 p2 nC hc hc12) ⟨va_cnB 2 hts g_PF_spoil_Code_turnOver rfl rfl rfl (nn_PF_spoil_6 hNst) (hts (.initialized R_Code) (by decide +kernel)) (by decide +kernel) ⟨Nat.le_of_ble_eq_true rfl, Nat.le_of_ble_eq_true rfl⟩, hts (.instanceMethod y_Code_turnOver) (by decide +kernel), hts (.selects R_Code y_Code_turnOver y_Code_turnOver) (by decide +kernel)⟩ ⟨fun a U g mk q => by obtain ⟨q0, q1, qP, qK, qD⟩ := q; exact ⟨q0, q1, qP, va_K.moved (u := U) (U := U.calling g mk a) (Vm.Alike.refl U.vm) qK, qD⟩, va_recv hK hPc (ci := 1) (q0 := 0) rfl rfl, fun U hU hW => ⟨rfl, by rw [hU], by rw [hU]; exact hPc, va_K.moved hW.alike hK, hDc.weaken (fun _ _ _ _ => trivial)⟩⟩ rfl rfl hl.1 rfl (lv_room (Nat.le_of_ble_eq_true rfl)) d_PF_spoil_6 ⟨Nat.le_of_ble_eq_true rfl, Nat.le_of_ble_eq_true rfl⟩) hS (fun q _ h => hFc q h) hFc (fun r6 u t H1 locs ht hvm hw hB hz1 hk1 hS => ?_)
  obtain ⟨bit_6, rfl⟩ : ∃ z, z = u := ⟨_, rfl⟩
  have w6 : cd_spoil cnt bit p1 p2 r6 bit_6 := hw
  obtain ⟨hP1, hK1, hD1⟩ := hB
  rw [ht] at hP1
  obtain ⟨hP, hD⟩ := va_join (wr := [(oX, .inr (4, [.ref oT, .ref oB, .ref oG, .ref oC]))]) (w1 := [(oC, .inr (1, [.int cnt, .ref aY, .ref aZ])), (aY, .inl (cI, 12, .inl byt)), (aZ, .inl (cI, 13, .inl bit_6))]) hP hD [1, 2, 3] [0] rfl rfl (by decide) (by decide) hk1 hFc hP1 hD1
  generalize H1 = H at hP hS ⊢
  have hP : va_P (dC, dI) classes [(oX, .inr (4, [.ref oT, .ref oB, .ref oG, .ref oC])), (oC, .inr (1, [.int cnt, .ref aY, .ref aZ])), (aY, .inl (cI, 12, .inl byt)), (aZ, .inl (cI, 13, .inl bit_6))] H := hP
  have hD : va_D A [(oX, .inr (4, [.ref oT, .ref oB, .ref oG, .ref oC])), (oC, .inr (1, [.int cnt, .ref aY, .ref aZ])), (aY, .inl (cI, 12, .inl byt)), (aZ, .inl (cI, 13, .inl bit_6))] := hD
  exact W.zret (v := r6) hx hb hr (xi_nz (by rcases w6 with z | z; exact Or.inr z.2.1; exact Or.inl z.2.1)) (fun t ht hW => ⟨⟨r6, bit_6, rfl, (show cd_spoil cnt bit p1 p2 r6 bit_6 from w6), by rw [ht]; exact hP, va_K.moved hW.alike hK, hD⟩, hS.F ht⟩) hS.2.2 d_PF_spoil_9

set_option maxHeartbeats 4000000 in
set_option maxRecDepth 100000 in
theorem k_PF_read (l : Launch) (dC : Nat → ClassId) (dI : Nat → Nat → Nat) (cI cZ : ClassId) (oX : Nat) (oC : Nat) (aY : Nat) (aZ : Nat) (oT : Nat) (oB : Nat) (oG : Nat) (cnt : Int32) (byt : Nat → Int32) (bit : Nat → Int32) (sz : Nat) (nC : Nat) (hc : cnt.toInt = (nC : Int)) (hc12 : nC ≤ 12) : Met l y_PF_read w_PF_read ({ frames := 3, cells := 0, slots := 0, locals := 64 }) (va_Pc [.ref oX] (fun U => U.heap.size = sz ∧ va_P (dC, dI) classes [(oX, .inr (4, [.ref oT, .ref oB, .ref oG, .ref oC])), (oC, .inr (1, [.int cnt, .ref aY, .ref aZ])), (aY, .inl (cI, 12, .inl byt)), (aZ, .inl (cI, 13, .inl bit))] U.heap ∧ va_K (dC, dI) classes [(cI, .int), (cZ, .boolean)] U ∧ va_D (fun _ => True) [(oX, .inr (4, [.ref oT, .ref oB, .ref oG, .ref oC])), (oC, .inr (1, [.int cnt, .ref aY, .ref aZ])), (aY, .inl (cI, 12, .inl byt)), (aZ, .inl (cI, 13, .inl bit))] ∧ nn_All U)) (va_Qi (fun (r : Int32) (u : (Nat → Int32)) => cd_read cnt bit r u) (fun (u : (Nat → Int32)) (t : State) => va_P (dC, dI) classes [(oX, .inr (4, [.ref oT, .ref oB, .ref oG, .ref oC])), (oC, .inr (1, [.int cnt, .ref aY, .ref aZ])), (aY, .inl (cI, 12, .inl byt)), (aZ, .inl (cI, 13, .inl u))] t.heap ∧ va_K (dC, dI) classes [(cI, .int), (cZ, .boolean)] t ∧ va_D (va_A [(oX, .inr (4, [.ref oT, .ref oB, .ref oG, .ref oC])), (oC, .inr (1, [.int cnt, .ref aY, .ref aZ])), (aY, .inl (cI, 12, .inl byt)), (aZ, .inl (cI, 13, .inl bit))] sz) [(oX, .inr (4, [.ref oT, .ref oB, .ref oG, .ref oC])), (oC, .inr (1, [.int cnt, .ref aY, .ref aZ])), (aY, .inl (cI, 12, .inl byt)), (aZ, .inl (cI, 13, .inl u))]) (va_A [(oX, .inr (4, [.ref oT, .ref oB, .ref oG, .ref oC])), (oC, .inr (1, [.int cnt, .ref aY, .ref aZ])), (aY, .inl (cI, 12, .inl byt)), (aZ, .inl (cI, 13, .inl bit))] sz)) 0 0 (va_A [(oX, .inr (4, [.ref oT, .ref oB, .ref oG, .ref oC])), (oC, .inr (1, [.int cnt, .ref aY, .ref aZ])), (aY, .inl (cI, 12, .inl byt)), (aZ, .inl (cI, 13, .inl bit))] sz) := by
  refine Met.ofW (cc := b_PF_read) (maxL := 1) (ret := (some .int)) (by decide) rfl ?_
  intro p e s m args below meth c s₁ B hml hv
  obtain ⟨rfl, hsz, hP, hK, hD0, hNst⟩ := hv
  have hx := B.exec
  have hb := B.bytes
  have hr := B.returns
  have hts := atoms_spec (ws := w_PF_read) B.pre
  have hown : s.vm.findClass R_PF = some m.cls := findClass_of_methodNamed B.named
  have hlocks := B.notSynchronized
  have hw_PF : ∀ w ∈ w_PF, w ∈ w_PF_read := by decide +kernel
  have hw_Code : ∀ w ∈ w_Code, w ∈ w_PF_read := by decide +kernel
  subst hsz
  have hD := hD0.self (sz := s.heap.size)
  generalize hAe : va_A [(oX, .inr (4, [.ref oT, .ref oB, .ref oG, .ref oC])), (oC, .inr (1, [.int cnt, .ref aY, .ref aZ])), (aY, .inl (cI, 12, .inl byt)), (aZ, .inl (cI, 13, .inl bit))] s.heap.size = A at hD ⊢
  have hA : ∀ q : Nat, s.heap.size ≤ q → A q := fun q h => by rw [← hAe]; exact Or.inr h
  have hS : va_S A s.heap s.heap [] := va_S.rf
  have hP : va_P (dC, dI) classes [(oX, .inr (4, [.ref oT, .ref oB, .ref oG, .ref oC])), (oC, .inr (1, [.int cnt, .ref aY, .ref aZ])), (aY, .inl (cI, 12, .inl byt)), (aZ, .inl (cI, 13, .inl bit))] s.heap := hP
  have hl := lv_entry ([.ref oX]) (n := 1) (Nat.le_of_ble_eq_true rfl)
  rw [lg_entry_eq]
  generalize (lg_sl ([.ref oX]) ++ List.replicate (1 - (lg_sl ([.ref oX])).length) Slot.unset).toArray = ls at hl ⊢
  have hl : lv_has ls 1 [(0, .ref oX)] := hl
  refine lv_aload_n hx hb d_PF_read_0 rfl (lv_at hl 0 rfl) ?_
  refine va_get (D := (dC, dI)) (ci := 4) (v := .ref oC) (C := R_PF) (T := F_PF) (N := 4) hx hb hts hw_PF hown hK hP 0 rfl rfl 3 (by decide) (hts (.fieldLink R_PF 33 "PageForms" "squares" "LPageForms$Code;") (by decide +kernel)) (fun _ h9 => h9) rfl d_PF_read_1 ?_
  have hPc := hP.sub (ws' := [(oC, .inr (1, [.int cnt, .ref aY, .ref aZ])), (aY, .inl (cI, 12, .inl byt)), (aZ, .inl (cI, 13, .inl bit))]) [1, 2, 3] rfl
  have hDc := hD.sub (ws' := [(oC, .inr (1, [.int cnt, .ref aY, .ref aZ])), (aY, .inl (cI, 12, .inl byt)), (aZ, .inl (cI, 13, .inl bit))]) [1, 2, 3] (by decide) rfl
  have hFc := va_free (wc := [(oC, .inr (1, [.int cnt, .ref aY, .ref aZ])), (aY, .inl (cI, 12, .inl byt)), (aZ, .inl (cI, 13, .inl bit))]) hD hS hA [1, 2, 3] rfl
  refine va_calli (va_runVN (As := []) (rest := []) ⟨hx, hb, hml, hown, hts⟩ (k_Code_mend l dC dI cI cZ oC aY aZ cnt byt bit s.heap.size nC hc hc12) ⟨va_cnB 0 hts g_PF_read_Code_mend rfl rfl rfl (nn_PF_read_4 hNst) (hts (.initialized R_Code) (by decide +kernel)) (by decide +kernel) ⟨Nat.le_of_ble_eq_true rfl, Nat.le_of_ble_eq_true rfl⟩, hts (.instanceMethod y_Code_mend) (by decide +kernel), hts (.selects R_Code y_Code_mend y_Code_mend) (by decide +kernel)⟩ ⟨fun a U g mk q => by obtain ⟨q0, q1, qP, qK, qD⟩ := q; exact ⟨q0, q1, qP, va_K.moved (u := U) (U := U.calling g mk a) (Vm.Alike.refl U.vm) qK, qD⟩, va_recv hK hPc (ci := 1) (q0 := 0) rfl rfl, fun U hU hW => ⟨rfl, by rw [hU], by rw [hU]; exact hPc, va_K.moved hW.alike hK, hDc.weaken (fun _ _ _ _ => trivial)⟩⟩ rfl rfl hl.1 rfl (lv_room (Nat.le_of_ble_eq_true rfl)) d_PF_read_4 ⟨Nat.le_of_ble_eq_true rfl, Nat.le_of_ble_eq_true rfl⟩) hS (fun q _ h => hFc q h) hFc (fun r4 u t H1 locs ht hvm hw hB hz1 hk1 hS => ?_)
  obtain ⟨bit_4, rfl⟩ : ∃ z, z = u := ⟨_, rfl⟩
  have w4 : cd_read cnt bit r4 bit_4 := hw
  obtain ⟨hP1, hK1, hD1⟩ := hB
  rw [ht] at hP1
  obtain ⟨hP, hD⟩ := va_join (wr := [(oX, .inr (4, [.ref oT, .ref oB, .ref oG, .ref oC]))]) (w1 := [(oC, .inr (1, [.int cnt, .ref aY, .ref aZ])), (aY, .inl (cI, 12, .inl byt)), (aZ, .inl (cI, 13, .inl bit_4))]) hP hD [1, 2, 3] [0] rfl rfl (by decide) (by decide) hk1 hFc hP1 hD1
  generalize H1 = H at hP hS ⊢
  have hP : va_P (dC, dI) classes [(oX, .inr (4, [.ref oT, .ref oB, .ref oG, .ref oC])), (oC, .inr (1, [.int cnt, .ref aY, .ref aZ])), (aY, .inl (cI, 12, .inl byt)), (aZ, .inl (cI, 13, .inl bit_4))] H := hP
  have hD : va_D A [(oX, .inr (4, [.ref oT, .ref oB, .ref oG, .ref oC])), (oC, .inr (1, [.int cnt, .ref aY, .ref aZ])), (aY, .inl (cI, 12, .inl byt)), (aZ, .inl (cI, 13, .inl bit_4))] := hD
  exact W.iret (v := r4) hx hb hr (fun t ht hW => ⟨⟨r4, bit_4, rfl, (show cd_read cnt bit r4 bit_4 from w4), by rw [ht]; exact hP, va_K.moved hW.alike hK, hD⟩, hS.F ht⟩) hS.2.2 d_PF_read_7

set_option maxHeartbeats 4000000 in
set_option maxRecDepth 100000 in
theorem k_PF_byteAt (l : Launch) (dC : Nat → ClassId) (dI : Nat → Nat → Nat) (cI cZ : ClassId) (oX : Nat) (oC : Nat) (aY : Nat) (aZ : Nat) (oT : Nat) (oB : Nat) (oG : Nat) (cnt : Int32) (byt : Nat → Int32) (bit : Nat → Int32) (sz : Nat) (p1 : Int32) (nC : Nat) (hc : cnt.toInt = (nC : Int)) (hc12 : nC ≤ 12) : Met l y_PF_byteAt w_PF_byteAt ({ frames := 1, cells := 0, slots := 0, locals := 21 }) (va_Pc [.ref oX, .int p1] (fun U => U.heap.size = sz ∧ va_P (dC, dI) classes [(oX, .inr (4, [.ref oT, .ref oB, .ref oG, .ref oC])), (oC, .inr (1, [.int cnt, .ref aY, .ref aZ])), (aY, .inl (cI, 12, .inl byt)), (aZ, .inl (cI, 13, .inl bit))] U.heap ∧ va_K (dC, dI) classes [(cI, .int), (cZ, .boolean)] U ∧ va_D (fun _ => True) [(oX, .inr (4, [.ref oT, .ref oB, .ref oG, .ref oC])), (oC, .inr (1, [.int cnt, .ref aY, .ref aZ])), (aY, .inl (cI, 12, .inl byt)), (aZ, .inl (cI, 13, .inl bit))] ∧ nn_All U)) (va_Qi (fun (r : Int32) (u : Unit) => cd_byte cnt bit p1 r) (fun (u : Unit) (t : State) => va_P (dC, dI) classes [(oX, .inr (4, [.ref oT, .ref oB, .ref oG, .ref oC])), (oC, .inr (1, [.int cnt, .ref aY, .ref aZ])), (aY, .inl (cI, 12, .inl byt)), (aZ, .inl (cI, 13, .inl bit))] t.heap ∧ va_K (dC, dI) classes [(cI, .int), (cZ, .boolean)] t ∧ va_D (va_A [(oX, .inr (4, [.ref oT, .ref oB, .ref oG, .ref oC])), (oC, .inr (1, [.int cnt, .ref aY, .ref aZ])), (aY, .inl (cI, 12, .inl byt)), (aZ, .inl (cI, 13, .inl bit))] sz) [(oX, .inr (4, [.ref oT, .ref oB, .ref oG, .ref oC])), (oC, .inr (1, [.int cnt, .ref aY, .ref aZ])), (aY, .inl (cI, 12, .inl byt)), (aZ, .inl (cI, 13, .inl bit))]) (va_A [(oX, .inr (4, [.ref oT, .ref oB, .ref oG, .ref oC])), (oC, .inr (1, [.int cnt, .ref aY, .ref aZ])), (aY, .inl (cI, 12, .inl byt)), (aZ, .inl (cI, 13, .inl bit))] sz)) 0 0 (va_A [(oX, .inr (4, [.ref oT, .ref oB, .ref oG, .ref oC])), (oC, .inr (1, [.int cnt, .ref aY, .ref aZ])), (aY, .inl (cI, 12, .inl byt)), (aZ, .inl (cI, 13, .inl bit))] sz) := by
  refine Met.ofW (cc := b_PF_byteAt) (maxL := 2) (ret := (some .int)) (by decide) rfl ?_
  intro p e s m args below meth c s₁ B hml hv
  obtain ⟨rfl, hsz, hP, hK, hD0, hNst⟩ := hv
  have hx := B.exec
  have hb := B.bytes
  have hr := B.returns
  have hts := atoms_spec (ws := w_PF_byteAt) B.pre
  have hown : s.vm.findClass R_PF = some m.cls := findClass_of_methodNamed B.named
  have hlocks := B.notSynchronized
  have hw_PF : ∀ w ∈ w_PF, w ∈ w_PF_byteAt := by decide +kernel
  have hw_Code : ∀ w ∈ w_Code, w ∈ w_PF_byteAt := by decide +kernel
  subst hsz
  have hD := hD0.self (sz := s.heap.size)
  generalize hAe : va_A [(oX, .inr (4, [.ref oT, .ref oB, .ref oG, .ref oC])), (oC, .inr (1, [.int cnt, .ref aY, .ref aZ])), (aY, .inl (cI, 12, .inl byt)), (aZ, .inl (cI, 13, .inl bit))] s.heap.size = A at hD ⊢
  have hA : ∀ q : Nat, s.heap.size ≤ q → A q := fun q h => by rw [← hAe]; exact Or.inr h
  have hS : va_S A s.heap s.heap [] := va_S.rf
  have hP : va_P (dC, dI) classes [(oX, .inr (4, [.ref oT, .ref oB, .ref oG, .ref oC])), (oC, .inr (1, [.int cnt, .ref aY, .ref aZ])), (aY, .inl (cI, 12, .inl byt)), (aZ, .inl (cI, 13, .inl bit))] s.heap := hP
  have hl := lv_entry ([.ref oX, .int p1]) (n := 2) (Nat.le_of_ble_eq_true rfl)
  rw [lg_entry_eq]
  generalize (lg_sl ([.ref oX, .int p1]) ++ List.replicate (2 - (lg_sl ([.ref oX, .int p1])).length) Slot.unset).toArray = ls at hl ⊢
  have hl : lv_has ls 2 [(0, .ref oX), (1, .int p1)] := hl
  refine lv_aload_n hx hb d_PF_byteAt_0 rfl (lv_at hl 0 rfl) ?_
  refine va_get (D := (dC, dI)) (ci := 4) (v := .ref oC) (C := R_PF) (T := F_PF) (N := 4) hx hb hts hw_PF hown hK hP 0 rfl rfl 3 (by decide) (hts (.fieldLink R_PF 33 "PageForms" "squares" "LPageForms$Code;") (by decide +kernel)) (fun _ h9 => h9) rfl d_PF_byteAt_1 ?_
  refine lv_iload_n hx hb d_PF_byteAt_4 rfl (lv_at hl 1 rfl) ?_
  have hPc := hP.sub (ws' := [(oC, .inr (1, [.int cnt, .ref aY, .ref aZ])), (aY, .inl (cI, 12, .inl byt)), (aZ, .inl (cI, 13, .inl bit))]) [1, 2, 3] rfl
  have hDc := hD.sub (ws' := [(oC, .inr (1, [.int cnt, .ref aY, .ref aZ])), (aY, .inl (cI, 12, .inl byt)), (aZ, .inl (cI, 13, .inl bit))]) [1, 2, 3] (by decide) rfl
  have hFc := va_free (wc := [(oC, .inr (1, [.int cnt, .ref aY, .ref aZ])), (aY, .inl (cI, 12, .inl byt)), (aZ, .inl (cI, 13, .inl bit))]) hD hS hA [1, 2, 3] rfl
  refine va_calli (va_runVN (As := [.int p1]) (rest := []) ⟨hx, hb, hml, hown, hts⟩ (k_Code_toldByte l dC dI cI cZ oC aY aZ cnt byt bit s.heap.size p1 nC hc hc12) ⟨va_cnB 1 hts g_PF_byteAt_Code_toldByte rfl rfl rfl (nn_PF_byteAt_5 hNst) (hts (.initialized R_Code) (by decide +kernel)) (by decide +kernel) ⟨Nat.le_of_ble_eq_true rfl, Nat.le_of_ble_eq_true rfl⟩, hts (.instanceMethod y_Code_toldByte) (by decide +kernel), hts (.selects R_Code y_Code_toldByte y_Code_toldByte) (by decide +kernel)⟩ ⟨fun a U g mk q => by obtain ⟨q0, q1, qP, qK, qD⟩ := q; exact ⟨q0, q1, qP, va_K.moved (u := U) (U := U.calling g mk a) (Vm.Alike.refl U.vm) qK, qD⟩, va_recv hK hPc (ci := 1) (q0 := 0) rfl rfl, fun U hU hW => ⟨rfl, by rw [hU], by rw [hU]; exact hPc, va_K.moved hW.alike hK, hDc.weaken (fun _ _ _ _ => trivial)⟩⟩ rfl rfl hl.1 rfl (lv_room (Nat.le_of_ble_eq_true rfl)) d_PF_byteAt_5 ⟨Nat.le_of_ble_eq_true rfl, Nat.le_of_ble_eq_true rfl⟩) hS (fun q _ h => hFc q h) hFc (fun r5 u t H1 locs ht hvm hw hB hz1 hk1 hS => ?_)
  have w5 : cd_byte cnt bit p1 r5 := hw
  obtain ⟨hP1, hK1, hD1⟩ := hB
  rw [ht] at hP1
  obtain ⟨hP, hD⟩ := va_join (wr := [(oX, .inr (4, [.ref oT, .ref oB, .ref oG, .ref oC]))]) (w1 := [(oC, .inr (1, [.int cnt, .ref aY, .ref aZ])), (aY, .inl (cI, 12, .inl byt)), (aZ, .inl (cI, 13, .inl bit))]) hP hD [1, 2, 3] [0] rfl rfl (by decide) (by decide) hk1 hFc hP1 hD1
  generalize H1 = H at hP hS ⊢
  have hP : va_P (dC, dI) classes [(oX, .inr (4, [.ref oT, .ref oB, .ref oG, .ref oC])), (oC, .inr (1, [.int cnt, .ref aY, .ref aZ])), (aY, .inl (cI, 12, .inl byt)), (aZ, .inl (cI, 13, .inl bit))] H := hP
  have hD : va_D A [(oX, .inr (4, [.ref oT, .ref oB, .ref oG, .ref oC])), (oC, .inr (1, [.int cnt, .ref aY, .ref aZ])), (aY, .inl (cI, 12, .inl byt)), (aZ, .inl (cI, 13, .inl bit))] := hD
  exact W.iret (v := r5) hx hb hr (fun t ht hW => ⟨⟨r5, (), rfl, (show cd_byte cnt bit p1 r5 from w5), by rw [ht]; exact hP, va_K.moved hW.alike hK, hD⟩, hS.F ht⟩) hS.2.2 d_PF_byteAt_8

set_option maxHeartbeats 4000000 in
set_option maxRecDepth 100000 in
theorem k_PF_wipe (l : Launch) (dC : Nat → ClassId) (dI : Nat → Nat → Nat) (cI cZ : ClassId) (oX : Nat) (oC : Nat) (aY : Nat) (aZ : Nat) (oT : Nat) (oB : Nat) (oG : Nat) (cnt : Int32) (byt : Nat → Int32) (bit : Nat → Int32) (sz : Nat) (nC : Nat) (hc : cnt.toInt = (nC : Int)) (hc12 : nC ≤ 12) : Met l y_PF_wipe w_PF_wipe ({ frames := 1, cells := 0, slots := 0, locals := 20 }) (va_Pc [.ref oX] (fun U => U.heap.size = sz ∧ va_P (dC, dI) classes [(oX, .inr (4, [.ref oT, .ref oB, .ref oG, .ref oC])), (oC, .inr (1, [.int cnt, .ref aY, .ref aZ])), (aY, .inl (cI, 12, .inl byt)), (aZ, .inl (cI, 13, .inl bit))] U.heap ∧ va_K (dC, dI) classes [(cI, .int), (cZ, .boolean)] U ∧ va_D (fun _ => True) [(oX, .inr (4, [.ref oT, .ref oB, .ref oG, .ref oC])), (oC, .inr (1, [.int cnt, .ref aY, .ref aZ])), (aY, .inl (cI, 12, .inl byt)), (aZ, .inl (cI, 13, .inl bit))] ∧ nn_All U)) (va_Qv (fun (u : Int32) => u.toInt = 0) (fun (u : Int32) (t : State) => va_P (dC, dI) classes [(oX, .inr (4, [.ref oT, .ref oB, .ref oG, .ref oC])), (oC, .inr (1, [.int u, .ref aY, .ref aZ])), (aY, .inl (cI, 12, .inl byt)), (aZ, .inl (cI, 13, .inl bit))] t.heap ∧ va_K (dC, dI) classes [(cI, .int), (cZ, .boolean)] t ∧ va_D (va_A [(oX, .inr (4, [.ref oT, .ref oB, .ref oG, .ref oC])), (oC, .inr (1, [.int cnt, .ref aY, .ref aZ])), (aY, .inl (cI, 12, .inl byt)), (aZ, .inl (cI, 13, .inl bit))] sz) [(oX, .inr (4, [.ref oT, .ref oB, .ref oG, .ref oC])), (oC, .inr (1, [.int u, .ref aY, .ref aZ])), (aY, .inl (cI, 12, .inl byt)), (aZ, .inl (cI, 13, .inl bit))]) (va_A [(oX, .inr (4, [.ref oT, .ref oB, .ref oG, .ref oC])), (oC, .inr (1, [.int cnt, .ref aY, .ref aZ])), (aY, .inl (cI, 12, .inl byt)), (aZ, .inl (cI, 13, .inl bit))] sz)) 0 0 (va_A [(oX, .inr (4, [.ref oT, .ref oB, .ref oG, .ref oC])), (oC, .inr (1, [.int cnt, .ref aY, .ref aZ])), (aY, .inl (cI, 12, .inl byt)), (aZ, .inl (cI, 13, .inl bit))] sz) := by
  refine Met.ofW (cc := b_PF_wipe) (maxL := 1) (ret := none) (by decide) rfl ?_
  intro p e s m args below meth c s₁ B hml hv
  obtain ⟨rfl, hsz, hP, hK, hD0, hNst⟩ := hv
  have hx := B.exec
  have hb := B.bytes
  have hr := B.returns
  have hts := atoms_spec (ws := w_PF_wipe) B.pre
  have hown : s.vm.findClass R_PF = some m.cls := findClass_of_methodNamed B.named
  have hlocks := B.notSynchronized
  have hw_PF : ∀ w ∈ w_PF, w ∈ w_PF_wipe := by decide +kernel
  have hw_Code : ∀ w ∈ w_Code, w ∈ w_PF_wipe := by decide +kernel
  subst hsz
  have hD := hD0.self (sz := s.heap.size)
  generalize hAe : va_A [(oX, .inr (4, [.ref oT, .ref oB, .ref oG, .ref oC])), (oC, .inr (1, [.int cnt, .ref aY, .ref aZ])), (aY, .inl (cI, 12, .inl byt)), (aZ, .inl (cI, 13, .inl bit))] s.heap.size = A at hD ⊢
  have hA : ∀ q : Nat, s.heap.size ≤ q → A q := fun q h => by rw [← hAe]; exact Or.inr h
  have hS : va_S A s.heap s.heap [] := va_S.rf
  have hP : va_P (dC, dI) classes [(oX, .inr (4, [.ref oT, .ref oB, .ref oG, .ref oC])), (oC, .inr (1, [.int cnt, .ref aY, .ref aZ])), (aY, .inl (cI, 12, .inl byt)), (aZ, .inl (cI, 13, .inl bit))] s.heap := hP
  have hl := lv_entry ([.ref oX]) (n := 1) (Nat.le_of_ble_eq_true rfl)
  rw [lg_entry_eq]
  generalize (lg_sl ([.ref oX]) ++ List.replicate (1 - (lg_sl ([.ref oX])).length) Slot.unset).toArray = ls at hl ⊢
  have hl : lv_has ls 1 [(0, .ref oX)] := hl
  refine lv_aload_n hx hb d_PF_wipe_0 rfl (lv_at hl 0 rfl) ?_
  refine va_get (D := (dC, dI)) (ci := 4) (v := .ref oC) (C := R_PF) (T := F_PF) (N := 4) hx hb hts hw_PF hown hK hP 0 rfl rfl 3 (by decide) (hts (.fieldLink R_PF 33 "PageForms" "squares" "LPageForms$Code;") (by decide +kernel)) (fun _ h9 => h9) rfl d_PF_wipe_1 ?_
  have hPc := hP.sub (ws' := [(oC, .inr (1, [.int cnt, .ref aY, .ref aZ])), (aY, .inl (cI, 12, .inl byt)), (aZ, .inl (cI, 13, .inl bit))]) [1, 2, 3] rfl
  have hDc := hD.sub (ws' := [(oC, .inr (1, [.int cnt, .ref aY, .ref aZ])), (aY, .inl (cI, 12, .inl byt)), (aZ, .inl (cI, 13, .inl bit))]) [1, 2, 3] (by decide) rfl
  have hFc := va_free (wc := [(oC, .inr (1, [.int cnt, .ref aY, .ref aZ])), (aY, .inl (cI, 12, .inl byt)), (aZ, .inl (cI, 13, .inl bit))]) hD hS hA [1, 2, 3] rfl
  refine va_callv (va_runVN (As := []) (rest := []) ⟨hx, hb, hml, hown, hts⟩ (k_Code_empty l dC dI cI cZ oC aY aZ cnt byt bit s.heap.size nC hc hc12) ⟨va_cnB 0 hts g_PF_wipe_Code_empty rfl rfl rfl (nn_PF_wipe_4 hNst) (hts (.initialized R_Code) (by decide +kernel)) (by decide +kernel) ⟨Nat.le_of_ble_eq_true rfl, Nat.le_of_ble_eq_true rfl⟩, hts (.instanceMethod y_Code_empty) (by decide +kernel), hts (.selects R_Code y_Code_empty y_Code_empty) (by decide +kernel)⟩ ⟨fun a U g mk q => by obtain ⟨q0, q1, qP, qK, qD⟩ := q; exact ⟨q0, q1, qP, va_K.moved (u := U) (U := U.calling g mk a) (Vm.Alike.refl U.vm) qK, qD⟩, va_recv hK hPc (ci := 1) (q0 := 0) rfl rfl, fun U hU hW => ⟨rfl, by rw [hU], by rw [hU]; exact hPc, va_K.moved hW.alike hK, hDc.weaken (fun _ _ _ _ => trivial)⟩⟩ rfl rfl hl.1 rfl (lv_room (Nat.le_of_ble_eq_true rfl)) d_PF_wipe_4 ⟨Nat.le_of_ble_eq_true rfl, Nat.le_of_ble_eq_true rfl⟩) hS (fun q _ h => hFc q h) hFc (fun u t H1 locs ht hvm hw hB hz1 hk1 hS => ?_)
  obtain ⟨cnt_4, rfl⟩ : ∃ z, z = u := ⟨_, rfl⟩
  have w4 : cnt_4.toInt = 0 := hw
  obtain ⟨hP1, hK1, hD1⟩ := hB
  rw [ht] at hP1
  obtain ⟨hP, hD⟩ := va_join (wr := [(oX, .inr (4, [.ref oT, .ref oB, .ref oG, .ref oC]))]) (w1 := [(oC, .inr (1, [.int cnt_4, .ref aY, .ref aZ])), (aY, .inl (cI, 12, .inl byt)), (aZ, .inl (cI, 13, .inl bit))]) hP hD [1, 2, 3] [0] rfl rfl (by decide) (by decide) hk1 hFc hP1 hD1
  generalize H1 = H at hP hS ⊢
  have hP : va_P (dC, dI) classes [(oX, .inr (4, [.ref oT, .ref oB, .ref oG, .ref oC])), (oC, .inr (1, [.int cnt_4, .ref aY, .ref aZ])), (aY, .inl (cI, 12, .inl byt)), (aZ, .inl (cI, 13, .inl bit))] H := hP
  have hD : va_D A [(oX, .inr (4, [.ref oT, .ref oB, .ref oG, .ref oC])), (oC, .inr (1, [.int cnt_4, .ref aY, .ref aZ])), (aY, .inl (cI, 12, .inl byt)), (aZ, .inl (cI, 13, .inl bit))] := hD
  exact W.vret hx hb hr (fun t ht hW => ⟨⟨cnt_4, rfl, (show cnt_4.toInt = 0 from w4), by rw [ht]; exact hP, va_K.moved hW.alike hK, hD⟩, hS.F ht⟩) hS.2.2 d_PF_wipe_7
